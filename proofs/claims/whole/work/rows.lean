section
-- ===== PART A: goes FIRST, ahead of the names: the tables' words, and 'selects' of the private methods out of them =====
/-- a private method of a class that the tables say can be made, by its rows of tables_1 -/
def lw_okq (q : MethodName × Nat) : Prop := (q.1.cls ≠ "java/lang/invoke/MethodHandle" ∧ q.1.cls ≠ "java/lang/invoke/VarHandle") ∧ Cond.instantiable q.1.cls q.2 ∈ tables_1 ∧ Cond.privateMethod q.1 ∈ tables_1 ∧ Cond.instanceMethod q.1 ∈ tables_1
theorem lw_p0 : lw_okq (⟨"java/lang/Throwable", "fillInStackTrace", "(I)Ljava/lang/Throwable;"⟩, 6) := ⟨⟨by decide +kernel, by decide +kernel⟩, List.mem_of_getElem? (i := 241) (by decide +kernel), List.mem_of_getElem? (i := 239) (by decide +kernel), List.mem_of_getElem? (i := 240) (by decide +kernel)⟩
theorem lw_p1 : lw_okq (⟨"BarometerLeague", "countOver", "(LBarometerLeague$VillageRow;II)I"⟩, 6) := ⟨⟨by decide +kernel, by decide +kernel⟩, List.mem_of_getElem? (i := 24) (by decide +kernel), List.mem_of_getElem? (i := 275) (by decide +kernel), List.mem_of_getElem? (i := 276) (by decide +kernel)⟩
theorem lw_p2 : lw_okq (⟨"BarometerLeague", "sayingsOn", "(I)[I"⟩, 6) := ⟨⟨by decide +kernel, by decide +kernel⟩, List.mem_of_getElem? (i := 24) (by decide +kernel), List.mem_of_getElem? (i := 283) (by decide +kernel), List.mem_of_getElem? (i := 284) (by decide +kernel)⟩
theorem lw_p3 : lw_okq (⟨"BarometerLeague", "requireSign", "(I)V"⟩, 6) := ⟨⟨by decide +kernel, by decide +kernel⟩, List.mem_of_getElem? (i := 24) (by decide +kernel), List.mem_of_getElem? (i := 310) (by decide +kernel), List.mem_of_getElem? (i := 311) (by decide +kernel)⟩
theorem lw_p4 : lw_okq (⟨"java/util/ArrayList", "add", "(Ljava/lang/Object;[Ljava/lang/Object;I)V"⟩, 3) := ⟨⟨by decide +kernel, by decide +kernel⟩, List.mem_of_getElem? (i := 50) (by decide +kernel), List.mem_of_getElem? (i := 441) (by decide +kernel), List.mem_of_getElem? (i := 442) (by decide +kernel)⟩
theorem lw_p5 : lw_okq (⟨"java/util/ArrayList", "grow", "()[Ljava/lang/Object;"⟩, 3) := ⟨⟨by decide +kernel, by decide +kernel⟩, List.mem_of_getElem? (i := 50) (by decide +kernel), List.mem_of_getElem? (i := 445) (by decide +kernel), List.mem_of_getElem? (i := 446) (by decide +kernel)⟩
theorem lw_p6 : lw_okq (⟨"java/util/ArrayList", "grow", "(I)[Ljava/lang/Object;"⟩, 3) := ⟨⟨by decide +kernel, by decide +kernel⟩, List.mem_of_getElem? (i := 50) (by decide +kernel), List.mem_of_getElem? (i := 449) (by decide +kernel), List.mem_of_getElem? (i := 450) (by decide +kernel)⟩
theorem lw_p7 : lw_okq (⟨"BarometerLeague", "liveDays", "(LBarometerLeague$VillageRow;I)I"⟩, 6) := ⟨⟨by decide +kernel, by decide +kernel⟩, List.mem_of_getElem? (i := 24) (by decide +kernel), List.mem_of_getElem? (i := 583) (by decide +kernel), List.mem_of_getElem? (i := 584) (by decide +kernel)⟩
theorem lw_p8 : lw_okq (⟨"BarometerLeague", "liveDay", "(LBarometerLeague$VillageRow;I)I"⟩, 6) := ⟨⟨by decide +kernel, by decide +kernel⟩, List.mem_of_getElem? (i := 24) (by decide +kernel), List.mem_of_getElem? (i := 587) (by decide +kernel), List.mem_of_getElem? (i := 588) (by decide +kernel)⟩
theorem lw_p9 : lw_okq (⟨"BarometerLeague$Village", "learn", "([II)V"⟩, 5) := ⟨⟨by decide +kernel, by decide +kernel⟩, List.mem_of_getElem? (i := 83) (by decide +kernel), List.mem_of_getElem? (i := 600) (by decide +kernel), List.mem_of_getElem? (i := 601) (by decide +kernel)⟩
theorem lw_p10 : lw_okq (⟨"BarometerLeague$Village", "sellAlmanacs", "()V"⟩, 5) := ⟨⟨by decide +kernel, by decide +kernel⟩, List.mem_of_getElem? (i := 83) (by decide +kernel), List.mem_of_getElem? (i := 605) (by decide +kernel), List.mem_of_getElem? (i := 606) (by decide +kernel)⟩
theorem lw_p11 : lw_okq (⟨"BarometerLeagueModel", "no", "(I)I"⟩, 10) := ⟨⟨by decide +kernel, by decide +kernel⟩, List.mem_of_getElem? (i := 643) (by decide +kernel), List.mem_of_getElem? (i := 722) (by decide +kernel), List.mem_of_getElem? (i := 723) (by decide +kernel)⟩
theorem lw_p12 : lw_okq (⟨"BarometerLeagueModel", "isVillage", "(I)Z"⟩, 10) := ⟨⟨by decide +kernel, by decide +kernel⟩, List.mem_of_getElem? (i := 643) (by decide +kernel), List.mem_of_getElem? (i := 742) (by decide +kernel), List.mem_of_getElem? (i := 743) (by decide +kernel)⟩
theorem lw_p13 : lw_okq (⟨"BarometerLeagueModel", "isSign", "(I)Z"⟩, 10) := ⟨⟨by decide +kernel, by decide +kernel⟩, List.mem_of_getElem? (i := 643) (by decide +kernel), List.mem_of_getElem? (i := 746) (by decide +kernel), List.mem_of_getElem? (i := 747) (by decide +kernel)⟩
theorem lw_p14 : lw_okq (⟨"BarometerLeagueModel", "isRain", "(II)Z"⟩, 10) := ⟨⟨by decide +kernel, by decide +kernel⟩, List.mem_of_getElem? (i := 643) (by decide +kernel), List.mem_of_getElem? (i := 758) (by decide +kernel), List.mem_of_getElem? (i := 759) (by decide +kernel)⟩
theorem lw_p15 : lw_okq (⟨"BarometerLeagueModel", "signTold", "(II)I"⟩, 10) := ⟨⟨by decide +kernel, by decide +kernel⟩, List.mem_of_getElem? (i := 643) (by decide +kernel), List.mem_of_getElem? (i := 766) (by decide +kernel), List.mem_of_getElem? (i := 767) (by decide +kernel)⟩
def lw_privs_1 : List (MethodName × Nat) := [(⟨"java/lang/Throwable", "fillInStackTrace", "(I)Ljava/lang/Throwable;"⟩, 6), (⟨"BarometerLeague", "countOver", "(LBarometerLeague$VillageRow;II)I"⟩, 6), (⟨"BarometerLeague", "sayingsOn", "(I)[I"⟩, 6), (⟨"BarometerLeague", "requireSign", "(I)V"⟩, 6), (⟨"java/util/ArrayList", "add", "(Ljava/lang/Object;[Ljava/lang/Object;I)V"⟩, 3), (⟨"java/util/ArrayList", "grow", "()[Ljava/lang/Object;"⟩, 3), (⟨"java/util/ArrayList", "grow", "(I)[Ljava/lang/Object;"⟩, 3), (⟨"BarometerLeague", "liveDays", "(LBarometerLeague$VillageRow;I)I"⟩, 6), (⟨"BarometerLeague", "liveDay", "(LBarometerLeague$VillageRow;I)I"⟩, 6), (⟨"BarometerLeague$Village", "learn", "([II)V"⟩, 5), (⟨"BarometerLeague$Village", "sellAlmanacs", "()V"⟩, 5), (⟨"BarometerLeagueModel", "no", "(I)I"⟩, 10), (⟨"BarometerLeagueModel", "isVillage", "(I)Z"⟩, 10), (⟨"BarometerLeagueModel", "isSign", "(I)Z"⟩, 10), (⟨"BarometerLeagueModel", "isRain", "(II)Z"⟩, 10), (⟨"BarometerLeagueModel", "signTold", "(II)I"⟩, 10)]
theorem lw_r1 : ∀ q ∈ lw_privs_1, lw_okq q := List.forall_mem_cons.mpr ⟨lw_p0, List.forall_mem_cons.mpr ⟨lw_p1, List.forall_mem_cons.mpr ⟨lw_p2, List.forall_mem_cons.mpr ⟨lw_p3, List.forall_mem_cons.mpr ⟨lw_p4, List.forall_mem_cons.mpr ⟨lw_p5, List.forall_mem_cons.mpr ⟨lw_p6, List.forall_mem_cons.mpr ⟨lw_p7, List.forall_mem_cons.mpr ⟨lw_p8, List.forall_mem_cons.mpr ⟨lw_p9, List.forall_mem_cons.mpr ⟨lw_p10, List.forall_mem_cons.mpr ⟨lw_p11, List.forall_mem_cons.mpr ⟨lw_p12, List.forall_mem_cons.mpr ⟨lw_p13, List.forall_mem_cons.mpr ⟨lw_p14, List.forall_mem_cons.mpr ⟨lw_p15, fun _ h => absurd h List.not_mem_nil⟩⟩⟩⟩⟩⟩⟩⟩⟩⟩⟩⟩⟩⟩⟩⟩
theorem lw_p16 : lw_okq (⟨"BarometerLeagueModel", "rightDays", "(I)I"⟩, 10) := ⟨⟨by decide +kernel, by decide +kernel⟩, List.mem_of_getElem? (i := 643) (by decide +kernel), List.mem_of_getElem? (i := 770) (by decide +kernel), List.mem_of_getElem? (i := 771) (by decide +kernel)⟩
theorem lw_p17 : lw_okq (⟨"BarometerLeagueModel", "isRight", "(II)Z"⟩, 10) := ⟨⟨by decide +kernel, by decide +kernel⟩, List.mem_of_getElem? (i := 643) (by decide +kernel), List.mem_of_getElem? (i := 774) (by decide +kernel), List.mem_of_getElem? (i := 775) (by decide +kernel)⟩
theorem lw_p18 : lw_okq (⟨"BarometerLeagueModel", "villageTold", "(II)I"⟩, 10) := ⟨⟨by decide +kernel, by decide +kernel⟩, List.mem_of_getElem? (i := 643) (by decide +kernel), List.mem_of_getElem? (i := 786) (by decide +kernel), List.mem_of_getElem? (i := 787) (by decide +kernel)⟩
theorem lw_p19 : lw_okq (⟨"BarometerLeagueModel", "look", "(I)V"⟩, 10) := ⟨⟨by decide +kernel, by decide +kernel⟩, List.mem_of_getElem? (i := 643) (by decide +kernel), List.mem_of_getElem? (i := 790) (by decide +kernel), List.mem_of_getElem? (i := 791) (by decide +kernel)⟩
theorem lw_p20 : lw_okq (⟨"BarometerLeagueModel", "weightsOf", "(I)I"⟩, 10) := ⟨⟨by decide +kernel, by decide +kernel⟩, List.mem_of_getElem? (i := 643) (by decide +kernel), List.mem_of_getElem? (i := 794) (by decide +kernel), List.mem_of_getElem? (i := 795) (by decide +kernel)⟩
theorem lw_p21 : lw_okq (⟨"BarometerLeagueModel", "placeOf", "(I)I"⟩, 10) := ⟨⟨by decide +kernel, by decide +kernel⟩, List.mem_of_getElem? (i := 643) (by decide +kernel), List.mem_of_getElem? (i := 798) (by decide +kernel), List.mem_of_getElem? (i := 799) (by decide +kernel)⟩
theorem lw_p22 : lw_okq (⟨"BarometerLeagueModel", "lean", "(LBarometerLeagueModel$State;I)I"⟩, 10) := ⟨⟨by decide +kernel, by decide +kernel⟩, List.mem_of_getElem? (i := 643) (by decide +kernel), List.mem_of_getElem? (i := 805) (by decide +kernel), List.mem_of_getElem? (i := 806) (by decide +kernel)⟩
theorem lw_p23 : lw_okq (⟨"BarometerLeagueModel", "counted", "(LBarometerLeagueModel$State;I)I"⟩, 10) := ⟨⟨by decide +kernel, by decide +kernel⟩, List.mem_of_getElem? (i := 643) (by decide +kernel), List.mem_of_getElem? (i := 817) (by decide +kernel), List.mem_of_getElem? (i := 818) (by decide +kernel)⟩
theorem lw_p24 : lw_okq (⟨"BarometerLeagueModel", "sumOf", "([I)I"⟩, 10) := ⟨⟨by decide +kernel, by decide +kernel⟩, List.mem_of_getElem? (i := 643) (by decide +kernel), List.mem_of_getElem? (i := 821) (by decide +kernel), List.mem_of_getElem? (i := 822) (by decide +kernel)⟩
theorem lw_p25 : lw_okq (⟨"BarometerLeagueModel", "rainGuessed", "(LBarometerLeagueModel$State;)I"⟩, 10) := ⟨⟨by decide +kernel, by decide +kernel⟩, List.mem_of_getElem? (i := 643) (by decide +kernel), List.mem_of_getElem? (i := 825) (by decide +kernel), List.mem_of_getElem? (i := 826) (by decide +kernel)⟩
theorem lw_p26 : lw_okq (⟨"BarometerLeagueModel", "passAll", "(LBarometerLeagueModel$State;I)LBarometerLeagueModel$State;"⟩, 10) := ⟨⟨by decide +kernel, by decide +kernel⟩, List.mem_of_getElem? (i := 643) (by decide +kernel), List.mem_of_getElem? (i := 833) (by decide +kernel), List.mem_of_getElem? (i := 834) (by decide +kernel)⟩
theorem lw_p27 : lw_okq (⟨"BarometerLeagueModel", "pass", "(LBarometerLeagueModel$State;)V"⟩, 10) := ⟨⟨by decide +kernel, by decide +kernel⟩, List.mem_of_getElem? (i := 643) (by decide +kernel), List.mem_of_getElem? (i := 837) (by decide +kernel), List.mem_of_getElem? (i := 838) (by decide +kernel)⟩
theorem lw_p28 : lw_okq (⟨"BarometerLeagueModel", "guess", "(LBarometerLeagueModel$State;II)V"⟩, 10) := ⟨⟨by decide +kernel, by decide +kernel⟩, List.mem_of_getElem? (i := 643) (by decide +kernel), List.mem_of_getElem? (i := 841) (by decide +kernel), List.mem_of_getElem? (i := 842) (by decide +kernel)⟩
theorem lw_p29 : lw_okq (⟨"BarometerLeagueModel", "learn", "(LBarometerLeagueModel$State;II)V"⟩, 10) := ⟨⟨by decide +kernel, by decide +kernel⟩, List.mem_of_getElem? (i := 643) (by decide +kernel), List.mem_of_getElem? (i := 845) (by decide +kernel), List.mem_of_getElem? (i := 846) (by decide +kernel)⟩
theorem lw_p30 : lw_okq (⟨"BarometerLeagueModel", "lookAhead", "()LBarometerLeagueModel$State;"⟩, 10) := ⟨⟨by decide +kernel, by decide +kernel⟩, List.mem_of_getElem? (i := 643) (by decide +kernel), List.mem_of_getElem? (i := 858) (by decide +kernel), List.mem_of_getElem? (i := 859) (by decide +kernel)⟩
def lw_privs_2 : List (MethodName × Nat) := [(⟨"BarometerLeagueModel", "rightDays", "(I)I"⟩, 10), (⟨"BarometerLeagueModel", "isRight", "(II)Z"⟩, 10), (⟨"BarometerLeagueModel", "villageTold", "(II)I"⟩, 10), (⟨"BarometerLeagueModel", "look", "(I)V"⟩, 10), (⟨"BarometerLeagueModel", "weightsOf", "(I)I"⟩, 10), (⟨"BarometerLeagueModel", "placeOf", "(I)I"⟩, 10), (⟨"BarometerLeagueModel", "lean", "(LBarometerLeagueModel$State;I)I"⟩, 10), (⟨"BarometerLeagueModel", "counted", "(LBarometerLeagueModel$State;I)I"⟩, 10), (⟨"BarometerLeagueModel", "sumOf", "([I)I"⟩, 10), (⟨"BarometerLeagueModel", "rainGuessed", "(LBarometerLeagueModel$State;)I"⟩, 10), (⟨"BarometerLeagueModel", "passAll", "(LBarometerLeagueModel$State;I)LBarometerLeagueModel$State;"⟩, 10), (⟨"BarometerLeagueModel", "pass", "(LBarometerLeagueModel$State;)V"⟩, 10), (⟨"BarometerLeagueModel", "guess", "(LBarometerLeagueModel$State;II)V"⟩, 10), (⟨"BarometerLeagueModel", "learn", "(LBarometerLeagueModel$State;II)V"⟩, 10), (⟨"BarometerLeagueModel", "lookAhead", "()LBarometerLeagueModel$State;"⟩, 10)]
theorem lw_r2 : ∀ q ∈ lw_privs_2, lw_okq q := List.forall_mem_cons.mpr ⟨lw_p16, List.forall_mem_cons.mpr ⟨lw_p17, List.forall_mem_cons.mpr ⟨lw_p18, List.forall_mem_cons.mpr ⟨lw_p19, List.forall_mem_cons.mpr ⟨lw_p20, List.forall_mem_cons.mpr ⟨lw_p21, List.forall_mem_cons.mpr ⟨lw_p22, List.forall_mem_cons.mpr ⟨lw_p23, List.forall_mem_cons.mpr ⟨lw_p24, List.forall_mem_cons.mpr ⟨lw_p25, List.forall_mem_cons.mpr ⟨lw_p26, List.forall_mem_cons.mpr ⟨lw_p27, List.forall_mem_cons.mpr ⟨lw_p28, List.forall_mem_cons.mpr ⟨lw_p29, List.forall_mem_cons.mpr ⟨lw_p30, fun _ h => absurd h List.not_mem_nil⟩⟩⟩⟩⟩⟩⟩⟩⟩⟩⟩⟩⟩⟩⟩
def lw_privs : List (MethodName × Nat) := lw_privs_1 ++ (lw_privs_2)
def lw_tbl : List Cond := k2_sels lw_privs ++ tables_1
theorem lw_privs_ok : ∀ q ∈ lw_privs, lw_okq q := by
  show ∀ q ∈ lw_privs_1 ++ (lw_privs_2), lw_okq q
  exact List.forall_mem_append.mpr ⟨lw_r1, lw_r2⟩
/-- the streams that the claim lets the run draw from -/
abbrev lw_cs : List Choice := [Jvm.Choice.named "NaN.bits"]
theorem lw_bits : nanBits ∈ lw_cs := by first | decide | exact List.mem_cons_self | simp [lw_cs, nanBits]
end
section
/-! ===== BEGIN words of one list among another's, by their places ===== -/
theorem goodIn_r {big : List Cond} (ws : List Cond) (ps : List Nat) (hp : ws = ps.filterMap (fun i => big[i]?)) (h : ws.all goodWord = true) : GoodIn big ws := by
  intro w hw
  have h1 := List.all_eq_true.mp h w hw
  rw [hp] at hw
  obtain ⟨i, -, hi⟩ := List.mem_filterMap.mp hw
  have hm : w ∈ big := by first | exact List.mem_of_getElem? hi | exact List.getElem?_mem hi
  exact ⟨hm, good_of_word h1⟩
theorem goodIn_app {big a b : List Cond} (ha : GoodIn big a) (hb : GoodIn big b) : GoodIn big (a ++ b) := fun w h => (List.mem_append.mp h).elim (ha w) (hb w)
theorem goodIn_ca {big a b : List Cond} {c : Cond} (ha : GoodIn big (c :: a)) (hb : GoodIn big b) : GoodIn big (c :: (a ++ b)) := fun w h => (List.mem_cons.mp h).elim (fun e => ha w (List.mem_cons.mpr (Or.inl e))) (fun h => (List.mem_append.mp h).elim (fun h => ha w (List.mem_cons.mpr (Or.inr h))) (hb w))
theorem goodIn_sub {big ws : List Cond} (hm : ∀ w ∈ ws, w ∈ big) (h : ws.all goodWord = true) : GoodIn big ws := fun w hw => ⟨hm w hw, good_of_word (List.all_eq_true.mp h w hw)⟩
/-! ===== END ===== -/

/-! ===== BEGIN exceptions that leave a method, and their catching by the caller (launches without stack traces) ===== -/
section VXA
/-! The laws vx_back, vx_callV, vx_callS, vx_callSW, vx_throw0, vx_throwS follow proofs of the library, with one case more: JvmDerived/Free/Laws.lean (Back.of_free), Shelf42/LK1.lean (callV, callS), Shelf/KitTraced.lean (throwNew0V, throwNewS). -/
/-- where a method has thrown q: the class by its name, the cell, what was written, the world -/
def vx_T (XC : String → State → State → Prop) (st : State) (q : Addr) (t : State) (mc ms : Nat) (free : Addr → Prop) : Prop :=
  ∃ (E : String) (ce : Cell) (L : List Loc), XC E st t ∧ t.heap[q]? = some ce ∧ ce.vm = .none ∧ st.vm.findClass E = some ce.cls ∧ st.WarmedH t.vm ∧ st.sameButNew ({ t with vm := st.vm } : State) L mc ms ∧ ∀ z ∈ L, free z.base
def vx_Q (Qc : Array Value → State → Outcome → State → Prop) (XC : String → State → State → Prop) (mc ms : Nat) (free : Addr → Prop) : Array Value → State → Outcome → State → Prop := fun a st o t =>
  (Qc a st o t ∧ ∃ L, FrameEnd st o t L mc ms ∧ ∀ q ∈ L, free q.base) ∨ ∃ q, o = .threw q ∧ vx_T XC st q t mc ms free
/-- a callee that returns or throws -/
def vx_Met (l : Launch) (y : MethodName) (ws : List Cond) (rm : Room) (Pc : Array Value → State → Prop) (Qc : Array Value → State → Outcome → State → Prop) (XC : String → State → State → Prop) (mc ms : Nat) (free : Addr → Prop) : Prop :=
  MetFree l y (headSpec ws rm) Pc (fun _ _ _ _ _ => True) (vx_Q Qc XC mc ms free)
def vx_Post (XC : String → State → State → Prop) (mc ms : Nat) (free : Addr → Prop) : Pt → Array Value → Addr → Pt → Prop := fun A a q B =>
  ∃ (g : JFrame) (mk : MethodId) (t : State) (L : List Loc) (E : String) (ce : Cell), B.U.heap = t.heap ∧ B.U.vm = t.vm ∧ XC E (A.U.calling g mk a) t ∧ t.heap[q]? = some ce ∧ ce.vm = .none ∧ A.U.vm.findClass E = some ce.cls ∧ B.locs = A.locs ++ L ∧ (∀ z ∈ L, free z.base) ∧ B.cells = A.cells + mc ∧ B.slots = A.slots + ms
def vx_Back (l : Launch) (R : Room) (p : Program) (e : Env) (below : List Frame) (s : State) (sargs : Array Value) (y : MethodName) (len W9 : Nat)
    (Pre : Pt → Array Value → Prop) (Post : Pt → Array Value → Option Value → Pt → Prop) (PostX : Pt → Array Value → Addr → Pt → Prop) : Prop :=
  ∀ (m : MethodId) (meth : Method) (c : Code) (A : Pt) (g : JFrame) (ig : Instr) (mk : MethodId) (a : Array Value),
    Stand p l e R s m sargs below meth c A.U A.locs A.cells A.slots → g.method = m → g.locals.size = c.maxLocals → decode c.code g.pc = .ok (ig, len) →
    2 * g.monitorRoom + (g.stack.map fun v => v.category).sum ≤ W9 → A.U.methodNamed? y = some mk → Pre A a →
    (∃ (v : Option Value) (B : Pt), Stand p l e R s m sargs below meth c B.U B.locs B.cells B.slots ∧ Post A a v B ∧
      Steps p.tables e below (doInvoke e (A.U.setTop g) [] mk a).1 (B.U.setTop { g with pc := g.pc + len, stack := v.toList ++ g.stack })) ∨
    (∃ (q : Addr) (B : Pt), Stand p l e R s m sargs below meth c B.U B.locs B.cells B.slots ∧ PostX A a q B ∧
      Steps p.tables e below (doInvoke e (A.U.setTop g) [] mk a).1 ((B.U.setTop g).pushFrame (.throwing q)))
section Payer
variable {l : Launch} {R : Room} {p : Program} {e : Env} {below : List Frame} {s : State} {sargs : Array Value} {y : MethodName} {len W9 : Nat}
theorem vx_back {ws : List Cond} {rm : Room} {Pc : Array Value → State → Prop} {Qc : Array Value → State → Outcome → State → Prop} {XC : String → State → State → Prop} {mc ms : Nat} {free : Addr → Prop} {bytes : ByteArray} {maxL : Nat} {ret : Option FieldType}
    (hM : vx_Met l y ws rm Pc Qc XC mc ms free) (hblind : FrameBlind Pc) (hrc : rm.cells = mc) (hrs : rm.slots = ms)
    (hframes : rm.frames + 1 ≤ R.frames) (hlocals : W9 + (maxL + 11) + rm.locals ≤ R.locals)
    (hws : ∀ w ∈ ws, ∀ a' U, s.WarmedH U.vm → w.before a' U = true) (hcode : Cond.code y bytes maxL ret ∈ ws) (hinit : ∀ a' U, s.WarmedH U.vm → (Cond.initialized y.cls).before a' U = true) :
    vx_Back l R p e below s sargs y len W9 (PreOf R mc ms Pc) (PostOf Qc mc ms free) (vx_Post XC mc ms free) := by
  intro m meth c A g ig mk a X hg hsize hdg hW hn hp
  have h1 : (headSpec ws rm).pre.before a A.U = true := atoms_intro fun w hw => hws w hw _ _ X.warmed
  have h2 : (Cond.code y bytes maxL ret).before a A.U = true := hws _ hcode _ _ X.warmed
  have h3 : (Cond.initialized y.cls).before a A.U = true := hinit _ _ X.warmed
  have h4 : A.cells + (headSpec ws rm).room.cells ≤ R.cells := by rw [show (headSpec ws rm).room.cells = mc from hrc]; exact hp.1
  have h5 : A.slots + (headSpec ws rm).room.slots ≤ R.slots := by rw [show (headSpec ws rm).room.slots = ms from hrs]; exact hp.2.1
  have hPc : Pc a (A.U.calling g mk a) := hblind _ _ _ _ hp.2.2
  obtain ⟨U, Ls, c0, s0⟩ := A
  dsimp only [Pt.U, Pt.locs, Pt.cells, Pt.slots] at h1 h2 h3 h4 h5 X hn hPc ⊢
  obtain ⟨methY, cY, hmY, hcY, -, hlY, -, -, -, -⟩ := Cond.code_spec hn h2
  obtain ⟨kY, hkY, -⟩ := className_of_methodNamed hn
  have hinitY : kY.init = .initialized := Cond.initialized_spec (findClass_of_methodNamed hn) hkY h3
  have h : At U g.method c below := by rw [hg]; exact X.here
  have hlocals9 : W9 + (maxL + 11) + (headSpec ws rm).room.locals ≤ R.locals := hlocals
  have happ : (headSpec ws rm).appliesLoose y e.platform (U.calling g mk a) = true :=
    Spec.appliesLoose_calling (g := g) h hdg hn hkY hinitY
      (X.room_calling (g := g) (R' := (headSpec ws rm).room) hsize hmY hcY hframes (by rw [hlY]; omega) h4 h5) h1
  obtain ⟨mid, hmid⟩ := h.above
  have hfr : (U.setTop g).frames = (.java g :: mid) ++ below := by rw [State.frames_setTop' g h.top, hmid]; rfl
  obtain ⟨o, s₂, hsteps, -, hend, hq⟩ := Steps.callFree hM p X.admits X.cas X.clock (acts := []) hfr happ hPc trivial
  have hq' : vx_Q Qc XC mc ms free a (U.calling g mk a) o s₂ := hq
  rw [State.frames_setTop' g h.top] at hend
  obtain ⟨g₀, hg0⟩ := Option.isSome_iff_exists.mp h.top
  obtain ⟨r, hr⟩ := State.topJava?_eq_some.mp hg0
  have hr' : (({ U with heap := s₂.heap, slotsUsed := s₂.slotsUsed } : State).setVm s₂.vm).frames = .java g₀ :: r := hr
  rcases hq' with ⟨hqc, L, hfe, hL⟩ | ⟨q, rfl, E, ce, L, hx, hce, hcv, hcl, hW₂, hsm, hL⟩
  · obtain ⟨⟨v, rfl⟩, hW₂, e2, q2, q3, q4, q5, q6⟩ := id hfe
    have e3 : s₂ = ({ (U.calling g mk a).setFrames s₂.frames with heap := s₂.heap, slotsUsed := s₂.slotsUsed } : State).setVm s₂.vm := by
      have : s₂ = ({ s₂ with vm := (U.calling g mk a).vm } : State).setVm s₂.vm := rfl
      rw [e2] at this
      exact this
    obtain ⟨c₂, i₂, len₂, hc₂, hd₂, hf₂⟩ := hend
    have hW' : U.WarmedH s₂.vm := hW₂
    have hcc : c₂ = c := by
      have h1 : s₂.code? g.method = U.code? g.method := by
        rw [State.code?_eq, State.code?_eq, hW'.alike.method?]
      exact Option.some.inj (hc₂.symm.trans (h1.trans h.code))
    subst hcc
    have hlen : len₂ = len := by rw [hdg] at hd₂; cases hd₂; rfl
    subst hlen
    have hs₂ : s₂ = (({ U with heap := s₂.heap, slotsUsed := s₂.slotsUsed } : State).setVm s₂.vm).setTop { g with pc := g.pc + len₂, stack := v.toList ++ g.stack } := by
      refine e3.trans ?_
      rw [hf₂, State.calling_eq h.top, State.setFrames_setFrames, State.setTop_of_frames _ hr', hr]
      rfl
    have hsame : U.sameButNew ({ U with heap := s₂.heap, slotsUsed := s₂.slotsUsed } : State) L mc ms := by
      refine ⟨?_, q2, q3, q4, q5, q6⟩
      obtain ⟨t, ht, -⟩ := State.frames_cons hr
      show ({ U with heap := s₂.heap, slotsUsed := s₂.slotsUsed } : State) = { U.setFrames U.frames with heap := s₂.heap, slotsUsed := s₂.slotsUsed }
      rw [State.setFrames_self ht]
    subst hg
    refine Or.inl ⟨v, ⟨(({ U with heap := s₂.heap, slotsUsed := s₂.slotsUsed } : State).setVm s₂.vm), Ls ++ L, c0 + mc, s0 + ms⟩,
      ⟨X.admits, X.cas, X.clock, X.frames, X.room, X.hears, X.method, X.code, (X.here.setHeapUsed s₂.heap s₂.slotsUsed).setVm hW'.alike, X.tail, State.WarmedH.trans X.warmed hW', X.limits, X.bytes, X.same.trans (hsame.setVm s.vm)⟩,
      ⟨g, mk, s₂, L, rfl, rfl, hqc, rfl, hL, rfl, rfl⟩, ?_⟩
    show Steps p.tables e below _ ((({ U with heap := s₂.heap, slotsUsed := s₂.slotsUsed } : State).setVm s₂.vm).setTop { g with pc := g.pc + len₂, stack := v.toList ++ g.stack })
    rw [← hs₂]
    exact hsteps
  · obtain ⟨e2, q2, q3, q4, q5, q6⟩ := id hsm
    have e3 : s₂ = ({ (U.calling g mk a).setFrames s₂.frames with heap := s₂.heap, slotsUsed := s₂.slotsUsed } : State).setVm s₂.vm := by
      have : s₂ = ({ s₂ with vm := (U.calling g mk a).vm } : State).setVm s₂.vm := rfl
      rw [e2] at this
      exact this
    have hf₂ : s₂.frames = .throwing q :: .java g :: U.frames.tail := hend
    have hW' : U.WarmedH s₂.vm := hW₂
    have hs₂ : s₂ = ((({ U with heap := s₂.heap, slotsUsed := s₂.slotsUsed } : State).setVm s₂.vm).setTop g).pushFrame (.throwing q) := by
      refine e3.trans ?_
      rw [hf₂, State.calling_eq h.top, State.setFrames_setFrames, State.pushFrame, State.frames_setTop _ hr', State.setTop_of_frames _ hr', State.setFrames_setFrames, hr]
      rfl
    have hsame : U.sameButNew ({ U with heap := s₂.heap, slotsUsed := s₂.slotsUsed } : State) L mc ms := by
      refine ⟨?_, q2, q3, q4, q5, q6⟩
      obtain ⟨t, ht, -⟩ := State.frames_cons hr
      show ({ U with heap := s₂.heap, slotsUsed := s₂.slotsUsed } : State) = { U.setFrames U.frames with heap := s₂.heap, slotsUsed := s₂.slotsUsed }
      rw [State.setFrames_self ht]
    subst hg
    refine Or.inr ⟨q, ⟨(({ U with heap := s₂.heap, slotsUsed := s₂.slotsUsed } : State).setVm s₂.vm), Ls ++ L, c0 + mc, s0 + ms⟩,
      ⟨X.admits, X.cas, X.clock, X.frames, X.room, X.hears, X.method, X.code, (X.here.setHeapUsed s₂.heap s₂.slotsUsed).setVm hW'.alike, X.tail, State.WarmedH.trans X.warmed hW', X.limits, X.bytes, X.same.trans (hsame.setVm s.vm)⟩,
      ⟨g, mk, s₂, L, E, ce, rfl, rfl, hx, hce, hcv, hcl, rfl, hL, rfl, rfl⟩, ?_⟩
    show Steps p.tables e below _ (((({ U with heap := s₂.heap, slotsUsed := s₂.slotsUsed } : State).setVm s₂.vm).setTop g).pushFrame (.throwing q))
    rw [← hs₂]
    exact hsteps
end Payer
section Calls
variable {p : Program} {l : Launch} {e : Env} {R : Room} {s : State} {m : MethodId} {args : Array Value} {below : List Frame} {meth : Method} {c : Code} {T : State} {locs : List Loc} {cells slots : Nat}
theorem vx_callV (X : Stand p l e R s m args below meth c T locs cells slots) (hexec : p.tables.exec = Jvm.exec) {own C : String} {index : Nat} {y : MethodName} {bytes : ByteArray} {maxL : Nat} {ret : Option FieldType}
    (hown : s.vm.findClass own = some m.cls) (hlink : (Cond.methodLink own index y).before args s = true) (hinst : (Cond.instanceMethod y).before args s = true) (hsel : (Cond.selects C y y).before args s = true)
    (hcode : (Cond.code y bytes maxL ret).before args s = true) (hy : y.cls ≠ "java/lang/invoke/MethodHandle" ∧ y.cls ≠ "java/lang/invoke/VarHandle")
    {W9 : Nat} {Pre : Pt → Array Value → Prop} {Post : Pt → Array Value → Option Value → Pt → Prop} {PostX : Pt → Array Value → Addr → Pt → Prop} (hK : vx_Back l R p e below s args y 3 W9 Pre Post PostX)
    {b : Addr} {cellB : Cell} (hcell : T.heap[b]? = some cellB) (hobj : cellB.vm.isStatics = false) (hcls : s.vm.findClass C = some cellB.cls)
    {g : JFrame} (hg : g.method = m) (hsize : g.locals.size = c.maxLocals) {argsL rest : List Value} (hlen : ∀ sig, parseMethodDescriptor y.desc = some sig → argsL.length = sig.parameters.length)
    (hstack : g.stack = argsL.reverse ++ .ref b :: rest) (hW : 2 * g.monitorRoom + (rest.map fun v => v.category).sum ≤ W9) (hdg : decode c.code g.pc = .ok (.invokevirtual index, 3))
    (hpre : ∀ vm₁, s.WarmedH vm₁ → Pre ⟨T.setVm vm₁, locs, cells, slots⟩ (Value.ref b :: argsL).toArray) :
    (∃ (v : Option Value) (vm₁ : Vm) (B : Pt), s.WarmedH vm₁ ∧ Stand p l e R s m args below meth c B.U B.locs B.cells B.slots ∧ Post ⟨T.setVm vm₁, locs, cells, slots⟩ (Value.ref b :: argsL).toArray v B ∧
      ∀ target, Steps p.tables e below (B.U.setTop { g with pc := g.pc + 3, stack := v.toList ++ rest }) target → Steps p.tables e below (T.setTop g) target) ∨
    (∃ (q : Addr) (vm₁ : Vm) (B : Pt), s.WarmedH vm₁ ∧ Stand p l e R s m args below meth c B.U B.locs B.cells B.slots ∧ PostX ⟨T.setVm vm₁, locs, cells, slots⟩ (Value.ref b :: argsL).toArray q B ∧
      Steps p.tables e below (T.setTop g) ((B.U.setTop { g with stack := rest }).pushFrame (.throwing q))) := by
  obtain ⟨mk, methM, hnamed, hmethM, hstM, habM⟩ := Cond.instanceMethod_spec hinst
  obtain ⟨methM', cM, hmethM', -, -, -, -, -, -, hsigM⟩ := Cond.code_spec hnamed hcode
  cases hmethM.symm.trans hmethM'
  obtain ⟨c2, r2, m2, q1, q2, q3, q4, kP, hkP, hkPi⟩ := Cond.selects_spec hsel
  cases hcls.symm.trans q1
  cases (State.methodFound?_of_named hnamed hy).symm.trans q2
  cases hnamed.symm.trans q3
  have hselP : selectMethod e.platform s.vm cellB.cls mk = .method mk := by rw [Launch.admits_selectMethod X.admits]; exact q4
  obtain ⟨vm₁, X₁, hstep₁⟩ := X.invokevirtual hexec hown hlink hnamed hmethM hstM hkP hkPi hy (a := b) (cell := cellB) hcell
    (fun z h => by rw [h] at hobj; cases hobj) hselP hmethM habM hkP hkPi (g := g) hg (argsL := argsL) (rest := rest) (hlen _ hsigM) hstack hdg
  rcases hK m meth c ⟨T.setVm vm₁, locs, cells, slots⟩ { g with stack := rest } (.invokevirtual index) mk (Value.ref b :: argsL).toArray X₁ hg hsize hdg hW (X₁.named hnamed) (hpre vm₁ X₁.warmed) with ⟨v, B, X', hpost, hsteps⟩ | ⟨q, B, X', hpost, hsteps⟩
  · exact Or.inl ⟨v, vm₁, B, X₁.warmed, X', hpost, fun target h => hstep₁ _ fun acts => by rw [doInvoke_state]; exact hsteps.trans h⟩
  · exact Or.inr ⟨q, vm₁, B, X₁.warmed, X', hpost, hstep₁ _ fun acts => by rw [doInvoke_state]; exact hsteps⟩
theorem vx_callS (X : Stand p l e R s m args below meth c T locs cells slots) (hexec : p.tables.exec = Jvm.exec) {own : String} {index : Nat} {y : MethodName} {bytes : ByteArray} {maxL : Nat} {ret : Option FieldType}
    (hown : s.vm.findClass own = some m.cls) (hlink : (Cond.methodLink own index y).before args s = true) (hstat : (Cond.static y).before args s = true) (hinit : (Cond.initialized y.cls).before args s = true)
    (hcode : (Cond.code y bytes maxL ret).before args s = true) (hy : y.cls ≠ "java/lang/invoke/MethodHandle" ∧ y.cls ≠ "java/lang/invoke/VarHandle")
    {W9 : Nat} {Pre : Pt → Array Value → Prop} {Post : Pt → Array Value → Option Value → Pt → Prop} {PostX : Pt → Array Value → Addr → Pt → Prop} (hK : vx_Back l R p e below s args y 3 W9 Pre Post PostX)
    {g : JFrame} (hg : g.method = m) (hsize : g.locals.size = c.maxLocals) {argsL rest : List Value} (hlen : ∀ sig, parseMethodDescriptor y.desc = some sig → argsL.length = sig.parameters.length)
    (hstack : g.stack = argsL.reverse ++ rest) (hW : 2 * g.monitorRoom + (rest.map fun v => v.category).sum ≤ W9) (hdg : decode c.code g.pc = .ok (.invokestatic index, 3))
    (hpre : ∀ vm₁, s.WarmedH vm₁ → Pre ⟨T.setVm vm₁, locs, cells, slots⟩ argsL.toArray) :
    (∃ (v : Option Value) (vm₁ : Vm) (B : Pt), s.WarmedH vm₁ ∧ Stand p l e R s m args below meth c B.U B.locs B.cells B.slots ∧ Post ⟨T.setVm vm₁, locs, cells, slots⟩ argsL.toArray v B ∧
      ∀ target, Steps p.tables e below (B.U.setTop { g with pc := g.pc + 3, stack := v.toList ++ rest }) target → Steps p.tables e below (T.setTop g) target) ∨
    (∃ (q : Addr) (vm₁ : Vm) (B : Pt), s.WarmedH vm₁ ∧ Stand p l e R s m args below meth c B.U B.locs B.cells B.slots ∧ PostX ⟨T.setVm vm₁, locs, cells, slots⟩ argsL.toArray q B ∧
      Steps p.tables e below (T.setTop g) ((B.U.setTop { g with stack := rest }).pushFrame (.throwing q))) := by
  obtain ⟨mk, hnamed⟩ := Cond.code_named hcode
  obtain ⟨methM, cM, hmethM, -, -, -, -, -, -, hsigM⟩ := Cond.code_spec hnamed hcode
  have hstatic : methM.isStatic = true := Cond.static_spec hnamed hmethM hstat
  obtain ⟨kP, hkP, -⟩ := className_of_methodNamed hnamed
  have hinitP : kP.init = .initialized := Cond.initialized_spec (findClass_of_methodNamed hnamed) hkP hinit
  obtain ⟨vm₁, X₁, hstep₁⟩ := X.invokestatic hexec hown hlink hnamed hmethM hstatic hkP hinitP hy (g := g) hg (argsL := argsL) (rest := rest) (hlen _ hsigM) hstack hdg
  rcases hK m meth c ⟨T.setVm vm₁, locs, cells, slots⟩ { g with stack := rest } (.invokestatic index) mk argsL.toArray X₁ hg hsize hdg hW (X₁.named hnamed) (hpre vm₁ X₁.warmed) with ⟨v, B, X', hpost, hsteps⟩ | ⟨q, B, X', hpost, hsteps⟩
  · exact Or.inl ⟨v, vm₁, B, X₁.warmed, X', hpost, fun target h => hstep₁ _ fun acts => by rw [doInvoke_state]; exact hsteps.trans h⟩
  · exact Or.inr ⟨q, vm₁, B, X₁.warmed, X', hpost, hstep₁ _ fun acts => by rw [doInvoke_state]; exact hsteps⟩
end Calls
theorem vx_cls {s : State} {T : State} {vm₁ : Vm} {E : String} {k : ClassId} (hW : s.WarmedH vm₁) (h : (T.setVm vm₁).vm.findClass E = some k) : s.vm.findClass E = some k := by
  have h1 : vm₁.findClass E = some k := h
  rw [hW.alike.findClass] at h1
  exact h1
/-- the method's frame g, with q thrown over it -/
def vx_W (p : Program) (l : Launch) (e : Env) (R : Room) (s : State) (m : MethodId) (args : Array Value) (below : List Frame) (meth : Method) (c : Code) (H : Heap) (locs : List Loc) (cells slots : Nat) (Q : State → Prop) (g : JFrame) (q : Addr) : Prop :=
  ∀ T : State, T.heap = H → Stand p l e R s m args below meth c T locs cells slots → ∃ t, Steps p.tables e below ((T.setTop g).pushFrame (.throwing q)) t ∧ Q t
def vx_Run (p : Program) (l : Launch) (e : Env) (R : Room) (s : State) (m : MethodId) (args : Array Value) (below : List Frame) (meth : Method) (c : Code) (H : Heap) (locs : List Loc) (cells slots mc ms : Nat) (g : JFrame) (rest : List Value) (Qa : State → Outcome → State → Prop) (XC : String → State → State → Prop) (free : Addr → Prop) : Prop :=
  ∀ T : State, T.heap = H → Stand p l e R s m args below meth c T locs cells slots →
    (∃ (v : Option Value) (st₀ t T' : State) (L : List Loc), st₀.heap = H ∧ Stand p l e R s m args below meth c T' (locs ++ L) (cells + mc) (slots + ms) ∧ (∀ q ∈ L, free q.base) ∧ T'.heap = t.heap ∧ T'.vm = t.vm ∧ Qa st₀ (.returned v) t ∧
      Goes p e below T g T' { g with pc := g.pc + 3, stack := v.toList ++ rest }) ∨
    (∃ (q : Addr) (st₀ t T' : State) (L : List Loc) (E : String) (ce : Cell), st₀.heap = H ∧ Stand p l e R s m args below meth c T' (locs ++ L) (cells + mc) (slots + ms) ∧ (∀ z ∈ L, free z.base) ∧ T'.heap = t.heap ∧ T'.vm = t.vm ∧ XC E st₀ t ∧ t.heap[q]? = some ce ∧ ce.vm = .none ∧ s.vm.findClass E = some ce.cls ∧
      Steps p.tables e below (T.setTop g) ((T'.setTop { g with stack := rest }).pushFrame (.throwing q)))
def vx_X {S : Type} (px : S → Prop) (B : String → S → State → Prop) (A : Nat → Prop) : String → State → State → Prop := fun E st t => ∃ u : S, px u ∧ B E u t ∧ va_F A st t
section Runs
variable {p : Program} {l : Launch} {e : Env} {R : Room} {s : State} {m : MethodId} {args : Array Value} {below : List Frame} {meth : Method} {c : Code} {H : Heap} {locs : List Loc} {cells slots : Nat}
variable {y : MethodName} {bytes cc : ByteArray} {maxL nL mc ms n index : Nat} {ret : Option FieldType} {ws : List Cond} {rm : Room} {Pc : Array Value → State → Prop} {Qc : Array Value → State → Outcome → State → Prop} {XC : String → State → State → Prop} {free : Addr → Prop} {Ts : List Cond} {own C : String} {b : Addr} {As rest : List Value} {g : JFrame}
theorem vx_callBack (cb : CallB R s args own index y bytes maxL ret ws rm mc ms n) (hM : vx_Met l y ws rm Pc Qc XC mc ms free) (hbl : FrameBlind Pc) : vx_Back l R p e below s args y 3 8 (PreOf R mc ms Pc) (PostOf Qc mc ms free) (vx_Post XC mc ms free) := by
  obtain ⟨hrc, hrs, hfr, hlo, hws, hcw, -, hini, -⟩ := cb
  exact vx_back (bytes := bytes) (maxL := maxL) (ret := ret) hM hbl hrc hrs hfr hlo hws hcw (fun a' U hW => word_at hW (Or.inl (by first | rfl | simp [Cond.onTables, Cond.keeps, Cond.steady])) hini)
theorem vx_runV (S : CallFix p m c cc nL s args Ts own) (hM : vx_Met l y ws rm Pc Qc XC mc ms free) (cw : CallW R s args own C index y bytes maxL ret ws rm mc ms n) (hp : PreV s H C b Pc As)
    (hg : g.method = m) (hn : As.length = n) (hsize : g.locals.size = nL) (hstack : g.stack = As.reverse ++ .ref b :: rest) (hW : 2 * g.monitorRoom + (rest.map fun v => v.category).sum ≤ 8) (hdg : decode cc g.pc = .ok (.invokevirtual index, 3)) (hf : cells + mc ≤ R.cells ∧ slots + ms ≤ R.slots) :
    vx_Run p l e R s m args below meth c H locs cells slots mc ms g rest (Qc (Value.ref b :: As).toArray) XC free := by
  have hK : vx_Back l R p e below s args y 3 8 (PreOf R mc ms Pc) (PostOf Qc mc ms free) (vx_Post XC mc ms free) := vx_callBack cw.1 hM hp.1
  obtain ⟨⟨-, -, -, -, -, -, hcode, -, hy, hlen, hl⟩, hin, hse⟩ := cw
  obtain ⟨hx, hb, hml, ho, -⟩ := S
  obtain ⟨-, ⟨cellB, hcB, hoB, hclB⟩, hPc⟩ := hp
  intro T hT X
  rcases vx_callV X hx (C := C) (bytes := bytes) (maxL := maxL) (ret := ret) ho hl hin hse hcode hy hK (by rw [hT]; exact hcB) hoB hclB hg (hsize.trans hml.symm) (argsL := As) (rest := rest) (fun sig h => hn.trans (hlen sig h)) hstack hW (by rw [hb]; exact hdg)
    (fun vm₁ hW₁ => ⟨hf.1, hf.2, hPc (T.setVm vm₁) hT hW₁⟩) with ⟨v, vm₁, ⟨U', l2, c2, s2⟩, hW₁, X', ⟨g', mk, t, L, e1, e2, hq, h1, hL, h2, h3⟩, st⟩ | ⟨q, vm₁, ⟨U', l2, c2, s2⟩, hW₁, X', ⟨g', mk, t, L, E, ce, e1, e2, hq, hce, hcv, hcl, h1, hL, h2, h3⟩, st⟩
  · dsimp only [Pt.U, Pt.locs, Pt.cells, Pt.slots] at X' e1 e2 h1 h2 h3 st
    subst h1; subst h2; subst h3
    exact Or.inl ⟨v, (T.setVm vm₁).calling g' mk (Value.ref b :: As).toArray, t, U', L, hT, X', hL, e1, e2, hq, st⟩
  · dsimp only [Pt.U, Pt.locs, Pt.cells, Pt.slots] at X' e1 e2 h1 h2 h3 st hcl
    subst h1; subst h2; subst h3
    exact Or.inr ⟨q, (T.setVm vm₁).calling g' mk (Value.ref b :: As).toArray, t, U', L, E, ce, hT, X', hL, e1, e2, hq, hce, hcv, vx_cls hW₁ hcl, st⟩
theorem vx_runS (S : CallFix p m c cc nL s args Ts own) (hM : vx_Met l y ws rm Pc Qc XC mc ms free) (cw : CallB R s args own index y bytes maxL ret ws rm mc ms n ∧ (Cond.static y).before args s = true) (hp : PreS s H Pc As)
    (hg : g.method = m) (hn : As.length = n) (hsize : g.locals.size = nL) (hstack : g.stack = As.reverse ++ rest) (hW : 2 * g.monitorRoom + (rest.map fun v => v.category).sum ≤ 8) (hdg : decode cc g.pc = .ok (.invokestatic index, 3)) (hf : cells + mc ≤ R.cells ∧ slots + ms ≤ R.slots) :
    vx_Run p l e R s m args below meth c H locs cells slots mc ms g rest (Qc As.toArray) XC free := by
  have hK : vx_Back l R p e below s args y 3 8 (PreOf R mc ms Pc) (PostOf Qc mc ms free) (vx_Post XC mc ms free) := vx_callBack cw.1 hM hp.1
  obtain ⟨⟨-, -, -, -, -, -, hcode, hini, hy, hlen, hl⟩, hstt⟩ := cw
  obtain ⟨hx, hb, hml, ho, -⟩ := S
  intro T hT X
  rcases vx_callS X hx (bytes := bytes) (maxL := maxL) (ret := ret) ho hl hstt hini hcode hy hK hg (hsize.trans hml.symm) (argsL := As) (rest := rest) (fun sig h => hn.trans (hlen sig h)) hstack hW (by rw [hb]; exact hdg)
    (fun vm₁ hW₁ => ⟨hf.1, hf.2, hp.2 (T.setVm vm₁) hT hW₁⟩) with ⟨v, vm₁, ⟨U', l2, c2, s2⟩, hW₁, X', ⟨g', mk, t, L, e1, e2, hq, h1, hL, h2, h3⟩, st⟩ | ⟨q, vm₁, ⟨U', l2, c2, s2⟩, hW₁, X', ⟨g', mk, t, L, E, ce, e1, e2, hq, hce, hcv, hcl, h1, hL, h2, h3⟩, st⟩
  · dsimp only [Pt.U, Pt.locs, Pt.cells, Pt.slots] at X' e1 e2 h1 h2 h3 st
    subst h1; subst h2; subst h3
    exact Or.inl ⟨v, (T.setVm vm₁).calling g' mk As.toArray, t, U', L, hT, X', hL, e1, e2, hq, st⟩
  · dsimp only [Pt.U, Pt.locs, Pt.cells, Pt.slots] at X' e1 e2 h1 h2 h3 st hcl
    subst h1; subst h2; subst h3
    exact Or.inr ⟨q, (T.setVm vm₁).calling g' mk As.toArray, t, U', L, E, ce, hT, X', hL, e1, e2, hq, hce, hcv, vx_cls hW₁ hcl, st⟩
end Runs
section Rows
variable {p : Program} {l : Launch} {e : Env} {R : Room} {s : State} {m : MethodId} {args : Array Value} {below : List Frame} {meth : Method} {c : Code} {H : Heap} {locs : List Loc} {cells slots : Nat} {Q : State → Prop}
variable {mc ms : Nat} {free : Addr → Prop} {A0 A1 : Nat → Prop} {H0 : Heap} {a : Array Value} {pc : Nat} {ls : Array Slot} {st0 rest : List Value}
theorem vx_keep {st₀ t T' : State} {L : List Loc} (h0 : st₀.heap = H) (e1 : T'.heap = t.heap) (hS : va_S A0 H0 H locs) (hA : ∀ q, q < H.size → A1 q → A0 q) (hf : ∀ q, free q → A0 q) (hL : ∀ q ∈ L, free q.base) (hF : va_F A1 st₀ t) :
    H.size ≤ T'.heap.size ∧ (∀ q : Nat, q < H.size → ¬ A1 q → T'.heap[q]? = H[q]?) ∧ va_S A0 H0 T'.heap (locs ++ L) := by
  obtain ⟨hz, hk⟩ := hF
  rw [h0] at hz hk
  exact ⟨by rw [e1]; exact hz, fun q h1 h2 => by rw [e1]; exact hk q h1 h2,
    ⟨Nat.le_trans hS.1 (by rw [e1]; exact hz), fun q h1 h2 => by rw [e1, hk q (Nat.lt_of_lt_of_le h1 hS.1) (fun z => h2 (hA q (Nat.lt_of_lt_of_le h1 hS.1) z))]; exact hS.2.1 q h1 h2, fun q hq => by
      rcases List.mem_append.mp hq with h | h
      · exact hS.2.2 q h
      · exact hf _ (hL q h)⟩⟩
theorem vx_calli {S SX : Type} {post : Int32 → S → Prop} {px : SX → Prop} {B : S → State → Prop} {BX : String → SX → State → Prop} {AX : Nat → Prop} (hr : vx_Run p l e R s m args below meth c H locs cells slots mc ms (F0 m pc ls st0) rest (va_Qi post B A1 a) (vx_X px BX AX) free) (hS : va_S A0 H0 H locs) (hA : ∀ q, q < H.size → A1 q → A0 q) (hf : ∀ q, free q → A0 q) (hAX : ∀ q, q < H.size → AX q → A0 q)
    (kx : ∀ (E : String) (ce : Cell) (q9 : Addr) (u : SX) (t : State) (H1 : Heap) (locs1 : List Loc), t.heap = H1 → s.vm.Alike t.vm → px u → BX E u t → H.size ≤ H1.size → (∀ q : Nat, q < H.size → ¬ AX q → H1[q]? = H[q]?) → va_S A0 H0 H1 locs1 → H1[q9]? = some ce → ce.vm = .none → s.vm.findClass E = some ce.cls → vx_W p l e R s m args below meth c H1 locs1 (cells + mc) (slots + ms) Q (F0 m pc ls rest) q9)
    (kk : ∀ (r : Int32) (u : S) (t : State) (H1 : Heap) (locs1 : List Loc), t.heap = H1 → s.vm.Alike t.vm → post r u → B u t → H.size ≤ H1.size → (∀ q : Nat, q < H.size → ¬ A1 q → H1[q]? = H[q]?) → va_S A0 H0 H1 locs1 → W p l e R s m args below meth c H1 locs1 (cells + mc) (slots + ms) Q (F0 m (pc + 3) ls (.int r :: rest))) : W p l e R s m args below meth c H locs cells slots Q (F0 m pc ls st0) := by
  intro T hT X
  rcases hr T hT X with ⟨v, st₀, t, T', L, h0, X', hL, e1, e2, ⟨⟨r, u, hv, hp, hb⟩, hF⟩, st⟩ | ⟨q, st₀, t, T', L, E, ce, h0, X', hL, e1, e2, ⟨u, hp, hb, hF⟩, hce, hcv, hcl, st⟩
  · cases hv
    obtain ⟨k1, k2, k3⟩ := vx_keep h0 e1 hS hA hf hL hF
    obtain ⟨t2, a1, b1⟩ := kk r u t T'.heap (locs ++ L) e1.symm (by rw [← e2]; exact X'.warmed.alike) hp hb k1 k2 k3 T' rfl X'
    exact ⟨t2, st t2 a1, b1⟩
  · obtain ⟨k1, k2, k3⟩ := vx_keep h0 e1 hS hAX hf hL hF
    obtain ⟨t2, a1, b1⟩ := kx E ce q u t T'.heap (locs ++ L) e1.symm (by rw [← e2]; exact X'.warmed.alike) hp hb k1 k2 k3 (by rw [e1]; exact hce) hcv hcl T' rfl X'
    exact ⟨t2, st.trans a1, b1⟩
theorem vx_calll {S SX : Type} {post : Int64 → S → Prop} {px : SX → Prop} {B : S → State → Prop} {BX : String → SX → State → Prop} {AX : Nat → Prop} (hr : vx_Run p l e R s m args below meth c H locs cells slots mc ms (F0 m pc ls st0) rest (va_Ql post B A1 a) (vx_X px BX AX) free) (hS : va_S A0 H0 H locs) (hA : ∀ q, q < H.size → A1 q → A0 q) (hf : ∀ q, free q → A0 q) (hAX : ∀ q, q < H.size → AX q → A0 q)
    (kx : ∀ (E : String) (ce : Cell) (q9 : Addr) (u : SX) (t : State) (H1 : Heap) (locs1 : List Loc), t.heap = H1 → s.vm.Alike t.vm → px u → BX E u t → H.size ≤ H1.size → (∀ q : Nat, q < H.size → ¬ AX q → H1[q]? = H[q]?) → va_S A0 H0 H1 locs1 → H1[q9]? = some ce → ce.vm = .none → s.vm.findClass E = some ce.cls → vx_W p l e R s m args below meth c H1 locs1 (cells + mc) (slots + ms) Q (F0 m pc ls rest) q9)
    (kk : ∀ (r : Int64) (u : S) (t : State) (H1 : Heap) (locs1 : List Loc), t.heap = H1 → s.vm.Alike t.vm → post r u → B u t → H.size ≤ H1.size → (∀ q : Nat, q < H.size → ¬ A1 q → H1[q]? = H[q]?) → va_S A0 H0 H1 locs1 → W p l e R s m args below meth c H1 locs1 (cells + mc) (slots + ms) Q (F0 m (pc + 3) ls (.long r :: rest))) : W p l e R s m args below meth c H locs cells slots Q (F0 m pc ls st0) := by
  intro T hT X
  rcases hr T hT X with ⟨v, st₀, t, T', L, h0, X', hL, e1, e2, ⟨⟨r, u, hv, hp, hb⟩, hF⟩, st⟩ | ⟨q, st₀, t, T', L, E, ce, h0, X', hL, e1, e2, ⟨u, hp, hb, hF⟩, hce, hcv, hcl, st⟩
  · cases hv
    obtain ⟨k1, k2, k3⟩ := vx_keep h0 e1 hS hA hf hL hF
    obtain ⟨t2, a1, b1⟩ := kk r u t T'.heap (locs ++ L) e1.symm (by rw [← e2]; exact X'.warmed.alike) hp hb k1 k2 k3 T' rfl X'
    exact ⟨t2, st t2 a1, b1⟩
  · obtain ⟨k1, k2, k3⟩ := vx_keep h0 e1 hS hAX hf hL hF
    obtain ⟨t2, a1, b1⟩ := kx E ce q u t T'.heap (locs ++ L) e1.symm (by rw [← e2]; exact X'.warmed.alike) hp hb k1 k2 k3 (by rw [e1]; exact hce) hcv hcl T' rfl X'
    exact ⟨t2, st.trans a1, b1⟩
theorem vx_callf {S SX : Type} {post : UInt32 → S → Prop} {px : SX → Prop} {B : S → State → Prop} {BX : String → SX → State → Prop} {AX : Nat → Prop} (hr : vx_Run p l e R s m args below meth c H locs cells slots mc ms (F0 m pc ls st0) rest (va_Qf post B A1 a) (vx_X px BX AX) free) (hS : va_S A0 H0 H locs) (hA : ∀ q, q < H.size → A1 q → A0 q) (hf : ∀ q, free q → A0 q) (hAX : ∀ q, q < H.size → AX q → A0 q)
    (kx : ∀ (E : String) (ce : Cell) (q9 : Addr) (u : SX) (t : State) (H1 : Heap) (locs1 : List Loc), t.heap = H1 → s.vm.Alike t.vm → px u → BX E u t → H.size ≤ H1.size → (∀ q : Nat, q < H.size → ¬ AX q → H1[q]? = H[q]?) → va_S A0 H0 H1 locs1 → H1[q9]? = some ce → ce.vm = .none → s.vm.findClass E = some ce.cls → vx_W p l e R s m args below meth c H1 locs1 (cells + mc) (slots + ms) Q (F0 m pc ls rest) q9)
    (kk : ∀ (r : UInt32) (u : S) (t : State) (H1 : Heap) (locs1 : List Loc), t.heap = H1 → s.vm.Alike t.vm → post r u → B u t → H.size ≤ H1.size → (∀ q : Nat, q < H.size → ¬ A1 q → H1[q]? = H[q]?) → va_S A0 H0 H1 locs1 → W p l e R s m args below meth c H1 locs1 (cells + mc) (slots + ms) Q (F0 m (pc + 3) ls (.float r :: rest))) : W p l e R s m args below meth c H locs cells slots Q (F0 m pc ls st0) := by
  intro T hT X
  rcases hr T hT X with ⟨v, st₀, t, T', L, h0, X', hL, e1, e2, ⟨⟨r, u, hv, hp, hb⟩, hF⟩, st⟩ | ⟨q, st₀, t, T', L, E, ce, h0, X', hL, e1, e2, ⟨u, hp, hb, hF⟩, hce, hcv, hcl, st⟩
  · cases hv
    obtain ⟨k1, k2, k3⟩ := vx_keep h0 e1 hS hA hf hL hF
    obtain ⟨t2, a1, b1⟩ := kk r u t T'.heap (locs ++ L) e1.symm (by rw [← e2]; exact X'.warmed.alike) hp hb k1 k2 k3 T' rfl X'
    exact ⟨t2, st t2 a1, b1⟩
  · obtain ⟨k1, k2, k3⟩ := vx_keep h0 e1 hS hAX hf hL hF
    obtain ⟨t2, a1, b1⟩ := kx E ce q u t T'.heap (locs ++ L) e1.symm (by rw [← e2]; exact X'.warmed.alike) hp hb k1 k2 k3 (by rw [e1]; exact hce) hcv hcl T' rfl X'
    exact ⟨t2, st.trans a1, b1⟩
theorem vx_calld {S SX : Type} {post : UInt64 → S → Prop} {px : SX → Prop} {B : S → State → Prop} {BX : String → SX → State → Prop} {AX : Nat → Prop} (hr : vx_Run p l e R s m args below meth c H locs cells slots mc ms (F0 m pc ls st0) rest (va_Qd post B A1 a) (vx_X px BX AX) free) (hS : va_S A0 H0 H locs) (hA : ∀ q, q < H.size → A1 q → A0 q) (hf : ∀ q, free q → A0 q) (hAX : ∀ q, q < H.size → AX q → A0 q)
    (kx : ∀ (E : String) (ce : Cell) (q9 : Addr) (u : SX) (t : State) (H1 : Heap) (locs1 : List Loc), t.heap = H1 → s.vm.Alike t.vm → px u → BX E u t → H.size ≤ H1.size → (∀ q : Nat, q < H.size → ¬ AX q → H1[q]? = H[q]?) → va_S A0 H0 H1 locs1 → H1[q9]? = some ce → ce.vm = .none → s.vm.findClass E = some ce.cls → vx_W p l e R s m args below meth c H1 locs1 (cells + mc) (slots + ms) Q (F0 m pc ls rest) q9)
    (kk : ∀ (r : UInt64) (u : S) (t : State) (H1 : Heap) (locs1 : List Loc), t.heap = H1 → s.vm.Alike t.vm → post r u → B u t → H.size ≤ H1.size → (∀ q : Nat, q < H.size → ¬ A1 q → H1[q]? = H[q]?) → va_S A0 H0 H1 locs1 → W p l e R s m args below meth c H1 locs1 (cells + mc) (slots + ms) Q (F0 m (pc + 3) ls (.double r :: rest))) : W p l e R s m args below meth c H locs cells slots Q (F0 m pc ls st0) := by
  intro T hT X
  rcases hr T hT X with ⟨v, st₀, t, T', L, h0, X', hL, e1, e2, ⟨⟨r, u, hv, hp, hb⟩, hF⟩, st⟩ | ⟨q, st₀, t, T', L, E, ce, h0, X', hL, e1, e2, ⟨u, hp, hb, hF⟩, hce, hcv, hcl, st⟩
  · cases hv
    obtain ⟨k1, k2, k3⟩ := vx_keep h0 e1 hS hA hf hL hF
    obtain ⟨t2, a1, b1⟩ := kk r u t T'.heap (locs ++ L) e1.symm (by rw [← e2]; exact X'.warmed.alike) hp hb k1 k2 k3 T' rfl X'
    exact ⟨t2, st t2 a1, b1⟩
  · obtain ⟨k1, k2, k3⟩ := vx_keep h0 e1 hS hAX hf hL hF
    obtain ⟨t2, a1, b1⟩ := kx E ce q u t T'.heap (locs ++ L) e1.symm (by rw [← e2]; exact X'.warmed.alike) hp hb k1 k2 k3 (by rw [e1]; exact hce) hcv hcl T' rfl X'
    exact ⟨t2, st.trans a1, b1⟩
theorem vx_callv {S SX : Type} {post : S → Prop} {px : SX → Prop} {B : S → State → Prop} {BX : String → SX → State → Prop} {AX : Nat → Prop} (hr : vx_Run p l e R s m args below meth c H locs cells slots mc ms (F0 m pc ls st0) rest (va_Qv post B A1 a) (vx_X px BX AX) free) (hS : va_S A0 H0 H locs) (hA : ∀ q, q < H.size → A1 q → A0 q) (hf : ∀ q, free q → A0 q) (hAX : ∀ q, q < H.size → AX q → A0 q)
    (kx : ∀ (E : String) (ce : Cell) (q9 : Addr) (u : SX) (t : State) (H1 : Heap) (locs1 : List Loc), t.heap = H1 → s.vm.Alike t.vm → px u → BX E u t → H.size ≤ H1.size → (∀ q : Nat, q < H.size → ¬ AX q → H1[q]? = H[q]?) → va_S A0 H0 H1 locs1 → H1[q9]? = some ce → ce.vm = .none → s.vm.findClass E = some ce.cls → vx_W p l e R s m args below meth c H1 locs1 (cells + mc) (slots + ms) Q (F0 m pc ls rest) q9)
    (kk : ∀ (u : S) (t : State) (H1 : Heap) (locs1 : List Loc), t.heap = H1 → s.vm.Alike t.vm → post u → B u t → H.size ≤ H1.size → (∀ q : Nat, q < H.size → ¬ A1 q → H1[q]? = H[q]?) → va_S A0 H0 H1 locs1 → W p l e R s m args below meth c H1 locs1 (cells + mc) (slots + ms) Q (F0 m (pc + 3) ls (rest))) : W p l e R s m args below meth c H locs cells slots Q (F0 m pc ls st0) := by
  intro T hT X
  rcases hr T hT X with ⟨v, st₀, t, T', L, h0, X', hL, e1, e2, ⟨⟨u, hv, hp, hb⟩, hF⟩, st⟩ | ⟨q, st₀, t, T', L, E, ce, h0, X', hL, e1, e2, ⟨u, hp, hb, hF⟩, hce, hcv, hcl, st⟩
  · cases hv
    obtain ⟨k1, k2, k3⟩ := vx_keep h0 e1 hS hA hf hL hF
    obtain ⟨t2, a1, b1⟩ := kk u t T'.heap (locs ++ L) e1.symm (by rw [← e2]; exact X'.warmed.alike) hp hb k1 k2 k3 T' rfl X'
    exact ⟨t2, st t2 a1, b1⟩
  · obtain ⟨k1, k2, k3⟩ := vx_keep h0 e1 hS hAX hf hL hF
    obtain ⟨t2, a1, b1⟩ := kx E ce q u t T'.heap (locs ++ L) e1.symm (by rw [← e2]; exact X'.warmed.alike) hp hb k1 k2 k3 (by rw [e1]; exact hce) hcv hcl T' rfl X'
    exact ⟨t2, st.trans a1, b1⟩
/-- caught by the row x of this method's table; the rows ahead don't take it -/
theorem vx_catch {own name : String} {E : String} {ce : Cell} {q : Addr} (hown : s.vm.findClass own = some m.cls) (pre : List ExceptionTableEntry) (x : ExceptionTableEntry) (suf : List ExceptionTableEntry) (hsplit : c.exceptionTable.toList = pre ++ x :: suf)
    (hpass : ∀ z ∈ pre, covers z pc = false ∨ (z.catchType ≠ 0 ∧ ∃ nm : String, (Cond.classLink own z.catchType nm).before args s = true ∧ va_Nc E nm s)) (hx : covers x pc = true) (h0 : x.catchType ≠ 0)
    (hlink : (Cond.classLink own x.catchType name).before args s = true) (hcast : (Cond.castable E name).before args s = true) (hcell : H[q]? = some ce) (hv : ce.vm = .none) (hcl : s.vm.findClass E = some ce.cls)
    (kk : W p l e R s m args below meth c H locs cells slots Q (F0 m x.handlerPc ls [.ref q])) : vx_W p l e R s m args below meth c H locs cells slots Q (F0 m pc ls rest) q := by
  intro T hT X
  have hpl : e.platform.magicAccessors = ({} : Platform).magicAccessors := by rw [X.admits.platform]
  obtain ⟨c3, c4, hc3, hc4, hasg⟩ := Cond.castable_spec hcast
  cases Option.some.inj (hc3.symm.trans hcl)
  obtain ⟨c5, hc5, hcl5⟩ := Cond.classLink_spec hown hlink e.platform hpl
  cases Option.some.inj (hc4.symm.trans hc5)
  obtain ⟨vm', X', st⟩ := X.thenCaughtThrough q (g := F0 m pc ls rest) rfl (Steps.refl _) (by rw [hT]; exact hcell) (by rw [hv]; rfl) (by obtain ⟨k9, h9, -⟩ := Vm.findClass_spec hcl; exact ⟨k9, h9⟩) pre x suf hsplit
    (fun z hz => by
      rcases hpass z hz with h | ⟨hz0, nm, hl1, hn1⟩
      · exact Or.inl h
      · obtain ⟨c6, hc6, hcl6⟩ := Cond.classLink_spec hown hl1 e.platform hpl
        obtain ⟨a8, b8, h1, h2, h3⟩ := hn1
        cases Option.some.inj (h1.symm.trans hcl)
        cases Option.some.inj (h2.symm.trans hc6)
        exact Or.inr ⟨hz0, _, hcl6, h3⟩) hx (Or.inr ⟨h0, c4, hcl5, hasg⟩)
  obtain ⟨t, a1, b1⟩ := kk (T.setVm vm') hT X'
  exact ⟨t, st.trans a1, b1⟩
end Rows
section Ends
variable {p : Program} {l : Launch} {e : Env} {R : Room} {s : State} {m : MethodId} {args : Array Value} {below : List Frame} {meth : Method} {c : Code} {H : Heap} {locs : List Loc} {cells slots : Nat} {Q : State → Prop}
variable {mc ms : Nat} {free : Addr → Prop} {A0 A1 : Nat → Prop} {H0 : Heap} {a : Array Value} {ls : Array Slot} {st0 rest : List Value}
variable {Qc : Array Value → State → Outcome → State → Prop} {XC : String → State → State → Prop}
/-- what a body that may throw owes at its end -/
def vx_MQ (below : List Frame) (Qc : Array Value → State → Outcome → State → Prop) (XC : String → State → State → Prop) (a : Array Value) (s : State) (mc ms : Nat) (free : Addr → Prop) : State → Prop := fun t =>
  ∃ o, t.status = .running ∧ Ended t below o ∧ vx_Q Qc XC mc ms free a s o t
theorem vx_ret {g : JFrame} {mc ms : Nat} (k : W p l e R s m args below meth c H locs cells slots (MQ below Qc args s mc ms free) g) : W p l e R s m args below meth c H locs cells slots (vx_MQ below Qc XC args s mc ms free) g := by
  intro T hT X
  obtain ⟨t, a1, o, b1, b2, b3, b4⟩ := k T hT X
  exact ⟨t, a1, o, b1, b2, Or.inl ⟨b3, b4⟩⟩
/-- not caught here: it goes on to the caller -/
theorem vx_widen {g : JFrame} {q : Addr} {k n : Nat} (h1 : cells ≤ k) (h2 : slots ≤ n) (kk : vx_W p l e R s m args below meth c H locs k n Q g q) : vx_W p l e R s m args below meth c H locs cells slots Q g q := fun T hT X => kk T hT (stand_widen X h1 h2)
theorem vx_out {pc : Nat} {E : String} {ce : Cell} {q : Addr} {mc ms : Nat} (hout : ∀ x ∈ c.exceptionTable.toList, covers x pc = false) (hlocks : meth.locks = false) (hcell : H[q]? = some ce) (hv : ce.vm = .none) (hcl : s.vm.findClass E = some ce.cls)
    (hx : ∀ t : State, t.heap = H → s.vm.Alike t.vm → XC E s t) (hf : ∀ z ∈ locs, free z.base) (hc : cells ≤ mc) (hs : slots ≤ ms) :
    vx_W p l e R s m args below meth c H locs cells slots (vx_MQ below Qc XC args s mc ms free) (F0 m pc ls rest) q := by
  intro T hT X
  obtain ⟨st1, hrun, hend, hW, hsm⟩ := X.leaveThrown q (g := F0 m pc ls rest) rfl rfl rfl hout hlocks
  have hcell9 : (T.setFrames (.throwing q :: below)).heap[q]? = some ce := by
    show T.heap[q]? = some ce
    rw [hT]; exact hcell
  exact ⟨_, st1, .threw q, hrun, hend, Or.inr ⟨q, rfl, E, ce, locs, hx _ hT hW.alike, hcell9, hv, hcl, hW, hsm.mono hc hs, hf⟩⟩
theorem vx_frame {U : State} {k n : Nat} (h : s.sameButNew ({ U with vm := s.vm } : State) locs k n) : s.heap.size ≤ U.heap.size ∧ ∀ q : Nat, q < s.heap.size → (∀ z ∈ locs, z.base ≠ q) → U.heap[q]? = s.heap[q]? := by
  obtain ⟨-, h2, -, -, -, h6⟩ := h
  refine ⟨h2, fun q hq hz => ?_⟩
  obtain ⟨c9, e1, e2, e3, e4⟩ := h6 q _ (Array.getElem?_eq_getElem hq)
  have hs : c9.slots = (s.heap[q]).slots := Array.ext_getElem? fun i => e4 i fun hm => hz _ hm rfl
  have h9 : c9 = s.heap[q] := by
    rw [hs] at e2
    exact e2
  have e5 : U.heap[q]? = some c9 := e1
  rw [e5, h9, Array.getElem?_eq_getElem hq]
/-- the words of a throw but the four that speak of the heap -/
def vx_no (w : Cond) : Bool := decide (w ≠ .isRef (.static Bundle.tN "UNASSIGNED_STACK" Bundle.steD)) && decide (w ≠ .isRef (.static Bundle.tN "SUPPRESSED_SENTINEL" Bundle.listD)) && decide (w ≠ .laysStatic Bundle.tN "UNASSIGNED_STACK" Bundle.steD) && decide (w ≠ .laysStatic Bundle.tN "SUPPRESSED_SENTINEL" Bundle.listD)
def vx_at0 (own : String) (ic : Nat) (X : String) (names : List String) : List Cond := (Bundle.ownAtoms0 own ic X names).filter vx_no
def vx_atS (own : String) (ic : Nat) (X : String) (names : List String) : List Cond := (Bundle.ownAtoms own ic X names).filter vx_no
/-- a word that the tables alone decide, or a good one -/
def vx_ot (w : Cond) : Bool := w.onTables || goodWord w
theorem vx_ot_at {args a' : Array Value} {s U : State} {w : Cond} (hW : s.WarmedH U.vm) (hvm : s.vm = U.vm) (hg : vx_ot w = true) (h : w.before args s = true) : w.before a' U = true := by
  simp only [vx_ot, Bool.or_eq_true] at hg
  rcases hg with hg | hg
  · exact va_tabs hg hvm h
  · exact word_at hW (good_of_word hg) h
/-- a list's words: the good ones out of the method's own list, the others by premises of their own -/
theorem vx_hat {args : Array Value} {s : State} {L B : List Cond} (h1 : ∀ w ∈ L.filter goodWord, w.before args s = true) (h2 : ∀ w ∈ L.filter (fun w => !goodWord w), w ∈ B) (h3 : ∀ w ∈ B, w.before args s = true) : ∀ w ∈ L, w.before args s = true := by
  intro w hw
  by_cases g : goodWord w = true
  · exact h1 w (List.mem_filter.mpr ⟨hw, g⟩)
  · refine h3 w (h2 w (List.mem_filter.mpr ⟨hw, ?_⟩))
    show (!goodWord w) = true
    cases hgw : goodWord w
    · rfl
    · exact absurd hgw g
theorem vx_c {args : Array Value} {s : State} {w : Cond} {B : List Cond} (h : w.before args s = true) (t : ∀ w ∈ B, w.before args s = true) : ∀ w' ∈ w :: B, w'.before args s = true := fun w' h' => (List.mem_cons.mp h').elim (fun e => by rw [e]; exact h) (t w')
theorem vx_n {args : Array Value} {s : State} : ∀ w ∈ ([] : List Cond), w.before args s = true := fun _ h => nomatch h
theorem vx_own {args : Array Value} {s : State} {L : List Cond} (h1 : ∀ w ∈ L.filter vx_no, w.before args s = true)
    (hU : (Cond.isRef (.static Bundle.tN "UNASSIGNED_STACK" Bundle.steD)).before args s = true) (hN : (Cond.isRef (.static Bundle.tN "SUPPRESSED_SENTINEL" Bundle.listD)).before args s = true)
    (lU : (Cond.laysStatic Bundle.tN "UNASSIGNED_STACK" Bundle.steD).before args s = true) (lN : (Cond.laysStatic Bundle.tN "SUPPRESSED_SENTINEL" Bundle.listD).before args s = true) : ∀ w ∈ L, w.before args s = true := by
  intro w hw
  by_cases e1 : w = .isRef (.static Bundle.tN "UNASSIGNED_STACK" Bundle.steD)
  · rw [e1]; exact hU
  · by_cases e2 : w = .isRef (.static Bundle.tN "SUPPRESSED_SENTINEL" Bundle.listD)
    · rw [e2]; exact hN
    · by_cases e3 : w = .laysStatic Bundle.tN "UNASSIGNED_STACK" Bundle.steD
      · rw [e3]; exact lU
      · by_cases e4 : w = .laysStatic Bundle.tN "SUPPRESSED_SENTINEL" Bundle.listD
        · rw [e4]; exact lN
        · exact h1 w (List.mem_filter.mpr ⟨hw, by unfold vx_no; rw [decide_eq_true e1, decide_eq_true e2, decide_eq_true e3, decide_eq_true e4]; rfl⟩)
/-- where a static field lies, its class's statics cell in H -/
def vx_L (C n d : String) (A : Nat → Prop) (U : State) (H : Heap) : Prop := ∃ (c : ClassId) (k : Class) (i : Nat) (f : Field) (a : Nat) (cell : Cell), U.vm.findClass C = some c ∧ U.fieldFound? C n d = some (c, k, i, f) ∧ f.isStatic = true ∧ k.statics = some a ∧ H[a]? = some cell ∧ cell.vm.isStatics = true ∧ cell.cls = c ∧ f.slot < cell.slots.size ∧ k.staticTypes[f.slot]? = some f.type ∧ ¬ A a
theorem vx_L.moved {C n d : String} {A : Nat → Prop} {u U : State} {H : Heap} (hvm : u.vm.Alike U.vm) (h : vx_L C n d A u H) : vx_L C n d A U H := by
  obtain ⟨c, k, i, f, a, cell, h1, h2, h3, h4, h5, h6, h7, h8, h9, h10⟩ := h
  obtain ⟨k', hi', he⟩ := State.fieldFound?_setVm hvm h2
  exact ⟨c, k', i, f, a, cell, by rw [hvm.findClass]; exact h1, hi', h3, by rw [he]; exact h4, h5, h6, h7, h8, by rw [he]; exact h9, h10⟩
theorem vx_L.kept {C n d : String} {A : Nat → Prop} {U : State} {H H1 : Heap} (h : vx_L C n d A U H) (hq : ∀ a : Nat, a < H.size → ¬ A a → H1[a]? = H[a]?) : vx_L C n d A U H1 := by
  obtain ⟨c, k, i, f, a, cell, h1, h2, h3, h4, h5, h6, h7, h8, h9, h10⟩ := h
  exact ⟨c, k, i, f, a, cell, h1, h2, h3, h4, by rw [hq a (Array.getElem?_eq_some_iff.mp h5).1 h10]; exact h5, h6, h7, h8, h9, h10⟩
theorem vx_L.narrow {C n d : String} {A B : Nat → Prop} {U : State} {H : Heap} (h : vx_L C n d A U H) (hAB : ∀ q, B q → A q) : vx_L C n d B U H := by
  obtain ⟨c, k, i, f, a, cell, h1, h2, h3, h4, h5, h6, h7, h8, h9, h10⟩ := h
  exact ⟨c, k, i, f, a, cell, h1, h2, h3, h4, h5, h6, h7, h8, h9, fun z => h10 (hAB _ z)⟩
theorem vx_L.word {C n d : String} {A : Nat → Prop} {s : State} {args : Array Value} (h : vx_L C n d A s s.heap) : (Cond.laysStatic C n d).before args s = true := by
  obtain ⟨c, k, i, f, a, cell, h1, h2, h3, h4, h5, h6, h7, h8, h9, -⟩ := h
  show (Cond.laysStatic C n d).holds args s none s [] = true
  exact Cond.laysStatic_of h1 h2 h3 h4 h5 h6 h7 h8 h9
/-- .. and what it holds: null or some reference -/
def vx_Zq (C n d : String) (A : Nat → Prop) (U : State) (H : Heap) : Prop := va_Zq C n d A U H ∧ vx_L C n d A U H
theorem vx_Zq.moved {C n d : String} {A : Nat → Prop} {u U : State} {H : Heap} (hvm : u.vm.Alike U.vm) (h : vx_Zq C n d A u H) : vx_Zq C n d A U H := ⟨va_Zq.moved hvm h.1, vx_L.moved hvm h.2⟩
theorem vx_Zq.kept {C n d : String} {A : Nat → Prop} {U : State} {H H1 : Heap} (h : vx_Zq C n d A U H) (hq : ∀ a : Nat, a < H.size → ¬ A a → H1[a]? = H[a]?) : vx_Zq C n d A U H1 := ⟨va_Zq.kept h.1 hq, vx_L.kept h.2 hq⟩
theorem vx_Zq.narrow {C n d : String} {A B : Nat → Prop} {U : State} {H : Heap} (h : vx_Zq C n d A U H) (hAB : ∀ q, B q → A q) : vx_Zq C n d B U H := ⟨va_Zq.narrow h.1 hAB, vx_L.narrow h.2 hAB⟩
theorem vx_Zqof {args : Array Value} {s : State} {C n d : String} {A : Nat → Prop} (hl : (Cond.laysStatic C n d).before args s = true) (hini : (Cond.initialized C).before args s = true) (h : (Cond.isRef (.static C n d)).before args s = true) (hA : ∀ a : Nat, a < s.heap.size → ¬ A a) : vx_Zq C n d A s s.heap := by
  refine ⟨va_Zqof hl hini h hA, ?_⟩
  obtain ⟨c, k, i, f, a, cell, h1, h2, h3, h4, h5, h6, h7, h8, h9⟩ := Cond.laysStatic_spec hl
  exact ⟨c, k, i, f, a, cell, h1, h2, h3, h4, h5, h6, h7, h8, h9, hA a (Array.getElem?_eq_some_iff.mp h5).1⟩
theorem vx_isRef {C n d : String} {v : Value} {A : Nat → Prop} {s : State} {args : Array Value} (h : va_Z C n d v A s s.heap) (hv : v.isRef = true) : (Cond.isRef (.static C n d)).before args s = true := by
  obtain ⟨cf, kf, fi, f, a, cell, h1, h2, h3, h4, h5, h6, h7, -⟩ := h
  have he : (Term.static C n d).eval args s none [] s = some v := by
    simp [Term.eval, State.fieldNamed?, h1, h2, h4, h5, h6, h7]
  simp only [Cond.before, Cond.holds, Cond.value, he]
  cases v <;> simp_all [Value.isRef]
theorem vx_isRefq {C n d : String} {A : Nat → Prop} {s : State} {args : Array Value} (h : va_Zq C n d A s s.heap) : (Cond.isRef (.static C n d)).before args s = true := by
  rcases h with h | ⟨t, h⟩
  · exact vx_isRef h rfl
  · exact vx_isRef h rfl
/-- the same frame, seen from here: as if the method were called anew in this heap -/
theorem vx_rebase {T : State} (X : Stand p l e R s m args below meth c T locs cells slots) {R' : Room} (hf : R'.frames ≤ R.frames) (hl : R'.locals ≤ R.locals) (hc : cells + R'.cells ≤ R.cells) (hs : slots + R'.slots ≤ R.slots) :
    Stand p l e R' ((T.setVm s.vm).setFrames (.invoking m args :: below)) m args below meth c T [] 0 0 := by
  have htop : (T.setVm s.vm).topJava?.isSome := X.here.top
  have hF : ((T.setVm s.vm).setFrames (.invoking m args :: below)).frames = .invoking m args :: below := State.frames_setFrames _ (State.cur_lt_of_top htop)
  obtain ⟨g₀, hg0⟩ := Option.isSome_iff_exists.mp htop
  obtain ⟨r, hr⟩ := State.topJava?_eq_some.mp hg0
  have hl9 : e.platform.stackLimits (T.setVm s.vm).me = e.platform.stackLimits s.me := X.limits
  have hb9 : (T.setVm s.vm).me.stackBytes = s.me.stackBytes := X.bytes
  refine ⟨X.admits, X.cas, X.clock, hF, ?_, X.hears, X.method, X.code, X.here, X.tail, X.warmed, ?_, ?_, ?_⟩
  · have h := X.room
    have hU : ((T.setVm s.vm).setFrames (.invoking m args :: below)).localsInUse = s.localsInUse := by
      rw [State.localsInUse_invoking hF (meth := meth) (c := c) X.method X.code, State.localsInUse_invoking X.frames X.method X.code]
    simp only [State.hasRoom, Bool.and_eq_true, decide_eq_true_eq] at h ⊢
    obtain ⟨⟨⟨⟨h1, h2, h3, h4, h5, h6⟩, h7⟩, h8⟩, h9⟩ := h
    rw [X.frames, List.length_cons] at h2 h3
    have q1 := X.heapSize
    have q2 := X.used
    simp only [hF, hU, List.length_cons, State.stackLimits_setFrames, State.stackBytes_setFrames, hl9, hb9]
    refine ⟨⟨⟨⟨by omega, by omega, by omega, by omega, by omega, h6⟩, ?_⟩, ?_⟩, X.book⟩
    · show T.heap.size + R'.cells ≤ e.platform.maxCells
      omega
    · show T.slotsUsed + R'.slots ≤ e.platform.maxSlots
      omega
  · rw [State.stackLimits_setFrames]; rfl
  · rw [State.stackBytes_setFrames]; rfl
  · refine ⟨?_, Nat.le_refl _, Nat.le_refl _, ?_, ?_, fun a c9 h9 => ⟨c9, h9, rfl, rfl, fun _ _ => rfl⟩⟩
    · obtain ⟨t, ht, -⟩ := State.frames_cons hr
      show T.setVm s.vm = { ((T.setVm s.vm).setFrames (.invoking m args :: below)).setFrames (T.setVm s.vm).frames with heap := T.heap, slotsUsed := T.slotsUsed }
      rw [State.setFrames_setFrames, State.setFrames_self ht]
      rfl
    · show T.slotsUsed = T.slotsUsed + ((T.heap.toList.drop T.heap.size).map (·.slots.size)).sum
      rw [List.drop_eq_nil_of_le (Nat.le_of_eq Array.length_toList)]
      rfl
    · show ((T.heap.toList.drop T.heap.size).map (·.slots.size)).sum ≤ 0
      rw [List.drop_eq_nil_of_le (Nat.le_of_eq Array.length_toList)]
      exact Nat.le_refl _
/-- 'throw new E()': new; dup; invokespecial; athrow -/
theorem vx_throw0 {cc : ByteArray} {pc : Nat} (hexec : p.tables.exec = Jvm.exec) (hb : c.code = cc) (hl : l.stackTraces = false) {own cls : String} {names : List String} {ik ic mc ms : Nat} {A : Nat → Prop}
    (hown : s.vm.findClass own = some m.cls) (hcls : Bundle.fit cls = true) (hnames : ∀ n ∈ names, Bundle.fit n = true)
    (hk : (Cond.classLink own ik cls).before args s = true) (hini : (Cond.initialized cls).before args s = true) (hat : ∀ w ∈ vx_at0 own ic cls names, w.before args s = true)
    (hgood : ∀ w ∈ Cond.classLink own ik cls :: Cond.initialized cls :: vx_at0 own ic cls names, vx_ot w = true)
    (hU : vx_Zq Bundle.tN "UNASSIGNED_STACK" Bundle.steD A s s.heap) (hN : vx_Zq Bundle.tN "SUPPRESSED_SENTINEL" Bundle.listD A s s.heap) (hS : va_S A s.heap H locs) (hsize : ls.size = c.maxLocals)
    (d0 : decode cc pc = .ok (.new ik, 3)) (d3 : decode cc (pc + 3) = .ok (.dup, 1)) (d4 : decode cc (pc + 4) = .ok (.invokespecial ic, 3)) (d7 : decode cc (pc + 7) = .ok (.athrow, 1))
    (hout : ∀ x ∈ c.exceptionTable.toList, covers x (pc + 7) = false)
    (hRframes : names.length + 3 < R.frames) (hRlocals : (rest.map fun v => v.category).sum + (13 * (names.length + 1) + 42) ≤ R.locals) (hRcells : cells + 1 ≤ R.cells) (hRslots : slots + 6 ≤ R.slots) (hlocks : meth.locks = false)
    (hx : ∀ t : State, s.vm.Alike t.vm → H.size ≤ t.heap.size → (∀ q : Nat, q < H.size → t.heap[q]? = H[q]?) → XC cls s t)
    (hf : ∀ z ∈ locs, free z.base) (hc : cells + 1 ≤ mc) (hs : slots + 6 ≤ ms) :
    W p l e R s m args below meth c H locs cells slots (vx_MQ below Qc XC args s mc ms free) (F0 m pc ls rest) := by
  intro T hT X
  have htr : e.platform.stackTraces = false := (show e.platform.stackTraces = l.stackTraces by rw [X.admits.platform]).trans hl
  have Y := vx_rebase X (R' := { frames := R.frames, locals := R.locals, cells := 1, slots := 6 }) (Nat.le_refl _) (Nat.le_refl _) hRcells hRslots
  obtain ⟨s', hA⟩ : ∃ z, z = (T.setVm s.vm).setFrames (.invoking m args :: below) := ⟨_, rfl⟩
  rw [← hA] at Y
  have hvm : s'.vm = s.vm := by rw [hA]; rfl
  have hhp : s'.heap = H := by rw [hA]; exact hT
  have hW0 : s.WarmedH s'.vm := by rw [hvm]; exact State.WarmedH.refl s
  have hat' : ∀ w ∈ vx_at0 own ic cls names, w.before args s' = true := fun w hw => vx_ot_at hW0 hvm.symm (hgood w (List.mem_cons_of_mem _ (List.mem_cons_of_mem _ hw))) (hat w hw)
  have hk' : (Cond.classLink own ik cls).before args s' = true := vx_ot_at hW0 hvm.symm (hgood _ List.mem_cons_self) hk
  have hini' : (Cond.initialized cls).before args s' = true := vx_ot_at hW0 hvm.symm (hgood _ (List.mem_cons_of_mem _ List.mem_cons_self)) hini
  have hU' : vx_Zq Bundle.tN "UNASSIGNED_STACK" Bundle.steD A s' s'.heap := by rw [hhp]; exact vx_Zq.moved hW0.alike (hU.kept hS.2.1)
  have hN' : vx_Zq Bundle.tN "SUPPRESSED_SENTINEL" Bundle.listD A s' s'.heap := by rw [hhp]; exact vx_Zq.moved hW0.alike (hN.kept hS.2.1)
  have h : ∀ w ∈ Bundle.ownAtoms0 own ic cls names, w.before args s' = true := vx_own hat' (vx_isRefq hU'.1) (vx_isRefq hN'.1) hU'.2.word hN'.2.word
  have hown' : s'.vm.findClass own = some m.cls := by rw [hvm]; exact hown
  have hins : (Cond.instantiable cls 6).before args s' = true := h _ (by simp [Bundle.ownAtoms0])
  obtain ⟨vm₁, cX, kX, hfX, hkX, -, -, X₁, st1⟩ := Y.newCold hexec (own := own) (C := cls) (index := ik) (n := 6) hown' hk' hins hini'
    (g := F0 m pc ls rest) rfl (by rw [hb]; exact d0) (Nat.le_refl _) (Nat.le_refl _)
  generalize hT1 : (T.setVm vm₁).pushCell { cls := cX, slots := kX.instanceTypes.map defaultValue, vm := .none } = T1 at X₁ st1
  have hcat : (Value.ref T.heap.size).category = 1 := rfl
  have hcellA : T1.heap[T.heap.size]? = some (freshCell cX kX) := by rw [← hT1]; exact State.heap_pushCell_size _ _
  have d3' : decode c.code (pc + 3) = .ok (.dup, 1) := by rw [hb]; exact d3
  obtain ⟨U, hsteps, hrun, hend, hW, hsame, ce, hce, hO⟩ := X₁.ctorThrow0 hexec htr (own := own) (cls := cls) (names := names) (ic := ic) hown' hcls hnames h (fun x hx => nomatch hx) hfX hkX hcellA (by rw [hhp, hT]; exact Nat.le_refl _)
    (g := { method := m, pc := pc + 4, locals := ls, stack := .ref T.heap.size :: .ref T.heap.size :: rest, locked := none }) rfl hsize rfl rfl (rest := rest) rfl
    (by rw [hb]; exact d4) (by rw [hb]; exact d7) hout hRframes (by simp only [List.map_cons, List.sum_cons, hcat]; omega) hlocks
  obtain ⟨f1, f2⟩ := vx_frame hsame
  rw [hhp] at f1 f2
  have hWs : s.WarmedH U.vm := State.WarmedH.trans hW0 hW
  have hcl : s.vm.findClass cls = some ce.cls := by
    have h9 := hO.cls
    rw [hvm] at h9
    exact h9
  have hall : s.sameButNew ({ U with vm := s.vm } : State) locs mc ms := by
    subst hA
    obtain ⟨e1, e2⟩ := hsame
    rw [State.setFrames_setFrames] at e1
    have h2 : (T.setVm s.vm).sameButNew ({ U with vm := s.vm } : State) [] (0 + 1) (0 + 6) := ⟨e1, e2⟩
    have h3 := X.same.trans h2
    rw [List.append_nil] at h3
    exact h3.mono hc hs
  refine ⟨U, ?_, .threw T.heap.size, hrun, hend, Or.inr ⟨T.heap.size, rfl, cls, ce, locs, hx U hWs.alike f1 (fun q hq => f2 q hq (fun z hz => nomatch hz)), hce, hO.vm, hcl, hWs, hall, hf⟩⟩
  refine st1 _ ?_
  show Steps p.tables e below (T1.setTop { method := m, pc := pc + 3, locals := ls, stack := .ref T.heap.size :: rest, locked := none }) _
  jvm_step X₁.here [X₁.here.top, hexec, d3', Value.category]
  exact hsteps
/-- 'throw new E("text")': new; dup; ldc; invokespecial; athrow -/
theorem vx_throwS {cc : ByteArray} {pc : Nat} (hexec : p.tables.exec = Jvm.exec) (hb : c.code = cc) (hl : l.stackTraces = false) {own cls text : String} {names : List String} {ik is ic mc ms sa : Nat} {A : Nat → Prop}
    (hown : s.vm.findClass own = some m.cls) (hcls : Bundle.fit cls = true) (hnames : ∀ n ∈ names, Bundle.fit n = true)
    (hk : (Cond.classLink own ik cls).before args s = true) (hini : (Cond.initialized cls).before args s = true) (hstr : vk_R own is text sa s) (hat : ∀ w ∈ vx_atS own ic cls names, w.before args s = true)
    (hgood : ∀ w ∈ Cond.classLink own ik cls :: Cond.initialized cls :: vx_atS own ic cls names, vx_ot w = true)
    (hU : vx_Zq Bundle.tN "UNASSIGNED_STACK" Bundle.steD A s s.heap) (hN : vx_Zq Bundle.tN "SUPPRESSED_SENTINEL" Bundle.listD A s s.heap) (hS : va_S A s.heap H locs) (hsize : ls.size = c.maxLocals)
    (d0 : decode cc pc = .ok (.new ik, 3)) (d3 : decode cc (pc + 3) = .ok (.dup, 1)) (d4 : decode cc (pc + 4) = .ok (.ldc is, 2)) (d6 : decode cc (pc + 6) = .ok (.invokespecial ic, 3)) (d9 : decode cc (pc + 9) = .ok (.athrow, 1))
    (hout : ∀ x ∈ c.exceptionTable.toList, covers x (pc + 9) = false)
    (hRframes : names.length + 3 < R.frames) (hRlocals : (rest.map fun v => v.category).sum + (13 * (names.length + 1) + 43) ≤ R.locals) (hRcells : cells + 1 ≤ R.cells) (hRslots : slots + 6 ≤ R.slots) (hlocks : meth.locks = false)
    (hx : ∀ t : State, s.vm.Alike t.vm → H.size ≤ t.heap.size → (∀ q : Nat, q < H.size → t.heap[q]? = H[q]?) → XC cls s t)
    (hf : ∀ z ∈ locs, free z.base) (hc : cells + 1 ≤ mc) (hs : slots + 6 ≤ ms) :
    W p l e R s m args below meth c H locs cells slots (vx_MQ below Qc XC args s mc ms free) (F0 m pc ls rest) := by
  intro T hT X
  have htr : e.platform.stackTraces = false := (show e.platform.stackTraces = l.stackTraces by rw [X.admits.platform]).trans hl
  have Y := vx_rebase X (R' := { frames := R.frames, locals := R.locals, cells := 1, slots := 6 }) (Nat.le_refl _) (Nat.le_refl _) hRcells hRslots
  obtain ⟨s', hA⟩ : ∃ z, z = (T.setVm s.vm).setFrames (.invoking m args :: below) := ⟨_, rfl⟩
  rw [← hA] at Y
  have hvm : s'.vm = s.vm := by rw [hA]; rfl
  have hhp : s'.heap = H := by rw [hA]; exact hT
  have hW0 : s.WarmedH s'.vm := by rw [hvm]; exact State.WarmedH.refl s
  have hat' : ∀ w ∈ vx_atS own ic cls names, w.before args s' = true := fun w hw => vx_ot_at hW0 hvm.symm (hgood w (List.mem_cons_of_mem _ (List.mem_cons_of_mem _ hw))) (hat w hw)
  have hk' : (Cond.classLink own ik cls).before args s' = true := vx_ot_at hW0 hvm.symm (hgood _ List.mem_cons_self) hk
  have hini' : (Cond.initialized cls).before args s' = true := vx_ot_at hW0 hvm.symm (hgood _ (List.mem_cons_of_mem _ List.mem_cons_self)) hini
  have hU' : vx_Zq Bundle.tN "UNASSIGNED_STACK" Bundle.steD A s' s'.heap := by rw [hhp]; exact vx_Zq.moved hW0.alike (hU.kept hS.2.1)
  have hN' : vx_Zq Bundle.tN "SUPPRESSED_SENTINEL" Bundle.listD A s' s'.heap := by rw [hhp]; exact vx_Zq.moved hW0.alike (hN.kept hS.2.1)
  have h : ∀ w ∈ Bundle.ownAtoms own ic cls names, w.before args s' = true := vx_own hat' (vx_isRefq hU'.1) (vx_isRefq hN'.1) hU'.2.word hN'.2.word
  have hown' : s'.vm.findClass own = some m.cls := by rw [hvm]; exact hown
  have hins : (Cond.instantiable cls 6).before args s' = true := h _ (by simp [Bundle.ownAtoms])
  obtain ⟨vm₁, cX, kX, hfX, hkX, -, -, X₁, st1⟩ := Y.newCold hexec (own := own) (C := cls) (index := ik) (n := 6) hown' hk' hins hini'
    (g := F0 m pc ls rest) rfl (by rw [hb]; exact d0) (Nat.le_refl _) (Nat.le_refl _)
  generalize hT1 : (T.setVm vm₁).pushCell { cls := cX, slots := kX.instanceTypes.map defaultValue, vm := .none } = T1 at X₁ st1
  have hcat : (Value.ref T.heap.size).category = 1 := rfl
  have hcellA : T1.heap[T.heap.size]? = some (freshCell cX kX) := by rw [← hT1]; exact State.heap_pushCell_size _ _
  have d3' : decode c.code (pc + 3) = .ok (.dup, 1) := by rw [hb]; exact d3
  have d4' : decode c.code (pc + 4) = .ok (.ldc is, 2) := by rw [hb]; exact d4
  have hstr' : vk_R own is text sa s' := vk_R.warm hW0 hstr
  obtain ⟨U, hsteps, hrun, hend, hW, hsame, ce, hce, hO⟩ := X₁.ctorThrowS hexec htr (own := own) (cls := cls) (names := names) (ic := ic) hown' hcls hnames h (fun x hx => nomatch hx) hfX hkX hcellA (by rw [hhp, hT]; exact Nat.le_refl _) (msg := .ref sa) rfl
    (g := { method := m, pc := pc + 6, locals := ls, stack := .ref sa :: .ref T.heap.size :: .ref T.heap.size :: rest, locked := none }) rfl hsize rfl rfl (rest := rest) rfl
    (by rw [hb]; exact d6) (by rw [hb]; exact d9) hout hRframes (by simp only [List.map_cons, List.sum_cons, hcat]; omega) hlocks
  obtain ⟨f1, f2⟩ := vx_frame hsame
  rw [hhp] at f1 f2
  have hWs : s.WarmedH U.vm := State.WarmedH.trans hW0 hW
  have hcl : s.vm.findClass cls = some ce.cls := by
    have h9 := hO.cls
    rw [hvm] at h9
    exact h9
  have hall : s.sameButNew ({ U with vm := s.vm } : State) locs mc ms := by
    subst hA
    obtain ⟨e1, e2⟩ := hsame
    rw [State.setFrames_setFrames] at e1
    have h2 : (T.setVm s.vm).sameButNew ({ U with vm := s.vm } : State) [] (0 + 1) (0 + 6) := ⟨e1, e2⟩
    have h3 := X.same.trans h2
    rw [List.append_nil] at h3
    exact h3.mono hc hs
  refine ⟨U, ?_, .threw T.heap.size, hrun, hend, Or.inr ⟨T.heap.size, rfl, cls, ce, locs, hx U hWs.alike f1 (fun q hq => f2 q hq (fun z hz => nomatch hz)), hce, hO.vm, hcl, hWs, hall, hf⟩⟩
  refine st1 _ ?_
  show Steps p.tables e below (T1.setTop { method := m, pc := pc + 3, locals := ls, stack := .ref T.heap.size :: rest, locked := none }) _
  jvm_step X₁.here [X₁.here.top, hexec, d3', Value.category]
  exact X₁.ldcString hexec (own := own) (text := text) (index := is) (a := sa) hown' hstr'.1 hstr'.2
    (g := { method := m, pc := pc + 4, locals := ls, stack := .ref T.heap.size :: .ref T.heap.size :: rest, locked := none }) rfl d4' _ hsteps
/-- 'throw new E("text")', the text by a wide index -/
theorem vx_throwSW {cc : ByteArray} {pc : Nat} (hexec : p.tables.exec = Jvm.exec) (hb : c.code = cc) (hl : l.stackTraces = false) {own cls text : String} {names : List String} {ik is ic mc ms sa : Nat} {A : Nat → Prop}
    (hown : s.vm.findClass own = some m.cls) (hcls : Bundle.fit cls = true) (hnames : ∀ n ∈ names, Bundle.fit n = true)
    (hk : (Cond.classLink own ik cls).before args s = true) (hini : (Cond.initialized cls).before args s = true) (hstr : vk_R own is text sa s) (hat : ∀ w ∈ vx_atS own ic cls names, w.before args s = true)
    (hgood : ∀ w ∈ Cond.classLink own ik cls :: Cond.initialized cls :: vx_atS own ic cls names, vx_ot w = true)
    (hU : vx_Zq Bundle.tN "UNASSIGNED_STACK" Bundle.steD A s s.heap) (hN : vx_Zq Bundle.tN "SUPPRESSED_SENTINEL" Bundle.listD A s s.heap) (hS : va_S A s.heap H locs) (hsize : ls.size = c.maxLocals)
    (d0 : decode cc pc = .ok (.new ik, 3)) (d3 : decode cc (pc + 3) = .ok (.dup, 1)) (d4 : decode cc (pc + 4) = .ok (.ldc_w is, 3)) (d7 : decode cc (pc + 7) = .ok (.invokespecial ic, 3)) (d10 : decode cc (pc + 10) = .ok (.athrow, 1))
    (hout : ∀ x ∈ c.exceptionTable.toList, covers x (pc + 10) = false)
    (hRframes : names.length + 3 < R.frames) (hRlocals : (rest.map fun v => v.category).sum + (13 * (names.length + 1) + 43) ≤ R.locals) (hRcells : cells + 1 ≤ R.cells) (hRslots : slots + 6 ≤ R.slots) (hlocks : meth.locks = false)
    (hx : ∀ t : State, s.vm.Alike t.vm → H.size ≤ t.heap.size → (∀ q : Nat, q < H.size → t.heap[q]? = H[q]?) → XC cls s t)
    (hf : ∀ z ∈ locs, free z.base) (hc : cells + 1 ≤ mc) (hs : slots + 6 ≤ ms) :
    W p l e R s m args below meth c H locs cells slots (vx_MQ below Qc XC args s mc ms free) (F0 m pc ls rest) := by
  intro T hT X
  have htr : e.platform.stackTraces = false := (show e.platform.stackTraces = l.stackTraces by rw [X.admits.platform]).trans hl
  have Y := vx_rebase X (R' := { frames := R.frames, locals := R.locals, cells := 1, slots := 6 }) (Nat.le_refl _) (Nat.le_refl _) hRcells hRslots
  obtain ⟨s', hA⟩ : ∃ z, z = (T.setVm s.vm).setFrames (.invoking m args :: below) := ⟨_, rfl⟩
  rw [← hA] at Y
  have hvm : s'.vm = s.vm := by rw [hA]; rfl
  have hhp : s'.heap = H := by rw [hA]; exact hT
  have hW0 : s.WarmedH s'.vm := by rw [hvm]; exact State.WarmedH.refl s
  have hat' : ∀ w ∈ vx_atS own ic cls names, w.before args s' = true := fun w hw => vx_ot_at hW0 hvm.symm (hgood w (List.mem_cons_of_mem _ (List.mem_cons_of_mem _ hw))) (hat w hw)
  have hk' : (Cond.classLink own ik cls).before args s' = true := vx_ot_at hW0 hvm.symm (hgood _ List.mem_cons_self) hk
  have hini' : (Cond.initialized cls).before args s' = true := vx_ot_at hW0 hvm.symm (hgood _ (List.mem_cons_of_mem _ List.mem_cons_self)) hini
  have hU' : vx_Zq Bundle.tN "UNASSIGNED_STACK" Bundle.steD A s' s'.heap := by rw [hhp]; exact vx_Zq.moved hW0.alike (hU.kept hS.2.1)
  have hN' : vx_Zq Bundle.tN "SUPPRESSED_SENTINEL" Bundle.listD A s' s'.heap := by rw [hhp]; exact vx_Zq.moved hW0.alike (hN.kept hS.2.1)
  have h : ∀ w ∈ Bundle.ownAtoms own ic cls names, w.before args s' = true := vx_own hat' (vx_isRefq hU'.1) (vx_isRefq hN'.1) hU'.2.word hN'.2.word
  have hown' : s'.vm.findClass own = some m.cls := by rw [hvm]; exact hown
  have hins : (Cond.instantiable cls 6).before args s' = true := h _ (by simp [Bundle.ownAtoms])
  obtain ⟨vm₁, cX, kX, hfX, hkX, -, -, X₁, st1⟩ := Y.newCold hexec (own := own) (C := cls) (index := ik) (n := 6) hown' hk' hins hini'
    (g := F0 m pc ls rest) rfl (by rw [hb]; exact d0) (Nat.le_refl _) (Nat.le_refl _)
  generalize hT1 : (T.setVm vm₁).pushCell { cls := cX, slots := kX.instanceTypes.map defaultValue, vm := .none } = T1 at X₁ st1
  have hcat : (Value.ref T.heap.size).category = 1 := rfl
  have hcellA : T1.heap[T.heap.size]? = some (freshCell cX kX) := by rw [← hT1]; exact State.heap_pushCell_size _ _
  have d3' : decode c.code (pc + 3) = .ok (.dup, 1) := by rw [hb]; exact d3
  have d4' : decode c.code (pc + 4) = .ok (.ldc_w is, 3) := by rw [hb]; exact d4
  have hstr' : vk_R own is text sa s' := vk_R.warm hW0 hstr
  obtain ⟨U, hsteps, hrun, hend, hW, hsame, ce, hce, hO⟩ := X₁.ctorThrowS hexec htr (own := own) (cls := cls) (names := names) (ic := ic) hown' hcls hnames h (fun x hx => nomatch hx) hfX hkX hcellA (by rw [hhp, hT]; exact Nat.le_refl _) (msg := .ref sa) rfl
    (g := { method := m, pc := pc + 7, locals := ls, stack := .ref sa :: .ref T.heap.size :: .ref T.heap.size :: rest, locked := none }) rfl hsize rfl rfl (rest := rest) rfl
    (by rw [hb]; exact d7) (by rw [hb]; exact d10) hout hRframes (by simp only [List.map_cons, List.sum_cons, hcat]; omega) hlocks
  obtain ⟨f1, f2⟩ := vx_frame hsame
  rw [hhp] at f1 f2
  have hWs : s.WarmedH U.vm := State.WarmedH.trans hW0 hW
  have hcl : s.vm.findClass cls = some ce.cls := by
    have h9 := hO.cls
    rw [hvm] at h9
    exact h9
  have hall : s.sameButNew ({ U with vm := s.vm } : State) locs mc ms := by
    subst hA
    obtain ⟨e1, e2⟩ := hsame
    rw [State.setFrames_setFrames] at e1
    have h2 : (T.setVm s.vm).sameButNew ({ U with vm := s.vm } : State) [] (0 + 1) (0 + 6) := ⟨e1, e2⟩
    have h3 := X.same.trans h2
    rw [List.append_nil] at h3
    exact h3.mono hc hs
  refine ⟨U, ?_, .threw T.heap.size, hrun, hend, Or.inr ⟨T.heap.size, rfl, cls, ce, locs, hx U hWs.alike f1 (fun q hq => f2 q hq (fun z hz => nomatch hz)), hce, hO.vm, hcl, hWs, hall, hf⟩⟩
  refine st1 _ ?_
  show Steps p.tables e below (T1.setTop { method := m, pc := pc + 3, locals := ls, stack := .ref T.heap.size :: rest, locked := none }) _
  jvm_step X₁.here [X₁.here.top, hexec, d3', Value.category]
  exact X₁.ldcStringW hexec (own := own) (text := text) (index := is) (a := sa) hown' hstr'.1 hstr'.2
    (g := { method := m, pc := pc + 4, locals := ls, stack := .ref T.heap.size :: .ref T.heap.size :: rest, locked := none }) rfl d4' _ hsteps
end Ends
section Bodies
variable {l : Launch}
theorem vx_ofW {y : MethodName} {ws ws' : List Cond} {rm : Room} {Pc : Array Value → State → Prop} {Qc : Array Value → State → Outcome → State → Prop} {XC : String → State → State → Prop} {mc ms : Nat} {free : Addr → Prop} {cc : ByteArray} {maxL : Nat} {ret : Option FieldType}
    (hy : plainName y.cls = true) (hw : ws = Cond.code y cc maxL ret :: ws')
    (body : ∀ p e s m args below meth c s₁, BodyLoose p l y (headSpec ws rm) cc maxL ret e s m args below meth c s₁ → c.maxLocals = maxL → (∀ x ∈ c.exceptionTable.toList, False) → Pc args s →
      W p l e (headSpec ws rm).room s m args below meth c s.heap [] 0 0 (vx_MQ below Qc XC args s mc ms free) (entryFrame m args maxL)) : vx_Met l y ws rm Pc Qc XC mc ms free := by
  refine MetFree.of_bodyS (code := cc) (maxLocals := maxL) (ret := ret) hy ?_ ?_
  · intro args s m h hn
    obtain ⟨meth, c, h1, h2, h3, h4, h5, h6, -, -⟩ := Cond.code_spec hn (atoms_spec (ws := ws) h _ (by rw [hw]; exact List.mem_cons_self))
    exact ⟨meth, c, h1, h2, h3, h4, h5, h6⟩
  · intro p e s m args below meth c s₁ B hml hP _
    have hh0 : s₁.heap = s.heap := by rw [B.state]; rfl
    have ht : ∀ x ∈ c.exceptionTable.toList, False := by
      obtain ⟨meth9, c9, h1, h2, -, -, -, -, h7, -⟩ := Cond.code_spec B.named (atoms_spec (ws := ws) B.pre _ (by rw [hw]; exact List.mem_cons_self))
      cases Option.some.inj (h1.symm.trans B.method)
      cases Option.some.inj (h2.symm.trans (Stand.of_body B).code)
      intro x hx
      rw [Array.isEmpty_iff.mp h7] at hx
      cases hx
    obtain ⟨t, a1, o, b1, b2, b3⟩ := body p e s m args below meth c s₁ B hml ht hP s₁ hh0 (Stand.of_body B)
    exact ⟨t, o, a1, b1, b2, b3⟩
/-- the table of a body with handlers -/
theorem vx_table {p : Program} {x y : MethodName} {S : Spec} {cc bytes : ByteArray} {maxL maxL' : Nat} {ret ret' : Option FieldType} {e : Env} {s s₁ : State} {m : MethodId} {args : Array Value} {below : List Frame} {meth : Method} {c : Code} {hh : List (Nat × Nat × Nat × Nat)}
    (B : BodyLoose p l y S cc maxL ret e s m args below meth c s₁) (h : (Cond.codeWith y bytes maxL' ret' hh).before args s = true) : c.exceptionTable.toList = tableOf hh := by
  obtain ⟨m9, meth9, c9, hn9, h1, h2, -, -, h6, -⟩ := Cond.codeWith_spec h
  cases Option.some.inj (hn9.symm.trans B.named)
  cases Option.some.inj (h1.symm.trans B.method)
  cases Option.some.inj (h2.symm.trans (Stand.of_body B).code)
  rw [← h6, table_eq]
end Bodies
end VXA
/-! ===== END ===== -/
/-! ===== BEGIN a static call of a method with an exception table ===== -/
section VXS
variable {p : Program} {l : Launch} {e : Env} {R : Room} {s : State} {m : MethodId} {args : Array Value} {below : List Frame} {meth : Method} {c : Code} {T : State} {H : Heap} {locs : List Loc} {cells slots : Nat}
abbrev vx_CSW (R : Room) (s : State) (args : Array Value) (own : String) (index : Nat) (y : MethodName) (bytes : ByteArray) (maxL : Nat) (ret : Option FieldType) (hh : List (Nat × Nat × Nat × Nat)) (ws : List Cond) (rm : Room) (mc ms n : Nat) : Prop :=
  (rm.cells = mc ∧ rm.slots = ms ∧ rm.frames + 1 ≤ R.frames ∧ 8 + (maxL + 11) + rm.locals ≤ R.locals ∧ (∀ w ∈ ws, ∀ (a' : Array Value) (U : State), s.WarmedH U.vm → w.before a' U = true) ∧ Cond.codeWith y bytes maxL ret hh ∈ ws) ∧
  (Cond.codeWith y bytes maxL ret hh).before args s = true ∧ (Cond.initialized y.cls).before args s = true ∧ (y.cls ≠ "java/lang/invoke/MethodHandle" ∧ y.cls ≠ "java/lang/invoke/VarHandle") ∧
  (∀ sig, parseMethodDescriptor y.desc = some sig → n = sig.parameters.length) ∧ (Cond.methodLink own index y).before args s = true ∧ (Cond.static y).before args s = true
theorem vx_cwSW {own : String} {index maxL mc ms : Nat} {y : MethodName} {bytes : ByteArray} {ret : Option FieldType} {hh : List (Nat × Nat × Nat × Nat)} {Ts ws ws' : List Cond} {rm : Room} (n : Nat) (ht : ∀ w ∈ Ts, w.before args s = true) (hT : GoodIn Ts (va_wsS own index y ws)) (hw : ws = Cond.codeWith y bytes maxL ret hh :: ws') (hrc : rm.cells = mc) (hrs : rm.slots = ms)
    (hd : y.cls ≠ "java/lang/invoke/MethodHandle" ∧ y.cls ≠ "java/lang/invoke/VarHandle" ∧ (parseMethodDescriptor y.desc).map (fun d => d.parameters.length) = some n) (hR : rm.frames + 1 ≤ R.frames ∧ 8 + (maxL + 11) + rm.locals ≤ R.locals) :
    vx_CSW R s args own index y bytes maxL ret hh ws rm mc ms n := by
  have ok : ∀ w ∈ va_wsS own index y ws, w.before args s = true := fun w h => ht w (hT w h).1
  have hG : GoodIn Ts ws := fun w h => hT w (by unfold va_wsS; exact List.mem_append_right _ h)
  have hc : Cond.codeWith y bytes maxL ret hh ∈ ws := by rw [hw]; exact List.mem_cons_self
  refine ⟨⟨hrc, hrs, hR.1, hR.2, pay_in ht hG, hc⟩, ht _ (hG _ hc).1, ok _ (by simp [va_wsS]), ⟨hd.1, hd.2.1⟩, fun sig h => ?_, ok _ (by simp [va_wsS]), ok _ (by simp [va_wsS])⟩
  have h2 := hd.2.2
  rw [h] at h2
  exact (Option.some.inj h2).symm
theorem vx_callSW (X : Stand p l e R s m args below meth c T locs cells slots) (hexec : p.tables.exec = Jvm.exec) {own : String} {index : Nat} {y : MethodName} {bytes : ByteArray} {maxL : Nat} {ret : Option FieldType} {hh : List (Nat × Nat × Nat × Nat)}
    (hown : s.vm.findClass own = some m.cls) (hlink : (Cond.methodLink own index y).before args s = true) (hstat : (Cond.static y).before args s = true) (hinit : (Cond.initialized y.cls).before args s = true)
    (hcode : (Cond.codeWith y bytes maxL ret hh).before args s = true) (hy : y.cls ≠ "java/lang/invoke/MethodHandle" ∧ y.cls ≠ "java/lang/invoke/VarHandle")
    {W9 : Nat} {Pre : Pt → Array Value → Prop} {Post : Pt → Array Value → Option Value → Pt → Prop} (hK : Back l R p e below s args y 3 W9 Pre Post)
    {g : JFrame} (hg : g.method = m) (hsize : g.locals.size = c.maxLocals) {argsL rest : List Value} (hlen : ∀ sig, parseMethodDescriptor y.desc = some sig → argsL.length = sig.parameters.length)
    (hstack : g.stack = argsL.reverse ++ rest) (hW : 2 * g.monitorRoom + (rest.map fun v => v.category).sum ≤ W9) (hdg : decode c.code g.pc = .ok (.invokestatic index, 3))
    (hpre : ∀ vm₁, s.WarmedH vm₁ → Pre ⟨T.setVm vm₁, locs, cells, slots⟩ argsL.toArray) :
    ∃ (v : Option Value) (vm₁ : Vm) (B : Pt), s.WarmedH vm₁ ∧ Stand p l e R s m args below meth c B.U B.locs B.cells B.slots ∧ Post ⟨T.setVm vm₁, locs, cells, slots⟩ argsL.toArray v B ∧
      ∀ target, Steps p.tables e below (B.U.setTop { g with pc := g.pc + 3, stack := v.toList ++ rest }) target → Steps p.tables e below (T.setTop g) target := by
  obtain ⟨mk, methM, cM, hnamed, hmethM, -, -, -, -, -, -, hsigM⟩ := Cond.codeWith_spec hcode
  have hstatic : methM.isStatic = true := Cond.static_spec hnamed hmethM hstat
  obtain ⟨kP, hkP, -⟩ := className_of_methodNamed hnamed
  have hinitP : kP.init = .initialized := Cond.initialized_spec (findClass_of_methodNamed hnamed) hkP hinit
  obtain ⟨vm₁, X₁, hstep₁⟩ := X.invokestatic hexec hown hlink hnamed hmethM hstatic hkP hinitP hy (g := g) hg (argsL := argsL) (rest := rest) (hlen _ hsigM) hstack hdg
  obtain ⟨v, B, X', hpost, hsteps⟩ := hK m meth c ⟨T.setVm vm₁, locs, cells, slots⟩ { g with stack := rest } (.invokestatic index) mk argsL.toArray X₁ hg hsize hdg hW (X₁.named hnamed) (hpre vm₁ X₁.warmed)
  exact ⟨v, vm₁, B, X₁.warmed, X', hpost, fun target h => hstep₁ _ fun acts => by rw [doInvoke_state]; exact hsteps.trans h⟩
theorem vx_runSW {y : MethodName} {bytes cc : ByteArray} {maxL nL mc ms n index : Nat} {ret : Option FieldType} {hh : List (Nat × Nat × Nat × Nat)} {ws : List Cond} {rm : Room} {Pc : Array Value → State → Prop} {Qc : Array Value → State → Outcome → State → Prop} {free : Addr → Prop} {Ts : List Cond} {own : String} {As rest : List Value} {g : JFrame}
    (S : CallFix p m c cc nL s args Ts own) (hM : Met l y ws rm Pc Qc mc ms free) (cw : vx_CSW R s args own index y bytes maxL ret hh ws rm mc ms n) (hp : PreS s H Pc As)
    (hg : g.method = m) (hn : As.length = n) (hsize : g.locals.size = nL) (hstack : g.stack = As.reverse ++ rest) (hW : 2 * g.monitorRoom + (rest.map fun v => v.category).sum ≤ 8) (hdg : decode cc g.pc = .ok (.invokestatic index, 3)) (hf : cells + mc ≤ R.cells ∧ slots + ms ≤ R.slots) :
    va_Run p l e R s m args below meth c H locs cells slots mc ms g rest (Qc As.toArray) (free) := by
  obtain ⟨⟨hrc, hrs, hfr, hlo, hws, hcw⟩, hcode, hini, hy, hlen, hl, hstt⟩ := cw
  have hK : Back l R p e below s args y 3 8 (PreOf R mc ms Pc) (PostOf Qc mc ms free) := va_backW (hh := hh) (bytes := bytes) (maxL := maxL) (ret := ret) hM hp.1 hrc hrs hfr hlo hws hcw (fun a' U hW => word_at hW (Or.inl (by first | rfl | simp [Cond.onTables, Cond.keeps, Cond.steady])) hini)
  obtain ⟨hx, hb, hml, ho, -⟩ := S
  intro T hT X
  obtain ⟨v, vm₁, ⟨U', l2, c2, s2⟩, hW₁, X', ⟨g', mk, t, L, e1, e2, hq, h1, hL, h2, h3⟩, st⟩ := vx_callSW X hx (hh := hh) (bytes := bytes) (maxL := maxL) (ret := ret) ho hl hstt hini hcode hy hK hg (hsize.trans hml.symm) (argsL := As) (rest := rest) (fun sig h => hn.trans (hlen sig h)) hstack hW (by rw [hb]; exact hdg)
    (fun vm₁ hW₁ => ⟨hf.1, hf.2, hp.2 (T.setVm vm₁) hT hW₁⟩)
  dsimp only [Pt.U, Pt.locs, Pt.cells, Pt.slots] at X' e1 e2 h1 h2 h3 st
  subst h1; subst h2; subst h3
  exact ⟨v, (T.setVm vm₁).calling g' mk As.toArray, t, U', L, hT, X', hL, e1, e2, hq, st⟩
/-- not caught here, past rows that name other classes: it goes on to the caller -/
theorem vx_outP {p : Program} {l : Launch} {e : Env} {R : Room} {s : State} {m : MethodId} {args : Array Value} {below : List Frame} {meth : Method} {c : Code} {H : Heap} {locs : List Loc} {cells slots : Nat} {free : Addr → Prop} {ls : Array Slot} {rest : List Value} {Qc : Array Value → State → Outcome → State → Prop} {XC : String → State → State → Prop}
    {pc : Nat} {own E : String} {ce : Cell} {q : Addr} {mc ms : Nat} (hown : s.vm.findClass own = some m.cls) (hlocks : meth.locks = false)
    (hpass : ∀ z ∈ c.exceptionTable.toList, covers z pc = false ∨ (z.catchType ≠ 0 ∧ ∃ nm : String, (Cond.classLink own z.catchType nm).before args s = true ∧ va_Nc E nm s)) (hcell : H[q]? = some ce) (hv : ce.vm = .none) (hcl : s.vm.findClass E = some ce.cls)
    (hx : ∀ t : State, t.heap = H → s.vm.Alike t.vm → XC E s t) (hf : ∀ z ∈ locs, free z.base) (hc : cells ≤ mc) (hs : slots ≤ ms) :
    vx_W p l e R s m args below meth c H locs cells slots (vx_MQ below Qc XC args s mc ms free) (F0 m pc ls rest) q := by
  intro T hT X
  have hpl : e.platform.magicAccessors = ({} : Platform).magicAccessors := by rw [X.admits.platform]
  obtain ⟨vm', hW', X', st⟩ := X.outThrough hlocks q (g := F0 m pc ls rest) rfl rfl rfl (cell := ce) (by rw [hT]; exact hcell) (by rw [hv]; rfl)
    (by obtain ⟨k9, h9, -⟩ := Vm.findClass_spec hcl; exact ⟨k9, h9⟩) (fun z hz => by
      rcases hpass z hz with h | ⟨hz0, nm, hl1, hn1⟩
      · exact Or.inl h
      · obtain ⟨c6, hc6, hcl6⟩ := Cond.classLink_spec hown hl1 e.platform hpl
        obtain ⟨a8, b8, h1, h2, h3⟩ := hn1
        cases Option.some.inj (h1.symm.trans hcl)
        cases Option.some.inj (h2.symm.trans hc6)
        exact Or.inr ⟨hz0, _, hcl6, h3⟩)
  obtain ⟨g₀, hfr⟩ := X'.frames_eq
  have hcell9 : ((T.setVm vm').setFrames (.throwing q :: below)).heap[q]? = some ce := by
    show T.heap[q]? = some ce
    rw [hT]; exact hcell
  have hend : Ended ((T.setVm vm').setFrames (.throwing q :: below)) below (.threw q) := State.frames_setFrames _ (State.cur_lt_of_frames hfr)
  refine ⟨(T.setVm vm').setFrames (.throwing q :: below), ?_, .threw q, X'.here.running, hend, Or.inr ⟨q, rfl, E, ce, locs, hx _ hT (X'.ends _).1.alike, hcell9, hv, hcl, (X'.ends _).1, (X'.ends _).2.mono hc hs, hf⟩⟩
  rw [X.pushThrowing_eq]
  exact st
/-- a thing of a world lies in the heap -/
theorem vx_lt {D : va_G} {cl : List vw_C} {ws : va_W} {H1 : Heap} (h : va_P D cl ws H1) {k : Nat} {q : Nat × va_E} (hk : ws[k]? = some q) : q.1 < H1.size := (h k q hk).lt
end VXS
/-! ===== END ===== -/
/-! ===== BEGIN methods with a table of their own: called by a name, returning or throwing ===== -/
section VXH
/-! vx_backW, vx_callVX, vx_callSX, vx_callVW, vx_runVW, vx_runVX, vx_runSX, vx_ofWH follow the same proofs as their sisters above (Free/Laws.lean, Shelf42/LK1.lean); vx_outP calls Shelf42/NT130.lean (outThrough). -/
section
variable {l : Launch} {R : Room} {p : Program} {e : Env} {below : List Frame} {s : State} {sargs : Array Value} {y : MethodName} {len W9 : Nat}
theorem vx_backW {ws : List Cond} {rm : Room} {Pc : Array Value → State → Prop} {Qc : Array Value → State → Outcome → State → Prop} {XC : String → State → State → Prop} {mc ms : Nat} {free : Addr → Prop} {bytes : ByteArray} {maxL : Nat} {ret : Option FieldType} {hh : List (Nat × Nat × Nat × Nat)}
    (hM : vx_Met l y ws rm Pc Qc XC mc ms free) (hblind : FrameBlind Pc) (hrc : rm.cells = mc) (hrs : rm.slots = ms)
    (hframes : rm.frames + 1 ≤ R.frames) (hlocals : W9 + (maxL + 11) + rm.locals ≤ R.locals)
    (hws : ∀ w ∈ ws, ∀ a' U, s.WarmedH U.vm → w.before a' U = true) (hcode : Cond.codeWith y bytes maxL ret hh ∈ ws) (hinit : ∀ a' U, s.WarmedH U.vm → (Cond.initialized y.cls).before a' U = true) :
    vx_Back l R p e below s sargs y len W9 (PreOf R mc ms Pc) (PostOf Qc mc ms free) (vx_Post XC mc ms free) := by
  intro m meth c A g ig mk a X hg hsize hdg hW hn hp
  have h1 : (headSpec ws rm).pre.before a A.U = true := atoms_intro fun w hw => hws w hw _ _ X.warmed
  have h2 : (Cond.codeWith y bytes maxL ret hh).before a A.U = true := hws _ hcode _ _ X.warmed
  have h3 : (Cond.initialized y.cls).before a A.U = true := hinit _ _ X.warmed
  have h4 : A.cells + (headSpec ws rm).room.cells ≤ R.cells := by rw [show (headSpec ws rm).room.cells = mc from hrc]; exact hp.1
  have h5 : A.slots + (headSpec ws rm).room.slots ≤ R.slots := by rw [show (headSpec ws rm).room.slots = ms from hrs]; exact hp.2.1
  have hPc : Pc a (A.U.calling g mk a) := hblind _ _ _ _ hp.2.2
  obtain ⟨U, Ls, c0, s0⟩ := A
  dsimp only [Pt.U, Pt.locs, Pt.cells, Pt.slots] at h1 h2 h3 h4 h5 X hn hPc ⊢
  obtain ⟨m9, methY, cY, hn9, hmY, hcY, -, hlY, -⟩ := Cond.codeWith_spec h2
  cases Option.some.inj (hn9.symm.trans hn)
  obtain ⟨kY, hkY, -⟩ := className_of_methodNamed hn
  have hinitY : kY.init = .initialized := Cond.initialized_spec (findClass_of_methodNamed hn) hkY h3
  have h : At U g.method c below := by rw [hg]; exact X.here
  have hlocals9 : W9 + (maxL + 11) + (headSpec ws rm).room.locals ≤ R.locals := hlocals
  have happ : (headSpec ws rm).appliesLoose y e.platform (U.calling g mk a) = true :=
    Spec.appliesLoose_calling (g := g) h hdg hn hkY hinitY
      (X.room_calling (g := g) (R' := (headSpec ws rm).room) hsize hmY hcY hframes (by rw [hlY]; omega) h4 h5) h1
  obtain ⟨mid, hmid⟩ := h.above
  have hfr : (U.setTop g).frames = (.java g :: mid) ++ below := by rw [State.frames_setTop' g h.top, hmid]; rfl
  obtain ⟨o, s₂, hsteps, -, hend, hq⟩ := Steps.callFree hM p X.admits X.cas X.clock (acts := []) hfr happ hPc trivial
  have hq' : vx_Q Qc XC mc ms free a (U.calling g mk a) o s₂ := hq
  rw [State.frames_setTop' g h.top] at hend
  obtain ⟨g₀, hg0⟩ := Option.isSome_iff_exists.mp h.top
  obtain ⟨r, hr⟩ := State.topJava?_eq_some.mp hg0
  have hr' : (({ U with heap := s₂.heap, slotsUsed := s₂.slotsUsed } : State).setVm s₂.vm).frames = .java g₀ :: r := hr
  rcases hq' with ⟨hqc, L, hfe, hL⟩ | ⟨q, rfl, E, ce, L, hx, hce, hcv, hcl, hW₂, hsm, hL⟩
  · obtain ⟨⟨v, rfl⟩, hW₂, e2, q2, q3, q4, q5, q6⟩ := id hfe
    have e3 : s₂ = ({ (U.calling g mk a).setFrames s₂.frames with heap := s₂.heap, slotsUsed := s₂.slotsUsed } : State).setVm s₂.vm := by
      have : s₂ = ({ s₂ with vm := (U.calling g mk a).vm } : State).setVm s₂.vm := rfl
      rw [e2] at this
      exact this
    obtain ⟨c₂, i₂, len₂, hc₂, hd₂, hf₂⟩ := hend
    have hW' : U.WarmedH s₂.vm := hW₂
    have hcc : c₂ = c := by
      have h1 : s₂.code? g.method = U.code? g.method := by
        rw [State.code?_eq, State.code?_eq, hW'.alike.method?]
      exact Option.some.inj (hc₂.symm.trans (h1.trans h.code))
    subst hcc
    have hlen : len₂ = len := by rw [hdg] at hd₂; cases hd₂; rfl
    subst hlen
    have hs₂ : s₂ = (({ U with heap := s₂.heap, slotsUsed := s₂.slotsUsed } : State).setVm s₂.vm).setTop { g with pc := g.pc + len₂, stack := v.toList ++ g.stack } := by
      refine e3.trans ?_
      rw [hf₂, State.calling_eq h.top, State.setFrames_setFrames, State.setTop_of_frames _ hr', hr]
      rfl
    have hsame : U.sameButNew ({ U with heap := s₂.heap, slotsUsed := s₂.slotsUsed } : State) L mc ms := by
      refine ⟨?_, q2, q3, q4, q5, q6⟩
      obtain ⟨t, ht, -⟩ := State.frames_cons hr
      show ({ U with heap := s₂.heap, slotsUsed := s₂.slotsUsed } : State) = { U.setFrames U.frames with heap := s₂.heap, slotsUsed := s₂.slotsUsed }
      rw [State.setFrames_self ht]
    subst hg
    refine Or.inl ⟨v, ⟨(({ U with heap := s₂.heap, slotsUsed := s₂.slotsUsed } : State).setVm s₂.vm), Ls ++ L, c0 + mc, s0 + ms⟩,
      ⟨X.admits, X.cas, X.clock, X.frames, X.room, X.hears, X.method, X.code, (X.here.setHeapUsed s₂.heap s₂.slotsUsed).setVm hW'.alike, X.tail, State.WarmedH.trans X.warmed hW', X.limits, X.bytes, X.same.trans (hsame.setVm s.vm)⟩,
      ⟨g, mk, s₂, L, rfl, rfl, hqc, rfl, hL, rfl, rfl⟩, ?_⟩
    show Steps p.tables e below _ ((({ U with heap := s₂.heap, slotsUsed := s₂.slotsUsed } : State).setVm s₂.vm).setTop { g with pc := g.pc + len₂, stack := v.toList ++ g.stack })
    rw [← hs₂]
    exact hsteps
  · obtain ⟨e2, q2, q3, q4, q5, q6⟩ := id hsm
    have e3 : s₂ = ({ (U.calling g mk a).setFrames s₂.frames with heap := s₂.heap, slotsUsed := s₂.slotsUsed } : State).setVm s₂.vm := by
      have : s₂ = ({ s₂ with vm := (U.calling g mk a).vm } : State).setVm s₂.vm := rfl
      rw [e2] at this
      exact this
    have hf₂ : s₂.frames = .throwing q :: .java g :: U.frames.tail := hend
    have hW' : U.WarmedH s₂.vm := hW₂
    have hs₂ : s₂ = ((({ U with heap := s₂.heap, slotsUsed := s₂.slotsUsed } : State).setVm s₂.vm).setTop g).pushFrame (.throwing q) := by
      refine e3.trans ?_
      rw [hf₂, State.calling_eq h.top, State.setFrames_setFrames, State.pushFrame, State.frames_setTop _ hr', State.setTop_of_frames _ hr', State.setFrames_setFrames, hr]
      rfl
    have hsame : U.sameButNew ({ U with heap := s₂.heap, slotsUsed := s₂.slotsUsed } : State) L mc ms := by
      refine ⟨?_, q2, q3, q4, q5, q6⟩
      obtain ⟨t, ht, -⟩ := State.frames_cons hr
      show ({ U with heap := s₂.heap, slotsUsed := s₂.slotsUsed } : State) = { U.setFrames U.frames with heap := s₂.heap, slotsUsed := s₂.slotsUsed }
      rw [State.setFrames_self ht]
    subst hg
    refine Or.inr ⟨q, ⟨(({ U with heap := s₂.heap, slotsUsed := s₂.slotsUsed } : State).setVm s₂.vm), Ls ++ L, c0 + mc, s0 + ms⟩,
      ⟨X.admits, X.cas, X.clock, X.frames, X.room, X.hears, X.method, X.code, (X.here.setHeapUsed s₂.heap s₂.slotsUsed).setVm hW'.alike, X.tail, State.WarmedH.trans X.warmed hW', X.limits, X.bytes, X.same.trans (hsame.setVm s.vm)⟩,
      ⟨g, mk, s₂, L, E, ce, rfl, rfl, hx, hce, hcv, hcl, rfl, hL, rfl, rfl⟩, ?_⟩
    show Steps p.tables e below _ (((({ U with heap := s₂.heap, slotsUsed := s₂.slotsUsed } : State).setVm s₂.vm).setTop g).pushFrame (.throwing q))
    rw [← hs₂]
    exact hsteps
end
variable {p : Program} {l : Launch} {e : Env} {R : Room} {s : State} {m : MethodId} {args : Array Value} {below : List Frame} {meth : Method} {c : Code} {T : State} {H : Heap} {locs : List Loc} {cells slots : Nat}
theorem vx_callVX (X : Stand p l e R s m args below meth c T locs cells slots) (hexec : p.tables.exec = Jvm.exec) {own C : String} {index : Nat} {y : MethodName} {bytes : ByteArray} {maxL : Nat} {ret : Option FieldType} {hh : List (Nat × Nat × Nat × Nat)}
    (hown : s.vm.findClass own = some m.cls) (hlink : (Cond.methodLink own index y).before args s = true) (hinst : (Cond.instanceMethod y).before args s = true) (hsel : (Cond.selects C y y).before args s = true)
    (hcode : (Cond.codeWith y bytes maxL ret hh).before args s = true) (hy : y.cls ≠ "java/lang/invoke/MethodHandle" ∧ y.cls ≠ "java/lang/invoke/VarHandle")
    {W9 : Nat} {Pre : Pt → Array Value → Prop} {Post : Pt → Array Value → Option Value → Pt → Prop} {PostX : Pt → Array Value → Addr → Pt → Prop} (hK : vx_Back l R p e below s args y 3 W9 Pre Post PostX)
    {b : Addr} {cellB : Cell} (hcell : T.heap[b]? = some cellB) (hobj : cellB.vm.isStatics = false) (hcls : s.vm.findClass C = some cellB.cls)
    {g : JFrame} (hg : g.method = m) (hsize : g.locals.size = c.maxLocals) {argsL rest : List Value} (hlen : ∀ sig, parseMethodDescriptor y.desc = some sig → argsL.length = sig.parameters.length)
    (hstack : g.stack = argsL.reverse ++ .ref b :: rest) (hW : 2 * g.monitorRoom + (rest.map fun v => v.category).sum ≤ W9) (hdg : decode c.code g.pc = .ok (.invokevirtual index, 3))
    (hpre : ∀ vm₁, s.WarmedH vm₁ → Pre ⟨T.setVm vm₁, locs, cells, slots⟩ (Value.ref b :: argsL).toArray) :
    (∃ (v : Option Value) (vm₁ : Vm) (B : Pt), s.WarmedH vm₁ ∧ Stand p l e R s m args below meth c B.U B.locs B.cells B.slots ∧ Post ⟨T.setVm vm₁, locs, cells, slots⟩ (Value.ref b :: argsL).toArray v B ∧
      ∀ target, Steps p.tables e below (B.U.setTop { g with pc := g.pc + 3, stack := v.toList ++ rest }) target → Steps p.tables e below (T.setTop g) target) ∨
    (∃ (q : Addr) (vm₁ : Vm) (B : Pt), s.WarmedH vm₁ ∧ Stand p l e R s m args below meth c B.U B.locs B.cells B.slots ∧ PostX ⟨T.setVm vm₁, locs, cells, slots⟩ (Value.ref b :: argsL).toArray q B ∧
      Steps p.tables e below (T.setTop g) ((B.U.setTop { g with stack := rest }).pushFrame (.throwing q))) := by
  obtain ⟨mk, methM, hnamed, hmethM, hstM, habM⟩ := Cond.instanceMethod_spec hinst
  obtain ⟨m8, methM', cM, hn8, hmethM', -, -, -, -, -, -, hsigM⟩ := Cond.codeWith_spec hcode
  cases Option.some.inj (hn8.symm.trans hnamed)
  cases hmethM.symm.trans hmethM'
  obtain ⟨c2, r2, m2, q1, q2, q3, q4, kP, hkP, hkPi⟩ := Cond.selects_spec hsel
  cases hcls.symm.trans q1
  cases (State.methodFound?_of_named hnamed hy).symm.trans q2
  cases hnamed.symm.trans q3
  have hselP : selectMethod e.platform s.vm cellB.cls mk = .method mk := by rw [Launch.admits_selectMethod X.admits]; exact q4
  obtain ⟨vm₁, X₁, hstep₁⟩ := X.invokevirtual hexec hown hlink hnamed hmethM hstM hkP hkPi hy (a := b) (cell := cellB) hcell
    (fun z h => by rw [h] at hobj; cases hobj) hselP hmethM habM hkP hkPi (g := g) hg (argsL := argsL) (rest := rest) (hlen _ hsigM) hstack hdg
  rcases hK m meth c ⟨T.setVm vm₁, locs, cells, slots⟩ { g with stack := rest } (.invokevirtual index) mk (Value.ref b :: argsL).toArray X₁ hg hsize hdg hW (X₁.named hnamed) (hpre vm₁ X₁.warmed) with ⟨v, B, X', hpost, hsteps⟩ | ⟨q, B, X', hpost, hsteps⟩
  · exact Or.inl ⟨v, vm₁, B, X₁.warmed, X', hpost, fun target h => hstep₁ _ fun acts => by rw [doInvoke_state]; exact hsteps.trans h⟩
  · exact Or.inr ⟨q, vm₁, B, X₁.warmed, X', hpost, hstep₁ _ fun acts => by rw [doInvoke_state]; exact hsteps⟩
theorem vx_callSX (X : Stand p l e R s m args below meth c T locs cells slots) (hexec : p.tables.exec = Jvm.exec) {own : String} {index : Nat} {y : MethodName} {bytes : ByteArray} {maxL : Nat} {ret : Option FieldType} {hh : List (Nat × Nat × Nat × Nat)}
    (hown : s.vm.findClass own = some m.cls) (hlink : (Cond.methodLink own index y).before args s = true) (hstat : (Cond.static y).before args s = true) (hinit : (Cond.initialized y.cls).before args s = true)
    (hcode : (Cond.codeWith y bytes maxL ret hh).before args s = true) (hy : y.cls ≠ "java/lang/invoke/MethodHandle" ∧ y.cls ≠ "java/lang/invoke/VarHandle")
    {W9 : Nat} {Pre : Pt → Array Value → Prop} {Post : Pt → Array Value → Option Value → Pt → Prop} {PostX : Pt → Array Value → Addr → Pt → Prop} (hK : vx_Back l R p e below s args y 3 W9 Pre Post PostX)
    {g : JFrame} (hg : g.method = m) (hsize : g.locals.size = c.maxLocals) {argsL rest : List Value} (hlen : ∀ sig, parseMethodDescriptor y.desc = some sig → argsL.length = sig.parameters.length)
    (hstack : g.stack = argsL.reverse ++ rest) (hW : 2 * g.monitorRoom + (rest.map fun v => v.category).sum ≤ W9) (hdg : decode c.code g.pc = .ok (.invokestatic index, 3))
    (hpre : ∀ vm₁, s.WarmedH vm₁ → Pre ⟨T.setVm vm₁, locs, cells, slots⟩ argsL.toArray) :
    (∃ (v : Option Value) (vm₁ : Vm) (B : Pt), s.WarmedH vm₁ ∧ Stand p l e R s m args below meth c B.U B.locs B.cells B.slots ∧ Post ⟨T.setVm vm₁, locs, cells, slots⟩ argsL.toArray v B ∧
      ∀ target, Steps p.tables e below (B.U.setTop { g with pc := g.pc + 3, stack := v.toList ++ rest }) target → Steps p.tables e below (T.setTop g) target) ∨
    (∃ (q : Addr) (vm₁ : Vm) (B : Pt), s.WarmedH vm₁ ∧ Stand p l e R s m args below meth c B.U B.locs B.cells B.slots ∧ PostX ⟨T.setVm vm₁, locs, cells, slots⟩ argsL.toArray q B ∧
      Steps p.tables e below (T.setTop g) ((B.U.setTop { g with stack := rest }).pushFrame (.throwing q))) := by
  obtain ⟨mk, methM, cM, hnamed, hmethM, -, -, -, -, -, -, hsigM⟩ := Cond.codeWith_spec hcode
  have hstatic : methM.isStatic = true := Cond.static_spec hnamed hmethM hstat
  obtain ⟨kP, hkP, -⟩ := className_of_methodNamed hnamed
  have hinitP : kP.init = .initialized := Cond.initialized_spec (findClass_of_methodNamed hnamed) hkP hinit
  obtain ⟨vm₁, X₁, hstep₁⟩ := X.invokestatic hexec hown hlink hnamed hmethM hstatic hkP hinitP hy (g := g) hg (argsL := argsL) (rest := rest) (hlen _ hsigM) hstack hdg
  rcases hK m meth c ⟨T.setVm vm₁, locs, cells, slots⟩ { g with stack := rest } (.invokestatic index) mk argsL.toArray X₁ hg hsize hdg hW (X₁.named hnamed) (hpre vm₁ X₁.warmed) with ⟨v, B, X', hpost, hsteps⟩ | ⟨q, B, X', hpost, hsteps⟩
  · exact Or.inl ⟨v, vm₁, B, X₁.warmed, X', hpost, fun target h => hstep₁ _ fun acts => by rw [doInvoke_state]; exact hsteps.trans h⟩
  · exact Or.inr ⟨q, vm₁, B, X₁.warmed, X', hpost, hstep₁ _ fun acts => by rw [doInvoke_state]; exact hsteps⟩
theorem vx_callVW (X : Stand p l e R s m args below meth c T locs cells slots) (hexec : p.tables.exec = Jvm.exec) {own C : String} {index : Nat} {y : MethodName} {bytes : ByteArray} {maxL : Nat} {ret : Option FieldType} {hh : List (Nat × Nat × Nat × Nat)}
    (hown : s.vm.findClass own = some m.cls) (hlink : (Cond.methodLink own index y).before args s = true) (hinst : (Cond.instanceMethod y).before args s = true) (hsel : (Cond.selects C y y).before args s = true)
    (hcode : (Cond.codeWith y bytes maxL ret hh).before args s = true) (hy : y.cls ≠ "java/lang/invoke/MethodHandle" ∧ y.cls ≠ "java/lang/invoke/VarHandle")
    {W9 : Nat} {Pre : Pt → Array Value → Prop} {Post : Pt → Array Value → Option Value → Pt → Prop} (hK : Back l R p e below s args y 3 W9 Pre Post)
    {b : Addr} {cellB : Cell} (hcell : T.heap[b]? = some cellB) (hobj : cellB.vm.isStatics = false) (hcls : s.vm.findClass C = some cellB.cls)
    {g : JFrame} (hg : g.method = m) (hsize : g.locals.size = c.maxLocals) {argsL rest : List Value} (hlen : ∀ sig, parseMethodDescriptor y.desc = some sig → argsL.length = sig.parameters.length)
    (hstack : g.stack = argsL.reverse ++ .ref b :: rest) (hW : 2 * g.monitorRoom + (rest.map fun v => v.category).sum ≤ W9) (hdg : decode c.code g.pc = .ok (.invokevirtual index, 3))
    (hpre : ∀ vm₁, s.WarmedH vm₁ → Pre ⟨T.setVm vm₁, locs, cells, slots⟩ (Value.ref b :: argsL).toArray) :
    ∃ (v : Option Value) (vm₁ : Vm) (B : Pt), s.WarmedH vm₁ ∧ Stand p l e R s m args below meth c B.U B.locs B.cells B.slots ∧ Post ⟨T.setVm vm₁, locs, cells, slots⟩ (Value.ref b :: argsL).toArray v B ∧
      ∀ target, Steps p.tables e below (B.U.setTop { g with pc := g.pc + 3, stack := v.toList ++ rest }) target → Steps p.tables e below (T.setTop g) target := by
  obtain ⟨mk, methM, hnamed, hmethM, hstM, habM⟩ := Cond.instanceMethod_spec hinst
  obtain ⟨m8, methM', cM, hn8, hmethM', -, -, -, -, -, -, hsigM⟩ := Cond.codeWith_spec hcode
  cases Option.some.inj (hn8.symm.trans hnamed)
  cases hmethM.symm.trans hmethM'
  obtain ⟨c2, r2, m2, q1, q2, q3, q4, kP, hkP, hkPi⟩ := Cond.selects_spec hsel
  cases hcls.symm.trans q1
  cases (State.methodFound?_of_named hnamed hy).symm.trans q2
  cases hnamed.symm.trans q3
  have hselP : selectMethod e.platform s.vm cellB.cls mk = .method mk := by rw [Launch.admits_selectMethod X.admits]; exact q4
  obtain ⟨vm₁, X₁, hstep₁⟩ := X.invokevirtual hexec hown hlink hnamed hmethM hstM hkP hkPi hy (a := b) (cell := cellB) hcell
    (fun z h => by rw [h] at hobj; cases hobj) hselP hmethM habM hkP hkPi (g := g) hg (argsL := argsL) (rest := rest) (hlen _ hsigM) hstack hdg
  obtain ⟨v, B, X', hpost, hsteps⟩ := hK m meth c ⟨T.setVm vm₁, locs, cells, slots⟩ { g with stack := rest } (.invokevirtual index) mk (Value.ref b :: argsL).toArray X₁ hg hsize hdg hW (X₁.named hnamed) (hpre vm₁ X₁.warmed)
  exact ⟨v, vm₁, B, X₁.warmed, X', hpost, fun target h => hstep₁ _ fun acts => by rw [doInvoke_state]; exact hsteps.trans h⟩
abbrev vx_CVW (R : Room) (s : State) (args : Array Value) (own C : String) (index : Nat) (y : MethodName) (bytes : ByteArray) (maxL : Nat) (ret : Option FieldType) (hh : List (Nat × Nat × Nat × Nat)) (ws : List Cond) (rm : Room) (mc ms n : Nat) : Prop :=
  (rm.cells = mc ∧ rm.slots = ms ∧ rm.frames + 1 ≤ R.frames ∧ 8 + (maxL + 11) + rm.locals ≤ R.locals ∧ (∀ w ∈ ws, ∀ (a' : Array Value) (U : State), s.WarmedH U.vm → w.before a' U = true) ∧ Cond.codeWith y bytes maxL ret hh ∈ ws) ∧
  (Cond.codeWith y bytes maxL ret hh).before args s = true ∧ (Cond.initialized y.cls).before args s = true ∧ (y.cls ≠ "java/lang/invoke/MethodHandle" ∧ y.cls ≠ "java/lang/invoke/VarHandle") ∧
  (∀ sig, parseMethodDescriptor y.desc = some sig → n = sig.parameters.length) ∧ (Cond.methodLink own index y).before args s = true ∧ (Cond.instanceMethod y).before args s = true ∧ (Cond.selects C y y).before args s = true
theorem vx_cwVW {own C : String} {index maxL mc ms : Nat} {y : MethodName} {bytes : ByteArray} {ret : Option FieldType} {hh : List (Nat × Nat × Nat × Nat)} {Ts ws ws' : List Cond} {rm : Room} (n : Nat) (ht : ∀ w ∈ Ts, w.before args s = true) (hT : GoodIn Ts (wsV own index C y ws)) (hw : ws = Cond.codeWith y bytes maxL ret hh :: ws') (hrc : rm.cells = mc) (hrs : rm.slots = ms)
    (hd : y.cls = C ∧ y.cls ≠ "java/lang/invoke/MethodHandle" ∧ y.cls ≠ "java/lang/invoke/VarHandle" ∧ (parseMethodDescriptor y.desc).map (fun d => d.parameters.length) = some n) (hR : rm.frames + 1 ≤ R.frames ∧ 8 + (maxL + 11) + rm.locals ≤ R.locals) :
    vx_CVW R s args own C index y bytes maxL ret hh ws rm mc ms n := by
  obtain ⟨hC, hd⟩ := hd
  subst hC
  have ok : ∀ w ∈ wsV own index y.cls y ws, w.before args s = true := fun w h => ht w (hT w h).1
  have hG : GoodIn Ts ws := fun w h => hT w (by unfold wsV; exact List.mem_append_right _ h)
  have hc : Cond.codeWith y bytes maxL ret hh ∈ ws := by rw [hw]; exact List.mem_cons_self
  refine ⟨⟨hrc, hrs, hR.1, hR.2, pay_in ht hG, hc⟩, ht _ (hG _ hc).1, ok _ (by simp [wsV]), ⟨hd.1, hd.2.1⟩, fun sig h => ?_, ok _ (by simp [wsV]), ok _ (by simp [wsV]), ok _ (by simp [wsV])⟩
  have h2 := hd.2.2
  rw [h] at h2
  exact (Option.some.inj h2).symm
theorem vx_runVW {y : MethodName} {bytes cc : ByteArray} {maxL nL mc ms n index : Nat} {ret : Option FieldType} {hh : List (Nat × Nat × Nat × Nat)} {ws : List Cond} {rm : Room} {Pc : Array Value → State → Prop} {Qc : Array Value → State → Outcome → State → Prop} {free : Addr → Prop} {Ts : List Cond} {own C : String} {b : Addr} {As rest : List Value} {g : JFrame}
    (S : CallFix p m c cc nL s args Ts own) (hM : Met l y ws rm Pc Qc mc ms free) (cw : vx_CVW R s args own C index y bytes maxL ret hh ws rm mc ms n) (hp : PreV s H C b Pc As)
    (hg : g.method = m) (hn : As.length = n) (hsize : g.locals.size = nL) (hstack : g.stack = As.reverse ++ .ref b :: rest) (hW : 2 * g.monitorRoom + (rest.map fun v => v.category).sum ≤ 8) (hdg : decode cc g.pc = .ok (.invokevirtual index, 3)) (hf : cells + mc ≤ R.cells ∧ slots + ms ≤ R.slots) :
    va_Run p l e R s m args below meth c H locs cells slots mc ms g rest (Qc (Value.ref b :: As).toArray) free := by
  obtain ⟨⟨hrc, hrs, hfr, hlo, hws, hcw⟩, hcode, hini, hy, hlen, hl, hin, hse⟩ := cw
  have hK : Back l R p e below s args y 3 8 (PreOf R mc ms Pc) (PostOf Qc mc ms free) := va_backW (hh := hh) (bytes := bytes) (maxL := maxL) (ret := ret) hM hp.1 hrc hrs hfr hlo hws hcw (fun a' U hW => word_at hW (Or.inl (by first | rfl | simp [Cond.onTables, Cond.keeps, Cond.steady])) hini)
  obtain ⟨hx, hb, hml, ho, -⟩ := S
  obtain ⟨-, ⟨cellB, hcB, hoB, hclB⟩, hPc⟩ := hp
  intro T hT X
  obtain ⟨v, vm₁, ⟨U', l2, c2, s2⟩, hW₁, X', ⟨g', mk, t, L, e1, e2, hq, h1, hL, h2, h3⟩, st⟩ := vx_callVW X hx (C := C) (hh := hh) (bytes := bytes) (maxL := maxL) (ret := ret) ho hl hin hse hcode hy hK (by rw [hT]; exact hcB) hoB hclB hg (hsize.trans hml.symm) (argsL := As) (rest := rest) (fun sig h => hn.trans (hlen sig h)) hstack hW (by rw [hb]; exact hdg)
    (fun vm₁ hW₁ => ⟨hf.1, hf.2, hPc (T.setVm vm₁) hT hW₁⟩)
  dsimp only [Pt.U, Pt.locs, Pt.cells, Pt.slots] at X' e1 e2 h1 h2 h3 st
  subst h1; subst h2; subst h3
  exact ⟨v, (T.setVm vm₁).calling g' mk (Value.ref b :: As).toArray, t, U', L, hT, X', hL, e1, e2, hq, st⟩
section
variable {y : MethodName} {bytes cc : ByteArray} {maxL nL mc ms n index : Nat} {ret : Option FieldType} {ws : List Cond} {rm : Room} {Pc : Array Value → State → Prop} {Qc : Array Value → State → Outcome → State → Prop} {XC : String → State → State → Prop} {free : Addr → Prop} {Ts : List Cond} {own C : String} {b : Addr} {As rest : List Value} {g : JFrame}
theorem vx_runVX {hh : List (Nat × Nat × Nat × Nat)} (S : CallFix p m c cc nL s args Ts own) (hM : vx_Met l y ws rm Pc Qc XC mc ms free) (cw : vx_CVW R s args own C index y bytes maxL ret hh ws rm mc ms n) (hp : PreV s H C b Pc As)
    (hg : g.method = m) (hn : As.length = n) (hsize : g.locals.size = nL) (hstack : g.stack = As.reverse ++ .ref b :: rest) (hW : 2 * g.monitorRoom + (rest.map fun v => v.category).sum ≤ 8) (hdg : decode cc g.pc = .ok (.invokevirtual index, 3)) (hf : cells + mc ≤ R.cells ∧ slots + ms ≤ R.slots) :
    vx_Run p l e R s m args below meth c H locs cells slots mc ms g rest (Qc (Value.ref b :: As).toArray) XC free := by
  obtain ⟨⟨hrc, hrs, hfr, hlo, hws, hcw⟩, hcode, hini, hy, hlen, hl, hin, hse⟩ := cw
  have hK : vx_Back l R p e below s args y 3 8 (PreOf R mc ms Pc) (PostOf Qc mc ms free) (vx_Post XC mc ms free) := vx_backW (hh := hh) (bytes := bytes) (maxL := maxL) (ret := ret) hM hp.1 hrc hrs hfr hlo hws hcw (fun a' U hW => word_at hW (Or.inl (by first | rfl | simp [Cond.onTables, Cond.keeps, Cond.steady])) hini)
  obtain ⟨hx, hb, hml, ho, -⟩ := S
  obtain ⟨-, ⟨cellB, hcB, hoB, hclB⟩, hPc⟩ := hp
  intro T hT X
  rcases vx_callVX X hx (C := C) (hh := hh) (bytes := bytes) (maxL := maxL) (ret := ret) ho hl hin hse hcode hy hK (by rw [hT]; exact hcB) hoB hclB hg (hsize.trans hml.symm) (argsL := As) (rest := rest) (fun sig h => hn.trans (hlen sig h)) hstack hW (by rw [hb]; exact hdg)
    (fun vm₁ hW₁ => ⟨hf.1, hf.2, hPc (T.setVm vm₁) hT hW₁⟩) with ⟨v, vm₁, ⟨U', l2, c2, s2⟩, hW₁, X', ⟨g', mk, t, L, e1, e2, hq, h1, hL, h2, h3⟩, st⟩ | ⟨q, vm₁, ⟨U', l2, c2, s2⟩, hW₁, X', ⟨g', mk, t, L, E, ce, e1, e2, hq, hce, hcv, hcl, h1, hL, h2, h3⟩, st⟩
  · dsimp only [Pt.U, Pt.locs, Pt.cells, Pt.slots] at X' e1 e2 h1 h2 h3 st
    subst h1; subst h2; subst h3
    exact Or.inl ⟨v, (T.setVm vm₁).calling g' mk (Value.ref b :: As).toArray, t, U', L, hT, X', hL, e1, e2, hq, st⟩
  · dsimp only [Pt.U, Pt.locs, Pt.cells, Pt.slots] at X' e1 e2 h1 h2 h3 st hcl
    subst h1; subst h2; subst h3
    exact Or.inr ⟨q, (T.setVm vm₁).calling g' mk (Value.ref b :: As).toArray, t, U', L, E, ce, hT, X', hL, e1, e2, hq, hce, hcv, vx_cls hW₁ hcl, st⟩
theorem vx_runSX {hh : List (Nat × Nat × Nat × Nat)} (S : CallFix p m c cc nL s args Ts own) (hM : vx_Met l y ws rm Pc Qc XC mc ms free) (cw : vx_CSW R s args own index y bytes maxL ret hh ws rm mc ms n) (hp : PreS s H Pc As)
    (hg : g.method = m) (hn : As.length = n) (hsize : g.locals.size = nL) (hstack : g.stack = As.reverse ++ rest) (hW : 2 * g.monitorRoom + (rest.map fun v => v.category).sum ≤ 8) (hdg : decode cc g.pc = .ok (.invokestatic index, 3)) (hf : cells + mc ≤ R.cells ∧ slots + ms ≤ R.slots) :
    vx_Run p l e R s m args below meth c H locs cells slots mc ms g rest (Qc As.toArray) XC free := by
  obtain ⟨⟨hrc, hrs, hfr, hlo, hws, hcw⟩, hcode, hini, hy, hlen, hl, hstt⟩ := cw
  have hK : vx_Back l R p e below s args y 3 8 (PreOf R mc ms Pc) (PostOf Qc mc ms free) (vx_Post XC mc ms free) := vx_backW (hh := hh) (bytes := bytes) (maxL := maxL) (ret := ret) hM hp.1 hrc hrs hfr hlo hws hcw (fun a' U hW => word_at hW (Or.inl (by first | rfl | simp [Cond.onTables, Cond.keeps, Cond.steady])) hini)
  obtain ⟨hx, hb, hml, ho, -⟩ := S
  intro T hT X
  rcases vx_callSX X hx (hh := hh) (bytes := bytes) (maxL := maxL) (ret := ret) ho hl hstt hini hcode hy hK hg (hsize.trans hml.symm) (argsL := As) (rest := rest) (fun sig h => hn.trans (hlen sig h)) hstack hW (by rw [hb]; exact hdg)
    (fun vm₁ hW₁ => ⟨hf.1, hf.2, hp.2 (T.setVm vm₁) hT hW₁⟩) with ⟨v, vm₁, ⟨U', l2, c2, s2⟩, hW₁, X', ⟨g', mk, t, L, e1, e2, hq, h1, hL, h2, h3⟩, st⟩ | ⟨q, vm₁, ⟨U', l2, c2, s2⟩, hW₁, X', ⟨g', mk, t, L, E, ce, e1, e2, hq, hce, hcv, hcl, h1, hL, h2, h3⟩, st⟩
  · dsimp only [Pt.U, Pt.locs, Pt.cells, Pt.slots] at X' e1 e2 h1 h2 h3 st
    subst h1; subst h2; subst h3
    exact Or.inl ⟨v, (T.setVm vm₁).calling g' mk As.toArray, t, U', L, hT, X', hL, e1, e2, hq, st⟩
  · dsimp only [Pt.U, Pt.locs, Pt.cells, Pt.slots] at X' e1 e2 h1 h2 h3 st hcl
    subst h1; subst h2; subst h3
    exact Or.inr ⟨q, (T.setVm vm₁).calling g' mk As.toArray, t, U', L, E, ce, hT, X', hL, e1, e2, hq, hce, hcv, vx_cls hW₁ hcl, st⟩
end
end VXH
theorem vx_ofWH {l : Launch} {y : MethodName} {ws ws' : List Cond} {rm : Room} {Pc : Array Value → State → Prop} {Qc : Array Value → State → Outcome → State → Prop} {XC : String → State → State → Prop} {mc ms : Nat} {free : Addr → Prop} {cc : ByteArray} {maxL : Nat} {ret : Option FieldType} {hh : List (Nat × Nat × Nat × Nat)}
    (hy : plainName y.cls = true) (hw : ws = Cond.codeWith y cc maxL ret hh :: ws')
    (body : ∀ p e s m args below meth c s₁, BodyLoose p l y (headSpec ws rm) cc maxL ret e s m args below meth c s₁ → c.maxLocals = maxL → Pc args s →
      W p l e (headSpec ws rm).room s m args below meth c s.heap [] 0 0 (vx_MQ below Qc XC args s mc ms free) (entryFrame m args maxL)) : vx_Met l y ws rm Pc Qc XC mc ms free := by
  refine MetFree.of_bodyS (code := cc) (maxLocals := maxL) (ret := ret) hy ?_ ?_
  · intro args s m h hn
    obtain ⟨m9, meth, c, hn9, h1, h2, h3, h4, -, h5, h6, -⟩ := Cond.codeWith_spec (atoms_spec (ws := ws) h _ (by rw [hw]; exact List.mem_cons_self))
    cases hn.symm.trans hn9
    exact ⟨meth, c, h1, h2, h3, h4, h5, h6⟩
  · intro p e s m args below meth c s₁ B hml hP _
    have hh0 : s₁.heap = s.heap := by rw [B.state]; rfl
    obtain ⟨t, a1, o, b1, b2, b3⟩ := body p e s m args below meth c s₁ B hml hP s₁ hh0 (Stand.of_body B)
    exact ⟨t, o, a1, b1, b2, b3⟩
/-! ===== END ===== -/
end
section
/-! ===== BEGIN printed: names, fields, word lists, decode rows ===== -/
def RX0 : String := "BarometerLeague$Sign"
def TX0 : u_T := fun k => match k with
  | 0 => ("BarometerLeague$Sign", "kind", "I", true)
  | _ => ("BarometerLeague$Sign", "number", "I", true)
def tyX0 : Nat → FieldType := fun k => match k with
  | 0 => .int
  | _ => .int
abbrev wsX00 : List Cond := u_ws RX0 TX0 2
theorem nmX0 : ∀ a, a < 2 → ∀ b, b < 2 → a ≠ b → (TX0 a).2.1 ≠ (TX0 b).2.1 := by decide +kernel
theorem tyX0_ok : ∀ k, k < 2 → parseFieldDescriptor (TX0 k).2.2.1 = some (tyX0 k) := by decide +kernel
abbrev cX0_init : ByteArray := prog_2_method_1_code
def yX0_init : MethodName := ⟨RX0, "<init>", "(II)V"⟩
abbrev cX0_saysRain : ByteArray := prog_2_method_2_code
def yX0_saysRain : MethodName := ⟨RX0, "saysRain", "(LBarometerLeague$Weather;I)Z"⟩
abbrev cX0_daysRight : ByteArray := prog_2_method_3_code
def yX0_daysRight : MethodName := ⟨RX0, "daysRight", "(LBarometerLeague$Weather;)I"⟩
def RX1 : String := "BarometerLeague$Village"
def TX1 : u_T := fun k => match k with
  | 0 => ("BarometerLeague$Village", "weights", "[I", true)
  | 1 => ("BarometerLeague$Village", "number", "I", false)
  | 2 => ("BarometerLeague$Village", "points", "I", false)
  | 3 => ("BarometerLeague$Village", "coins", "I", false)
  | _ => ("BarometerLeague$Village", "rowOfHits", "I", false)
def tyX1 : Nat → FieldType := fun k => match k with
  | 0 => .array .int
  | 1 => .int
  | 2 => .int
  | 3 => .int
  | _ => .int
abbrev wsX10 : List Cond := u_ws RX1 TX1 5
theorem nmX1 : ∀ a, a < 5 → ∀ b, b < 5 → a ≠ b → (TX1 a).2.1 ≠ (TX1 b).2.1 := by decide +kernel
theorem tyX1_ok : ∀ k, k < 5 → parseFieldDescriptor (TX1 k).2.2.1 = some (tyX1 k) := by decide +kernel
abbrev cX1_init : ByteArray := prog_3_method_1_code
def yX1_init : MethodName := ⟨RX1, "<init>", "(I)V"⟩
abbrev cX1_becomeLike : ByteArray := prog_3_method_2_code
def yX1_becomeLike : MethodName := ⟨RX1, "becomeLike", "(LBarometerLeague$Village;)V"⟩
abbrev cX1_weightOf : ByteArray := prog_3_method_3_code
def yX1_weightOf : MethodName := ⟨RX1, "weightOf", "(I)I"⟩
abbrev cX1_putWeight : ByteArray := prog_3_method_4_code
def yX1_putWeight : MethodName := ⟨RX1, "putWeight", "(II)V"⟩
abbrev cX1_allWeights : ByteArray := prog_3_method_5_code
def yX1_allWeights : MethodName := ⟨RX1, "allWeights", "(I)I"⟩
abbrev cX1_buyWeightsOf : ByteArray := prog_3_method_6_code
def yX1_buyWeightsOf : MethodName := ⟨RX1, "buyWeightsOf", "(LBarometerLeague$Village;)V"⟩
abbrev cX1_leadOfRain : ByteArray := prog_3_method_7_code
def yX1_leadOfRain : MethodName := ⟨RX1, "leadOfRain", "([I)I"⟩
abbrev cX1_guessesRain : ByteArray := prog_3_method_8_code
def yX1_guessesRain : MethodName := ⟨RX1, "guessesRain", "([I)Z"⟩
abbrev cX1_liveDay : ByteArray := prog_3_method_9_code
def yX1_liveDay : MethodName := ⟨RX1, "liveDay", "([IZ)Z"⟩
abbrev cX1_learn : ByteArray := prog_3_method_10_code
def yX1_learn : MethodName := ⟨RX1, "learn", "([II)V"⟩
abbrev cX1_sellAlmanacs : ByteArray := prog_3_method_11_code
def yX1_sellAlmanacs : MethodName := ⟨RX1, "sellAlmanacs", "()V"⟩
abbrev cX1_isAheadOf : ByteArray := prog_3_method_12_code
def yX1_isAheadOf : MethodName := ⟨RX1, "isAheadOf", "(LBarometerLeague$Village;)Z"⟩
def RX2 : String := "BarometerLeague$VillageRow"
def TX2 : u_T := fun k => match k with
  | 0 => ("BarometerLeague$VillageRow", "places", "[LBarometerLeague$Village;", true)
  | _ => ("BarometerLeague$VillageRow", "size", "I", false)
def tyX2 : Nat → FieldType := fun k => match k with
  | 0 => .array (.object "BarometerLeague$Village")
  | _ => .int
abbrev wsX20 : List Cond := u_ws RX2 TX2 2
theorem nmX2 : ∀ a, a < 2 → ∀ b, b < 2 → a ≠ b → (TX2 a).2.1 ≠ (TX2 b).2.1 := by decide +kernel
theorem tyX2_ok : ∀ k, k < 2 → parseFieldDescriptor (TX2 k).2.2.1 = some (tyX2 k) := by decide +kernel
abbrev cX2_init : ByteArray := prog_4_method_1_code
def yX2_init : MethodName := ⟨RX2, "<init>", "(I)V"⟩
abbrev cX2_size : ByteArray := prog_4_method_2_code
def yX2_size : MethodName := ⟨RX2, "size", "()I"⟩
abbrev cX2_isFull : ByteArray := prog_4_method_3_code
def yX2_isFull : MethodName := ⟨RX2, "isFull", "()Z"⟩
abbrev cX2_get : ByteArray := prog_4_method_4_code
def yX2_get : MethodName := ⟨RX2, "get", "(I)LBarometerLeague$Village;"⟩
abbrev cX2_grow : ByteArray := prog_4_method_5_code
def yX2_grow : MethodName := ⟨RX2, "grow", "()V"⟩
abbrev cX2_clear : ByteArray := prog_4_method_6_code
def yX2_clear : MethodName := ⟨RX2, "clear", "()V"⟩
abbrev cX2_addCopy : ByteArray := prog_4_method_7_code
def yX2_addCopy : MethodName := ⟨RX2, "addCopy", "(LBarometerLeague$Village;)V"⟩
abbrev cX2_placeOf : ByteArray := prog_4_method_8_code
def yX2_placeOf : MethodName := ⟨RX2, "placeOf", "(LBarometerLeague$Village;)I"⟩
abbrev cX2_liveDay : ByteArray := prog_4_method_9_code
def yX2_liveDay : MethodName := ⟨RX2, "liveDay", "([IZ)I"⟩
abbrev cX2_allPoints : ByteArray := prog_4_method_10_code
def yX2_allPoints : MethodName := ⟨RX2, "allPoints", "()I"⟩
abbrev cX2_allCoins : ByteArray := prog_4_method_11_code
def yX2_allCoins : MethodName := ⟨RX2, "allCoins", "()I"⟩
abbrev cX2_allWeightsOf : ByteArray := prog_4_method_12_code
def yX2_allWeightsOf : MethodName := ⟨RX2, "allWeightsOf", "(I)I"⟩
abbrev cX2_guessingRain : ByteArray := prog_4_method_13_code
def yX2_guessingRain : MethodName := ⟨RX2, "guessingRain", "([I)I"⟩
def RX3 : String := "BarometerLeague$Weather"
def TX3 : u_T := fun k => match k with
  | 0 => ("BarometerLeague$Weather", "glass", "[I", true)
  | _ => ("BarometerLeague$Weather", "rain", "[Z", true)
def tyX3 : Nat → FieldType := fun k => match k with
  | 0 => .array .int
  | _ => .array .boolean
abbrev wsX30 : List Cond := u_ws RX3 TX3 2
theorem nmX3 : ∀ a, a < 2 → ∀ b, b < 2 → a ≠ b → (TX3 a).2.1 ≠ (TX3 b).2.1 := by decide +kernel
theorem tyX3_ok : ∀ k, k < 2 → parseFieldDescriptor (TX3 k).2.2.1 = some (tyX3 k) := by decide +kernel
abbrev cX3_init : ByteArray := prog_5_method_1_code
def yX3_init : MethodName := ⟨RX3, "<init>", "()V"⟩
abbrev cX3_glassOn : ByteArray := prog_5_method_2_code
def yX3_glassOn : MethodName := ⟨RX3, "glassOn", "(I)I"⟩
abbrev cX3_putGlass : ByteArray := prog_5_method_3_code
def yX3_putGlass : MethodName := ⟨RX3, "putGlass", "(II)V"⟩
abbrev cX3_rainsOn : ByteArray := prog_5_method_4_code
def yX3_rainsOn : MethodName := ⟨RX3, "rainsOn", "(I)Z"⟩
abbrev cX3_putRain : ByteArray := prog_5_method_5_code
def yX3_putRain : MethodName := ⟨RX3, "putRain", "(IZ)V"⟩
abbrev cX3_rainyDays : ByteArray := prog_5_method_6_code
def yX3_rainyDays : MethodName := ⟨RX3, "rainyDays", "()I"⟩
def RX4 : String := "BarometerLeague"
def TX4 : u_T := fun k => match k with
  | 0 => ("BarometerLeague", "weather", "LBarometerLeague$Weather;", true)
  | 1 => ("BarometerLeague", "signs", "Ljava/util/ArrayList;", true)
  | 2 => ("BarometerLeague", "villages", "LBarometerLeague$VillageRow;", true)
  | 3 => ("BarometerLeague", "day", "I", false)
  | 4 => ("BarometerLeague", "sayings", "[I", true)
  | _ => ("BarometerLeague", "trials", "LBarometerLeague$VillageRow;", true)
def tyX4 : Nat → FieldType := fun k => match k with
  | 0 => .object "BarometerLeague$Weather"
  | 1 => .object "java/util/ArrayList"
  | 2 => .object "BarometerLeague$VillageRow"
  | 3 => .int
  | 4 => .array .int
  | _ => .object "BarometerLeague$VillageRow"
abbrev wsX40 : List Cond := u_ws RX4 TX4 6
theorem nmX4 : ∀ a, a < 6 → ∀ b, b < 6 → a ≠ b → (TX4 a).2.1 ≠ (TX4 b).2.1 := by decide +kernel
theorem tyX4_ok : ∀ k, k < 6 → parseFieldDescriptor (TX4 k).2.2.1 = some (tyX4 k) := by decide +kernel
abbrev cX4_init : ByteArray := prog_1_method_1_code
def yX4_init : MethodName := ⟨RX4, "<init>", "()V"⟩
abbrev cX4_setGlass : ByteArray := prog_1_method_2_code
def yX4_setGlass : MethodName := ⟨RX4, "setGlass", "(II)I"⟩
abbrev cX4_setRain : ByteArray := prog_1_method_3_code
def yX4_setRain : MethodName := ⟨RX4, "setRain", "(IZ)Z"⟩
abbrev cX4_sign : ByteArray := prog_1_method_4_code
def yX4_sign : MethodName := ⟨RX4, "sign", "(II)I"⟩
abbrev cX4_join : ByteArray := prog_1_method_5_code
def yX4_join : MethodName := ⟨RX4, "join", "()I"⟩
abbrev cX4_weigh : ByteArray := prog_1_method_6_code
def yX4_weigh : MethodName := ⟨RX4, "weigh", "(III)I"⟩
abbrev cX4_share : ByteArray := prog_1_method_7_code
def yX4_share : MethodName := ⟨RX4, "share", "(II)I"⟩
abbrev cX4_says : ByteArray := prog_1_method_8_code
def yX4_says : MethodName := ⟨RX4, "says", "(II)Z"⟩
abbrev cX4_told : ByteArray := prog_1_method_9_code
def yX4_told : MethodName := ⟨RX4, "told", "(II)I"⟩
abbrev cX4_weight : ByteArray := prog_1_method_10_code
def yX4_weight : MethodName := ⟨RX4, "weight", "(II)I"⟩
abbrev cX4_about : ByteArray := prog_1_method_11_code
def yX4_about : MethodName := ⟨RX4, "about", "(II)I"⟩
abbrev cX4_at : ByteArray := prog_1_method_12_code
def yX4_at : MethodName := ⟨RX4, "at", "(I)I"⟩
abbrev cX4_count : ByteArray := prog_1_method_13_code
def yX4_count : MethodName := ⟨RX4, "count", "(I)I"⟩
abbrev cX4_pass : ByteArray := prog_1_method_14_code
def yX4_pass : MethodName := ⟨RX4, "pass", "(I)I"⟩
abbrev cX4_foresee : ByteArray := prog_1_method_15_code
def yX4_foresee : MethodName := ⟨RX4, "foresee", "(II)I"⟩
abbrev cX4_overtakes : ByteArray := prog_1_method_16_code
def yX4_overtakes : MethodName := ⟨RX4, "overtakes", "(II)I"⟩
abbrev cX4_advise : ByteArray := prog_1_method_17_code
def yX4_advise : MethodName := ⟨RX4, "advise", "(II)I"⟩
abbrev cX4_best : ByteArray := prog_1_method_18_code
def yX4_best : MethodName := ⟨RX4, "best", "()I"⟩
abbrev cX4_mean : ByteArray := prog_1_method_19_code
def yX4_mean : MethodName := ⟨RX4, "mean", "()D"⟩
abbrev cX4_digest : ByteArray := prog_1_method_20_code
def yX4_digest : MethodName := ⟨RX4, "digest", "()J"⟩
abbrev cX4_digestWith : ByteArray := prog_1_method_21_code
def yX4_digestWith : MethodName := ⟨RX4, "digestWith", "(JI)J"⟩
abbrev cX4_liveDays : ByteArray := prog_1_method_22_code
def yX4_liveDays : MethodName := ⟨RX4, "liveDays", "(LBarometerLeague$VillageRow;I)I"⟩
abbrev cX4_liveDay : ByteArray := prog_1_method_23_code
def yX4_liveDay : MethodName := ⟨RX4, "liveDay", "(LBarometerLeague$VillageRow;I)I"⟩
abbrev cX4_sayingsOn : ByteArray := prog_1_method_24_code
def yX4_sayingsOn : MethodName := ⟨RX4, "sayingsOn", "(I)[I"⟩
abbrev cX4_countOver : ByteArray := prog_1_method_25_code
def yX4_countOver : MethodName := ⟨RX4, "countOver", "(LBarometerLeague$VillageRow;II)I"⟩
abbrev cX4_requireTableDay : ByteArray := prog_1_method_26_code
def yX4_requireTableDay : MethodName := ⟨RX4, "requireTableDay", "(I)V"⟩
abbrev cX4_requireSign : ByteArray := prog_1_method_27_code
def yX4_requireSign : MethodName := ⟨RX4, "requireSign", "(I)V"⟩
abbrev cX4_requireTwo : ByteArray := prog_1_method_28_code
def yX4_requireTwo : MethodName := ⟨RX4, "requireTwo", "(II)V"⟩
abbrev cX4_requireWhat : ByteArray := prog_1_method_29_code
def yX4_requireWhat : MethodName := ⟨RX4, "requireWhat", "(III)V"⟩
abbrev cX4_requireDays : ByteArray := prog_1_method_30_code
def yX4_requireDays : MethodName := ⟨RX4, "requireDays", "(II)V"⟩
def RX5 : String := "BarometerLeagueModel$State"
def TX5 : u_T := fun k => match k with
  | 0 => ("BarometerLeagueModel$State", "day", "I", false)
  | 1 => ("BarometerLeagueModel$State", "hits", "I", false)
  | 2 => ("BarometerLeagueModel$State", "points", "[I", true)
  | 3 => ("BarometerLeagueModel$State", "coins", "[I", true)
  | 4 => ("BarometerLeagueModel$State", "row", "[I", true)
  | _ => ("BarometerLeagueModel$State", "weight", "[I", true)
def tyX5 : Nat → FieldType := fun k => match k with
  | 0 => .int
  | 1 => .int
  | 2 => .array .int
  | 3 => .array .int
  | 4 => .array .int
  | _ => .array .int
abbrev wsX50 : List Cond := u_ws RX5 TX5 6
theorem nmX5 : ∀ a, a < 6 → ∀ b, b < 6 → a ≠ b → (TX5 a).2.1 ≠ (TX5 b).2.1 := by decide +kernel
theorem tyX5_ok : ∀ k, k < 6 → parseFieldDescriptor (TX5 k).2.2.1 = some (tyX5 k) := by decide +kernel
abbrev cX5_init : ByteArray := prog_8_method_1_code
def yX5_init : MethodName := ⟨RX5, "<init>", "()V"⟩
abbrev cX5_copy : ByteArray := prog_8_method_2_code
def yX5_copy : MethodName := ⟨RX5, "copy", "([I[I)V"⟩
abbrev cX5_become : ByteArray := prog_8_method_3_code
def yX5_become : MethodName := ⟨RX5, "become", "(LBarometerLeagueModel$State;)V"⟩
def RX6 : String := "BarometerLeagueModel"
def TX6 : u_T := fun k => match k with
  | 0 => ("BarometerLeagueModel", "thrown", "I", false)
  | 1 => ("BarometerLeagueModel", "glass", "[I", true)
  | 2 => ("BarometerLeagueModel", "rains", "[I", true)
  | 3 => ("BarometerLeagueModel", "signs", "I", false)
  | 4 => ("BarometerLeagueModel", "kind", "[I", true)
  | 5 => ("BarometerLeagueModel", "number", "[I", true)
  | 6 => ("BarometerLeagueModel", "villages", "I", false)
  | 7 => ("BarometerLeagueModel", "said", "[I", true)
  | 8 => ("BarometerLeagueModel", "now", "LBarometerLeagueModel$State;", true)
  | _ => ("BarometerLeagueModel", "ahead", "LBarometerLeagueModel$State;", true)
def tyX6 : Nat → FieldType := fun k => match k with
  | 0 => .int
  | 1 => .array .int
  | 2 => .array .int
  | 3 => .int
  | 4 => .array .int
  | 5 => .array .int
  | 6 => .int
  | 7 => .array .int
  | 8 => .object "BarometerLeagueModel$State"
  | _ => .object "BarometerLeagueModel$State"
abbrev wsX60 : List Cond := u_ws RX6 TX6 10
theorem nmX6 : ∀ a, a < 10 → ∀ b, b < 10 → a ≠ b → (TX6 a).2.1 ≠ (TX6 b).2.1 := by decide +kernel
theorem tyX6_ok : ∀ k, k < 10 → parseFieldDescriptor (TX6 k).2.2.1 = some (tyX6 k) := by decide +kernel
abbrev cX6_init : ByteArray := prog_7_method_1_code
def yX6_init : MethodName := ⟨RX6, "<init>", "()V"⟩
abbrev cX6_thrown : ByteArray := prog_7_method_2_code
def yX6_thrown : MethodName := ⟨RX6, "thrown", "()I"⟩
abbrev cX6_no : ByteArray := prog_7_method_3_code
def yX6_no : MethodName := ⟨RX6, "no", "(I)I"⟩
abbrev cX6_isIn : ByteArray := prog_7_method_4_code
def yX6_isIn : MethodName := ⟨RX6, "isIn", "(III)Z"⟩
abbrev cX6_isSign : ByteArray := prog_7_method_5_code
def yX6_isSign : MethodName := ⟨RX6, "isSign", "(I)Z"⟩
abbrev cX6_isVillage : ByteArray := prog_7_method_6_code
def yX6_isVillage : MethodName := ⟨RX6, "isVillage", "(I)Z"⟩
abbrev cX6_isRain : ByteArray := prog_7_method_7_code
def yX6_isRain : MethodName := ⟨RX6, "isRain", "(II)Z"⟩
abbrev cX6_look : ByteArray := prog_7_method_8_code
def yX6_look : MethodName := ⟨RX6, "look", "(I)V"⟩
abbrev cX6_isRight : ByteArray := prog_7_method_9_code
def yX6_isRight : MethodName := ⟨RX6, "isRight", "(II)Z"⟩
abbrev cX6_rightDays : ByteArray := prog_7_method_10_code
def yX6_rightDays : MethodName := ⟨RX6, "rightDays", "(I)I"⟩
abbrev cX6_lean : ByteArray := prog_7_method_11_code
def yX6_lean : MethodName := ⟨RX6, "lean", "(LBarometerLeagueModel$State;I)I"⟩
abbrev cX6_guess : ByteArray := prog_7_method_12_code
def yX6_guess : MethodName := ⟨RX6, "guess", "(LBarometerLeagueModel$State;II)V"⟩
abbrev cX6_learn : ByteArray := prog_7_method_13_code
def yX6_learn : MethodName := ⟨RX6, "learn", "(LBarometerLeagueModel$State;II)V"⟩
abbrev cX6_sell : ByteArray := prog_7_method_14_code
def yX6_sell : MethodName := ⟨RX6, "sell", "(LBarometerLeagueModel$State;I)V"⟩
abbrev cX6_pass : ByteArray := prog_7_method_15_code
def yX6_pass : MethodName := ⟨RX6, "pass", "(LBarometerLeagueModel$State;)V"⟩
abbrev cX6_passAll : ByteArray := prog_7_method_16_code
def yX6_passAll : MethodName := ⟨RX6, "passAll", "(LBarometerLeagueModel$State;I)LBarometerLeagueModel$State;"⟩
abbrev cX6_lookAhead : ByteArray := prog_7_method_17_code
def yX6_lookAhead : MethodName := ⟨RX6, "lookAhead", "()LBarometerLeagueModel$State;"⟩
abbrev cX6_isBetter : ByteArray := prog_7_method_18_code
def yX6_isBetter : MethodName := ⟨RX6, "isBetter", "(LBarometerLeagueModel$State;II)Z"⟩
abbrev cX6_placeOf : ByteArray := prog_7_method_19_code
def yX6_placeOf : MethodName := ⟨RX6, "placeOf", "(I)I"⟩
abbrev cX6_sumOf : ByteArray := prog_7_method_20_code
def yX6_sumOf : MethodName := ⟨RX6, "sumOf", "([I)I"⟩
abbrev cX6_rainGuessed : ByteArray := prog_7_method_21_code
def yX6_rainGuessed : MethodName := ⟨RX6, "rainGuessed", "(LBarometerLeagueModel$State;)I"⟩
abbrev cX6_setGlass : ByteArray := prog_7_method_22_code
def yX6_setGlass : MethodName := ⟨RX6, "setGlass", "(II)I"⟩
abbrev cX6_setRain : ByteArray := prog_7_method_23_code
def yX6_setRain : MethodName := ⟨RX6, "setRain", "(IZ)Z"⟩
abbrev cX6_sign : ByteArray := prog_7_method_24_code
def yX6_sign : MethodName := ⟨RX6, "sign", "(II)I"⟩
abbrev cX6_join : ByteArray := prog_7_method_25_code
def yX6_join : MethodName := ⟨RX6, "join", "()I"⟩
abbrev cX6_weigh : ByteArray := prog_7_method_26_code
def yX6_weigh : MethodName := ⟨RX6, "weigh", "(III)I"⟩
abbrev cX6_share : ByteArray := prog_7_method_27_code
def yX6_share : MethodName := ⟨RX6, "share", "(II)I"⟩
abbrev cX6_says : ByteArray := prog_7_method_28_code
def yX6_says : MethodName := ⟨RX6, "says", "(II)Z"⟩
abbrev cX6_signTold : ByteArray := prog_7_method_29_code
def yX6_signTold : MethodName := ⟨RX6, "signTold", "(II)I"⟩
abbrev cX6_told : ByteArray := prog_7_method_30_code
def yX6_told : MethodName := ⟨RX6, "told", "(II)I"⟩
abbrev cX6_weight : ByteArray := prog_7_method_31_code
def yX6_weight : MethodName := ⟨RX6, "weight", "(II)I"⟩
abbrev cX6_weightsOf : ByteArray := prog_7_method_32_code
def yX6_weightsOf : MethodName := ⟨RX6, "weightsOf", "(I)I"⟩
abbrev cX6_villageTold : ByteArray := prog_7_method_33_code
def yX6_villageTold : MethodName := ⟨RX6, "villageTold", "(II)I"⟩
abbrev cX6_about : ByteArray := prog_7_method_34_code
def yX6_about : MethodName := ⟨RX6, "about", "(II)I"⟩
abbrev cX6_at : ByteArray := prog_7_method_35_code
def yX6_at : MethodName := ⟨RX6, "at", "(I)I"⟩
abbrev cX6_counted : ByteArray := prog_7_method_36_code
def yX6_counted : MethodName := ⟨RX6, "counted", "(LBarometerLeagueModel$State;I)I"⟩
abbrev cX6_count : ByteArray := prog_7_method_37_code
def yX6_count : MethodName := ⟨RX6, "count", "(I)I"⟩
abbrev cX6_pass_ : ByteArray := prog_7_method_38_code
def yX6_pass_ : MethodName := ⟨RX6, "pass", "(I)I"⟩
abbrev cX6_foresee : ByteArray := prog_7_method_39_code
def yX6_foresee : MethodName := ⟨RX6, "foresee", "(II)I"⟩
abbrev cX6_overtakes : ByteArray := prog_7_method_40_code
def yX6_overtakes : MethodName := ⟨RX6, "overtakes", "(II)I"⟩
abbrev cX6_advise : ByteArray := prog_7_method_41_code
def yX6_advise : MethodName := ⟨RX6, "advise", "(II)I"⟩
abbrev cX6_best : ByteArray := prog_7_method_42_code
def yX6_best : MethodName := ⟨RX6, "best", "()I"⟩
abbrev cX6_mean : ByteArray := prog_7_method_43_code
def yX6_mean : MethodName := ⟨RX6, "mean", "()D"⟩
abbrev cX6_digest : ByteArray := prog_7_method_44_code
def yX6_digest : MethodName := ⟨RX6, "digest", "()J"⟩
def RJx145de : String := "java/io/Serializable"
def TJx145de : u_T := fun k => match k with
  | _ => ("", "", "", false)
def tyJx145de : Nat → FieldType := fun k => match k with
  | _ => .int
abbrev wsJx145de0 : List Cond := u_ws RJx145de TJx145de 0
theorem nmJx145de : ∀ a, a < 0 → ∀ b, b < 0 → a ≠ b → (TJx145de a).2.1 ≠ (TJx145de b).2.1 := by decide +kernel
theorem tyJx145de_ok : ∀ k, k < 0 → parseFieldDescriptor (TJx145de k).2.2.1 = some (tyJx145de k) := by decide +kernel
def RJx8e188 : String := "java/lang/Cloneable"
def TJx8e188 : u_T := fun k => match k with
  | _ => ("", "", "", false)
def tyJx8e188 : Nat → FieldType := fun k => match k with
  | _ => .int
abbrev wsJx8e1880 : List Cond := u_ws RJx8e188 TJx8e188 0
theorem nmJx8e188 : ∀ a, a < 0 → ∀ b, b < 0 → a ≠ b → (TJx8e188 a).2.1 ≠ (TJx8e188 b).2.1 := by decide +kernel
theorem tyJx8e188_ok : ∀ k, k < 0 → parseFieldDescriptor (TJx8e188 k).2.2.1 = some (tyJx8e188 k) := by decide +kernel
def RJxab1ab : String := "java/lang/Iterable"
def TJxab1ab : u_T := fun k => match k with
  | _ => ("", "", "", false)
def tyJxab1ab : Nat → FieldType := fun k => match k with
  | _ => .int
abbrev wsJxab1ab0 : List Cond := u_ws RJxab1ab TJxab1ab 0
theorem nmJxab1ab : ∀ a, a < 0 → ∀ b, b < 0 → a ≠ b → (TJxab1ab a).2.1 ≠ (TJxab1ab b).2.1 := by decide +kernel
theorem tyJxab1ab_ok : ∀ k, k < 0 → parseFieldDescriptor (TJxab1ab k).2.2.1 = some (tyJxab1ab k) := by decide +kernel
def RJ9 : String := "java/lang/Math"
def TJ9 : u_T := fun k => match k with
  | _ => ("", "", "", false)
def tyJ9 : Nat → FieldType := fun k => match k with
  | _ => .int
abbrev wsJ90 : List Cond := u_ws RJ9 TJ9 0
theorem nmJ9 : ∀ a, a < 0 → ∀ b, b < 0 → a ≠ b → (TJ9 a).2.1 ≠ (TJ9 b).2.1 := by decide +kernel
theorem tyJ9_ok : ∀ k, k < 0 → parseFieldDescriptor (TJ9 k).2.2.1 = some (tyJ9 k) := by decide +kernel
abbrev cJ9_floorMod_7cf53 : ByteArray := prog_16_method_50_code
def yJ9_floorMod_7cf53 : MethodName := ⟨RJ9, "floorMod", "(II)I"⟩
abbrev cJ9_max_7cf53 : ByteArray := prog_16_method_65_code
def yJ9_max_7cf53 : MethodName := ⟨RJ9, "max", "(II)I"⟩
abbrev cJ9_min_7cf53 : ByteArray := prog_16_method_69_code
def yJ9_min_7cf53 : MethodName := ⟨RJ9, "min", "(II)I"⟩
def RJ0 : String := "java/lang/String"
def TJ0 : u_T := fun k => match k with
  | _ => ("", "", "", false)
def tyJ0 : Nat → FieldType := fun k => match k with
  | _ => .int
abbrev wsJ00 : List Cond := u_ws RJ0 TJ0 0
theorem nmJ0 : ∀ a, a < 0 → ∀ b, b < 0 → a ≠ b → (TJ0 a).2.1 ≠ (TJ0 b).2.1 := by decide +kernel
theorem tyJ0_ok : ∀ k, k < 0 → parseFieldDescriptor (TJ0 k).2.2.1 = some (tyJ0 k) := by decide +kernel
def RJ10 : String := "java/lang/System"
def TJ10 : u_T := fun k => match k with
  | _ => ("", "", "", false)
def tyJ10 : Nat → FieldType := fun k => match k with
  | _ => .int
abbrev wsJ100 : List Cond := u_ws RJ10 TJ10 0
theorem nmJ10 : ∀ a, a < 0 → ∀ b, b < 0 → a ≠ b → (TJ10 a).2.1 ≠ (TJ10 b).2.1 := by decide +kernel
theorem tyJ10_ok : ∀ k, k < 0 → parseFieldDescriptor (TJ10 k).2.2.1 = some (tyJ10 k) := by decide +kernel
def RJxa1e45 : String := "java/util/AbstractCollection"
def TJxa1e45 : u_T := fun k => match k with
  | _ => ("", "", "", false)
def tyJxa1e45 : Nat → FieldType := fun k => match k with
  | _ => .int
abbrev wsJxa1e450 : List Cond := u_ws RJxa1e45 TJxa1e45 0
theorem nmJxa1e45 : ∀ a, a < 0 → ∀ b, b < 0 → a ≠ b → (TJxa1e45 a).2.1 ≠ (TJxa1e45 b).2.1 := by decide +kernel
theorem tyJxa1e45_ok : ∀ k, k < 0 → parseFieldDescriptor (TJxa1e45 k).2.2.1 = some (tyJxa1e45 k) := by decide +kernel
abbrev cJxa1e45_init_da8c8 : ByteArray := prog_21_method_1_code
def yJxa1e45_init_da8c8 : MethodName := ⟨RJxa1e45, "<init>", "()V"⟩
def RJxc12de : String := "java/util/AbstractList"
def TJxc12de : u_T := fun k => match k with
  | _ => ("", "", "", false)
def tyJxc12de : Nat → FieldType := fun k => match k with
  | _ => .int
abbrev wsJxc12de0 : List Cond := u_ws RJxc12de TJxc12de 0
theorem nmJxc12de : ∀ a, a < 0 → ∀ b, b < 0 → a ≠ b → (TJxc12de a).2.1 ≠ (TJxc12de b).2.1 := by decide +kernel
theorem tyJxc12de_ok : ∀ k, k < 0 → parseFieldDescriptor (TJxc12de k).2.2.1 = some (tyJxc12de k) := by decide +kernel
abbrev cJxc12de_init_da8c8 : ByteArray := prog_22_method_1_code
def yJxc12de_init_da8c8 : MethodName := ⟨RJxc12de, "<init>", "()V"⟩
def RJx4a65c : String := "java/util/ArrayList"
def TJx4a65c : u_T := fun k => match k with
  | 0 => ("java/util/AbstractList", "modCount", "I", false)
  | 1 => ("java/util/ArrayList", "elementData", "[Ljava/lang/Object;", false)
  | _ => ("java/util/ArrayList", "size", "I", false)
def tyJx4a65c : Nat → FieldType := fun k => match k with
  | 0 => .int
  | 1 => .array (.object "java/lang/Object")
  | _ => .int
abbrev wsJx4a65c0 : List Cond := u_ws RJx4a65c TJx4a65c 3
theorem nmJx4a65c : ∀ a, a < 3 → ∀ b, b < 3 → a ≠ b → (TJx4a65c a).2.1 ≠ (TJx4a65c b).2.1 := by decide +kernel
theorem tyJx4a65c_ok : ∀ k, k < 3 → parseFieldDescriptor (TJx4a65c k).2.2.1 = some (tyJx4a65c k) := by decide +kernel
abbrev cJx4a65c_init_da8c8 : ByteArray := prog_23_method_2_code
def yJx4a65c_init_da8c8 : MethodName := ⟨RJx4a65c, "<init>", "()V"⟩
abbrev cJx4a65c_grow_92f84 : ByteArray := prog_23_method_6_code
def yJx4a65c_grow_92f84 : MethodName := ⟨RJx4a65c, "grow", "(I)[Ljava/lang/Object;"⟩
abbrev cJx4a65c_grow_d5877 : ByteArray := prog_23_method_7_code
def yJx4a65c_grow_d5877 : MethodName := ⟨RJx4a65c, "grow", "()[Ljava/lang/Object;"⟩
abbrev cJx4a65c_size_8abf5 : ByteArray := prog_23_method_8_code
def yJx4a65c_size_8abf5 : MethodName := ⟨RJx4a65c, "size", "()I"⟩
abbrev cJx4a65c_elementData_915e3 : ByteArray := prog_23_method_18_code
def yJx4a65c_elementData_915e3 : MethodName := ⟨RJx4a65c, "elementData", "(I)Ljava/lang/Object;"⟩
abbrev cJx4a65c_get_915e3 : ByteArray := prog_23_method_20_code
def yJx4a65c_get_915e3 : MethodName := ⟨RJx4a65c, "get", "(I)Ljava/lang/Object;"⟩
abbrev cJx4a65c_add_72be8 : ByteArray := prog_23_method_24_code
def yJx4a65c_add_72be8 : MethodName := ⟨RJx4a65c, "add", "(Ljava/lang/Object;[Ljava/lang/Object;I)V"⟩
abbrev cJx4a65c_add_9ea2d : ByteArray := prog_23_method_25_code
def yJx4a65c_add_9ea2d : MethodName := ⟨RJx4a65c, "add", "(Ljava/lang/Object;)Z"⟩
def RJ7 : String := "java/util/Arrays"
def TJ7 : u_T := fun k => match k with
  | _ => ("", "", "", false)
def tyJ7 : Nat → FieldType := fun k => match k with
  | _ => .int
abbrev wsJ70 : List Cond := u_ws RJ7 TJ7 0
theorem nmJ7 : ∀ a, a < 0 → ∀ b, b < 0 → a ≠ b → (TJ7 a).2.1 ≠ (TJ7 b).2.1 := by decide +kernel
theorem tyJ7_ok : ∀ k, k < 0 → parseFieldDescriptor (TJ7 k).2.2.1 = some (tyJ7 k) := by decide +kernel
abbrev cJ7_fill_53178 : ByteArray := prog_24_method_103_code
def yJ7_fill_53178 : MethodName := ⟨RJ7, "fill", "([II)V"⟩
abbrev cJ7_copyOf_1904c : ByteArray := prog_24_method_119_code
def yJ7_copyOf_1904c : MethodName := ⟨RJ7, "copyOf", "([Ljava/lang/Object;I)[Ljava/lang/Object;"⟩
abbrev cJ7_copyOf_6403c : ByteArray := prog_24_method_120_code
def yJ7_copyOf_6403c : MethodName := ⟨RJ7, "copyOf", "([Ljava/lang/Object;ILjava/lang/Class;)[Ljava/lang/Object;"⟩
def RJx5ef63 : String := "java/util/Collection"
def TJx5ef63 : u_T := fun k => match k with
  | _ => ("", "", "", false)
def tyJx5ef63 : Nat → FieldType := fun k => match k with
  | _ => .int
abbrev wsJx5ef630 : List Cond := u_ws RJx5ef63 TJx5ef63 0
theorem nmJx5ef63 : ∀ a, a < 0 → ∀ b, b < 0 → a ≠ b → (TJx5ef63 a).2.1 ≠ (TJx5ef63 b).2.1 := by decide +kernel
theorem tyJx5ef63_ok : ∀ k, k < 0 → parseFieldDescriptor (TJx5ef63 k).2.2.1 = some (tyJx5ef63 k) := by decide +kernel
def RJxbd725 : String := "java/util/List"
def TJxbd725 : u_T := fun k => match k with
  | _ => ("", "", "", false)
def tyJxbd725 : Nat → FieldType := fun k => match k with
  | _ => .int
abbrev wsJxbd7250 : List Cond := u_ws RJxbd725 TJxbd725 0
theorem nmJxbd725 : ∀ a, a < 0 → ∀ b, b < 0 → a ≠ b → (TJxbd725 a).2.1 ≠ (TJxbd725 b).2.1 := by decide +kernel
theorem tyJxbd725_ok : ∀ k, k < 0 → parseFieldDescriptor (TJxbd725 k).2.2.1 = some (tyJxbd725 k) := by decide +kernel
def RJ15 : String := "java/util/Objects"
def TJ15 : u_T := fun k => match k with
  | _ => ("", "", "", false)
def tyJ15 : Nat → FieldType := fun k => match k with
  | _ => .int
abbrev wsJ150 : List Cond := u_ws RJ15 TJ15 0
theorem nmJ15 : ∀ a, a < 0 → ∀ b, b < 0 → a ≠ b → (TJ15 a).2.1 ≠ (TJ15 b).2.1 := by decide +kernel
theorem tyJ15_ok : ∀ k, k < 0 → parseFieldDescriptor (TJ15 k).2.2.1 = some (tyJ15 k) := by decide +kernel
abbrev cJ15_checkIndex_7cf53 : ByteArray := prog_27_method_17_code
def yJ15_checkIndex_7cf53 : MethodName := ⟨RJ15, "checkIndex", "(II)I"⟩
def RJxf0a74 : String := "java/util/RandomAccess"
def TJxf0a74 : u_T := fun k => match k with
  | _ => ("", "", "", false)
def tyJxf0a74 : Nat → FieldType := fun k => match k with
  | _ => .int
abbrev wsJxf0a740 : List Cond := u_ws RJxf0a74 TJxf0a74 0
theorem nmJxf0a74 : ∀ a, a < 0 → ∀ b, b < 0 → a ≠ b → (TJxf0a74 a).2.1 ≠ (TJxf0a74 b).2.1 := by decide +kernel
theorem tyJxf0a74_ok : ∀ k, k < 0 → parseFieldDescriptor (TJxf0a74 k).2.2.1 = some (tyJxf0a74 k) := by decide +kernel
def RJxa66e6 : String := "java/util/SequencedCollection"
def TJxa66e6 : u_T := fun k => match k with
  | _ => ("", "", "", false)
def tyJxa66e6 : Nat → FieldType := fun k => match k with
  | _ => .int
abbrev wsJxa66e60 : List Cond := u_ws RJxa66e6 TJxa66e6 0
theorem nmJxa66e6 : ∀ a, a < 0 → ∀ b, b < 0 → a ≠ b → (TJxa66e6 a).2.1 ≠ (TJxa66e6 b).2.1 := by decide +kernel
theorem tyJxa66e6_ok : ∀ k, k < 0 → parseFieldDescriptor (TJxa66e6 k).2.2.1 = some (tyJxa66e6 k) := by decide +kernel
def RJ8 : String := "jdk/internal/util/ArraysSupport"
def TJ8 : u_T := fun k => match k with
  | _ => ("", "", "", false)
def tyJ8 : Nat → FieldType := fun k => match k with
  | _ => .int
abbrev wsJ80 : List Cond := u_ws RJ8 TJ8 0
theorem nmJ8 : ∀ a, a < 0 → ∀ b, b < 0 → a ≠ b → (TJ8 a).2.1 ≠ (TJ8 b).2.1 := by decide +kernel
theorem tyJ8_ok : ∀ k, k < 0 → parseFieldDescriptor (TJ8 k).2.2.1 = some (tyJ8 k) := by decide +kernel
abbrev cJ8_newLength_cabcc : ByteArray := prog_30_method_27_code
def yJ8_newLength_cabcc : MethodName := ⟨RJ8, "newLength", "(III)I"⟩
abbrev cJ8_hugeLength_7cf53 : ByteArray := prog_30_method_28_code
def yJ8_hugeLength_7cf53 : MethodName := ⟨RJ8, "hugeLength", "(II)I"⟩
def RJ3 : String := "jdk/internal/util/Preconditions"
def TJ3 : u_T := fun k => match k with
  | _ => ("", "", "", false)
def tyJ3 : Nat → FieldType := fun k => match k with
  | _ => .int
abbrev wsJ30 : List Cond := u_ws RJ3 TJ3 0
theorem nmJ3 : ∀ a, a < 0 → ∀ b, b < 0 → a ≠ b → (TJ3 a).2.1 ≠ (TJ3 b).2.1 := by decide +kernel
theorem tyJ3_ok : ∀ k, k < 0 → parseFieldDescriptor (TJ3 k).2.2.1 = some (tyJ3 k) := by decide +kernel
abbrev cJ3_checkIndex_8e157 : ByteArray := prog_31_method_11_code
def yJ3_checkIndex_8e157 : MethodName := ⟨RJ3, "checkIndex", "(IILjava/util/function/BiFunction;)I"⟩
def RL : String := "BarometerLeagueLaw"
abbrev cL_setGlass : ByteArray := method_3_code
def yL_setGlass : MethodName := ⟨RL, "setGlass", "(LBarometerLeague;II[J)I"⟩
abbrev cL_setRain : ByteArray := method_4_code
def yL_setRain : MethodName := ⟨RL, "setRain", "(LBarometerLeague;IZ[J)I"⟩
abbrev cL_sign : ByteArray := method_5_code
def yL_sign : MethodName := ⟨RL, "sign", "(LBarometerLeague;II[J)I"⟩
abbrev cL_join : ByteArray := method_6_code
def yL_join : MethodName := ⟨RL, "join", "(LBarometerLeague;[J)I"⟩
abbrev cL_weigh : ByteArray := method_7_code
def yL_weigh : MethodName := ⟨RL, "weigh", "(LBarometerLeague;III[J)I"⟩
abbrev cL_share : ByteArray := method_8_code
def yL_share : MethodName := ⟨RL, "share", "(LBarometerLeague;II[J)I"⟩
abbrev cL_says : ByteArray := method_9_code
def yL_says : MethodName := ⟨RL, "says", "(LBarometerLeague;II[J)I"⟩
abbrev cL_told : ByteArray := method_10_code
def yL_told : MethodName := ⟨RL, "told", "(LBarometerLeague;II[J)I"⟩
abbrev cL_weight : ByteArray := method_11_code
def yL_weight : MethodName := ⟨RL, "weight", "(LBarometerLeague;II[J)I"⟩
abbrev cL_about : ByteArray := method_12_code
def yL_about : MethodName := ⟨RL, "about", "(LBarometerLeague;II[J)I"⟩
abbrev cL_at : ByteArray := method_13_code
def yL_at : MethodName := ⟨RL, "at", "(LBarometerLeague;I[J)I"⟩
abbrev cL_count : ByteArray := method_14_code
def yL_count : MethodName := ⟨RL, "count", "(LBarometerLeague;I[J)I"⟩
abbrev cL_pass : ByteArray := method_15_code
def yL_pass : MethodName := ⟨RL, "pass", "(LBarometerLeague;I[J)I"⟩
abbrev cL_foresee : ByteArray := method_16_code
def yL_foresee : MethodName := ⟨RL, "foresee", "(LBarometerLeague;II[J)I"⟩
abbrev cL_overtakes : ByteArray := method_17_code
def yL_overtakes : MethodName := ⟨RL, "overtakes", "(LBarometerLeague;II[J)I"⟩
abbrev cL_advise : ByteArray := method_18_code
def yL_advise : MethodName := ⟨RL, "advise", "(LBarometerLeague;II[J)I"⟩
abbrev cL_law : ByteArray := code
def yL_law : MethodName := ⟨RL, "law", "([I)Z"⟩
def wsX0_init : List Cond := .code yX0_init cX0_init 3 none :: ([.methodLink RX0 3 objectInit, .instanceMethod objectInit, .code objectInit ⟨#[0xb1]⟩ 1 none, .fieldLink RX0 9 "BarometerLeague$Sign" "kind" "I", .fieldLink RX0 15 "BarometerLeague$Sign" "number" "I"] ++ wsX00)
def wsJ9_floorMod_7cf53 : List Cond := .code yJ9_floorMod_7cf53 cJ9_floorMod_7cf53 3 (some .int) :: ([])
def wsX3_glassOn : List Cond := .code yX3_glassOn cX3_glassOn 2 (some .int) :: ([.fieldLink RX3 9 "BarometerLeague$Weather" "glass" "[I", .methodLink RX3 25 yJ9_floorMod_7cf53, .static yJ9_floorMod_7cf53, .initialized RJ9, .code yJ9_floorMod_7cf53 cJ9_floorMod_7cf53 3 (some .int)] ++ wsX30)
def wsX3_rainsOn : List Cond := .code yX3_rainsOn cX3_rainsOn 2 (some .boolean) :: ([.fieldLink RX3 15 "BarometerLeague$Weather" "rain" "[Z", .methodLink RX3 25 yJ9_floorMod_7cf53, .static yJ9_floorMod_7cf53, .initialized RJ9, .code yJ9_floorMod_7cf53 cJ9_floorMod_7cf53 3 (some .int)] ++ wsX30)
def wsX0_saysRain : List Cond := .code yX0_saysRain cX0_saysRain 6 (some .boolean) :: ([.fieldLink RX0 9 "BarometerLeague$Sign" "kind" "I", .fieldLink RX0 15 "BarometerLeague$Sign" "number" "I", .methodLink RX0 18 yX3_glassOn, .instanceMethod yX3_glassOn, .selects RX3 yX3_glassOn yX3_glassOn, .initialized RX3, .code yX3_glassOn cX3_glassOn 2 (some .int), .fieldLink RX3 9 "BarometerLeague$Weather" "glass" "[I", .methodLink RX3 25 yJ9_floorMod_7cf53, .static yJ9_floorMod_7cf53, .initialized RJ9, .code yJ9_floorMod_7cf53 cJ9_floorMod_7cf53 3 (some .int), .methodLink RX0 24 yX3_rainsOn, .instanceMethod yX3_rainsOn, .selects RX3 yX3_rainsOn yX3_rainsOn, .code yX3_rainsOn cX3_rainsOn 2 (some .boolean), .fieldLink RX3 15 "BarometerLeague$Weather" "rain" "[Z"] ++ wsX00 ++ wsX30)
def wsX0_daysRight : List Cond := .code yX0_daysRight cX0_daysRight 4 (some .int) :: ([.methodLink RX0 28 yX0_saysRain, .instanceMethod yX0_saysRain, .selects RX0 yX0_saysRain yX0_saysRain, .initialized RX0, .code yX0_saysRain cX0_saysRain 6 (some .boolean), .fieldLink RX0 9 "BarometerLeague$Sign" "kind" "I", .fieldLink RX0 15 "BarometerLeague$Sign" "number" "I", .methodLink RX0 18 yX3_glassOn, .instanceMethod yX3_glassOn, .selects RX3 yX3_glassOn yX3_glassOn, .initialized RX3, .code yX3_glassOn cX3_glassOn 2 (some .int), .fieldLink RX3 9 "BarometerLeague$Weather" "glass" "[I", .methodLink RX3 25 yJ9_floorMod_7cf53, .static yJ9_floorMod_7cf53, .initialized RJ9, .code yJ9_floorMod_7cf53 cJ9_floorMod_7cf53 3 (some .int), .methodLink RX0 24 yX3_rainsOn, .instanceMethod yX3_rainsOn, .selects RX3 yX3_rainsOn yX3_rainsOn, .code yX3_rainsOn cX3_rainsOn 2 (some .boolean), .fieldLink RX3 15 "BarometerLeague$Weather" "rain" "[Z"] ++ wsX00 ++ wsX30)
def wsJ7_fill_53178 : List Cond := .code yJ7_fill_53178 cJ7_fill_53178 4 none :: ([])
def wsX1_init : List Cond := .code yX1_init cX1_init 2 none :: ([.methodLink RX1 3 objectInit, .instanceMethod objectInit, .code objectInit ⟨#[0xb1]⟩ 1 none, .arrayClass .int, .fieldLink RX1 9 "BarometerLeague$Village" "weights" "[I", .fieldLink RX1 15 "BarometerLeague$Village" "number" "I", .fieldLink RX1 19 "BarometerLeague$Village" "coins" "I", .methodLink RX1 22 yJ7_fill_53178, .static yJ7_fill_53178, .initialized RJ7, .code yJ7_fill_53178 cJ7_fill_53178 4 none] ++ wsX10)
def wsX1_becomeLike : List Cond := .code yX1_becomeLike cX1_becomeLike 3 none :: ([.fieldLink RX1 15 "BarometerLeague$Village" "number" "I", .fieldLink RX1 28 "BarometerLeague$Village" "points" "I", .fieldLink RX1 19 "BarometerLeague$Village" "coins" "I", .fieldLink RX1 31 "BarometerLeague$Village" "rowOfHits" "I", .fieldLink RX1 9 "BarometerLeague$Village" "weights" "[I"] ++ wsX10)
def wsX1_weightOf : List Cond := .code yX1_weightOf cX1_weightOf 2 (some .int) :: ([.fieldLink RX1 9 "BarometerLeague$Village" "weights" "[I"] ++ wsX10)
def wsX1_putWeight : List Cond := .code yX1_putWeight cX1_putWeight 3 none :: ([.fieldLink RX1 9 "BarometerLeague$Village" "weights" "[I"] ++ wsX10)
def wsX1_allWeights : List Cond := .code yX1_allWeights cX1_allWeights 4 (some .int) :: ([.fieldLink RX1 9 "BarometerLeague$Village" "weights" "[I"] ++ wsX10)
def wsX1_buyWeightsOf : List Cond := .code yX1_buyWeightsOf cX1_buyWeightsOf 3 none :: ([.fieldLink RX1 19 "BarometerLeague$Village" "coins" "I", .fieldLink RX1 9 "BarometerLeague$Village" "weights" "[I"] ++ wsX10)
def wsX1_leadOfRain : List Cond := .code yX1_leadOfRain cX1_leadOfRain 4 (some .int) :: ([.fieldLink RX1 9 "BarometerLeague$Village" "weights" "[I"] ++ wsX10)
def wsX1_guessesRain : List Cond := .code yX1_guessesRain cX1_guessesRain 2 (some .boolean) :: ([.methodLink RX1 34 yX1_leadOfRain, .instanceMethod yX1_leadOfRain, .selects RX1 yX1_leadOfRain yX1_leadOfRain, .initialized RX1, .code yX1_leadOfRain cX1_leadOfRain 4 (some .int), .fieldLink RX1 9 "BarometerLeague$Village" "weights" "[I"] ++ wsX10)
def wsX1_learn : List Cond := .code yX1_learn cX1_learn 4 none :: ([.fieldLink RX1 9 "BarometerLeague$Village" "weights" "[I", .methodLink RX1 48 Lib.Math.min.name, .static Lib.Math.min.name, .initialized "java/lang/Math", .code Lib.Math.min.name Lib.Math.min.code 2 (some .int)] ++ wsX10)
def wsX1_sellAlmanacs : List Cond := .code yX1_sellAlmanacs cX1_sellAlmanacs 1 none :: ([.fieldLink RX1 31 "BarometerLeague$Village" "rowOfHits" "I", .fieldLink RX1 19 "BarometerLeague$Village" "coins" "I", .methodLink RX1 48 Lib.Math.min.name, .static Lib.Math.min.name, .initialized "java/lang/Math", .code Lib.Math.min.name Lib.Math.min.code 2 (some .int)] ++ wsX10)
def wsX1_liveDay_r1 : List Cond := [Cond.fieldLink RX1 28 "BarometerLeague$Village" "points" "I", Cond.fieldLink RX1 31 "BarometerLeague$Village" "rowOfHits" "I", Cond.methodLink RX1 38 yX1_guessesRain, Cond.instanceMethod yX1_guessesRain, Cond.selects RX1 yX1_guessesRain yX1_guessesRain, Cond.initialized RX1, Cond.code yX1_guessesRain cX1_guessesRain 2 (some .boolean), Cond.methodLink RX1 34 yX1_leadOfRain, Cond.instanceMethod yX1_leadOfRain, Cond.selects RX1 yX1_leadOfRain yX1_leadOfRain, Cond.code yX1_leadOfRain cX1_leadOfRain 4 (some .int), Cond.fieldLink RX1 9 "BarometerLeague$Village" "weights" "[I", Cond.methodLink RX1 42 yX1_learn, Cond.instanceMethod yX1_learn, Cond.selects RX1 yX1_learn yX1_learn, Cond.code yX1_learn cX1_learn 4 none, Cond.methodLink RX1 48 Lib.Math.min.name, Cond.static Lib.Math.min.name, Cond.initialized "java/lang/Math", Cond.code Lib.Math.min.name Lib.Math.min.code 2 (some .int), Cond.methodLink RX1 45 yX1_sellAlmanacs, Cond.instanceMethod yX1_sellAlmanacs, Cond.selects RX1 yX1_sellAlmanacs yX1_sellAlmanacs, Cond.code yX1_sellAlmanacs cX1_sellAlmanacs 1 none]
def wsX1_liveDay_r2 : List Cond := [Cond.fieldLink RX1 19 "BarometerLeague$Village" "coins" "I"]
def wsX1_liveDay : List Cond := .code yX1_liveDay cX1_liveDay 4 (some .boolean) :: ((wsX1_liveDay_r1 ++ wsX1_liveDay_r2) ++ wsX10)
def wsX1_isAheadOf : List Cond := .code yX1_isAheadOf cX1_isAheadOf 2 (some .boolean) :: ([.fieldLink RX1 28 "BarometerLeague$Village" "points" "I", .fieldLink RX1 19 "BarometerLeague$Village" "coins" "I", .fieldLink RX1 15 "BarometerLeague$Village" "number" "I"] ++ wsX10)
def wsX2_init : List Cond := .code yX2_init cX2_init 3 none :: ([.methodLink RX2 1 objectInit, .instanceMethod objectInit, .code objectInit ⟨#[0xb1]⟩ 1 none, .classLink RX2 7 RX1, .fieldLink RX2 9 "BarometerLeague$VillageRow" "places" "[LBarometerLeague$Village;", .instantiable RX1 5, .initialized RX1, .methodLink RX2 15 yX1_init, .instanceMethod yX1_init, .code yX1_init cX1_init 2 none, .methodLink RX1 3 objectInit, .arrayClass .int, .fieldLink RX1 9 "BarometerLeague$Village" "weights" "[I", .fieldLink RX1 15 "BarometerLeague$Village" "number" "I", .fieldLink RX1 19 "BarometerLeague$Village" "coins" "I", .methodLink RX1 22 yJ7_fill_53178, .static yJ7_fill_53178, .initialized RJ7, .code yJ7_fill_53178 cJ7_fill_53178 4 none] ++ wsX20 ++ wsX10)
def wsX2_size : List Cond := .code yX2_size cX2_size 1 (some .int) :: ([.fieldLink RX2 18 "BarometerLeague$VillageRow" "size" "I"] ++ wsX20)
def wsX2_isFull : List Cond := .code yX2_isFull cX2_isFull 1 (some .boolean) :: ([.fieldLink RX2 18 "BarometerLeague$VillageRow" "size" "I", .fieldLink RX2 9 "BarometerLeague$VillageRow" "places" "[LBarometerLeague$Village;"] ++ wsX20)
def wsX2_get : List Cond := .code yX2_get cX2_get 2 (some (.object "BarometerLeague$Village")) :: ([.classLink RX2 22 "java/lang/IndexOutOfBoundsException", .initialized "java/lang/IndexOutOfBoundsException", .fieldLink RX2 18 "BarometerLeague$VillageRow" "size" "I", .fieldLink RX2 9 "BarometerLeague$VillageRow" "places" "[LBarometerLeague$Village;"] ++ wsX20 ++ (vx_atS RX2 26 "java/lang/IndexOutOfBoundsException" ["java/lang/RuntimeException", "java/lang/Exception"]).filter goodWord)
def wsX2_grow : List Cond := .code yX2_grow cX2_grow 1 none :: ([.fieldLink RX2 18 "BarometerLeague$VillageRow" "size" "I", .methodLink RX2 29 yX2_isFull, .instanceMethod yX2_isFull, .selects RX2 yX2_isFull yX2_isFull, .initialized RX2, .code yX2_isFull cX2_isFull 1 (some .boolean), .fieldLink RX2 9 "BarometerLeague$VillageRow" "places" "[LBarometerLeague$Village;"] ++ wsX20)
def wsX2_clear : List Cond := .code yX2_clear cX2_clear 1 none :: ([.fieldLink RX2 18 "BarometerLeague$VillageRow" "size" "I"] ++ wsX20)
def wsX2_addCopy : List Cond := .code yX2_addCopy cX2_addCopy 2 none :: ([.fieldLink RX2 9 "BarometerLeague$VillageRow" "places" "[LBarometerLeague$Village;", .fieldLink RX2 18 "BarometerLeague$VillageRow" "size" "I", .methodLink RX2 29 yX2_isFull, .instanceMethod yX2_isFull, .selects RX2 yX2_isFull yX2_isFull, .initialized RX2, .code yX2_isFull cX2_isFull 1 (some .boolean), .methodLink RX2 33 yX1_becomeLike, .instanceMethod yX1_becomeLike, .selects RX1 yX1_becomeLike yX1_becomeLike, .initialized RX1, .code yX1_becomeLike cX1_becomeLike 3 none, .fieldLink RX1 15 "BarometerLeague$Village" "number" "I", .fieldLink RX1 28 "BarometerLeague$Village" "points" "I", .fieldLink RX1 19 "BarometerLeague$Village" "coins" "I", .fieldLink RX1 31 "BarometerLeague$Village" "rowOfHits" "I", .fieldLink RX1 9 "BarometerLeague$Village" "weights" "[I"] ++ wsX20 ++ wsX10)
def wsX2_placeOf : List Cond := .code yX2_placeOf cX2_placeOf 4 (some .int) :: ([.fieldLink RX2 18 "BarometerLeague$VillageRow" "size" "I", .fieldLink RX2 9 "BarometerLeague$VillageRow" "places" "[LBarometerLeague$Village;", .methodLink RX2 37 yX1_isAheadOf, .instanceMethod yX1_isAheadOf, .selects RX1 yX1_isAheadOf yX1_isAheadOf, .initialized RX1, .code yX1_isAheadOf cX1_isAheadOf 2 (some .boolean), .fieldLink RX1 28 "BarometerLeague$Village" "points" "I", .fieldLink RX1 19 "BarometerLeague$Village" "coins" "I", .fieldLink RX1 15 "BarometerLeague$Village" "number" "I"] ++ wsX20 ++ wsX10)
def wsX2_liveDay_r1 : List Cond := [Cond.fieldLink RX2 18 "BarometerLeague$VillageRow" "size" "I", Cond.fieldLink RX2 9 "BarometerLeague$VillageRow" "places" "[LBarometerLeague$Village;", Cond.methodLink RX2 41 yX1_liveDay, Cond.instanceMethod yX1_liveDay, Cond.selects RX1 yX1_liveDay yX1_liveDay, Cond.initialized RX1, Cond.code yX1_liveDay cX1_liveDay 4 (some .boolean), Cond.fieldLink RX1 28 "BarometerLeague$Village" "points" "I", Cond.fieldLink RX1 31 "BarometerLeague$Village" "rowOfHits" "I", Cond.methodLink RX1 38 yX1_guessesRain, Cond.instanceMethod yX1_guessesRain, Cond.selects RX1 yX1_guessesRain yX1_guessesRain, Cond.code yX1_guessesRain cX1_guessesRain 2 (some .boolean), Cond.methodLink RX1 34 yX1_leadOfRain, Cond.instanceMethod yX1_leadOfRain, Cond.selects RX1 yX1_leadOfRain yX1_leadOfRain, Cond.code yX1_leadOfRain cX1_leadOfRain 4 (some .int), Cond.fieldLink RX1 9 "BarometerLeague$Village" "weights" "[I", Cond.methodLink RX1 42 yX1_learn, Cond.instanceMethod yX1_learn, Cond.selects RX1 yX1_learn yX1_learn, Cond.code yX1_learn cX1_learn 4 none, Cond.methodLink RX1 48 Lib.Math.min.name, Cond.static Lib.Math.min.name]
def wsX2_liveDay_r2 : List Cond := [Cond.initialized "java/lang/Math", Cond.code Lib.Math.min.name Lib.Math.min.code 2 (some .int), Cond.methodLink RX1 45 yX1_sellAlmanacs, Cond.instanceMethod yX1_sellAlmanacs, Cond.selects RX1 yX1_sellAlmanacs yX1_sellAlmanacs, Cond.code yX1_sellAlmanacs cX1_sellAlmanacs 1 none, Cond.fieldLink RX1 19 "BarometerLeague$Village" "coins" "I"]
def wsX2_liveDay : List Cond := .code yX2_liveDay cX2_liveDay 5 (some .int) :: ((wsX2_liveDay_r1 ++ wsX2_liveDay_r2) ++ wsX20 ++ wsX10)
def wsX2_allPoints : List Cond := .code yX2_allPoints cX2_allPoints 3 (some .int) :: ([.fieldLink RX2 18 "BarometerLeague$VillageRow" "size" "I", .fieldLink RX2 9 "BarometerLeague$VillageRow" "places" "[LBarometerLeague$Village;"] ++ wsX20 ++ wsX10)
def wsX2_allCoins : List Cond := .code yX2_allCoins cX2_allCoins 3 (some .int) :: ([.fieldLink RX2 18 "BarometerLeague$VillageRow" "size" "I", .fieldLink RX2 9 "BarometerLeague$VillageRow" "places" "[LBarometerLeague$Village;"] ++ wsX20 ++ wsX10)
def wsX2_allWeightsOf : List Cond := .code yX2_allWeightsOf cX2_allWeightsOf 4 (some .int) :: ([.fieldLink RX2 18 "BarometerLeague$VillageRow" "size" "I", .fieldLink RX2 9 "BarometerLeague$VillageRow" "places" "[LBarometerLeague$Village;", .methodLink RX2 51 yX1_weightOf, .instanceMethod yX1_weightOf, .selects RX1 yX1_weightOf yX1_weightOf, .initialized RX1, .code yX1_weightOf cX1_weightOf 2 (some .int), .fieldLink RX1 9 "BarometerLeague$Village" "weights" "[I"] ++ wsX20 ++ wsX10)
def wsX2_guessingRain : List Cond := .code yX2_guessingRain cX2_guessingRain 4 (some .int) :: ([.fieldLink RX2 18 "BarometerLeague$VillageRow" "size" "I", .fieldLink RX2 9 "BarometerLeague$VillageRow" "places" "[LBarometerLeague$Village;", .methodLink RX2 55 yX1_guessesRain, .instanceMethod yX1_guessesRain, .selects RX1 yX1_guessesRain yX1_guessesRain, .initialized RX1, .code yX1_guessesRain cX1_guessesRain 2 (some .boolean), .methodLink RX1 34 yX1_leadOfRain, .instanceMethod yX1_leadOfRain, .selects RX1 yX1_leadOfRain yX1_leadOfRain, .code yX1_leadOfRain cX1_leadOfRain 4 (some .int), .fieldLink RX1 9 "BarometerLeague$Village" "weights" "[I"] ++ wsX20 ++ wsX10)
def wsX3_init : List Cond := .code yX3_init cX3_init 1 none :: ([.methodLink RX3 3 objectInit, .instanceMethod objectInit, .code objectInit ⟨#[0xb1]⟩ 1 none, .arrayClass .int, .fieldLink RX3 9 "BarometerLeague$Weather" "glass" "[I", .arrayClass .boolean, .fieldLink RX3 15 "BarometerLeague$Weather" "rain" "[Z", .methodLink RX3 19 yJ7_fill_53178, .static yJ7_fill_53178, .initialized RJ7, .code yJ7_fill_53178 cJ7_fill_53178 4 none] ++ wsX30)
def wsX3_putGlass : List Cond := .code yX3_putGlass cX3_putGlass 3 none :: ([.fieldLink RX3 9 "BarometerLeague$Weather" "glass" "[I", .methodLink RX3 25 yJ9_floorMod_7cf53, .static yJ9_floorMod_7cf53, .initialized RJ9, .code yJ9_floorMod_7cf53 cJ9_floorMod_7cf53 3 (some .int)] ++ wsX30)
def wsX3_putRain : List Cond := .code yX3_putRain cX3_putRain 3 none :: ([.fieldLink RX3 15 "BarometerLeague$Weather" "rain" "[Z", .methodLink RX3 25 yJ9_floorMod_7cf53, .static yJ9_floorMod_7cf53, .initialized RJ9, .code yJ9_floorMod_7cf53 cJ9_floorMod_7cf53 3 (some .int)] ++ wsX30)
def wsX3_rainyDays : List Cond := .code yX3_rainyDays cX3_rainyDays 6 (some .int) :: ([.fieldLink RX3 15 "BarometerLeague$Weather" "rain" "[Z"] ++ wsX30)
def wsJxa1e45_init_da8c8 : List Cond := .code yJxa1e45_init_da8c8 cJxa1e45_init_da8c8 1 none :: ([.methodLink RJxa1e45 1 objectInit, .instanceMethod objectInit, .code objectInit ⟨#[0xb1]⟩ 1 none])
def wsJxc12de_init_da8c8 : List Cond := .code yJxc12de_init_da8c8 cJxc12de_init_da8c8 1 none :: ([.fieldLink RJxc12de 7 "java/util/AbstractList" "modCount" "I", .methodLink RJxc12de 1 yJxa1e45_init_da8c8, .instanceMethod yJxa1e45_init_da8c8, .initialized RJxa1e45, .code yJxa1e45_init_da8c8 cJxa1e45_init_da8c8 1 none, .methodLink RJxa1e45 1 objectInit, .instanceMethod objectInit, .code objectInit ⟨#[0xb1]⟩ 1 none] ++ wsJx4a65c0)
def wsJx4a65c_init_da8c8 : List Cond := .code yJx4a65c_init_da8c8 cJx4a65c_init_da8c8 1 none :: ([.fieldLink RJx4a65c 39 "java/util/ArrayList" "DEFAULTCAPACITY_EMPTY_ELEMENTDATA" "[Ljava/lang/Object;", .fieldLink RJx4a65c 9 "java/util/ArrayList" "elementData" "[Ljava/lang/Object;", .methodLink RJx4a65c 1 yJxc12de_init_da8c8, .instanceMethod yJxc12de_init_da8c8, .initialized RJxc12de, .code yJxc12de_init_da8c8 cJxc12de_init_da8c8 1 none, .fieldLink RJxc12de 7 "java/util/AbstractList" "modCount" "I", .methodLink RJxc12de 1 yJxa1e45_init_da8c8, .instanceMethod yJxa1e45_init_da8c8, .initialized RJxa1e45, .code yJxa1e45_init_da8c8 cJxa1e45_init_da8c8 1 none, .methodLink RJxa1e45 1 objectInit, .instanceMethod objectInit, .code objectInit ⟨#[0xb1]⟩ 1 none] ++ wsJx4a65c0)
def wsX4_init_r1 : List Cond := [Cond.methodLink RX4 1 objectInit, Cond.instanceMethod objectInit, Cond.code objectInit ⟨#[0xb1]⟩ 1 none, Cond.classLink RX4 7 RX3, Cond.instantiable RX3 2, Cond.initialized RX3, Cond.fieldLink RX4 10 "BarometerLeague" "weather" "LBarometerLeague$Weather;", Cond.classLink RX4 16 RJx4a65c, Cond.instantiable RJx4a65c 3, Cond.initialized RJx4a65c, Cond.fieldLink RX4 19 "BarometerLeague" "signs" "Ljava/util/ArrayList;", Cond.classLink RX4 23 RX2, Cond.instantiable RX2 2, Cond.initialized RX2, Cond.fieldLink RX4 28 "BarometerLeague" "villages" "LBarometerLeague$VillageRow;", Cond.arrayClass .int, Cond.fieldLink RX4 32 "BarometerLeague" "sayings" "[I", Cond.fieldLink RX4 36 "BarometerLeague" "trials" "LBarometerLeague$VillageRow;", Cond.methodLink RX4 9 yX3_init, Cond.instanceMethod yX3_init, Cond.code yX3_init cX3_init 1 none, Cond.methodLink RX3 3 objectInit, Cond.fieldLink RX3 9 "BarometerLeague$Weather" "glass" "[I", Cond.arrayClass .boolean]
def wsX4_init_r2 : List Cond := [Cond.fieldLink RX3 15 "BarometerLeague$Weather" "rain" "[Z", Cond.methodLink RX3 19 yJ7_fill_53178, Cond.static yJ7_fill_53178, Cond.initialized RJ7, Cond.code yJ7_fill_53178 cJ7_fill_53178 4 none, Cond.methodLink RX4 18 yJx4a65c_init_da8c8, Cond.instanceMethod yJx4a65c_init_da8c8, Cond.code yJx4a65c_init_da8c8 cJx4a65c_init_da8c8 1 none, Cond.fieldLink RJx4a65c 39 "java/util/ArrayList" "DEFAULTCAPACITY_EMPTY_ELEMENTDATA" "[Ljava/lang/Object;", Cond.fieldLink RJx4a65c 9 "java/util/ArrayList" "elementData" "[Ljava/lang/Object;", Cond.methodLink RJx4a65c 1 yJxc12de_init_da8c8, Cond.instanceMethod yJxc12de_init_da8c8, Cond.initialized RJxc12de, Cond.code yJxc12de_init_da8c8 cJxc12de_init_da8c8 1 none, Cond.fieldLink RJxc12de 7 "java/util/AbstractList" "modCount" "I", Cond.methodLink RJxc12de 1 yJxa1e45_init_da8c8, Cond.instanceMethod yJxa1e45_init_da8c8, Cond.initialized RJxa1e45, Cond.code yJxa1e45_init_da8c8 cJxa1e45_init_da8c8 1 none, Cond.methodLink RJxa1e45 1 objectInit, Cond.methodLink RX4 25 yX2_init, Cond.instanceMethod yX2_init, Cond.code yX2_init cX2_init 3 none, Cond.methodLink RX2 1 objectInit]
def wsX4_init_r3 : List Cond := [Cond.classLink RX2 7 RX1, Cond.fieldLink RX2 9 "BarometerLeague$VillageRow" "places" "[LBarometerLeague$Village;", Cond.instantiable RX1 5, Cond.initialized RX1, Cond.methodLink RX2 15 yX1_init, Cond.instanceMethod yX1_init, Cond.code yX1_init cX1_init 2 none, Cond.methodLink RX1 3 objectInit, Cond.fieldLink RX1 9 "BarometerLeague$Village" "weights" "[I", Cond.fieldLink RX1 15 "BarometerLeague$Village" "number" "I", Cond.fieldLink RX1 19 "BarometerLeague$Village" "coins" "I", Cond.methodLink RX1 22 yJ7_fill_53178]
def wsX4_init : List Cond := .code yX4_init cX4_init 1 none :: ((wsX4_init_r1 ++ (wsX4_init_r2 ++ wsX4_init_r3)) ++ wsX30 ++ wsX40 ++ wsJx4a65c0 ++ wsX20 ++ wsX10)
def wsX4_requireTableDay : List Cond := .code yX4_requireTableDay cX4_requireTableDay 1 none :: ([.classLink RX4 180 "java/lang/IndexOutOfBoundsException", .initialized "java/lang/IndexOutOfBoundsException"] ++ (vx_atS RX4 184 "java/lang/IndexOutOfBoundsException" ["java/lang/RuntimeException", "java/lang/Exception"]).filter goodWord)
def wsX4_setGlass : List Cond := .code yX4_setGlass cX4_setGlass 4 (some .int) :: ([.classLink RX4 42 "java/lang/IllegalArgumentException", .initialized "java/lang/IllegalArgumentException", .fieldLink RX4 10 "BarometerLeague" "weather" "LBarometerLeague$Weather;", .methodLink RX4 39 yX4_requireTableDay, .static yX4_requireTableDay, .initialized RX4, .code yX4_requireTableDay cX4_requireTableDay 1 none, .classLink RX4 180 "java/lang/IndexOutOfBoundsException", .initialized "java/lang/IndexOutOfBoundsException", .methodLink RX4 49 yX3_glassOn, .instanceMethod yX3_glassOn, .selects RX3 yX3_glassOn yX3_glassOn, .initialized RX3, .code yX3_glassOn cX3_glassOn 2 (some .int), .fieldLink RX3 9 "BarometerLeague$Weather" "glass" "[I", .methodLink RX3 25 yJ9_floorMod_7cf53, .static yJ9_floorMod_7cf53, .initialized RJ9, .code yJ9_floorMod_7cf53 cJ9_floorMod_7cf53 3 (some .int), .methodLink RX4 53 yX3_putGlass, .instanceMethod yX3_putGlass, .selects RX3 yX3_putGlass yX3_putGlass, .code yX3_putGlass cX3_putGlass 3 none] ++ wsX40 ++ wsX30 ++ (vx_atS RX4 46 "java/lang/IllegalArgumentException" ["java/lang/RuntimeException", "java/lang/Exception"]).filter goodWord ++ (vx_atS RX4 184 "java/lang/IndexOutOfBoundsException" ["java/lang/RuntimeException", "java/lang/Exception"]).filter goodWord)
def wsX4_setRain : List Cond := .code yX4_setRain cX4_setRain 4 (some .boolean) :: ([.fieldLink RX4 10 "BarometerLeague" "weather" "LBarometerLeague$Weather;", .methodLink RX4 39 yX4_requireTableDay, .static yX4_requireTableDay, .initialized RX4, .code yX4_requireTableDay cX4_requireTableDay 1 none, .classLink RX4 180 "java/lang/IndexOutOfBoundsException", .initialized "java/lang/IndexOutOfBoundsException", .methodLink RX4 57 yX3_rainsOn, .instanceMethod yX3_rainsOn, .selects RX3 yX3_rainsOn yX3_rainsOn, .initialized RX3, .code yX3_rainsOn cX3_rainsOn 2 (some .boolean), .fieldLink RX3 15 "BarometerLeague$Weather" "rain" "[Z", .methodLink RX3 25 yJ9_floorMod_7cf53, .static yJ9_floorMod_7cf53, .initialized RJ9, .code yJ9_floorMod_7cf53 cJ9_floorMod_7cf53 3 (some .int), .methodLink RX4 61 yX3_putRain, .instanceMethod yX3_putRain, .selects RX3 yX3_putRain yX3_putRain, .code yX3_putRain cX3_putRain 3 none] ++ wsX40 ++ wsX30 ++ (vx_atS RX4 184 "java/lang/IndexOutOfBoundsException" ["java/lang/RuntimeException", "java/lang/Exception"]).filter goodWord)
def wsJx4a65c_size_8abf5 : List Cond := .code yJx4a65c_size_8abf5 cJx4a65c_size_8abf5 1 (some .int) :: ([.fieldLink RJx4a65c 48 "java/util/ArrayList" "size" "I"] ++ wsJx4a65c0)
def wsJ8_hugeLength_7cf53 : List Cond := .code yJ8_hugeLength_7cf53 cJ8_hugeLength_7cf53 3 (some .int) :: ([.constant RJ8 200 (2147483639)])
def wsJ8_newLength_cabcc : List Cond := .code yJ8_newLength_cabcc cJ8_newLength_cabcc 4 (some .int) :: ([.methodLink RJ8 194 Lib.Math.max.name, .static Lib.Math.max.name, .initialized "java/lang/Math", .code Lib.Math.max.name Lib.Math.max.code 2 (some .int), .constant RJ8 200 (2147483639), .methodLink RJ8 201 yJ8_hugeLength_7cf53, .static yJ8_hugeLength_7cf53, .initialized RJ8, .code yJ8_hugeLength_7cf53 cJ8_hugeLength_7cf53 3 (some .int)])
def wsJ7_copyOf_6403c : List Cond := .code yJ7_copyOf_6403c cJ7_copyOf_6403c 4 (some (.array (.object "java/lang/Object"))) :: ([.classLink RJ7 110 "[Ljava/lang/Object;", .classLink RJ7 2 "java/lang/Object", .methodLink RJ7 304 Lib.Math.min.name, .static Lib.Math.min.name, .initialized "java/lang/Math", .code Lib.Math.min.name Lib.Math.min.code 2 (some .int), .methodLink RJ7 150 arraycopyName, .native arraycopyName, .static arraycopyName, .initialized "java/lang/System"])
def wsJ7_copyOf_1904c : List Cond := .code yJ7_copyOf_1904c cJ7_copyOf_1904c 2 (some (.array (.object "java/lang/Object"))) :: ([.methodLink RJ7 86 ⟨"java/lang/Object", "getClass", "()Ljava/lang/Class;"⟩, .selects "[Ljava/lang/Object;" ⟨"java/lang/Object", "getClass", "()Ljava/lang/Class;"⟩ ⟨"java/lang/Object", "getClass", "()Ljava/lang/Class;"⟩, .instanceMethod ⟨"java/lang/Object", "getClass", "()Ljava/lang/Class;"⟩, .native ⟨"java/lang/Object", "getClass", "()Ljava/lang/Class;"⟩, .methodLink RJ7 300 yJ7_copyOf_6403c, .static yJ7_copyOf_6403c, .initialized RJ7, .code yJ7_copyOf_6403c cJ7_copyOf_6403c 4 (some (.array (.object "java/lang/Object"))), .classLink RJ7 110 "[Ljava/lang/Object;", .classLink RJ7 2 "java/lang/Object", .methodLink RJ7 304 Lib.Math.min.name, .static Lib.Math.min.name, .initialized "java/lang/Math", .code Lib.Math.min.name Lib.Math.min.code 2 (some .int), .methodLink RJ7 150 arraycopyName, .native arraycopyName, .static arraycopyName, .initialized "java/lang/System"])
def wsJx4a65c_grow_92f84_r1 : List Cond := [Cond.fieldLink RJx4a65c 9 "java/util/ArrayList" "elementData" "[Ljava/lang/Object;", Cond.fieldLink RJx4a65c 39 "java/util/ArrayList" "DEFAULTCAPACITY_EMPTY_ELEMENTDATA" "[Ljava/lang/Object;", Cond.methodLink RJx4a65c 79 Lib.Math.max.name, Cond.static Lib.Math.max.name, Cond.initialized "java/lang/Math", Cond.code Lib.Math.max.name Lib.Math.max.code 2 (some .int), Cond.classLink RJx4a65c 7 "java/lang/Object", Cond.methodLink RJx4a65c 73 yJ8_newLength_cabcc, Cond.static yJ8_newLength_cabcc, Cond.initialized RJ8, Cond.code yJ8_newLength_cabcc cJ8_newLength_cabcc 4 (some .int), Cond.methodLink RJ8 194 Lib.Math.max.name, Cond.constant RJ8 200 (2147483639), Cond.methodLink RJ8 201 yJ8_hugeLength_7cf53, Cond.static yJ8_hugeLength_7cf53, Cond.code yJ8_hugeLength_7cf53 cJ8_hugeLength_7cf53 3 (some .int), Cond.methodLink RJx4a65c 66 yJ7_copyOf_1904c, Cond.static yJ7_copyOf_1904c, Cond.initialized RJ7, Cond.code yJ7_copyOf_1904c cJ7_copyOf_1904c 2 (some (.array (.object "java/lang/Object"))), Cond.methodLink RJ7 86 ⟨"java/lang/Object", "getClass", "()Ljava/lang/Class;"⟩, Cond.selects "[Ljava/lang/Object;" ⟨"java/lang/Object", "getClass", "()Ljava/lang/Class;"⟩ ⟨"java/lang/Object", "getClass", "()Ljava/lang/Class;"⟩, Cond.instanceMethod ⟨"java/lang/Object", "getClass", "()Ljava/lang/Class;"⟩, Cond.native ⟨"java/lang/Object", "getClass", "()Ljava/lang/Class;"⟩]
def wsJx4a65c_grow_92f84_r2 : List Cond := [Cond.methodLink RJ7 300 yJ7_copyOf_6403c, Cond.static yJ7_copyOf_6403c, Cond.code yJ7_copyOf_6403c cJ7_copyOf_6403c 4 (some (.array (.object "java/lang/Object"))), Cond.classLink RJ7 110 "[Ljava/lang/Object;", Cond.classLink RJ7 2 "java/lang/Object", Cond.methodLink RJ7 304 Lib.Math.min.name, Cond.static Lib.Math.min.name, Cond.code Lib.Math.min.name Lib.Math.min.code 2 (some .int), Cond.methodLink RJ7 150 arraycopyName, Cond.native arraycopyName, Cond.static arraycopyName, Cond.initialized "java/lang/System"]
def wsJx4a65c_grow_92f84 : List Cond := .code yJx4a65c_grow_92f84 cJx4a65c_grow_92f84 4 (some (.array (.object "java/lang/Object"))) :: ((wsJx4a65c_grow_92f84_r1 ++ wsJx4a65c_grow_92f84_r2) ++ wsJx4a65c0)
def wsJx4a65c_grow_d5877_r1 : List Cond := [Cond.fieldLink RJx4a65c 48 "java/util/ArrayList" "size" "I", Cond.methodLink RJx4a65c 69 yJx4a65c_grow_92f84, Cond.instanceMethod yJx4a65c_grow_92f84, Cond.selects RJx4a65c yJx4a65c_grow_92f84 yJx4a65c_grow_92f84, Cond.initialized RJx4a65c, Cond.code yJx4a65c_grow_92f84 cJx4a65c_grow_92f84 4 (some (.array (.object "java/lang/Object"))), Cond.fieldLink RJx4a65c 9 "java/util/ArrayList" "elementData" "[Ljava/lang/Object;", Cond.fieldLink RJx4a65c 39 "java/util/ArrayList" "DEFAULTCAPACITY_EMPTY_ELEMENTDATA" "[Ljava/lang/Object;", Cond.methodLink RJx4a65c 79 Lib.Math.max.name, Cond.static Lib.Math.max.name, Cond.initialized "java/lang/Math", Cond.code Lib.Math.max.name Lib.Math.max.code 2 (some .int), Cond.classLink RJx4a65c 7 "java/lang/Object", Cond.methodLink RJx4a65c 73 yJ8_newLength_cabcc, Cond.static yJ8_newLength_cabcc, Cond.initialized RJ8, Cond.code yJ8_newLength_cabcc cJ8_newLength_cabcc 4 (some .int), Cond.methodLink RJ8 194 Lib.Math.max.name, Cond.constant RJ8 200 (2147483639), Cond.methodLink RJ8 201 yJ8_hugeLength_7cf53, Cond.static yJ8_hugeLength_7cf53, Cond.code yJ8_hugeLength_7cf53 cJ8_hugeLength_7cf53 3 (some .int), Cond.methodLink RJx4a65c 66 yJ7_copyOf_1904c, Cond.static yJ7_copyOf_1904c]
def wsJx4a65c_grow_d5877_r2 : List Cond := [Cond.initialized RJ7, Cond.code yJ7_copyOf_1904c cJ7_copyOf_1904c 2 (some (.array (.object "java/lang/Object"))), Cond.methodLink RJ7 86 ⟨"java/lang/Object", "getClass", "()Ljava/lang/Class;"⟩, Cond.selects "[Ljava/lang/Object;" ⟨"java/lang/Object", "getClass", "()Ljava/lang/Class;"⟩ ⟨"java/lang/Object", "getClass", "()Ljava/lang/Class;"⟩, Cond.instanceMethod ⟨"java/lang/Object", "getClass", "()Ljava/lang/Class;"⟩, Cond.native ⟨"java/lang/Object", "getClass", "()Ljava/lang/Class;"⟩, Cond.methodLink RJ7 300 yJ7_copyOf_6403c, Cond.static yJ7_copyOf_6403c, Cond.code yJ7_copyOf_6403c cJ7_copyOf_6403c 4 (some (.array (.object "java/lang/Object"))), Cond.classLink RJ7 110 "[Ljava/lang/Object;", Cond.classLink RJ7 2 "java/lang/Object", Cond.methodLink RJ7 304 Lib.Math.min.name, Cond.static Lib.Math.min.name, Cond.code Lib.Math.min.name Lib.Math.min.code 2 (some .int), Cond.methodLink RJ7 150 arraycopyName, Cond.native arraycopyName, Cond.static arraycopyName, Cond.initialized "java/lang/System"]
def wsJx4a65c_grow_d5877 : List Cond := .code yJx4a65c_grow_d5877 cJx4a65c_grow_d5877 1 (some (.array (.object "java/lang/Object"))) :: ((wsJx4a65c_grow_d5877_r1 ++ wsJx4a65c_grow_d5877_r2) ++ wsJx4a65c0)
def wsJx4a65c_add_72be8_r1 : List Cond := [Cond.fieldLink RJx4a65c 48 "java/util/ArrayList" "size" "I", Cond.methodLink RJx4a65c 129 yJx4a65c_grow_d5877, Cond.instanceMethod yJx4a65c_grow_d5877, Cond.selects RJx4a65c yJx4a65c_grow_d5877 yJx4a65c_grow_d5877, Cond.initialized RJx4a65c, Cond.code yJx4a65c_grow_d5877 cJx4a65c_grow_d5877 1 (some (.array (.object "java/lang/Object"))), Cond.methodLink RJx4a65c 69 yJx4a65c_grow_92f84, Cond.instanceMethod yJx4a65c_grow_92f84, Cond.selects RJx4a65c yJx4a65c_grow_92f84 yJx4a65c_grow_92f84, Cond.code yJx4a65c_grow_92f84 cJx4a65c_grow_92f84 4 (some (.array (.object "java/lang/Object"))), Cond.fieldLink RJx4a65c 9 "java/util/ArrayList" "elementData" "[Ljava/lang/Object;", Cond.fieldLink RJx4a65c 39 "java/util/ArrayList" "DEFAULTCAPACITY_EMPTY_ELEMENTDATA" "[Ljava/lang/Object;", Cond.methodLink RJx4a65c 79 Lib.Math.max.name, Cond.static Lib.Math.max.name, Cond.initialized "java/lang/Math", Cond.code Lib.Math.max.name Lib.Math.max.code 2 (some .int), Cond.classLink RJx4a65c 7 "java/lang/Object", Cond.methodLink RJx4a65c 73 yJ8_newLength_cabcc, Cond.static yJ8_newLength_cabcc, Cond.initialized RJ8, Cond.code yJ8_newLength_cabcc cJ8_newLength_cabcc 4 (some .int), Cond.methodLink RJ8 194 Lib.Math.max.name, Cond.constant RJ8 200 (2147483639), Cond.methodLink RJ8 201 yJ8_hugeLength_7cf53]
def wsJx4a65c_add_72be8_r2 : List Cond := [Cond.static yJ8_hugeLength_7cf53, Cond.code yJ8_hugeLength_7cf53 cJ8_hugeLength_7cf53 3 (some .int), Cond.methodLink RJx4a65c 66 yJ7_copyOf_1904c, Cond.static yJ7_copyOf_1904c, Cond.initialized RJ7, Cond.code yJ7_copyOf_1904c cJ7_copyOf_1904c 2 (some (.array (.object "java/lang/Object"))), Cond.methodLink RJ7 86 ⟨"java/lang/Object", "getClass", "()Ljava/lang/Class;"⟩, Cond.selects "[Ljava/lang/Object;" ⟨"java/lang/Object", "getClass", "()Ljava/lang/Class;"⟩ ⟨"java/lang/Object", "getClass", "()Ljava/lang/Class;"⟩, Cond.instanceMethod ⟨"java/lang/Object", "getClass", "()Ljava/lang/Class;"⟩, Cond.native ⟨"java/lang/Object", "getClass", "()Ljava/lang/Class;"⟩, Cond.methodLink RJ7 300 yJ7_copyOf_6403c, Cond.static yJ7_copyOf_6403c, Cond.code yJ7_copyOf_6403c cJ7_copyOf_6403c 4 (some (.array (.object "java/lang/Object"))), Cond.classLink RJ7 110 "[Ljava/lang/Object;", Cond.classLink RJ7 2 "java/lang/Object", Cond.methodLink RJ7 304 Lib.Math.min.name, Cond.static Lib.Math.min.name, Cond.code Lib.Math.min.name Lib.Math.min.code 2 (some .int), Cond.methodLink RJ7 150 arraycopyName, Cond.native arraycopyName, Cond.static arraycopyName, Cond.initialized "java/lang/System"]
def wsJx4a65c_add_72be8 : List Cond := .code yJx4a65c_add_72be8 cJx4a65c_add_72be8 4 none :: ((wsJx4a65c_add_72be8_r1 ++ wsJx4a65c_add_72be8_r2) ++ wsJx4a65c0)
def wsJx4a65c_add_9ea2d_r1 : List Cond := [Cond.fieldLink RJx4a65c 63 "java/util/ArrayList" "modCount" "I", Cond.sameField "java/util/ArrayList" "java/util/AbstractList" "modCount" "I", Cond.fieldLink RJx4a65c 9 "java/util/ArrayList" "elementData" "[Ljava/lang/Object;", Cond.fieldLink RJx4a65c 48 "java/util/ArrayList" "size" "I", Cond.methodLink RJx4a65c 131 yJx4a65c_add_72be8, Cond.instanceMethod yJx4a65c_add_72be8, Cond.selects RJx4a65c yJx4a65c_add_72be8 yJx4a65c_add_72be8, Cond.initialized RJx4a65c, Cond.code yJx4a65c_add_72be8 cJx4a65c_add_72be8 4 none, Cond.methodLink RJx4a65c 129 yJx4a65c_grow_d5877, Cond.instanceMethod yJx4a65c_grow_d5877, Cond.selects RJx4a65c yJx4a65c_grow_d5877 yJx4a65c_grow_d5877, Cond.code yJx4a65c_grow_d5877 cJx4a65c_grow_d5877 1 (some (.array (.object "java/lang/Object"))), Cond.methodLink RJx4a65c 69 yJx4a65c_grow_92f84, Cond.instanceMethod yJx4a65c_grow_92f84, Cond.selects RJx4a65c yJx4a65c_grow_92f84 yJx4a65c_grow_92f84, Cond.code yJx4a65c_grow_92f84 cJx4a65c_grow_92f84 4 (some (.array (.object "java/lang/Object"))), Cond.fieldLink RJx4a65c 39 "java/util/ArrayList" "DEFAULTCAPACITY_EMPTY_ELEMENTDATA" "[Ljava/lang/Object;", Cond.methodLink RJx4a65c 79 Lib.Math.max.name, Cond.static Lib.Math.max.name, Cond.initialized "java/lang/Math", Cond.code Lib.Math.max.name Lib.Math.max.code 2 (some .int), Cond.classLink RJx4a65c 7 "java/lang/Object", Cond.methodLink RJx4a65c 73 yJ8_newLength_cabcc]
def wsJx4a65c_add_9ea2d_r2 : List Cond := [Cond.static yJ8_newLength_cabcc, Cond.initialized RJ8, Cond.code yJ8_newLength_cabcc cJ8_newLength_cabcc 4 (some .int), Cond.methodLink RJ8 194 Lib.Math.max.name, Cond.constant RJ8 200 (2147483639), Cond.methodLink RJ8 201 yJ8_hugeLength_7cf53, Cond.static yJ8_hugeLength_7cf53, Cond.code yJ8_hugeLength_7cf53 cJ8_hugeLength_7cf53 3 (some .int), Cond.methodLink RJx4a65c 66 yJ7_copyOf_1904c, Cond.static yJ7_copyOf_1904c, Cond.initialized RJ7, Cond.code yJ7_copyOf_1904c cJ7_copyOf_1904c 2 (some (.array (.object "java/lang/Object"))), Cond.methodLink RJ7 86 ⟨"java/lang/Object", "getClass", "()Ljava/lang/Class;"⟩, Cond.selects "[Ljava/lang/Object;" ⟨"java/lang/Object", "getClass", "()Ljava/lang/Class;"⟩ ⟨"java/lang/Object", "getClass", "()Ljava/lang/Class;"⟩, Cond.instanceMethod ⟨"java/lang/Object", "getClass", "()Ljava/lang/Class;"⟩, Cond.native ⟨"java/lang/Object", "getClass", "()Ljava/lang/Class;"⟩, Cond.methodLink RJ7 300 yJ7_copyOf_6403c, Cond.static yJ7_copyOf_6403c, Cond.code yJ7_copyOf_6403c cJ7_copyOf_6403c 4 (some (.array (.object "java/lang/Object"))), Cond.classLink RJ7 110 "[Ljava/lang/Object;", Cond.classLink RJ7 2 "java/lang/Object", Cond.methodLink RJ7 304 Lib.Math.min.name, Cond.static Lib.Math.min.name, Cond.code Lib.Math.min.name Lib.Math.min.code 2 (some .int)]
def wsJx4a65c_add_9ea2d_r3 : List Cond := [Cond.methodLink RJ7 150 arraycopyName, Cond.native arraycopyName, Cond.static arraycopyName, Cond.initialized "java/lang/System"]
def wsJx4a65c_add_9ea2d : List Cond := .code yJx4a65c_add_9ea2d cJx4a65c_add_9ea2d 2 (some .boolean) :: ((wsJx4a65c_add_9ea2d_r1 ++ (wsJx4a65c_add_9ea2d_r2 ++ wsJx4a65c_add_9ea2d_r3)) ++ wsJx4a65c0)
def wsX4_sign_r1 : List Cond := [Cond.classLink RX4 42 "java/lang/IllegalArgumentException", Cond.initialized "java/lang/IllegalArgumentException", Cond.classLink RX4 73 "java/lang/IllegalStateException", Cond.initialized "java/lang/IllegalStateException", Cond.fieldLink RX4 19 "BarometerLeague" "signs" "Ljava/util/ArrayList;", Cond.classLink RX4 78 RX0, Cond.instantiable RX0 2, Cond.initialized RX0, Cond.methodLink RX4 69 yJx4a65c_size_8abf5, Cond.instanceMethod yJx4a65c_size_8abf5, Cond.selects RJx4a65c yJx4a65c_size_8abf5 yJx4a65c_size_8abf5, Cond.initialized RJx4a65c, Cond.code yJx4a65c_size_8abf5 cJx4a65c_size_8abf5 1 (some .int), Cond.fieldLink RJx4a65c 48 "java/util/ArrayList" "size" "I", Cond.methodLink RX4 80 yX0_init, Cond.instanceMethod yX0_init, Cond.code yX0_init cX0_init 3 none, Cond.methodLink RX0 3 objectInit, Cond.instanceMethod objectInit, Cond.code objectInit ⟨#[0xb1]⟩ 1 none, Cond.fieldLink RX0 9 "BarometerLeague$Sign" "kind" "I", Cond.fieldLink RX0 15 "BarometerLeague$Sign" "number" "I", Cond.methodLink RX4 82 yJx4a65c_add_9ea2d, Cond.instanceMethod yJx4a65c_add_9ea2d]
def wsX4_sign_r2 : List Cond := [Cond.selects RJx4a65c yJx4a65c_add_9ea2d yJx4a65c_add_9ea2d, Cond.code yJx4a65c_add_9ea2d cJx4a65c_add_9ea2d 2 (some .boolean), Cond.fieldLink RJx4a65c 63 "java/util/ArrayList" "modCount" "I", Cond.sameField "java/util/ArrayList" "java/util/AbstractList" "modCount" "I", Cond.fieldLink RJx4a65c 9 "java/util/ArrayList" "elementData" "[Ljava/lang/Object;", Cond.methodLink RJx4a65c 131 yJx4a65c_add_72be8, Cond.instanceMethod yJx4a65c_add_72be8, Cond.selects RJx4a65c yJx4a65c_add_72be8 yJx4a65c_add_72be8, Cond.code yJx4a65c_add_72be8 cJx4a65c_add_72be8 4 none, Cond.methodLink RJx4a65c 129 yJx4a65c_grow_d5877, Cond.instanceMethod yJx4a65c_grow_d5877, Cond.selects RJx4a65c yJx4a65c_grow_d5877 yJx4a65c_grow_d5877, Cond.code yJx4a65c_grow_d5877 cJx4a65c_grow_d5877 1 (some (.array (.object "java/lang/Object"))), Cond.methodLink RJx4a65c 69 yJx4a65c_grow_92f84, Cond.instanceMethod yJx4a65c_grow_92f84, Cond.selects RJx4a65c yJx4a65c_grow_92f84 yJx4a65c_grow_92f84, Cond.code yJx4a65c_grow_92f84 cJx4a65c_grow_92f84 4 (some (.array (.object "java/lang/Object"))), Cond.fieldLink RJx4a65c 39 "java/util/ArrayList" "DEFAULTCAPACITY_EMPTY_ELEMENTDATA" "[Ljava/lang/Object;", Cond.methodLink RJx4a65c 79 Lib.Math.max.name, Cond.static Lib.Math.max.name, Cond.initialized "java/lang/Math", Cond.code Lib.Math.max.name Lib.Math.max.code 2 (some .int), Cond.classLink RJx4a65c 7 "java/lang/Object", Cond.methodLink RJx4a65c 73 yJ8_newLength_cabcc]
def wsX4_sign_r3 : List Cond := [Cond.static yJ8_newLength_cabcc, Cond.initialized RJ8, Cond.code yJ8_newLength_cabcc cJ8_newLength_cabcc 4 (some .int), Cond.methodLink RJ8 194 Lib.Math.max.name, Cond.constant RJ8 200 (2147483639), Cond.methodLink RJ8 201 yJ8_hugeLength_7cf53, Cond.static yJ8_hugeLength_7cf53, Cond.code yJ8_hugeLength_7cf53 cJ8_hugeLength_7cf53 3 (some .int), Cond.methodLink RJx4a65c 66 yJ7_copyOf_1904c, Cond.static yJ7_copyOf_1904c, Cond.initialized RJ7, Cond.code yJ7_copyOf_1904c cJ7_copyOf_1904c 2 (some (.array (.object "java/lang/Object"))), Cond.methodLink RJ7 86 ⟨"java/lang/Object", "getClass", "()Ljava/lang/Class;"⟩, Cond.selects "[Ljava/lang/Object;" ⟨"java/lang/Object", "getClass", "()Ljava/lang/Class;"⟩ ⟨"java/lang/Object", "getClass", "()Ljava/lang/Class;"⟩, Cond.instanceMethod ⟨"java/lang/Object", "getClass", "()Ljava/lang/Class;"⟩, Cond.native ⟨"java/lang/Object", "getClass", "()Ljava/lang/Class;"⟩, Cond.methodLink RJ7 300 yJ7_copyOf_6403c, Cond.static yJ7_copyOf_6403c, Cond.code yJ7_copyOf_6403c cJ7_copyOf_6403c 4 (some (.array (.object "java/lang/Object"))), Cond.classLink RJ7 110 "[Ljava/lang/Object;", Cond.classLink RJ7 2 "java/lang/Object", Cond.methodLink RJ7 304 Lib.Math.min.name, Cond.static Lib.Math.min.name, Cond.code Lib.Math.min.name Lib.Math.min.code 2 (some .int)]
def wsX4_sign_r4 : List Cond := [Cond.methodLink RJ7 150 arraycopyName, Cond.native arraycopyName, Cond.static arraycopyName, Cond.initialized "java/lang/System"]
def wsX4_sign : List Cond := .code yX4_sign cX4_sign 3 (some .int) :: ((wsX4_sign_r1 ++ (wsX4_sign_r2 ++ (wsX4_sign_r3 ++ wsX4_sign_r4))) ++ wsX40 ++ wsX00 ++ wsJx4a65c0 ++ (vx_atS RX4 46 "java/lang/IllegalArgumentException" ["java/lang/RuntimeException", "java/lang/Exception"]).filter goodWord ++ (vx_atS RX4 77 "java/lang/IllegalStateException" ["java/lang/RuntimeException", "java/lang/Exception"]).filter goodWord)
def wsX4_join : List Cond := .code yX4_join cX4_join 1 (some .int) :: ([.classLink RX4 73 "java/lang/IllegalStateException", .initialized "java/lang/IllegalStateException", .fieldLink RX4 28 "BarometerLeague" "villages" "LBarometerLeague$VillageRow;", .methodLink RX4 86 yX2_isFull, .instanceMethod yX2_isFull, .selects RX2 yX2_isFull yX2_isFull, .initialized RX2, .code yX2_isFull cX2_isFull 1 (some .boolean), .fieldLink RX2 18 "BarometerLeague$VillageRow" "size" "I", .fieldLink RX2 9 "BarometerLeague$VillageRow" "places" "[LBarometerLeague$Village;", .methodLink RX4 92 yX2_grow, .instanceMethod yX2_grow, .selects RX2 yX2_grow yX2_grow, .code yX2_grow cX2_grow 1 none, .methodLink RX2 29 yX2_isFull, .methodLink RX4 95 yX2_size, .instanceMethod yX2_size, .selects RX2 yX2_size yX2_size, .code yX2_size cX2_size 1 (some .int)] ++ wsX40 ++ wsX20 ++ (vx_atS RX4 77 "java/lang/IllegalStateException" ["java/lang/RuntimeException", "java/lang/Exception"]).filter goodWord)
def wsX4_requireSign : List Cond := .code yX4_requireSign cX4_requireSign 2 none :: ([.classLink RX4 180 "java/lang/IndexOutOfBoundsException", .initialized "java/lang/IndexOutOfBoundsException", .fieldLink RX4 19 "BarometerLeague" "signs" "Ljava/util/ArrayList;", .methodLink RX4 69 yJx4a65c_size_8abf5, .instanceMethod yJx4a65c_size_8abf5, .selects RJx4a65c yJx4a65c_size_8abf5 yJx4a65c_size_8abf5, .initialized RJx4a65c, .code yJx4a65c_size_8abf5 cJx4a65c_size_8abf5 1 (some .int), .fieldLink RJx4a65c 48 "java/util/ArrayList" "size" "I"] ++ wsX40 ++ wsJx4a65c0 ++ (vx_atS RX4 184 "java/lang/IndexOutOfBoundsException" ["java/lang/RuntimeException", "java/lang/Exception"]).filter goodWord)
def wsX4_weigh_r1 : List Cond := [Cond.classLink RX4 42 "java/lang/IllegalArgumentException", Cond.initialized "java/lang/IllegalArgumentException", Cond.fieldLink RX4 28 "BarometerLeague" "villages" "LBarometerLeague$VillageRow;", Cond.methodLink RX4 96 yX2_get, Cond.instanceMethod yX2_get, Cond.selects RX2 yX2_get yX2_get, Cond.initialized RX2, Cond.code yX2_get cX2_get 2 (some (.object "BarometerLeague$Village")), Cond.classLink RX2 22 "java/lang/IndexOutOfBoundsException", Cond.initialized "java/lang/IndexOutOfBoundsException", Cond.fieldLink RX2 18 "BarometerLeague$VillageRow" "size" "I", Cond.fieldLink RX2 9 "BarometerLeague$VillageRow" "places" "[LBarometerLeague$Village;", Cond.methodLink RX4 100 yX4_requireSign, Cond.instanceMethod yX4_requireSign, Cond.selects RX4 yX4_requireSign yX4_requireSign, Cond.initialized RX4, Cond.code yX4_requireSign cX4_requireSign 2 none, Cond.classLink RX4 180 "java/lang/IndexOutOfBoundsException", Cond.fieldLink RX4 19 "BarometerLeague" "signs" "Ljava/util/ArrayList;", Cond.methodLink RX4 69 yJx4a65c_size_8abf5, Cond.instanceMethod yJx4a65c_size_8abf5, Cond.selects RJx4a65c yJx4a65c_size_8abf5 yJx4a65c_size_8abf5, Cond.initialized RJx4a65c, Cond.code yJx4a65c_size_8abf5 cJx4a65c_size_8abf5 1 (some .int)]
def wsX4_weigh_r2 : List Cond := [Cond.fieldLink RJx4a65c 48 "java/util/ArrayList" "size" "I", Cond.methodLink RX4 105 yX1_weightOf, Cond.instanceMethod yX1_weightOf, Cond.selects RX1 yX1_weightOf yX1_weightOf, Cond.initialized RX1, Cond.code yX1_weightOf cX1_weightOf 2 (some .int), Cond.fieldLink RX1 9 "BarometerLeague$Village" "weights" "[I", Cond.methodLink RX4 110 yX1_putWeight, Cond.instanceMethod yX1_putWeight, Cond.selects RX1 yX1_putWeight yX1_putWeight, Cond.code yX1_putWeight cX1_putWeight 3 none]
def wsX4_weigh : List Cond := .code yX4_weigh cX4_weigh 6 (some .int) :: ((wsX4_weigh_r1 ++ wsX4_weigh_r2) ++ wsX40 ++ wsX20 ++ wsJx4a65c0 ++ wsX10 ++ (vx_atS RX4 46 "java/lang/IllegalArgumentException" ["java/lang/RuntimeException", "java/lang/Exception"]).filter goodWord ++ (vx_atS RX2 26 "java/lang/IndexOutOfBoundsException" ["java/lang/RuntimeException", "java/lang/Exception"]).filter goodWord ++ (vx_atS RX4 184 "java/lang/IndexOutOfBoundsException" ["java/lang/RuntimeException", "java/lang/Exception"]).filter goodWord)
def wsX4_requireTwo : List Cond := .code yX4_requireTwo cX4_requireTwo 2 none :: ([.classLink RX4 42 "java/lang/IllegalArgumentException", .initialized "java/lang/IllegalArgumentException"] ++ (vx_atS RX4 46 "java/lang/IllegalArgumentException" ["java/lang/RuntimeException", "java/lang/Exception"]).filter goodWord)
def wsX4_share_r1 : List Cond := [Cond.classLink RX4 73 "java/lang/IllegalStateException", Cond.initialized "java/lang/IllegalStateException", Cond.fieldLink RX4 28 "BarometerLeague" "villages" "LBarometerLeague$VillageRow;", Cond.methodLink RX4 96 yX2_get, Cond.instanceMethod yX2_get, Cond.selects RX2 yX2_get yX2_get, Cond.initialized RX2, Cond.code yX2_get cX2_get 2 (some (.object "BarometerLeague$Village")), Cond.classLink RX2 22 "java/lang/IndexOutOfBoundsException", Cond.initialized "java/lang/IndexOutOfBoundsException", Cond.fieldLink RX2 18 "BarometerLeague$VillageRow" "size" "I", Cond.fieldLink RX2 9 "BarometerLeague$VillageRow" "places" "[LBarometerLeague$Village;", Cond.methodLink RX4 113 yX4_requireTwo, Cond.static yX4_requireTwo, Cond.initialized RX4, Cond.code yX4_requireTwo cX4_requireTwo 2 none, Cond.classLink RX4 42 "java/lang/IllegalArgumentException", Cond.initialized "java/lang/IllegalArgumentException", Cond.methodLink RX4 122 yX1_buyWeightsOf, Cond.instanceMethod yX1_buyWeightsOf, Cond.selects RX1 yX1_buyWeightsOf yX1_buyWeightsOf, Cond.initialized RX1, Cond.code yX1_buyWeightsOf cX1_buyWeightsOf 3 none, Cond.fieldLink RX1 19 "BarometerLeague$Village" "coins" "I"]
def wsX4_share_r2 : List Cond := [Cond.fieldLink RX1 9 "BarometerLeague$Village" "weights" "[I"]
def wsX4_share : List Cond := .code yX4_share cX4_share 5 (some .int) :: ((wsX4_share_r1 ++ wsX4_share_r2) ++ wsX40 ++ wsX10 ++ wsX20 ++ (vx_atS RX4 77 "java/lang/IllegalStateException" ["java/lang/RuntimeException", "java/lang/Exception"]).filter goodWord ++ (vx_atS RX2 26 "java/lang/IndexOutOfBoundsException" ["java/lang/RuntimeException", "java/lang/Exception"]).filter goodWord ++ (vx_atS RX4 46 "java/lang/IllegalArgumentException" ["java/lang/RuntimeException", "java/lang/Exception"]).filter goodWord)
def wsJ3_checkIndex_8e157 : List Cond := .code yJ3_checkIndex_8e157 cJ3_checkIndex_8e157 3 (some .int) :: ([])
def wsJ15_checkIndex_7cf53 : List Cond := .code yJ15_checkIndex_7cf53 cJ15_checkIndex_7cf53 2 (some .int) :: ([.methodLink RJ15 105 yJ3_checkIndex_8e157, .static yJ3_checkIndex_8e157, .initialized RJ3, .code yJ3_checkIndex_8e157 cJ3_checkIndex_8e157 3 (some .int)])
def wsJx4a65c_elementData_915e3 : List Cond := .code yJx4a65c_elementData_915e3 cJx4a65c_elementData_915e3 2 (some (.object "java/lang/Object")) :: ([.fieldLink RJx4a65c 9 "java/util/ArrayList" "elementData" "[Ljava/lang/Object;"] ++ wsJx4a65c0)
def wsJx4a65c_get_915e3 : List Cond := .code yJx4a65c_get_915e3 cJx4a65c_get_915e3 2 (some (.object "java/lang/Object")) :: ([.fieldLink RJx4a65c 48 "java/util/ArrayList" "size" "I", .methodLink RJx4a65c 118 yJ15_checkIndex_7cf53, .static yJ15_checkIndex_7cf53, .initialized RJ15, .code yJ15_checkIndex_7cf53 cJ15_checkIndex_7cf53 2 (some .int), .methodLink RJ15 105 yJ3_checkIndex_8e157, .static yJ3_checkIndex_8e157, .initialized RJ3, .code yJ3_checkIndex_8e157 cJ3_checkIndex_8e157 3 (some .int), .methodLink RJx4a65c 123 yJx4a65c_elementData_915e3, .instanceMethod yJx4a65c_elementData_915e3, .selects RJx4a65c yJx4a65c_elementData_915e3 yJx4a65c_elementData_915e3, .initialized RJx4a65c, .code yJx4a65c_elementData_915e3 cJx4a65c_elementData_915e3 2 (some (.object "java/lang/Object")), .fieldLink RJx4a65c 9 "java/util/ArrayList" "elementData" "[Ljava/lang/Object;"] ++ wsJx4a65c0)
def wsX4_says_r1 : List Cond := [Cond.classLink RX4 42 "java/lang/IllegalArgumentException", Cond.initialized "java/lang/IllegalArgumentException", Cond.fieldLink RX4 19 "BarometerLeague" "signs" "Ljava/util/ArrayList;", Cond.classLink RX4 78 "BarometerLeague$Sign", Cond.fieldLink RX4 10 "BarometerLeague" "weather" "LBarometerLeague$Weather;", Cond.methodLink RX4 100 yX4_requireSign, Cond.instanceMethod yX4_requireSign, Cond.selects RX4 yX4_requireSign yX4_requireSign, Cond.initialized RX4, Cond.code yX4_requireSign cX4_requireSign 2 none, Cond.classLink RX4 180 "java/lang/IndexOutOfBoundsException", Cond.initialized "java/lang/IndexOutOfBoundsException", Cond.methodLink RX4 69 yJx4a65c_size_8abf5, Cond.instanceMethod yJx4a65c_size_8abf5, Cond.selects RJx4a65c yJx4a65c_size_8abf5 yJx4a65c_size_8abf5, Cond.initialized RJx4a65c, Cond.code yJx4a65c_size_8abf5 cJx4a65c_size_8abf5 1 (some .int), Cond.fieldLink RJx4a65c 48 "java/util/ArrayList" "size" "I", Cond.methodLink RX4 128 yJx4a65c_get_915e3, Cond.instanceMethod yJx4a65c_get_915e3, Cond.selects RJx4a65c yJx4a65c_get_915e3 yJx4a65c_get_915e3, Cond.code yJx4a65c_get_915e3 cJx4a65c_get_915e3 2 (some (.object "java/lang/Object")), Cond.methodLink RJx4a65c 118 yJ15_checkIndex_7cf53, Cond.static yJ15_checkIndex_7cf53]
def wsX4_says_r2 : List Cond := [Cond.initialized RJ15, Cond.code yJ15_checkIndex_7cf53 cJ15_checkIndex_7cf53 2 (some .int), Cond.methodLink RJ15 105 yJ3_checkIndex_8e157, Cond.static yJ3_checkIndex_8e157, Cond.initialized RJ3, Cond.code yJ3_checkIndex_8e157 cJ3_checkIndex_8e157 3 (some .int), Cond.methodLink RJx4a65c 123 yJx4a65c_elementData_915e3, Cond.instanceMethod yJx4a65c_elementData_915e3, Cond.selects RJx4a65c yJx4a65c_elementData_915e3 yJx4a65c_elementData_915e3, Cond.code yJx4a65c_elementData_915e3 cJx4a65c_elementData_915e3 2 (some (.object "java/lang/Object")), Cond.fieldLink RJx4a65c 9 "java/util/ArrayList" "elementData" "[Ljava/lang/Object;", Cond.methodLink RX4 131 yX0_saysRain, Cond.instanceMethod yX0_saysRain, Cond.selects RX0 yX0_saysRain yX0_saysRain, Cond.initialized RX0, Cond.code yX0_saysRain cX0_saysRain 6 (some .boolean), Cond.fieldLink RX0 9 "BarometerLeague$Sign" "kind" "I", Cond.fieldLink RX0 15 "BarometerLeague$Sign" "number" "I", Cond.methodLink RX0 18 yX3_glassOn, Cond.instanceMethod yX3_glassOn, Cond.selects RX3 yX3_glassOn yX3_glassOn, Cond.initialized RX3, Cond.code yX3_glassOn cX3_glassOn 2 (some .int), Cond.fieldLink RX3 9 "BarometerLeague$Weather" "glass" "[I"]
def wsX4_says_r3 : List Cond := [Cond.methodLink RX3 25 yJ9_floorMod_7cf53, Cond.static yJ9_floorMod_7cf53, Cond.initialized RJ9, Cond.code yJ9_floorMod_7cf53 cJ9_floorMod_7cf53 3 (some .int), Cond.methodLink RX0 24 yX3_rainsOn, Cond.instanceMethod yX3_rainsOn, Cond.selects RX3 yX3_rainsOn yX3_rainsOn, Cond.code yX3_rainsOn cX3_rainsOn 2 (some .boolean), Cond.fieldLink RX3 15 "BarometerLeague$Weather" "rain" "[Z"]
def wsX4_says : List Cond := .code yX4_says cX4_says 3 (some .boolean) :: ((wsX4_says_r1 ++ (wsX4_says_r2 ++ wsX4_says_r3)) ++ wsX40 ++ wsJx4a65c0 ++ wsX00 ++ wsX30 ++ (vx_atS RX4 46 "java/lang/IllegalArgumentException" ["java/lang/RuntimeException", "java/lang/Exception"]).filter goodWord ++ (vx_atS RX4 184 "java/lang/IndexOutOfBoundsException" ["java/lang/RuntimeException", "java/lang/Exception"]).filter goodWord)
def wsX4_requireWhat : List Cond := .code yX4_requireWhat cX4_requireWhat 3 none :: ([.classLink RX4 180 "java/lang/IndexOutOfBoundsException", .initialized "java/lang/IndexOutOfBoundsException"] ++ (vx_atS RX4 184 "java/lang/IndexOutOfBoundsException" ["java/lang/RuntimeException", "java/lang/Exception"]).filter goodWord)
def wsX4_told_r1 : List Cond := [Cond.fieldLink RX4 19 "BarometerLeague" "signs" "Ljava/util/ArrayList;", Cond.classLink RX4 78 "BarometerLeague$Sign", Cond.fieldLink RX4 10 "BarometerLeague" "weather" "LBarometerLeague$Weather;", Cond.fieldLink RX4 28 "BarometerLeague" "villages" "LBarometerLeague$VillageRow;", Cond.methodLink RX4 100 yX4_requireSign, Cond.instanceMethod yX4_requireSign, Cond.selects RX4 yX4_requireSign yX4_requireSign, Cond.initialized RX4, Cond.code yX4_requireSign cX4_requireSign 2 none, Cond.classLink RX4 180 "java/lang/IndexOutOfBoundsException", Cond.initialized "java/lang/IndexOutOfBoundsException", Cond.methodLink RX4 69 yJx4a65c_size_8abf5, Cond.instanceMethod yJx4a65c_size_8abf5, Cond.selects RJx4a65c yJx4a65c_size_8abf5 yJx4a65c_size_8abf5, Cond.initialized RJx4a65c, Cond.code yJx4a65c_size_8abf5 cJx4a65c_size_8abf5 1 (some .int), Cond.fieldLink RJx4a65c 48 "java/util/ArrayList" "size" "I", Cond.methodLink RX4 135 yX4_requireWhat, Cond.static yX4_requireWhat, Cond.code yX4_requireWhat cX4_requireWhat 3 none, Cond.methodLink RX4 128 yJx4a65c_get_915e3, Cond.instanceMethod yJx4a65c_get_915e3, Cond.selects RJx4a65c yJx4a65c_get_915e3 yJx4a65c_get_915e3, Cond.code yJx4a65c_get_915e3 cJx4a65c_get_915e3 2 (some (.object "java/lang/Object"))]
def wsX4_told_r2 : List Cond := [Cond.methodLink RJx4a65c 118 yJ15_checkIndex_7cf53, Cond.static yJ15_checkIndex_7cf53, Cond.initialized RJ15, Cond.code yJ15_checkIndex_7cf53 cJ15_checkIndex_7cf53 2 (some .int), Cond.methodLink RJ15 105 yJ3_checkIndex_8e157, Cond.static yJ3_checkIndex_8e157, Cond.initialized RJ3, Cond.code yJ3_checkIndex_8e157 cJ3_checkIndex_8e157 3 (some .int), Cond.methodLink RJx4a65c 123 yJx4a65c_elementData_915e3, Cond.instanceMethod yJx4a65c_elementData_915e3, Cond.selects RJx4a65c yJx4a65c_elementData_915e3 yJx4a65c_elementData_915e3, Cond.code yJx4a65c_elementData_915e3 cJx4a65c_elementData_915e3 2 (some (.object "java/lang/Object")), Cond.fieldLink RJx4a65c 9 "java/util/ArrayList" "elementData" "[Ljava/lang/Object;", Cond.methodLink RX4 145 yX0_daysRight, Cond.instanceMethod yX0_daysRight, Cond.selects RX0 yX0_daysRight yX0_daysRight, Cond.initialized RX0, Cond.code yX0_daysRight cX0_daysRight 4 (some .int), Cond.methodLink RX0 28 yX0_saysRain, Cond.instanceMethod yX0_saysRain, Cond.selects RX0 yX0_saysRain yX0_saysRain, Cond.code yX0_saysRain cX0_saysRain 6 (some .boolean), Cond.fieldLink RX0 9 "BarometerLeague$Sign" "kind" "I", Cond.fieldLink RX0 15 "BarometerLeague$Sign" "number" "I"]
def wsX4_told_r3 : List Cond := [Cond.methodLink RX0 18 yX3_glassOn, Cond.instanceMethod yX3_glassOn, Cond.selects RX3 yX3_glassOn yX3_glassOn, Cond.initialized RX3, Cond.code yX3_glassOn cX3_glassOn 2 (some .int), Cond.fieldLink RX3 9 "BarometerLeague$Weather" "glass" "[I", Cond.methodLink RX3 25 yJ9_floorMod_7cf53, Cond.static yJ9_floorMod_7cf53, Cond.initialized RJ9, Cond.code yJ9_floorMod_7cf53 cJ9_floorMod_7cf53 3 (some .int), Cond.methodLink RX0 24 yX3_rainsOn, Cond.instanceMethod yX3_rainsOn, Cond.selects RX3 yX3_rainsOn yX3_rainsOn, Cond.code yX3_rainsOn cX3_rainsOn 2 (some .boolean), Cond.fieldLink RX3 15 "BarometerLeague$Weather" "rain" "[Z", Cond.methodLink RX4 149 yX2_allWeightsOf, Cond.instanceMethod yX2_allWeightsOf, Cond.selects RX2 yX2_allWeightsOf yX2_allWeightsOf, Cond.initialized RX2, Cond.code yX2_allWeightsOf cX2_allWeightsOf 4 (some .int), Cond.fieldLink RX2 18 "BarometerLeague$VillageRow" "size" "I", Cond.fieldLink RX2 9 "BarometerLeague$VillageRow" "places" "[LBarometerLeague$Village;", Cond.methodLink RX2 51 yX1_weightOf, Cond.instanceMethod yX1_weightOf]
def wsX4_told_r4 : List Cond := [Cond.selects RX1 yX1_weightOf yX1_weightOf, Cond.initialized RX1, Cond.code yX1_weightOf cX1_weightOf 2 (some .int), Cond.fieldLink RX1 9 "BarometerLeague$Village" "weights" "[I"]
def wsX4_told : List Cond := .code yX4_told cX4_told 4 (some .int) :: ((wsX4_told_r1 ++ (wsX4_told_r2 ++ (wsX4_told_r3 ++ wsX4_told_r4))) ++ wsX40 ++ wsX00 ++ wsJx4a65c0 ++ wsX30 ++ wsX20 ++ wsX10 ++ (vx_atS RX4 184 "java/lang/IndexOutOfBoundsException" ["java/lang/RuntimeException", "java/lang/Exception"]).filter goodWord)
def wsX4_weight_r1 : List Cond := [Cond.fieldLink RX4 28 "BarometerLeague" "villages" "LBarometerLeague$VillageRow;", Cond.methodLink RX4 96 yX2_get, Cond.instanceMethod yX2_get, Cond.selects RX2 yX2_get yX2_get, Cond.initialized RX2, Cond.code yX2_get cX2_get 2 (some (.object "BarometerLeague$Village")), Cond.classLink RX2 22 "java/lang/IndexOutOfBoundsException", Cond.initialized "java/lang/IndexOutOfBoundsException", Cond.fieldLink RX2 18 "BarometerLeague$VillageRow" "size" "I", Cond.fieldLink RX2 9 "BarometerLeague$VillageRow" "places" "[LBarometerLeague$Village;", Cond.methodLink RX4 100 yX4_requireSign, Cond.instanceMethod yX4_requireSign, Cond.selects RX4 yX4_requireSign yX4_requireSign, Cond.initialized RX4, Cond.code yX4_requireSign cX4_requireSign 2 none, Cond.classLink RX4 180 "java/lang/IndexOutOfBoundsException", Cond.fieldLink RX4 19 "BarometerLeague" "signs" "Ljava/util/ArrayList;", Cond.methodLink RX4 69 yJx4a65c_size_8abf5, Cond.instanceMethod yJx4a65c_size_8abf5, Cond.selects RJx4a65c yJx4a65c_size_8abf5 yJx4a65c_size_8abf5, Cond.initialized RJx4a65c, Cond.code yJx4a65c_size_8abf5 cJx4a65c_size_8abf5 1 (some .int), Cond.fieldLink RJx4a65c 48 "java/util/ArrayList" "size" "I", Cond.methodLink RX4 105 yX1_weightOf]
def wsX4_weight_r2 : List Cond := [Cond.instanceMethod yX1_weightOf, Cond.selects RX1 yX1_weightOf yX1_weightOf, Cond.initialized RX1, Cond.code yX1_weightOf cX1_weightOf 2 (some .int), Cond.fieldLink RX1 9 "BarometerLeague$Village" "weights" "[I"]
def wsX4_weight : List Cond := .code yX4_weight cX4_weight 4 (some .int) :: ((wsX4_weight_r1 ++ wsX4_weight_r2) ++ wsX40 ++ wsX20 ++ wsJx4a65c0 ++ wsX10 ++ (vx_atS RX2 26 "java/lang/IndexOutOfBoundsException" ["java/lang/RuntimeException", "java/lang/Exception"]).filter goodWord ++ (vx_atS RX4 184 "java/lang/IndexOutOfBoundsException" ["java/lang/RuntimeException", "java/lang/Exception"]).filter goodWord)
def wsX4_sayingsOn_r1 : List Cond := [Cond.fieldLink RX4 32 "BarometerLeague" "sayings" "[I", Cond.fieldLink RX4 19 "BarometerLeague" "signs" "Ljava/util/ArrayList;", Cond.classLink RX4 78 "BarometerLeague$Sign", Cond.fieldLink RX4 10 "BarometerLeague" "weather" "LBarometerLeague$Weather;", Cond.methodLink RX4 69 yJx4a65c_size_8abf5, Cond.instanceMethod yJx4a65c_size_8abf5, Cond.selects RJx4a65c yJx4a65c_size_8abf5 yJx4a65c_size_8abf5, Cond.initialized RJx4a65c, Cond.code yJx4a65c_size_8abf5 cJx4a65c_size_8abf5 1 (some .int), Cond.fieldLink RJx4a65c 48 "java/util/ArrayList" "size" "I", Cond.methodLink RX4 128 yJx4a65c_get_915e3, Cond.instanceMethod yJx4a65c_get_915e3, Cond.selects RJx4a65c yJx4a65c_get_915e3 yJx4a65c_get_915e3, Cond.code yJx4a65c_get_915e3 cJx4a65c_get_915e3 2 (some (.object "java/lang/Object")), Cond.methodLink RJx4a65c 118 yJ15_checkIndex_7cf53, Cond.static yJ15_checkIndex_7cf53, Cond.initialized RJ15, Cond.code yJ15_checkIndex_7cf53 cJ15_checkIndex_7cf53 2 (some .int), Cond.methodLink RJ15 105 yJ3_checkIndex_8e157, Cond.static yJ3_checkIndex_8e157, Cond.initialized RJ3, Cond.code yJ3_checkIndex_8e157 cJ3_checkIndex_8e157 3 (some .int), Cond.methodLink RJx4a65c 123 yJx4a65c_elementData_915e3, Cond.instanceMethod yJx4a65c_elementData_915e3]
def wsX4_sayingsOn_r2 : List Cond := [Cond.selects RJx4a65c yJx4a65c_elementData_915e3 yJx4a65c_elementData_915e3, Cond.code yJx4a65c_elementData_915e3 cJx4a65c_elementData_915e3 2 (some (.object "java/lang/Object")), Cond.fieldLink RJx4a65c 9 "java/util/ArrayList" "elementData" "[Ljava/lang/Object;", Cond.methodLink RX4 131 yX0_saysRain, Cond.instanceMethod yX0_saysRain, Cond.selects RX0 yX0_saysRain yX0_saysRain, Cond.initialized RX0, Cond.code yX0_saysRain cX0_saysRain 6 (some .boolean), Cond.fieldLink RX0 9 "BarometerLeague$Sign" "kind" "I", Cond.fieldLink RX0 15 "BarometerLeague$Sign" "number" "I", Cond.methodLink RX0 18 yX3_glassOn, Cond.instanceMethod yX3_glassOn, Cond.selects RX3 yX3_glassOn yX3_glassOn, Cond.initialized RX3, Cond.code yX3_glassOn cX3_glassOn 2 (some .int), Cond.fieldLink RX3 9 "BarometerLeague$Weather" "glass" "[I", Cond.methodLink RX3 25 yJ9_floorMod_7cf53, Cond.static yJ9_floorMod_7cf53, Cond.initialized RJ9, Cond.code yJ9_floorMod_7cf53 cJ9_floorMod_7cf53 3 (some .int), Cond.methodLink RX0 24 yX3_rainsOn, Cond.instanceMethod yX3_rainsOn, Cond.selects RX3 yX3_rainsOn yX3_rainsOn, Cond.code yX3_rainsOn cX3_rainsOn 2 (some .boolean)]
def wsX4_sayingsOn_r3 : List Cond := [Cond.fieldLink RX3 15 "BarometerLeague$Weather" "rain" "[Z"]
def wsX4_sayingsOn : List Cond := .code yX4_sayingsOn cX4_sayingsOn 3 (some (.array .int)) :: ((wsX4_sayingsOn_r1 ++ (wsX4_sayingsOn_r2 ++ wsX4_sayingsOn_r3)) ++ wsX40 ++ wsJx4a65c0 ++ wsX00 ++ wsX30)
def wsX4_about_r1 : List Cond := [Cond.fieldLink RX4 28 "BarometerLeague" "villages" "LBarometerLeague$VillageRow;", Cond.fieldLink RX4 19 "BarometerLeague" "signs" "Ljava/util/ArrayList;", Cond.fieldLink RX4 165 "BarometerLeague" "day" "I", Cond.methodLink RX4 96 yX2_get, Cond.instanceMethod yX2_get, Cond.selects RX2 yX2_get yX2_get, Cond.initialized RX2, Cond.code yX2_get cX2_get 2 (some (.object "BarometerLeague$Village")), Cond.classLink RX2 22 "java/lang/IndexOutOfBoundsException", Cond.initialized "java/lang/IndexOutOfBoundsException", Cond.fieldLink RX2 18 "BarometerLeague$VillageRow" "size" "I", Cond.fieldLink RX2 9 "BarometerLeague$VillageRow" "places" "[LBarometerLeague$Village;", Cond.methodLink RX4 135 yX4_requireWhat, Cond.static yX4_requireWhat, Cond.initialized RX4, Cond.code yX4_requireWhat cX4_requireWhat 3 none, Cond.classLink RX4 180 "java/lang/IndexOutOfBoundsException", Cond.methodLink RX4 69 yJx4a65c_size_8abf5, Cond.instanceMethod yJx4a65c_size_8abf5, Cond.selects RJx4a65c yJx4a65c_size_8abf5 yJx4a65c_size_8abf5, Cond.initialized RJx4a65c, Cond.code yJx4a65c_size_8abf5 cJx4a65c_size_8abf5 1 (some .int), Cond.fieldLink RJx4a65c 48 "java/util/ArrayList" "size" "I", Cond.methodLink RX4 158 yX1_allWeights]
def wsX4_about_r2 : List Cond := [Cond.instanceMethod yX1_allWeights, Cond.selects RX1 yX1_allWeights yX1_allWeights, Cond.initialized RX1, Cond.code yX1_allWeights cX1_allWeights 4 (some .int), Cond.fieldLink RX1 9 "BarometerLeague$Village" "weights" "[I", Cond.methodLink RX4 161 yX2_placeOf, Cond.instanceMethod yX2_placeOf, Cond.selects RX2 yX2_placeOf yX2_placeOf, Cond.code yX2_placeOf cX2_placeOf 4 (some .int), Cond.methodLink RX2 37 yX1_isAheadOf, Cond.instanceMethod yX1_isAheadOf, Cond.selects RX1 yX1_isAheadOf yX1_isAheadOf, Cond.code yX1_isAheadOf cX1_isAheadOf 2 (some .boolean), Cond.fieldLink RX1 28 "BarometerLeague$Village" "points" "I", Cond.fieldLink RX1 19 "BarometerLeague$Village" "coins" "I", Cond.fieldLink RX1 15 "BarometerLeague$Village" "number" "I", Cond.methodLink RX4 168 yX4_sayingsOn, Cond.instanceMethod yX4_sayingsOn, Cond.selects RX4 yX4_sayingsOn yX4_sayingsOn, Cond.code yX4_sayingsOn cX4_sayingsOn 3 (some (.array .int)), Cond.fieldLink RX4 32 "BarometerLeague" "sayings" "[I", Cond.classLink RX4 78 "BarometerLeague$Sign", Cond.fieldLink RX4 10 "BarometerLeague" "weather" "LBarometerLeague$Weather;", Cond.methodLink RX4 128 yJx4a65c_get_915e3]
def wsX4_about_r3 : List Cond := [Cond.instanceMethod yJx4a65c_get_915e3, Cond.selects RJx4a65c yJx4a65c_get_915e3 yJx4a65c_get_915e3, Cond.code yJx4a65c_get_915e3 cJx4a65c_get_915e3 2 (some (.object "java/lang/Object")), Cond.methodLink RJx4a65c 118 yJ15_checkIndex_7cf53, Cond.static yJ15_checkIndex_7cf53, Cond.initialized RJ15, Cond.code yJ15_checkIndex_7cf53 cJ15_checkIndex_7cf53 2 (some .int), Cond.methodLink RJ15 105 yJ3_checkIndex_8e157, Cond.static yJ3_checkIndex_8e157, Cond.initialized RJ3, Cond.code yJ3_checkIndex_8e157 cJ3_checkIndex_8e157 3 (some .int), Cond.methodLink RJx4a65c 123 yJx4a65c_elementData_915e3, Cond.instanceMethod yJx4a65c_elementData_915e3, Cond.selects RJx4a65c yJx4a65c_elementData_915e3 yJx4a65c_elementData_915e3, Cond.code yJx4a65c_elementData_915e3 cJx4a65c_elementData_915e3 2 (some (.object "java/lang/Object")), Cond.fieldLink RJx4a65c 9 "java/util/ArrayList" "elementData" "[Ljava/lang/Object;", Cond.methodLink RX4 131 yX0_saysRain, Cond.instanceMethod yX0_saysRain, Cond.selects RX0 yX0_saysRain yX0_saysRain, Cond.initialized RX0, Cond.code yX0_saysRain cX0_saysRain 6 (some .boolean), Cond.fieldLink RX0 9 "BarometerLeague$Sign" "kind" "I", Cond.fieldLink RX0 15 "BarometerLeague$Sign" "number" "I", Cond.methodLink RX0 18 yX3_glassOn]
def wsX4_about_r4 : List Cond := [Cond.instanceMethod yX3_glassOn, Cond.selects RX3 yX3_glassOn yX3_glassOn, Cond.initialized RX3, Cond.code yX3_glassOn cX3_glassOn 2 (some .int), Cond.fieldLink RX3 9 "BarometerLeague$Weather" "glass" "[I", Cond.methodLink RX3 25 yJ9_floorMod_7cf53, Cond.static yJ9_floorMod_7cf53, Cond.initialized RJ9, Cond.code yJ9_floorMod_7cf53 cJ9_floorMod_7cf53 3 (some .int), Cond.methodLink RX0 24 yX3_rainsOn, Cond.instanceMethod yX3_rainsOn, Cond.selects RX3 yX3_rainsOn yX3_rainsOn, Cond.code yX3_rainsOn cX3_rainsOn 2 (some .boolean), Cond.fieldLink RX3 15 "BarometerLeague$Weather" "rain" "[Z", Cond.methodLink RX4 172 yX1_guessesRain, Cond.instanceMethod yX1_guessesRain, Cond.selects RX1 yX1_guessesRain yX1_guessesRain, Cond.code yX1_guessesRain cX1_guessesRain 2 (some .boolean), Cond.methodLink RX1 34 yX1_leadOfRain, Cond.instanceMethod yX1_leadOfRain, Cond.selects RX1 yX1_leadOfRain yX1_leadOfRain, Cond.code yX1_leadOfRain cX1_leadOfRain 4 (some .int), Cond.methodLink RX4 176 yX1_leadOfRain]
def wsX4_about : List Cond := .code yX4_about cX4_about 4 (some .int) :: ((wsX4_about_r1 ++ (wsX4_about_r2 ++ (wsX4_about_r3 ++ wsX4_about_r4))) ++ wsX40 ++ wsX10 ++ wsX20 ++ wsJx4a65c0 ++ wsX00 ++ wsX30 ++ (vx_atS RX2 26 "java/lang/IndexOutOfBoundsException" ["java/lang/RuntimeException", "java/lang/Exception"]).filter goodWord ++ (vx_atS RX4 184 "java/lang/IndexOutOfBoundsException" ["java/lang/RuntimeException", "java/lang/Exception"]).filter goodWord)
def wsX4_at_r1 : List Cond := [Cond.classLink RX4 180 "java/lang/IndexOutOfBoundsException", Cond.initialized "java/lang/IndexOutOfBoundsException", Cond.fieldLink RX4 28 "BarometerLeague" "villages" "LBarometerLeague$VillageRow;", Cond.methodLink RX4 95 yX2_size, Cond.instanceMethod yX2_size, Cond.selects RX2 yX2_size yX2_size, Cond.initialized RX2, Cond.code yX2_size cX2_size 1 (some .int), Cond.fieldLink RX2 18 "BarometerLeague$VillageRow" "size" "I", Cond.methodLink RX4 96 yX2_get, Cond.instanceMethod yX2_get, Cond.selects RX2 yX2_get yX2_get, Cond.code yX2_get cX2_get 2 (some (.object "BarometerLeague$Village")), Cond.classLink RX2 22 "java/lang/IndexOutOfBoundsException", Cond.fieldLink RX2 9 "BarometerLeague$VillageRow" "places" "[LBarometerLeague$Village;", Cond.methodLink RX4 161 yX2_placeOf, Cond.instanceMethod yX2_placeOf, Cond.selects RX2 yX2_placeOf yX2_placeOf, Cond.code yX2_placeOf cX2_placeOf 4 (some .int), Cond.methodLink RX2 37 yX1_isAheadOf, Cond.instanceMethod yX1_isAheadOf, Cond.selects RX1 yX1_isAheadOf yX1_isAheadOf, Cond.initialized RX1, Cond.code yX1_isAheadOf cX1_isAheadOf 2 (some .boolean)]
def wsX4_at_r2 : List Cond := [Cond.fieldLink RX1 28 "BarometerLeague$Village" "points" "I", Cond.fieldLink RX1 19 "BarometerLeague$Village" "coins" "I", Cond.fieldLink RX1 15 "BarometerLeague$Village" "number" "I"]
def wsX4_at : List Cond := .code yX4_at cX4_at 3 (some .int) :: ((wsX4_at_r1 ++ wsX4_at_r2) ++ wsX40 ++ wsX20 ++ wsX10 ++ (vx_atS RX4 184 "java/lang/IndexOutOfBoundsException" ["java/lang/RuntimeException", "java/lang/Exception"]).filter goodWord ++ (vx_atS RX2 26 "java/lang/IndexOutOfBoundsException" ["java/lang/RuntimeException", "java/lang/Exception"]).filter goodWord)
def wsX4_countOver_r1 : List Cond := [Cond.methodLink RX4 212 yX2_allPoints, Cond.instanceMethod yX2_allPoints, Cond.selects RX2 yX2_allPoints yX2_allPoints, Cond.initialized RX2, Cond.code yX2_allPoints cX2_allPoints 3 (some .int), Cond.fieldLink RX2 18 "BarometerLeague$VillageRow" "size" "I", Cond.fieldLink RX2 9 "BarometerLeague$VillageRow" "places" "[LBarometerLeague$Village;", Cond.methodLink RX4 239 yX2_allCoins, Cond.instanceMethod yX2_allCoins, Cond.selects RX2 yX2_allCoins yX2_allCoins, Cond.code yX2_allCoins cX2_allCoins 3 (some .int), Cond.methodLink RX4 168 yX4_sayingsOn, Cond.instanceMethod yX4_sayingsOn, Cond.selects RX4 yX4_sayingsOn yX4_sayingsOn, Cond.initialized RX4, Cond.code yX4_sayingsOn cX4_sayingsOn 3 (some (.array .int)), Cond.fieldLink RX4 32 "BarometerLeague" "sayings" "[I", Cond.fieldLink RX4 19 "BarometerLeague" "signs" "Ljava/util/ArrayList;", Cond.classLink RX4 78 "BarometerLeague$Sign", Cond.fieldLink RX4 10 "BarometerLeague" "weather" "LBarometerLeague$Weather;", Cond.methodLink RX4 69 yJx4a65c_size_8abf5, Cond.instanceMethod yJx4a65c_size_8abf5, Cond.selects RJx4a65c yJx4a65c_size_8abf5 yJx4a65c_size_8abf5, Cond.initialized RJx4a65c]
def wsX4_countOver_r2 : List Cond := [Cond.code yJx4a65c_size_8abf5 cJx4a65c_size_8abf5 1 (some .int), Cond.fieldLink RJx4a65c 48 "java/util/ArrayList" "size" "I", Cond.methodLink RX4 128 yJx4a65c_get_915e3, Cond.instanceMethod yJx4a65c_get_915e3, Cond.selects RJx4a65c yJx4a65c_get_915e3 yJx4a65c_get_915e3, Cond.code yJx4a65c_get_915e3 cJx4a65c_get_915e3 2 (some (.object "java/lang/Object")), Cond.methodLink RJx4a65c 118 yJ15_checkIndex_7cf53, Cond.static yJ15_checkIndex_7cf53, Cond.initialized RJ15, Cond.code yJ15_checkIndex_7cf53 cJ15_checkIndex_7cf53 2 (some .int), Cond.methodLink RJ15 105 yJ3_checkIndex_8e157, Cond.static yJ3_checkIndex_8e157, Cond.initialized RJ3, Cond.code yJ3_checkIndex_8e157 cJ3_checkIndex_8e157 3 (some .int), Cond.methodLink RJx4a65c 123 yJx4a65c_elementData_915e3, Cond.instanceMethod yJx4a65c_elementData_915e3, Cond.selects RJx4a65c yJx4a65c_elementData_915e3 yJx4a65c_elementData_915e3, Cond.code yJx4a65c_elementData_915e3 cJx4a65c_elementData_915e3 2 (some (.object "java/lang/Object")), Cond.fieldLink RJx4a65c 9 "java/util/ArrayList" "elementData" "[Ljava/lang/Object;", Cond.methodLink RX4 131 yX0_saysRain, Cond.instanceMethod yX0_saysRain, Cond.selects RX0 yX0_saysRain yX0_saysRain, Cond.initialized RX0, Cond.code yX0_saysRain cX0_saysRain 6 (some .boolean)]
def wsX4_countOver_r3 : List Cond := [Cond.fieldLink RX0 9 "BarometerLeague$Sign" "kind" "I", Cond.fieldLink RX0 15 "BarometerLeague$Sign" "number" "I", Cond.methodLink RX0 18 yX3_glassOn, Cond.instanceMethod yX3_glassOn, Cond.selects RX3 yX3_glassOn yX3_glassOn, Cond.initialized RX3, Cond.code yX3_glassOn cX3_glassOn 2 (some .int), Cond.fieldLink RX3 9 "BarometerLeague$Weather" "glass" "[I", Cond.methodLink RX3 25 yJ9_floorMod_7cf53, Cond.static yJ9_floorMod_7cf53, Cond.initialized RJ9, Cond.code yJ9_floorMod_7cf53 cJ9_floorMod_7cf53 3 (some .int), Cond.methodLink RX0 24 yX3_rainsOn, Cond.instanceMethod yX3_rainsOn, Cond.selects RX3 yX3_rainsOn yX3_rainsOn, Cond.code yX3_rainsOn cX3_rainsOn 2 (some .boolean), Cond.fieldLink RX3 15 "BarometerLeague$Weather" "rain" "[Z", Cond.methodLink RX4 242 yX2_guessingRain, Cond.instanceMethod yX2_guessingRain, Cond.selects RX2 yX2_guessingRain yX2_guessingRain, Cond.code yX2_guessingRain cX2_guessingRain 4 (some .int), Cond.methodLink RX2 55 yX1_guessesRain, Cond.instanceMethod yX1_guessesRain, Cond.selects RX1 yX1_guessesRain yX1_guessesRain]
def wsX4_countOver_r4 : List Cond := [Cond.initialized RX1, Cond.code yX1_guessesRain cX1_guessesRain 2 (some .boolean), Cond.methodLink RX1 34 yX1_leadOfRain, Cond.instanceMethod yX1_leadOfRain, Cond.selects RX1 yX1_leadOfRain yX1_leadOfRain, Cond.code yX1_leadOfRain cX1_leadOfRain 4 (some .int), Cond.fieldLink RX1 9 "BarometerLeague$Village" "weights" "[I"]
def wsX4_countOver : List Cond := .code yX4_countOver cX4_countOver 4 (some .int) :: ((wsX4_countOver_r1 ++ (wsX4_countOver_r2 ++ (wsX4_countOver_r3 ++ wsX4_countOver_r4))) ++ wsX20 ++ wsX10 ++ wsX40 ++ wsJx4a65c0 ++ wsX00 ++ wsX30)
def wsX4_count_r1 : List Cond := [Cond.fieldLink RX4 165 "BarometerLeague" "day" "I", Cond.fieldLink RX4 19 "BarometerLeague" "signs" "Ljava/util/ArrayList;", Cond.fieldLink RX4 28 "BarometerLeague" "villages" "LBarometerLeague$VillageRow;", Cond.fieldLink RX4 10 "BarometerLeague" "weather" "LBarometerLeague$Weather;", Cond.methodLink RX4 135 yX4_requireWhat, Cond.static yX4_requireWhat, Cond.initialized RX4, Cond.code yX4_requireWhat cX4_requireWhat 3 none, Cond.classLink RX4 180 "java/lang/IndexOutOfBoundsException", Cond.initialized "java/lang/IndexOutOfBoundsException", Cond.methodLink RX4 69 yJx4a65c_size_8abf5, Cond.instanceMethod yJx4a65c_size_8abf5, Cond.selects RJx4a65c yJx4a65c_size_8abf5 yJx4a65c_size_8abf5, Cond.initialized RJx4a65c, Cond.code yJx4a65c_size_8abf5 cJx4a65c_size_8abf5 1 (some .int), Cond.fieldLink RJx4a65c 48 "java/util/ArrayList" "size" "I", Cond.methodLink RX4 95 yX2_size, Cond.instanceMethod yX2_size, Cond.selects RX2 yX2_size yX2_size, Cond.initialized RX2, Cond.code yX2_size cX2_size 1 (some .int), Cond.fieldLink RX2 18 "BarometerLeague$VillageRow" "size" "I", Cond.methodLink RX4 185 yX3_rainyDays, Cond.instanceMethod yX3_rainyDays]
def wsX4_count_r2 : List Cond := [Cond.selects RX3 yX3_rainyDays yX3_rainyDays, Cond.initialized RX3, Cond.code yX3_rainyDays cX3_rainyDays 6 (some .int), Cond.fieldLink RX3 15 "BarometerLeague$Weather" "rain" "[Z", Cond.methodLink RX4 188 yX4_countOver, Cond.instanceMethod yX4_countOver, Cond.selects RX4 yX4_countOver yX4_countOver, Cond.code yX4_countOver cX4_countOver 4 (some .int), Cond.methodLink RX4 212 yX2_allPoints, Cond.instanceMethod yX2_allPoints, Cond.selects RX2 yX2_allPoints yX2_allPoints, Cond.code yX2_allPoints cX2_allPoints 3 (some .int), Cond.fieldLink RX2 9 "BarometerLeague$VillageRow" "places" "[LBarometerLeague$Village;", Cond.methodLink RX4 239 yX2_allCoins, Cond.instanceMethod yX2_allCoins, Cond.selects RX2 yX2_allCoins yX2_allCoins, Cond.code yX2_allCoins cX2_allCoins 3 (some .int), Cond.methodLink RX4 168 yX4_sayingsOn, Cond.instanceMethod yX4_sayingsOn, Cond.selects RX4 yX4_sayingsOn yX4_sayingsOn, Cond.code yX4_sayingsOn cX4_sayingsOn 3 (some (.array .int)), Cond.fieldLink RX4 32 "BarometerLeague" "sayings" "[I", Cond.classLink RX4 78 "BarometerLeague$Sign", Cond.methodLink RX4 128 yJx4a65c_get_915e3]
def wsX4_count_r3 : List Cond := [Cond.instanceMethod yJx4a65c_get_915e3, Cond.selects RJx4a65c yJx4a65c_get_915e3 yJx4a65c_get_915e3, Cond.code yJx4a65c_get_915e3 cJx4a65c_get_915e3 2 (some (.object "java/lang/Object")), Cond.methodLink RJx4a65c 118 yJ15_checkIndex_7cf53, Cond.static yJ15_checkIndex_7cf53, Cond.initialized RJ15, Cond.code yJ15_checkIndex_7cf53 cJ15_checkIndex_7cf53 2 (some .int), Cond.methodLink RJ15 105 yJ3_checkIndex_8e157, Cond.static yJ3_checkIndex_8e157, Cond.initialized RJ3, Cond.code yJ3_checkIndex_8e157 cJ3_checkIndex_8e157 3 (some .int), Cond.methodLink RJx4a65c 123 yJx4a65c_elementData_915e3, Cond.instanceMethod yJx4a65c_elementData_915e3, Cond.selects RJx4a65c yJx4a65c_elementData_915e3 yJx4a65c_elementData_915e3, Cond.code yJx4a65c_elementData_915e3 cJx4a65c_elementData_915e3 2 (some (.object "java/lang/Object")), Cond.fieldLink RJx4a65c 9 "java/util/ArrayList" "elementData" "[Ljava/lang/Object;", Cond.methodLink RX4 131 yX0_saysRain, Cond.instanceMethod yX0_saysRain, Cond.selects RX0 yX0_saysRain yX0_saysRain, Cond.initialized RX0, Cond.code yX0_saysRain cX0_saysRain 6 (some .boolean), Cond.fieldLink RX0 9 "BarometerLeague$Sign" "kind" "I", Cond.fieldLink RX0 15 "BarometerLeague$Sign" "number" "I", Cond.methodLink RX0 18 yX3_glassOn]
def wsX4_count_r4 : List Cond := [Cond.instanceMethod yX3_glassOn, Cond.selects RX3 yX3_glassOn yX3_glassOn, Cond.code yX3_glassOn cX3_glassOn 2 (some .int), Cond.fieldLink RX3 9 "BarometerLeague$Weather" "glass" "[I", Cond.methodLink RX3 25 yJ9_floorMod_7cf53, Cond.static yJ9_floorMod_7cf53, Cond.initialized RJ9, Cond.code yJ9_floorMod_7cf53 cJ9_floorMod_7cf53 3 (some .int), Cond.methodLink RX0 24 yX3_rainsOn, Cond.instanceMethod yX3_rainsOn, Cond.selects RX3 yX3_rainsOn yX3_rainsOn, Cond.code yX3_rainsOn cX3_rainsOn 2 (some .boolean), Cond.methodLink RX4 242 yX2_guessingRain, Cond.instanceMethod yX2_guessingRain, Cond.selects RX2 yX2_guessingRain yX2_guessingRain, Cond.code yX2_guessingRain cX2_guessingRain 4 (some .int), Cond.methodLink RX2 55 yX1_guessesRain, Cond.instanceMethod yX1_guessesRain, Cond.selects RX1 yX1_guessesRain yX1_guessesRain, Cond.initialized RX1, Cond.code yX1_guessesRain cX1_guessesRain 2 (some .boolean), Cond.methodLink RX1 34 yX1_leadOfRain, Cond.instanceMethod yX1_leadOfRain, Cond.selects RX1 yX1_leadOfRain yX1_leadOfRain]
def wsX4_count_r5 : List Cond := [Cond.code yX1_leadOfRain cX1_leadOfRain 4 (some .int), Cond.fieldLink RX1 9 "BarometerLeague$Village" "weights" "[I"]
def wsX4_count : List Cond := .code yX4_count cX4_count 2 (some .int) :: ((wsX4_count_r1 ++ (wsX4_count_r2 ++ (wsX4_count_r3 ++ (wsX4_count_r4 ++ wsX4_count_r5)))) ++ wsX40 ++ wsJx4a65c0 ++ wsX20 ++ wsX30 ++ wsX10 ++ wsX00 ++ (vx_atS RX4 184 "java/lang/IndexOutOfBoundsException" ["java/lang/RuntimeException", "java/lang/Exception"]).filter goodWord)
def wsX4_requireDays : List Cond := .code yX4_requireDays cX4_requireDays 2 none :: ([.classLink RX4 42 "java/lang/IllegalArgumentException", .initialized "java/lang/IllegalArgumentException"] ++ (vx_atS RX4 46 "java/lang/IllegalArgumentException" ["java/lang/RuntimeException", "java/lang/Exception"]).filter goodWord)
def wsX4_liveDay_r1 : List Cond := [Cond.fieldLink RX4 10 "BarometerLeague" "weather" "LBarometerLeague$Weather;", Cond.methodLink RX4 168 yX4_sayingsOn, Cond.instanceMethod yX4_sayingsOn, Cond.selects RX4 yX4_sayingsOn yX4_sayingsOn, Cond.initialized RX4, Cond.code yX4_sayingsOn cX4_sayingsOn 3 (some (.array .int)), Cond.fieldLink RX4 32 "BarometerLeague" "sayings" "[I", Cond.fieldLink RX4 19 "BarometerLeague" "signs" "Ljava/util/ArrayList;", Cond.classLink RX4 78 "BarometerLeague$Sign", Cond.methodLink RX4 69 yJx4a65c_size_8abf5, Cond.instanceMethod yJx4a65c_size_8abf5, Cond.selects RJx4a65c yJx4a65c_size_8abf5 yJx4a65c_size_8abf5, Cond.initialized RJx4a65c, Cond.code yJx4a65c_size_8abf5 cJx4a65c_size_8abf5 1 (some .int), Cond.fieldLink RJx4a65c 48 "java/util/ArrayList" "size" "I", Cond.methodLink RX4 128 yJx4a65c_get_915e3, Cond.instanceMethod yJx4a65c_get_915e3, Cond.selects RJx4a65c yJx4a65c_get_915e3 yJx4a65c_get_915e3, Cond.code yJx4a65c_get_915e3 cJx4a65c_get_915e3 2 (some (.object "java/lang/Object")), Cond.methodLink RJx4a65c 118 yJ15_checkIndex_7cf53, Cond.static yJ15_checkIndex_7cf53, Cond.initialized RJ15, Cond.code yJ15_checkIndex_7cf53 cJ15_checkIndex_7cf53 2 (some .int), Cond.methodLink RJ15 105 yJ3_checkIndex_8e157]
def wsX4_liveDay_r2 : List Cond := [Cond.static yJ3_checkIndex_8e157, Cond.initialized RJ3, Cond.code yJ3_checkIndex_8e157 cJ3_checkIndex_8e157 3 (some .int), Cond.methodLink RJx4a65c 123 yJx4a65c_elementData_915e3, Cond.instanceMethod yJx4a65c_elementData_915e3, Cond.selects RJx4a65c yJx4a65c_elementData_915e3 yJx4a65c_elementData_915e3, Cond.code yJx4a65c_elementData_915e3 cJx4a65c_elementData_915e3 2 (some (.object "java/lang/Object")), Cond.fieldLink RJx4a65c 9 "java/util/ArrayList" "elementData" "[Ljava/lang/Object;", Cond.methodLink RX4 131 yX0_saysRain, Cond.instanceMethod yX0_saysRain, Cond.selects RX0 yX0_saysRain yX0_saysRain, Cond.initialized RX0, Cond.code yX0_saysRain cX0_saysRain 6 (some .boolean), Cond.fieldLink RX0 9 "BarometerLeague$Sign" "kind" "I", Cond.fieldLink RX0 15 "BarometerLeague$Sign" "number" "I", Cond.methodLink RX0 18 yX3_glassOn, Cond.instanceMethod yX3_glassOn, Cond.selects RX3 yX3_glassOn yX3_glassOn, Cond.initialized RX3, Cond.code yX3_glassOn cX3_glassOn 2 (some .int), Cond.fieldLink RX3 9 "BarometerLeague$Weather" "glass" "[I", Cond.methodLink RX3 25 yJ9_floorMod_7cf53, Cond.static yJ9_floorMod_7cf53, Cond.initialized RJ9]
def wsX4_liveDay_r3 : List Cond := [Cond.code yJ9_floorMod_7cf53 cJ9_floorMod_7cf53 3 (some .int), Cond.methodLink RX0 24 yX3_rainsOn, Cond.instanceMethod yX3_rainsOn, Cond.selects RX3 yX3_rainsOn yX3_rainsOn, Cond.code yX3_rainsOn cX3_rainsOn 2 (some .boolean), Cond.fieldLink RX3 15 "BarometerLeague$Weather" "rain" "[Z", Cond.methodLink RX4 57 yX3_rainsOn, Cond.methodLink RX4 236 yX2_liveDay, Cond.instanceMethod yX2_liveDay, Cond.selects RX2 yX2_liveDay yX2_liveDay, Cond.initialized RX2, Cond.code yX2_liveDay cX2_liveDay 5 (some .int), Cond.fieldLink RX2 18 "BarometerLeague$VillageRow" "size" "I", Cond.fieldLink RX2 9 "BarometerLeague$VillageRow" "places" "[LBarometerLeague$Village;", Cond.methodLink RX2 41 yX1_liveDay, Cond.instanceMethod yX1_liveDay, Cond.selects RX1 yX1_liveDay yX1_liveDay, Cond.initialized RX1, Cond.code yX1_liveDay cX1_liveDay 4 (some .boolean), Cond.fieldLink RX1 28 "BarometerLeague$Village" "points" "I", Cond.fieldLink RX1 31 "BarometerLeague$Village" "rowOfHits" "I", Cond.methodLink RX1 38 yX1_guessesRain, Cond.instanceMethod yX1_guessesRain, Cond.selects RX1 yX1_guessesRain yX1_guessesRain]
def wsX4_liveDay_r4 : List Cond := [Cond.code yX1_guessesRain cX1_guessesRain 2 (some .boolean), Cond.methodLink RX1 34 yX1_leadOfRain, Cond.instanceMethod yX1_leadOfRain, Cond.selects RX1 yX1_leadOfRain yX1_leadOfRain, Cond.code yX1_leadOfRain cX1_leadOfRain 4 (some .int), Cond.fieldLink RX1 9 "BarometerLeague$Village" "weights" "[I", Cond.methodLink RX1 42 yX1_learn, Cond.instanceMethod yX1_learn, Cond.selects RX1 yX1_learn yX1_learn, Cond.code yX1_learn cX1_learn 4 none, Cond.methodLink RX1 48 Lib.Math.min.name, Cond.static Lib.Math.min.name, Cond.initialized "java/lang/Math", Cond.code Lib.Math.min.name Lib.Math.min.code 2 (some .int), Cond.methodLink RX1 45 yX1_sellAlmanacs, Cond.instanceMethod yX1_sellAlmanacs, Cond.selects RX1 yX1_sellAlmanacs yX1_sellAlmanacs, Cond.code yX1_sellAlmanacs cX1_sellAlmanacs 1 none, Cond.fieldLink RX1 19 "BarometerLeague$Village" "coins" "I"]
def wsX4_liveDay : List Cond := .code yX4_liveDay cX4_liveDay 3 (some .int) :: ((wsX4_liveDay_r1 ++ (wsX4_liveDay_r2 ++ (wsX4_liveDay_r3 ++ wsX4_liveDay_r4))) ++ wsX40 ++ wsJx4a65c0 ++ wsX00 ++ wsX30 ++ wsX20 ++ wsX10)
def wsX4_liveDays_r1 : List Cond := [Cond.fieldLink RX4 165 "BarometerLeague" "day" "I", Cond.methodLink RX4 209 yX4_liveDay, Cond.instanceMethod yX4_liveDay, Cond.selects RX4 yX4_liveDay yX4_liveDay, Cond.initialized RX4, Cond.code yX4_liveDay cX4_liveDay 3 (some .int), Cond.fieldLink RX4 10 "BarometerLeague" "weather" "LBarometerLeague$Weather;", Cond.methodLink RX4 168 yX4_sayingsOn, Cond.instanceMethod yX4_sayingsOn, Cond.selects RX4 yX4_sayingsOn yX4_sayingsOn, Cond.code yX4_sayingsOn cX4_sayingsOn 3 (some (.array .int)), Cond.fieldLink RX4 32 "BarometerLeague" "sayings" "[I", Cond.fieldLink RX4 19 "BarometerLeague" "signs" "Ljava/util/ArrayList;", Cond.classLink RX4 78 "BarometerLeague$Sign", Cond.methodLink RX4 69 yJx4a65c_size_8abf5, Cond.instanceMethod yJx4a65c_size_8abf5, Cond.selects RJx4a65c yJx4a65c_size_8abf5 yJx4a65c_size_8abf5, Cond.initialized RJx4a65c, Cond.code yJx4a65c_size_8abf5 cJx4a65c_size_8abf5 1 (some .int), Cond.fieldLink RJx4a65c 48 "java/util/ArrayList" "size" "I", Cond.methodLink RX4 128 yJx4a65c_get_915e3, Cond.instanceMethod yJx4a65c_get_915e3, Cond.selects RJx4a65c yJx4a65c_get_915e3 yJx4a65c_get_915e3, Cond.code yJx4a65c_get_915e3 cJx4a65c_get_915e3 2 (some (.object "java/lang/Object"))]
def wsX4_liveDays_r2 : List Cond := [Cond.methodLink RJx4a65c 118 yJ15_checkIndex_7cf53, Cond.static yJ15_checkIndex_7cf53, Cond.initialized RJ15, Cond.code yJ15_checkIndex_7cf53 cJ15_checkIndex_7cf53 2 (some .int), Cond.methodLink RJ15 105 yJ3_checkIndex_8e157, Cond.static yJ3_checkIndex_8e157, Cond.initialized RJ3, Cond.code yJ3_checkIndex_8e157 cJ3_checkIndex_8e157 3 (some .int), Cond.methodLink RJx4a65c 123 yJx4a65c_elementData_915e3, Cond.instanceMethod yJx4a65c_elementData_915e3, Cond.selects RJx4a65c yJx4a65c_elementData_915e3 yJx4a65c_elementData_915e3, Cond.code yJx4a65c_elementData_915e3 cJx4a65c_elementData_915e3 2 (some (.object "java/lang/Object")), Cond.fieldLink RJx4a65c 9 "java/util/ArrayList" "elementData" "[Ljava/lang/Object;", Cond.methodLink RX4 131 yX0_saysRain, Cond.instanceMethod yX0_saysRain, Cond.selects RX0 yX0_saysRain yX0_saysRain, Cond.initialized RX0, Cond.code yX0_saysRain cX0_saysRain 6 (some .boolean), Cond.fieldLink RX0 9 "BarometerLeague$Sign" "kind" "I", Cond.fieldLink RX0 15 "BarometerLeague$Sign" "number" "I", Cond.methodLink RX0 18 yX3_glassOn, Cond.instanceMethod yX3_glassOn, Cond.selects RX3 yX3_glassOn yX3_glassOn, Cond.initialized RX3]
def wsX4_liveDays_r3 : List Cond := [Cond.code yX3_glassOn cX3_glassOn 2 (some .int), Cond.fieldLink RX3 9 "BarometerLeague$Weather" "glass" "[I", Cond.methodLink RX3 25 yJ9_floorMod_7cf53, Cond.static yJ9_floorMod_7cf53, Cond.initialized RJ9, Cond.code yJ9_floorMod_7cf53 cJ9_floorMod_7cf53 3 (some .int), Cond.methodLink RX0 24 yX3_rainsOn, Cond.instanceMethod yX3_rainsOn, Cond.selects RX3 yX3_rainsOn yX3_rainsOn, Cond.code yX3_rainsOn cX3_rainsOn 2 (some .boolean), Cond.fieldLink RX3 15 "BarometerLeague$Weather" "rain" "[Z", Cond.methodLink RX4 57 yX3_rainsOn, Cond.methodLink RX4 236 yX2_liveDay, Cond.instanceMethod yX2_liveDay, Cond.selects RX2 yX2_liveDay yX2_liveDay, Cond.initialized RX2, Cond.code yX2_liveDay cX2_liveDay 5 (some .int), Cond.fieldLink RX2 18 "BarometerLeague$VillageRow" "size" "I", Cond.fieldLink RX2 9 "BarometerLeague$VillageRow" "places" "[LBarometerLeague$Village;", Cond.methodLink RX2 41 yX1_liveDay, Cond.instanceMethod yX1_liveDay, Cond.selects RX1 yX1_liveDay yX1_liveDay, Cond.initialized RX1, Cond.code yX1_liveDay cX1_liveDay 4 (some .boolean)]
def wsX4_liveDays_r4 : List Cond := [Cond.fieldLink RX1 28 "BarometerLeague$Village" "points" "I", Cond.fieldLink RX1 31 "BarometerLeague$Village" "rowOfHits" "I", Cond.methodLink RX1 38 yX1_guessesRain, Cond.instanceMethod yX1_guessesRain, Cond.selects RX1 yX1_guessesRain yX1_guessesRain, Cond.code yX1_guessesRain cX1_guessesRain 2 (some .boolean), Cond.methodLink RX1 34 yX1_leadOfRain, Cond.instanceMethod yX1_leadOfRain, Cond.selects RX1 yX1_leadOfRain yX1_leadOfRain, Cond.code yX1_leadOfRain cX1_leadOfRain 4 (some .int), Cond.fieldLink RX1 9 "BarometerLeague$Village" "weights" "[I", Cond.methodLink RX1 42 yX1_learn, Cond.instanceMethod yX1_learn, Cond.selects RX1 yX1_learn yX1_learn, Cond.code yX1_learn cX1_learn 4 none, Cond.methodLink RX1 48 Lib.Math.min.name, Cond.static Lib.Math.min.name, Cond.initialized "java/lang/Math", Cond.code Lib.Math.min.name Lib.Math.min.code 2 (some .int), Cond.methodLink RX1 45 yX1_sellAlmanacs, Cond.instanceMethod yX1_sellAlmanacs, Cond.selects RX1 yX1_sellAlmanacs yX1_sellAlmanacs, Cond.code yX1_sellAlmanacs cX1_sellAlmanacs 1 none, Cond.fieldLink RX1 19 "BarometerLeague$Village" "coins" "I"]
def wsX4_liveDays : List Cond := .code yX4_liveDays cX4_liveDays 5 (some .int) :: ((wsX4_liveDays_r1 ++ (wsX4_liveDays_r2 ++ (wsX4_liveDays_r3 ++ wsX4_liveDays_r4))) ++ wsX40 ++ wsJx4a65c0 ++ wsX00 ++ wsX30 ++ wsX20 ++ wsX10)
def wsX4_pass_r1 : List Cond := [Cond.fieldLink RX4 28 "BarometerLeague" "villages" "LBarometerLeague$VillageRow;", Cond.fieldLink RX4 165 "BarometerLeague" "day" "I", Cond.methodLink RX4 192 yX4_requireDays, Cond.static yX4_requireDays, Cond.initialized RX4, Cond.code yX4_requireDays cX4_requireDays 2 none, Cond.classLink RX4 42 "java/lang/IllegalArgumentException", Cond.initialized "java/lang/IllegalArgumentException", Cond.methodLink RX4 195 yX4_liveDays, Cond.instanceMethod yX4_liveDays, Cond.selects RX4 yX4_liveDays yX4_liveDays, Cond.code yX4_liveDays cX4_liveDays 5 (some .int), Cond.methodLink RX4 209 yX4_liveDay, Cond.instanceMethod yX4_liveDay, Cond.selects RX4 yX4_liveDay yX4_liveDay, Cond.code yX4_liveDay cX4_liveDay 3 (some .int), Cond.fieldLink RX4 10 "BarometerLeague" "weather" "LBarometerLeague$Weather;", Cond.methodLink RX4 168 yX4_sayingsOn, Cond.instanceMethod yX4_sayingsOn, Cond.selects RX4 yX4_sayingsOn yX4_sayingsOn, Cond.code yX4_sayingsOn cX4_sayingsOn 3 (some (.array .int)), Cond.fieldLink RX4 32 "BarometerLeague" "sayings" "[I", Cond.fieldLink RX4 19 "BarometerLeague" "signs" "Ljava/util/ArrayList;", Cond.classLink RX4 78 "BarometerLeague$Sign"]
def wsX4_pass_r2 : List Cond := [Cond.methodLink RX4 69 yJx4a65c_size_8abf5, Cond.instanceMethod yJx4a65c_size_8abf5, Cond.selects RJx4a65c yJx4a65c_size_8abf5 yJx4a65c_size_8abf5, Cond.initialized RJx4a65c, Cond.code yJx4a65c_size_8abf5 cJx4a65c_size_8abf5 1 (some .int), Cond.fieldLink RJx4a65c 48 "java/util/ArrayList" "size" "I", Cond.methodLink RX4 128 yJx4a65c_get_915e3, Cond.instanceMethod yJx4a65c_get_915e3, Cond.selects RJx4a65c yJx4a65c_get_915e3 yJx4a65c_get_915e3, Cond.code yJx4a65c_get_915e3 cJx4a65c_get_915e3 2 (some (.object "java/lang/Object")), Cond.methodLink RJx4a65c 118 yJ15_checkIndex_7cf53, Cond.static yJ15_checkIndex_7cf53, Cond.initialized RJ15, Cond.code yJ15_checkIndex_7cf53 cJ15_checkIndex_7cf53 2 (some .int), Cond.methodLink RJ15 105 yJ3_checkIndex_8e157, Cond.static yJ3_checkIndex_8e157, Cond.initialized RJ3, Cond.code yJ3_checkIndex_8e157 cJ3_checkIndex_8e157 3 (some .int), Cond.methodLink RJx4a65c 123 yJx4a65c_elementData_915e3, Cond.instanceMethod yJx4a65c_elementData_915e3, Cond.selects RJx4a65c yJx4a65c_elementData_915e3 yJx4a65c_elementData_915e3, Cond.code yJx4a65c_elementData_915e3 cJx4a65c_elementData_915e3 2 (some (.object "java/lang/Object")), Cond.fieldLink RJx4a65c 9 "java/util/ArrayList" "elementData" "[Ljava/lang/Object;", Cond.methodLink RX4 131 yX0_saysRain]
def wsX4_pass_r3 : List Cond := [Cond.instanceMethod yX0_saysRain, Cond.selects RX0 yX0_saysRain yX0_saysRain, Cond.initialized RX0, Cond.code yX0_saysRain cX0_saysRain 6 (some .boolean), Cond.fieldLink RX0 9 "BarometerLeague$Sign" "kind" "I", Cond.fieldLink RX0 15 "BarometerLeague$Sign" "number" "I", Cond.methodLink RX0 18 yX3_glassOn, Cond.instanceMethod yX3_glassOn, Cond.selects RX3 yX3_glassOn yX3_glassOn, Cond.initialized RX3, Cond.code yX3_glassOn cX3_glassOn 2 (some .int), Cond.fieldLink RX3 9 "BarometerLeague$Weather" "glass" "[I", Cond.methodLink RX3 25 yJ9_floorMod_7cf53, Cond.static yJ9_floorMod_7cf53, Cond.initialized RJ9, Cond.code yJ9_floorMod_7cf53 cJ9_floorMod_7cf53 3 (some .int), Cond.methodLink RX0 24 yX3_rainsOn, Cond.instanceMethod yX3_rainsOn, Cond.selects RX3 yX3_rainsOn yX3_rainsOn, Cond.code yX3_rainsOn cX3_rainsOn 2 (some .boolean), Cond.fieldLink RX3 15 "BarometerLeague$Weather" "rain" "[Z", Cond.methodLink RX4 57 yX3_rainsOn, Cond.methodLink RX4 236 yX2_liveDay, Cond.instanceMethod yX2_liveDay]
def wsX4_pass_r4 : List Cond := [Cond.selects RX2 yX2_liveDay yX2_liveDay, Cond.initialized RX2, Cond.code yX2_liveDay cX2_liveDay 5 (some .int), Cond.fieldLink RX2 18 "BarometerLeague$VillageRow" "size" "I", Cond.fieldLink RX2 9 "BarometerLeague$VillageRow" "places" "[LBarometerLeague$Village;", Cond.methodLink RX2 41 yX1_liveDay, Cond.instanceMethod yX1_liveDay, Cond.selects RX1 yX1_liveDay yX1_liveDay, Cond.initialized RX1, Cond.code yX1_liveDay cX1_liveDay 4 (some .boolean), Cond.fieldLink RX1 28 "BarometerLeague$Village" "points" "I", Cond.fieldLink RX1 31 "BarometerLeague$Village" "rowOfHits" "I", Cond.methodLink RX1 38 yX1_guessesRain, Cond.instanceMethod yX1_guessesRain, Cond.selects RX1 yX1_guessesRain yX1_guessesRain, Cond.code yX1_guessesRain cX1_guessesRain 2 (some .boolean), Cond.methodLink RX1 34 yX1_leadOfRain, Cond.instanceMethod yX1_leadOfRain, Cond.selects RX1 yX1_leadOfRain yX1_leadOfRain, Cond.code yX1_leadOfRain cX1_leadOfRain 4 (some .int), Cond.fieldLink RX1 9 "BarometerLeague$Village" "weights" "[I", Cond.methodLink RX1 42 yX1_learn, Cond.instanceMethod yX1_learn, Cond.selects RX1 yX1_learn yX1_learn]
def wsX4_pass_r5 : List Cond := [Cond.code yX1_learn cX1_learn 4 none, Cond.methodLink RX1 48 Lib.Math.min.name, Cond.static Lib.Math.min.name, Cond.initialized "java/lang/Math", Cond.code Lib.Math.min.name Lib.Math.min.code 2 (some .int), Cond.methodLink RX1 45 yX1_sellAlmanacs, Cond.instanceMethod yX1_sellAlmanacs, Cond.selects RX1 yX1_sellAlmanacs yX1_sellAlmanacs, Cond.code yX1_sellAlmanacs cX1_sellAlmanacs 1 none, Cond.fieldLink RX1 19 "BarometerLeague$Village" "coins" "I"]
def wsX4_pass : List Cond := .code yX4_pass cX4_pass 3 (some .int) :: ((wsX4_pass_r1 ++ (wsX4_pass_r2 ++ (wsX4_pass_r3 ++ (wsX4_pass_r4 ++ wsX4_pass_r5)))) ++ wsX40 ++ wsJx4a65c0 ++ wsX00 ++ wsX30 ++ wsX20 ++ wsX10 ++ (vx_atS RX4 46 "java/lang/IllegalArgumentException" ["java/lang/RuntimeException", "java/lang/Exception"]).filter goodWord)
def wsX4_foresee_r1 : List Cond := [Cond.fieldLink RX4 36 "BarometerLeague" "trials" "LBarometerLeague$VillageRow;", Cond.fieldLink RX4 28 "BarometerLeague" "villages" "LBarometerLeague$VillageRow;", Cond.fieldLink RX4 165 "BarometerLeague" "day" "I", Cond.methodLink RX4 192 yX4_requireDays, Cond.static yX4_requireDays, Cond.initialized RX4, Cond.code yX4_requireDays cX4_requireDays 2 none, Cond.classLink RX4 42 "java/lang/IllegalArgumentException", Cond.initialized "java/lang/IllegalArgumentException", Cond.methodLink RX4 135 yX4_requireWhat, Cond.static yX4_requireWhat, Cond.code yX4_requireWhat cX4_requireWhat 3 none, Cond.classLink RX4 180 "java/lang/IndexOutOfBoundsException", Cond.initialized "java/lang/IndexOutOfBoundsException", Cond.methodLink RX4 199 yX2_clear, Cond.instanceMethod yX2_clear, Cond.selects RX2 yX2_clear yX2_clear, Cond.initialized RX2, Cond.code yX2_clear cX2_clear 1 none, Cond.fieldLink RX2 18 "BarometerLeague$VillageRow" "size" "I", Cond.methodLink RX4 95 yX2_size, Cond.instanceMethod yX2_size, Cond.selects RX2 yX2_size yX2_size, Cond.code yX2_size cX2_size 1 (some .int)]
def wsX4_foresee_r2 : List Cond := [Cond.methodLink RX4 96 yX2_get, Cond.instanceMethod yX2_get, Cond.selects RX2 yX2_get yX2_get, Cond.code yX2_get cX2_get 2 (some (.object "BarometerLeague$Village")), Cond.classLink RX2 22 "java/lang/IndexOutOfBoundsException", Cond.fieldLink RX2 9 "BarometerLeague$VillageRow" "places" "[LBarometerLeague$Village;", Cond.methodLink RX4 202 yX2_addCopy, Cond.instanceMethod yX2_addCopy, Cond.selects RX2 yX2_addCopy yX2_addCopy, Cond.code yX2_addCopy cX2_addCopy 2 none, Cond.methodLink RX2 29 yX2_isFull, Cond.instanceMethod yX2_isFull, Cond.selects RX2 yX2_isFull yX2_isFull, Cond.code yX2_isFull cX2_isFull 1 (some .boolean), Cond.methodLink RX2 33 yX1_becomeLike, Cond.instanceMethod yX1_becomeLike, Cond.selects RX1 yX1_becomeLike yX1_becomeLike, Cond.initialized RX1, Cond.code yX1_becomeLike cX1_becomeLike 3 none, Cond.fieldLink RX1 15 "BarometerLeague$Village" "number" "I", Cond.fieldLink RX1 28 "BarometerLeague$Village" "points" "I", Cond.fieldLink RX1 19 "BarometerLeague$Village" "coins" "I", Cond.fieldLink RX1 31 "BarometerLeague$Village" "rowOfHits" "I", Cond.fieldLink RX1 9 "BarometerLeague$Village" "weights" "[I"]
def wsX4_foresee_r3 : List Cond := [Cond.methodLink RX4 195 yX4_liveDays, Cond.instanceMethod yX4_liveDays, Cond.selects RX4 yX4_liveDays yX4_liveDays, Cond.code yX4_liveDays cX4_liveDays 5 (some .int), Cond.methodLink RX4 209 yX4_liveDay, Cond.instanceMethod yX4_liveDay, Cond.selects RX4 yX4_liveDay yX4_liveDay, Cond.code yX4_liveDay cX4_liveDay 3 (some .int), Cond.fieldLink RX4 10 "BarometerLeague" "weather" "LBarometerLeague$Weather;", Cond.methodLink RX4 168 yX4_sayingsOn, Cond.instanceMethod yX4_sayingsOn, Cond.selects RX4 yX4_sayingsOn yX4_sayingsOn, Cond.code yX4_sayingsOn cX4_sayingsOn 3 (some (.array .int)), Cond.fieldLink RX4 32 "BarometerLeague" "sayings" "[I", Cond.fieldLink RX4 19 "BarometerLeague" "signs" "Ljava/util/ArrayList;", Cond.classLink RX4 78 "BarometerLeague$Sign", Cond.methodLink RX4 69 yJx4a65c_size_8abf5, Cond.instanceMethod yJx4a65c_size_8abf5, Cond.selects RJx4a65c yJx4a65c_size_8abf5 yJx4a65c_size_8abf5, Cond.initialized RJx4a65c, Cond.code yJx4a65c_size_8abf5 cJx4a65c_size_8abf5 1 (some .int), Cond.fieldLink RJx4a65c 48 "java/util/ArrayList" "size" "I", Cond.methodLink RX4 128 yJx4a65c_get_915e3, Cond.instanceMethod yJx4a65c_get_915e3]
def wsX4_foresee_r4 : List Cond := [Cond.selects RJx4a65c yJx4a65c_get_915e3 yJx4a65c_get_915e3, Cond.code yJx4a65c_get_915e3 cJx4a65c_get_915e3 2 (some (.object "java/lang/Object")), Cond.methodLink RJx4a65c 118 yJ15_checkIndex_7cf53, Cond.static yJ15_checkIndex_7cf53, Cond.initialized RJ15, Cond.code yJ15_checkIndex_7cf53 cJ15_checkIndex_7cf53 2 (some .int), Cond.methodLink RJ15 105 yJ3_checkIndex_8e157, Cond.static yJ3_checkIndex_8e157, Cond.initialized RJ3, Cond.code yJ3_checkIndex_8e157 cJ3_checkIndex_8e157 3 (some .int), Cond.methodLink RJx4a65c 123 yJx4a65c_elementData_915e3, Cond.instanceMethod yJx4a65c_elementData_915e3, Cond.selects RJx4a65c yJx4a65c_elementData_915e3 yJx4a65c_elementData_915e3, Cond.code yJx4a65c_elementData_915e3 cJx4a65c_elementData_915e3 2 (some (.object "java/lang/Object")), Cond.fieldLink RJx4a65c 9 "java/util/ArrayList" "elementData" "[Ljava/lang/Object;", Cond.methodLink RX4 131 yX0_saysRain, Cond.instanceMethod yX0_saysRain, Cond.selects RX0 yX0_saysRain yX0_saysRain, Cond.initialized RX0, Cond.code yX0_saysRain cX0_saysRain 6 (some .boolean), Cond.fieldLink RX0 9 "BarometerLeague$Sign" "kind" "I", Cond.fieldLink RX0 15 "BarometerLeague$Sign" "number" "I", Cond.methodLink RX0 18 yX3_glassOn, Cond.instanceMethod yX3_glassOn]
def wsX4_foresee_r5 : List Cond := [Cond.selects RX3 yX3_glassOn yX3_glassOn, Cond.initialized RX3, Cond.code yX3_glassOn cX3_glassOn 2 (some .int), Cond.fieldLink RX3 9 "BarometerLeague$Weather" "glass" "[I", Cond.methodLink RX3 25 yJ9_floorMod_7cf53, Cond.static yJ9_floorMod_7cf53, Cond.initialized RJ9, Cond.code yJ9_floorMod_7cf53 cJ9_floorMod_7cf53 3 (some .int), Cond.methodLink RX0 24 yX3_rainsOn, Cond.instanceMethod yX3_rainsOn, Cond.selects RX3 yX3_rainsOn yX3_rainsOn, Cond.code yX3_rainsOn cX3_rainsOn 2 (some .boolean), Cond.fieldLink RX3 15 "BarometerLeague$Weather" "rain" "[Z", Cond.methodLink RX4 57 yX3_rainsOn, Cond.methodLink RX4 236 yX2_liveDay, Cond.instanceMethod yX2_liveDay, Cond.selects RX2 yX2_liveDay yX2_liveDay, Cond.code yX2_liveDay cX2_liveDay 5 (some .int), Cond.methodLink RX2 41 yX1_liveDay, Cond.instanceMethod yX1_liveDay, Cond.selects RX1 yX1_liveDay yX1_liveDay, Cond.code yX1_liveDay cX1_liveDay 4 (some .boolean), Cond.methodLink RX1 38 yX1_guessesRain, Cond.instanceMethod yX1_guessesRain]
def wsX4_foresee_r6 : List Cond := [Cond.selects RX1 yX1_guessesRain yX1_guessesRain, Cond.code yX1_guessesRain cX1_guessesRain 2 (some .boolean), Cond.methodLink RX1 34 yX1_leadOfRain, Cond.instanceMethod yX1_leadOfRain, Cond.selects RX1 yX1_leadOfRain yX1_leadOfRain, Cond.code yX1_leadOfRain cX1_leadOfRain 4 (some .int), Cond.methodLink RX1 42 yX1_learn, Cond.instanceMethod yX1_learn, Cond.selects RX1 yX1_learn yX1_learn, Cond.code yX1_learn cX1_learn 4 none, Cond.methodLink RX1 48 Lib.Math.min.name, Cond.static Lib.Math.min.name, Cond.initialized "java/lang/Math", Cond.code Lib.Math.min.name Lib.Math.min.code 2 (some .int), Cond.methodLink RX1 45 yX1_sellAlmanacs, Cond.instanceMethod yX1_sellAlmanacs, Cond.selects RX1 yX1_sellAlmanacs yX1_sellAlmanacs, Cond.code yX1_sellAlmanacs cX1_sellAlmanacs 1 none, Cond.methodLink RX4 188 yX4_countOver, Cond.instanceMethod yX4_countOver, Cond.selects RX4 yX4_countOver yX4_countOver, Cond.code yX4_countOver cX4_countOver 4 (some .int), Cond.methodLink RX4 212 yX2_allPoints, Cond.instanceMethod yX2_allPoints]
def wsX4_foresee_r7 : List Cond := [Cond.selects RX2 yX2_allPoints yX2_allPoints, Cond.code yX2_allPoints cX2_allPoints 3 (some .int), Cond.methodLink RX4 239 yX2_allCoins, Cond.instanceMethod yX2_allCoins, Cond.selects RX2 yX2_allCoins yX2_allCoins, Cond.code yX2_allCoins cX2_allCoins 3 (some .int), Cond.methodLink RX4 242 yX2_guessingRain, Cond.instanceMethod yX2_guessingRain, Cond.selects RX2 yX2_guessingRain yX2_guessingRain, Cond.code yX2_guessingRain cX2_guessingRain 4 (some .int), Cond.methodLink RX2 55 yX1_guessesRain]
def wsX4_foresee : List Cond := .code yX4_foresee cX4_foresee 4 (some .int) :: ((wsX4_foresee_r1 ++ (wsX4_foresee_r2 ++ (wsX4_foresee_r3 ++ (wsX4_foresee_r4 ++ (wsX4_foresee_r5 ++ (wsX4_foresee_r6 ++ wsX4_foresee_r7)))))) ++ wsX40 ++ wsX20 ++ wsX10 ++ wsJx4a65c0 ++ wsX00 ++ wsX30 ++ (vx_atS RX4 46 "java/lang/IllegalArgumentException" ["java/lang/RuntimeException", "java/lang/Exception"]).filter goodWord ++ (vx_atS RX4 184 "java/lang/IndexOutOfBoundsException" ["java/lang/RuntimeException", "java/lang/Exception"]).filter goodWord ++ (vx_atS RX2 26 "java/lang/IndexOutOfBoundsException" ["java/lang/RuntimeException", "java/lang/Exception"]).filter goodWord)
def wsX4_overtakes_r1 : List Cond := [Cond.fieldLink RX4 28 "BarometerLeague" "villages" "LBarometerLeague$VillageRow;", Cond.fieldLink RX4 36 "BarometerLeague" "trials" "LBarometerLeague$VillageRow;", Cond.fieldLink RX4 165 "BarometerLeague" "day" "I", Cond.methodLink RX4 96 yX2_get, Cond.instanceMethod yX2_get, Cond.selects RX2 yX2_get yX2_get, Cond.initialized RX2, Cond.code yX2_get cX2_get 2 (some (.object "BarometerLeague$Village")), Cond.classLink RX2 22 "java/lang/IndexOutOfBoundsException", Cond.initialized "java/lang/IndexOutOfBoundsException", Cond.fieldLink RX2 18 "BarometerLeague$VillageRow" "size" "I", Cond.fieldLink RX2 9 "BarometerLeague$VillageRow" "places" "[LBarometerLeague$Village;", Cond.methodLink RX4 113 yX4_requireTwo, Cond.static yX4_requireTwo, Cond.initialized RX4, Cond.code yX4_requireTwo cX4_requireTwo 2 none, Cond.classLink RX4 42 "java/lang/IllegalArgumentException", Cond.initialized "java/lang/IllegalArgumentException", Cond.methodLink RX4 199 yX2_clear, Cond.instanceMethod yX2_clear, Cond.selects RX2 yX2_clear yX2_clear, Cond.code yX2_clear cX2_clear 1 none, Cond.methodLink RX4 202 yX2_addCopy, Cond.instanceMethod yX2_addCopy]
def wsX4_overtakes_r2 : List Cond := [Cond.selects RX2 yX2_addCopy yX2_addCopy, Cond.code yX2_addCopy cX2_addCopy 2 none, Cond.methodLink RX2 29 yX2_isFull, Cond.instanceMethod yX2_isFull, Cond.selects RX2 yX2_isFull yX2_isFull, Cond.code yX2_isFull cX2_isFull 1 (some .boolean), Cond.methodLink RX2 33 yX1_becomeLike, Cond.instanceMethod yX1_becomeLike, Cond.selects RX1 yX1_becomeLike yX1_becomeLike, Cond.initialized RX1, Cond.code yX1_becomeLike cX1_becomeLike 3 none, Cond.fieldLink RX1 15 "BarometerLeague$Village" "number" "I", Cond.fieldLink RX1 28 "BarometerLeague$Village" "points" "I", Cond.fieldLink RX1 19 "BarometerLeague$Village" "coins" "I", Cond.fieldLink RX1 31 "BarometerLeague$Village" "rowOfHits" "I", Cond.fieldLink RX1 9 "BarometerLeague$Village" "weights" "[I", Cond.methodLink RX4 205 yX1_isAheadOf, Cond.instanceMethod yX1_isAheadOf, Cond.selects RX1 yX1_isAheadOf yX1_isAheadOf, Cond.code yX1_isAheadOf cX1_isAheadOf 2 (some .boolean), Cond.methodLink RX4 209 yX4_liveDay, Cond.instanceMethod yX4_liveDay, Cond.selects RX4 yX4_liveDay yX4_liveDay, Cond.code yX4_liveDay cX4_liveDay 3 (some .int)]
def wsX4_overtakes_r3 : List Cond := [Cond.fieldLink RX4 10 "BarometerLeague" "weather" "LBarometerLeague$Weather;", Cond.methodLink RX4 168 yX4_sayingsOn, Cond.instanceMethod yX4_sayingsOn, Cond.selects RX4 yX4_sayingsOn yX4_sayingsOn, Cond.code yX4_sayingsOn cX4_sayingsOn 3 (some (.array .int)), Cond.fieldLink RX4 32 "BarometerLeague" "sayings" "[I", Cond.fieldLink RX4 19 "BarometerLeague" "signs" "Ljava/util/ArrayList;", Cond.classLink RX4 78 "BarometerLeague$Sign", Cond.methodLink RX4 69 yJx4a65c_size_8abf5, Cond.instanceMethod yJx4a65c_size_8abf5, Cond.selects RJx4a65c yJx4a65c_size_8abf5 yJx4a65c_size_8abf5, Cond.initialized RJx4a65c, Cond.code yJx4a65c_size_8abf5 cJx4a65c_size_8abf5 1 (some .int), Cond.fieldLink RJx4a65c 48 "java/util/ArrayList" "size" "I", Cond.methodLink RX4 128 yJx4a65c_get_915e3, Cond.instanceMethod yJx4a65c_get_915e3, Cond.selects RJx4a65c yJx4a65c_get_915e3 yJx4a65c_get_915e3, Cond.code yJx4a65c_get_915e3 cJx4a65c_get_915e3 2 (some (.object "java/lang/Object")), Cond.methodLink RJx4a65c 118 yJ15_checkIndex_7cf53, Cond.static yJ15_checkIndex_7cf53, Cond.initialized RJ15, Cond.code yJ15_checkIndex_7cf53 cJ15_checkIndex_7cf53 2 (some .int), Cond.methodLink RJ15 105 yJ3_checkIndex_8e157, Cond.static yJ3_checkIndex_8e157]
def wsX4_overtakes_r4 : List Cond := [Cond.initialized RJ3, Cond.code yJ3_checkIndex_8e157 cJ3_checkIndex_8e157 3 (some .int), Cond.methodLink RJx4a65c 123 yJx4a65c_elementData_915e3, Cond.instanceMethod yJx4a65c_elementData_915e3, Cond.selects RJx4a65c yJx4a65c_elementData_915e3 yJx4a65c_elementData_915e3, Cond.code yJx4a65c_elementData_915e3 cJx4a65c_elementData_915e3 2 (some (.object "java/lang/Object")), Cond.fieldLink RJx4a65c 9 "java/util/ArrayList" "elementData" "[Ljava/lang/Object;", Cond.methodLink RX4 131 yX0_saysRain, Cond.instanceMethod yX0_saysRain, Cond.selects RX0 yX0_saysRain yX0_saysRain, Cond.initialized RX0, Cond.code yX0_saysRain cX0_saysRain 6 (some .boolean), Cond.fieldLink RX0 9 "BarometerLeague$Sign" "kind" "I", Cond.fieldLink RX0 15 "BarometerLeague$Sign" "number" "I", Cond.methodLink RX0 18 yX3_glassOn, Cond.instanceMethod yX3_glassOn, Cond.selects RX3 yX3_glassOn yX3_glassOn, Cond.initialized RX3, Cond.code yX3_glassOn cX3_glassOn 2 (some .int), Cond.fieldLink RX3 9 "BarometerLeague$Weather" "glass" "[I", Cond.methodLink RX3 25 yJ9_floorMod_7cf53, Cond.static yJ9_floorMod_7cf53, Cond.initialized RJ9, Cond.code yJ9_floorMod_7cf53 cJ9_floorMod_7cf53 3 (some .int)]
def wsX4_overtakes_r5 : List Cond := [Cond.methodLink RX0 24 yX3_rainsOn, Cond.instanceMethod yX3_rainsOn, Cond.selects RX3 yX3_rainsOn yX3_rainsOn, Cond.code yX3_rainsOn cX3_rainsOn 2 (some .boolean), Cond.fieldLink RX3 15 "BarometerLeague$Weather" "rain" "[Z", Cond.methodLink RX4 57 yX3_rainsOn, Cond.methodLink RX4 236 yX2_liveDay, Cond.instanceMethod yX2_liveDay, Cond.selects RX2 yX2_liveDay yX2_liveDay, Cond.code yX2_liveDay cX2_liveDay 5 (some .int), Cond.methodLink RX2 41 yX1_liveDay, Cond.instanceMethod yX1_liveDay, Cond.selects RX1 yX1_liveDay yX1_liveDay, Cond.code yX1_liveDay cX1_liveDay 4 (some .boolean), Cond.methodLink RX1 38 yX1_guessesRain, Cond.instanceMethod yX1_guessesRain, Cond.selects RX1 yX1_guessesRain yX1_guessesRain, Cond.code yX1_guessesRain cX1_guessesRain 2 (some .boolean), Cond.methodLink RX1 34 yX1_leadOfRain, Cond.instanceMethod yX1_leadOfRain, Cond.selects RX1 yX1_leadOfRain yX1_leadOfRain, Cond.code yX1_leadOfRain cX1_leadOfRain 4 (some .int), Cond.methodLink RX1 42 yX1_learn, Cond.instanceMethod yX1_learn]
def wsX4_overtakes_r6 : List Cond := [Cond.selects RX1 yX1_learn yX1_learn, Cond.code yX1_learn cX1_learn 4 none, Cond.methodLink RX1 48 Lib.Math.min.name, Cond.static Lib.Math.min.name, Cond.initialized "java/lang/Math", Cond.code Lib.Math.min.name Lib.Math.min.code 2 (some .int), Cond.methodLink RX1 45 yX1_sellAlmanacs, Cond.instanceMethod yX1_sellAlmanacs, Cond.selects RX1 yX1_sellAlmanacs yX1_sellAlmanacs, Cond.code yX1_sellAlmanacs cX1_sellAlmanacs 1 none]
def wsX4_overtakes : List Cond := .code yX4_overtakes cX4_overtakes 6 (some .int) :: ((wsX4_overtakes_r1 ++ (wsX4_overtakes_r2 ++ (wsX4_overtakes_r3 ++ (wsX4_overtakes_r4 ++ (wsX4_overtakes_r5 ++ wsX4_overtakes_r6))))) ++ wsX40 ++ wsX20 ++ wsX10 ++ wsJx4a65c0 ++ wsX00 ++ wsX30 ++ (vx_atS RX2 26 "java/lang/IndexOutOfBoundsException" ["java/lang/RuntimeException", "java/lang/Exception"]).filter goodWord ++ (vx_atS RX4 46 "java/lang/IllegalArgumentException" ["java/lang/RuntimeException", "java/lang/Exception"]).filter goodWord)
def wsX4_advise_r1 : List Cond := [Cond.fieldLink RX4 28 "BarometerLeague" "villages" "LBarometerLeague$VillageRow;", Cond.fieldLink RX4 36 "BarometerLeague" "trials" "LBarometerLeague$VillageRow;", Cond.fieldLink RX4 19 "BarometerLeague" "signs" "Ljava/util/ArrayList;", Cond.methodLink RX4 96 yX2_get, Cond.instanceMethod yX2_get, Cond.selects RX2 yX2_get yX2_get, Cond.initialized RX2, Cond.code yX2_get cX2_get 2 (some (.object "BarometerLeague$Village")), Cond.classLink RX2 22 "java/lang/IndexOutOfBoundsException", Cond.initialized "java/lang/IndexOutOfBoundsException", Cond.fieldLink RX2 18 "BarometerLeague$VillageRow" "size" "I", Cond.fieldLink RX2 9 "BarometerLeague$VillageRow" "places" "[LBarometerLeague$Village;", Cond.methodLink RX4 192 yX4_requireDays, Cond.static yX4_requireDays, Cond.initialized RX4, Cond.code yX4_requireDays cX4_requireDays 2 none, Cond.classLink RX4 42 "java/lang/IllegalArgumentException", Cond.initialized "java/lang/IllegalArgumentException", Cond.methodLink RX4 199 yX2_clear, Cond.instanceMethod yX2_clear, Cond.selects RX2 yX2_clear yX2_clear, Cond.code yX2_clear cX2_clear 1 none, Cond.methodLink RX4 69 yJx4a65c_size_8abf5, Cond.instanceMethod yJx4a65c_size_8abf5]
def wsX4_advise_r2 : List Cond := [Cond.selects RJx4a65c yJx4a65c_size_8abf5 yJx4a65c_size_8abf5, Cond.initialized RJx4a65c, Cond.code yJx4a65c_size_8abf5 cJx4a65c_size_8abf5 1 (some .int), Cond.fieldLink RJx4a65c 48 "java/util/ArrayList" "size" "I", Cond.methodLink RX4 202 yX2_addCopy, Cond.instanceMethod yX2_addCopy, Cond.selects RX2 yX2_addCopy yX2_addCopy, Cond.code yX2_addCopy cX2_addCopy 2 none, Cond.methodLink RX2 29 yX2_isFull, Cond.instanceMethod yX2_isFull, Cond.selects RX2 yX2_isFull yX2_isFull, Cond.code yX2_isFull cX2_isFull 1 (some .boolean), Cond.methodLink RX2 33 yX1_becomeLike, Cond.instanceMethod yX1_becomeLike, Cond.selects RX1 yX1_becomeLike yX1_becomeLike, Cond.initialized RX1, Cond.code yX1_becomeLike cX1_becomeLike 3 none, Cond.fieldLink RX1 15 "BarometerLeague$Village" "number" "I", Cond.fieldLink RX1 28 "BarometerLeague$Village" "points" "I", Cond.fieldLink RX1 19 "BarometerLeague$Village" "coins" "I", Cond.fieldLink RX1 31 "BarometerLeague$Village" "rowOfHits" "I", Cond.fieldLink RX1 9 "BarometerLeague$Village" "weights" "[I", Cond.methodLink RX4 95 yX2_size, Cond.instanceMethod yX2_size]
def wsX4_advise_r3 : List Cond := [Cond.selects RX2 yX2_size yX2_size, Cond.code yX2_size cX2_size 1 (some .int), Cond.methodLink RX4 110 yX1_putWeight, Cond.instanceMethod yX1_putWeight, Cond.selects RX1 yX1_putWeight yX1_putWeight, Cond.code yX1_putWeight cX1_putWeight 3 none, Cond.methodLink RX4 195 yX4_liveDays, Cond.instanceMethod yX4_liveDays, Cond.selects RX4 yX4_liveDays yX4_liveDays, Cond.code yX4_liveDays cX4_liveDays 5 (some .int), Cond.fieldLink RX4 165 "BarometerLeague" "day" "I", Cond.methodLink RX4 209 yX4_liveDay, Cond.instanceMethod yX4_liveDay, Cond.selects RX4 yX4_liveDay yX4_liveDay, Cond.code yX4_liveDay cX4_liveDay 3 (some .int), Cond.fieldLink RX4 10 "BarometerLeague" "weather" "LBarometerLeague$Weather;", Cond.methodLink RX4 168 yX4_sayingsOn, Cond.instanceMethod yX4_sayingsOn, Cond.selects RX4 yX4_sayingsOn yX4_sayingsOn, Cond.code yX4_sayingsOn cX4_sayingsOn 3 (some (.array .int)), Cond.fieldLink RX4 32 "BarometerLeague" "sayings" "[I", Cond.classLink RX4 78 "BarometerLeague$Sign", Cond.methodLink RX4 128 yJx4a65c_get_915e3, Cond.instanceMethod yJx4a65c_get_915e3]
def wsX4_advise_r4 : List Cond := [Cond.selects RJx4a65c yJx4a65c_get_915e3 yJx4a65c_get_915e3, Cond.code yJx4a65c_get_915e3 cJx4a65c_get_915e3 2 (some (.object "java/lang/Object")), Cond.methodLink RJx4a65c 118 yJ15_checkIndex_7cf53, Cond.static yJ15_checkIndex_7cf53, Cond.initialized RJ15, Cond.code yJ15_checkIndex_7cf53 cJ15_checkIndex_7cf53 2 (some .int), Cond.methodLink RJ15 105 yJ3_checkIndex_8e157, Cond.static yJ3_checkIndex_8e157, Cond.initialized RJ3, Cond.code yJ3_checkIndex_8e157 cJ3_checkIndex_8e157 3 (some .int), Cond.methodLink RJx4a65c 123 yJx4a65c_elementData_915e3, Cond.instanceMethod yJx4a65c_elementData_915e3, Cond.selects RJx4a65c yJx4a65c_elementData_915e3 yJx4a65c_elementData_915e3, Cond.code yJx4a65c_elementData_915e3 cJx4a65c_elementData_915e3 2 (some (.object "java/lang/Object")), Cond.fieldLink RJx4a65c 9 "java/util/ArrayList" "elementData" "[Ljava/lang/Object;", Cond.methodLink RX4 131 yX0_saysRain, Cond.instanceMethod yX0_saysRain, Cond.selects RX0 yX0_saysRain yX0_saysRain, Cond.initialized RX0, Cond.code yX0_saysRain cX0_saysRain 6 (some .boolean), Cond.fieldLink RX0 9 "BarometerLeague$Sign" "kind" "I", Cond.fieldLink RX0 15 "BarometerLeague$Sign" "number" "I", Cond.methodLink RX0 18 yX3_glassOn, Cond.instanceMethod yX3_glassOn]
def wsX4_advise_r5 : List Cond := [Cond.selects RX3 yX3_glassOn yX3_glassOn, Cond.initialized RX3, Cond.code yX3_glassOn cX3_glassOn 2 (some .int), Cond.fieldLink RX3 9 "BarometerLeague$Weather" "glass" "[I", Cond.methodLink RX3 25 yJ9_floorMod_7cf53, Cond.static yJ9_floorMod_7cf53, Cond.initialized RJ9, Cond.code yJ9_floorMod_7cf53 cJ9_floorMod_7cf53 3 (some .int), Cond.methodLink RX0 24 yX3_rainsOn, Cond.instanceMethod yX3_rainsOn, Cond.selects RX3 yX3_rainsOn yX3_rainsOn, Cond.code yX3_rainsOn cX3_rainsOn 2 (some .boolean), Cond.fieldLink RX3 15 "BarometerLeague$Weather" "rain" "[Z", Cond.methodLink RX4 57 yX3_rainsOn, Cond.methodLink RX4 236 yX2_liveDay, Cond.instanceMethod yX2_liveDay, Cond.selects RX2 yX2_liveDay yX2_liveDay, Cond.code yX2_liveDay cX2_liveDay 5 (some .int), Cond.methodLink RX2 41 yX1_liveDay, Cond.instanceMethod yX1_liveDay, Cond.selects RX1 yX1_liveDay yX1_liveDay, Cond.code yX1_liveDay cX1_liveDay 4 (some .boolean), Cond.methodLink RX1 38 yX1_guessesRain, Cond.instanceMethod yX1_guessesRain]
def wsX4_advise_r6 : List Cond := [Cond.selects RX1 yX1_guessesRain yX1_guessesRain, Cond.code yX1_guessesRain cX1_guessesRain 2 (some .boolean), Cond.methodLink RX1 34 yX1_leadOfRain, Cond.instanceMethod yX1_leadOfRain, Cond.selects RX1 yX1_leadOfRain yX1_leadOfRain, Cond.code yX1_leadOfRain cX1_leadOfRain 4 (some .int), Cond.methodLink RX1 42 yX1_learn, Cond.instanceMethod yX1_learn, Cond.selects RX1 yX1_learn yX1_learn, Cond.code yX1_learn cX1_learn 4 none, Cond.methodLink RX1 48 Lib.Math.min.name, Cond.static Lib.Math.min.name, Cond.initialized "java/lang/Math", Cond.code Lib.Math.min.name Lib.Math.min.code 2 (some .int), Cond.methodLink RX1 45 yX1_sellAlmanacs, Cond.instanceMethod yX1_sellAlmanacs, Cond.selects RX1 yX1_sellAlmanacs yX1_sellAlmanacs, Cond.code yX1_sellAlmanacs cX1_sellAlmanacs 1 none]
def wsX4_advise : List Cond := .code yX4_advise cX4_advise 6 (some .int) :: ((wsX4_advise_r1 ++ (wsX4_advise_r2 ++ (wsX4_advise_r3 ++ (wsX4_advise_r4 ++ (wsX4_advise_r5 ++ wsX4_advise_r6))))) ++ wsX40 ++ wsX10 ++ wsX20 ++ wsJx4a65c0 ++ wsX00 ++ wsX30 ++ (vx_atS RX2 26 "java/lang/IndexOutOfBoundsException" ["java/lang/RuntimeException", "java/lang/Exception"]).filter goodWord ++ (vx_atS RX4 46 "java/lang/IllegalArgumentException" ["java/lang/RuntimeException", "java/lang/Exception"]).filter goodWord)
def wsX4_best_r1 : List Cond := [Cond.fieldLink RX4 19 "BarometerLeague" "signs" "Ljava/util/ArrayList;", Cond.classLink RX4 78 "BarometerLeague$Sign", Cond.fieldLink RX4 10 "BarometerLeague" "weather" "LBarometerLeague$Weather;", Cond.methodLink RX4 69 yJx4a65c_size_8abf5, Cond.instanceMethod yJx4a65c_size_8abf5, Cond.selects RJx4a65c yJx4a65c_size_8abf5 yJx4a65c_size_8abf5, Cond.initialized RJx4a65c, Cond.code yJx4a65c_size_8abf5 cJx4a65c_size_8abf5 1 (some .int), Cond.fieldLink RJx4a65c 48 "java/util/ArrayList" "size" "I", Cond.methodLink RX4 128 yJx4a65c_get_915e3, Cond.instanceMethod yJx4a65c_get_915e3, Cond.selects RJx4a65c yJx4a65c_get_915e3 yJx4a65c_get_915e3, Cond.code yJx4a65c_get_915e3 cJx4a65c_get_915e3 2 (some (.object "java/lang/Object")), Cond.methodLink RJx4a65c 118 yJ15_checkIndex_7cf53, Cond.static yJ15_checkIndex_7cf53, Cond.initialized RJ15, Cond.code yJ15_checkIndex_7cf53 cJ15_checkIndex_7cf53 2 (some .int), Cond.methodLink RJ15 105 yJ3_checkIndex_8e157, Cond.static yJ3_checkIndex_8e157, Cond.initialized RJ3, Cond.code yJ3_checkIndex_8e157 cJ3_checkIndex_8e157 3 (some .int), Cond.methodLink RJx4a65c 123 yJx4a65c_elementData_915e3, Cond.instanceMethod yJx4a65c_elementData_915e3, Cond.selects RJx4a65c yJx4a65c_elementData_915e3 yJx4a65c_elementData_915e3]
def wsX4_best_r2 : List Cond := [Cond.code yJx4a65c_elementData_915e3 cJx4a65c_elementData_915e3 2 (some (.object "java/lang/Object")), Cond.fieldLink RJx4a65c 9 "java/util/ArrayList" "elementData" "[Ljava/lang/Object;", Cond.methodLink RX4 145 yX0_daysRight, Cond.instanceMethod yX0_daysRight, Cond.selects RX0 yX0_daysRight yX0_daysRight, Cond.initialized RX0, Cond.code yX0_daysRight cX0_daysRight 4 (some .int), Cond.methodLink RX0 28 yX0_saysRain, Cond.instanceMethod yX0_saysRain, Cond.selects RX0 yX0_saysRain yX0_saysRain, Cond.code yX0_saysRain cX0_saysRain 6 (some .boolean), Cond.fieldLink RX0 9 "BarometerLeague$Sign" "kind" "I", Cond.fieldLink RX0 15 "BarometerLeague$Sign" "number" "I", Cond.methodLink RX0 18 yX3_glassOn, Cond.instanceMethod yX3_glassOn, Cond.selects RX3 yX3_glassOn yX3_glassOn, Cond.initialized RX3, Cond.code yX3_glassOn cX3_glassOn 2 (some .int), Cond.fieldLink RX3 9 "BarometerLeague$Weather" "glass" "[I", Cond.methodLink RX3 25 yJ9_floorMod_7cf53, Cond.static yJ9_floorMod_7cf53, Cond.initialized RJ9, Cond.code yJ9_floorMod_7cf53 cJ9_floorMod_7cf53 3 (some .int), Cond.methodLink RX0 24 yX3_rainsOn]
def wsX4_best_r3 : List Cond := [Cond.instanceMethod yX3_rainsOn, Cond.selects RX3 yX3_rainsOn yX3_rainsOn, Cond.code yX3_rainsOn cX3_rainsOn 2 (some .boolean), Cond.fieldLink RX3 15 "BarometerLeague$Weather" "rain" "[Z"]
def wsX4_best : List Cond := .code yX4_best cX4_best 5 (some .int) :: ((wsX4_best_r1 ++ (wsX4_best_r2 ++ wsX4_best_r3)) ++ wsX40 ++ wsJx4a65c0 ++ wsX00 ++ wsX30)
def wsX4_mean : List Cond := .code yX4_mean cX4_mean 1 (some .double) :: ([.fieldLink RX4 28 "BarometerLeague" "villages" "LBarometerLeague$VillageRow;", .methodLink RX4 95 yX2_size, .instanceMethod yX2_size, .selects RX2 yX2_size yX2_size, .initialized RX2, .code yX2_size cX2_size 1 (some .int), .fieldLink RX2 18 "BarometerLeague$VillageRow" "size" "I", .methodLink RX4 212 yX2_allPoints, .instanceMethod yX2_allPoints, .selects RX2 yX2_allPoints yX2_allPoints, .code yX2_allPoints cX2_allPoints 3 (some .int), .fieldLink RX2 9 "BarometerLeague$VillageRow" "places" "[LBarometerLeague$Village;"] ++ wsX40 ++ wsX20 ++ wsX10)
def wsX4_digestWith : List Cond := .code yX4_digestWith cX4_digestWith 3 (some .long) :: ([.constantLong RX4 234 (31)])
def wsX4_digest_r1 : List Cond := [Cond.constantLong RX4 215 (1459), Cond.fieldLink RX4 10 "BarometerLeague" "weather" "LBarometerLeague$Weather;", Cond.fieldLink RX4 19 "BarometerLeague" "signs" "Ljava/util/ArrayList;", Cond.fieldLink RX4 28 "BarometerLeague" "villages" "LBarometerLeague$VillageRow;", Cond.methodLink RX4 217 yX4_count, Cond.instanceMethod yX4_count, Cond.selects RX4 yX4_count yX4_count, Cond.initialized RX4, Cond.code yX4_count cX4_count 2 (some .int), Cond.fieldLink RX4 165 "BarometerLeague" "day" "I", Cond.methodLink RX4 135 yX4_requireWhat, Cond.static yX4_requireWhat, Cond.code yX4_requireWhat cX4_requireWhat 3 none, Cond.classLink RX4 180 "java/lang/IndexOutOfBoundsException", Cond.initialized "java/lang/IndexOutOfBoundsException", Cond.methodLink RX4 69 yJx4a65c_size_8abf5, Cond.instanceMethod yJx4a65c_size_8abf5, Cond.selects RJx4a65c yJx4a65c_size_8abf5 yJx4a65c_size_8abf5, Cond.initialized RJx4a65c, Cond.code yJx4a65c_size_8abf5 cJx4a65c_size_8abf5 1 (some .int), Cond.fieldLink RJx4a65c 48 "java/util/ArrayList" "size" "I", Cond.methodLink RX4 95 yX2_size, Cond.instanceMethod yX2_size, Cond.selects RX2 yX2_size yX2_size]
def wsX4_digest_r2 : List Cond := [Cond.initialized RX2, Cond.code yX2_size cX2_size 1 (some .int), Cond.fieldLink RX2 18 "BarometerLeague$VillageRow" "size" "I", Cond.methodLink RX4 185 yX3_rainyDays, Cond.instanceMethod yX3_rainyDays, Cond.selects RX3 yX3_rainyDays yX3_rainyDays, Cond.initialized RX3, Cond.code yX3_rainyDays cX3_rainyDays 6 (some .int), Cond.fieldLink RX3 15 "BarometerLeague$Weather" "rain" "[Z", Cond.methodLink RX4 188 yX4_countOver, Cond.instanceMethod yX4_countOver, Cond.selects RX4 yX4_countOver yX4_countOver, Cond.code yX4_countOver cX4_countOver 4 (some .int), Cond.methodLink RX4 212 yX2_allPoints, Cond.instanceMethod yX2_allPoints, Cond.selects RX2 yX2_allPoints yX2_allPoints, Cond.code yX2_allPoints cX2_allPoints 3 (some .int), Cond.fieldLink RX2 9 "BarometerLeague$VillageRow" "places" "[LBarometerLeague$Village;", Cond.methodLink RX4 239 yX2_allCoins, Cond.instanceMethod yX2_allCoins, Cond.selects RX2 yX2_allCoins yX2_allCoins, Cond.code yX2_allCoins cX2_allCoins 3 (some .int), Cond.methodLink RX4 168 yX4_sayingsOn, Cond.instanceMethod yX4_sayingsOn]
def wsX4_digest_r3 : List Cond := [Cond.selects RX4 yX4_sayingsOn yX4_sayingsOn, Cond.code yX4_sayingsOn cX4_sayingsOn 3 (some (.array .int)), Cond.fieldLink RX4 32 "BarometerLeague" "sayings" "[I", Cond.classLink RX4 78 "BarometerLeague$Sign", Cond.methodLink RX4 128 yJx4a65c_get_915e3, Cond.instanceMethod yJx4a65c_get_915e3, Cond.selects RJx4a65c yJx4a65c_get_915e3 yJx4a65c_get_915e3, Cond.code yJx4a65c_get_915e3 cJx4a65c_get_915e3 2 (some (.object "java/lang/Object")), Cond.methodLink RJx4a65c 118 yJ15_checkIndex_7cf53, Cond.static yJ15_checkIndex_7cf53, Cond.initialized RJ15, Cond.code yJ15_checkIndex_7cf53 cJ15_checkIndex_7cf53 2 (some .int), Cond.methodLink RJ15 105 yJ3_checkIndex_8e157, Cond.static yJ3_checkIndex_8e157, Cond.initialized RJ3, Cond.code yJ3_checkIndex_8e157 cJ3_checkIndex_8e157 3 (some .int), Cond.methodLink RJx4a65c 123 yJx4a65c_elementData_915e3, Cond.instanceMethod yJx4a65c_elementData_915e3, Cond.selects RJx4a65c yJx4a65c_elementData_915e3 yJx4a65c_elementData_915e3, Cond.code yJx4a65c_elementData_915e3 cJx4a65c_elementData_915e3 2 (some (.object "java/lang/Object")), Cond.fieldLink RJx4a65c 9 "java/util/ArrayList" "elementData" "[Ljava/lang/Object;", Cond.methodLink RX4 131 yX0_saysRain, Cond.instanceMethod yX0_saysRain, Cond.selects RX0 yX0_saysRain yX0_saysRain]
def wsX4_digest_r4 : List Cond := [Cond.initialized RX0, Cond.code yX0_saysRain cX0_saysRain 6 (some .boolean), Cond.fieldLink RX0 9 "BarometerLeague$Sign" "kind" "I", Cond.fieldLink RX0 15 "BarometerLeague$Sign" "number" "I", Cond.methodLink RX0 18 yX3_glassOn, Cond.instanceMethod yX3_glassOn, Cond.selects RX3 yX3_glassOn yX3_glassOn, Cond.code yX3_glassOn cX3_glassOn 2 (some .int), Cond.fieldLink RX3 9 "BarometerLeague$Weather" "glass" "[I", Cond.methodLink RX3 25 yJ9_floorMod_7cf53, Cond.static yJ9_floorMod_7cf53, Cond.initialized RJ9, Cond.code yJ9_floorMod_7cf53 cJ9_floorMod_7cf53 3 (some .int), Cond.methodLink RX0 24 yX3_rainsOn, Cond.instanceMethod yX3_rainsOn, Cond.selects RX3 yX3_rainsOn yX3_rainsOn, Cond.code yX3_rainsOn cX3_rainsOn 2 (some .boolean), Cond.methodLink RX4 242 yX2_guessingRain, Cond.instanceMethod yX2_guessingRain, Cond.selects RX2 yX2_guessingRain yX2_guessingRain, Cond.code yX2_guessingRain cX2_guessingRain 4 (some .int), Cond.methodLink RX2 55 yX1_guessesRain, Cond.instanceMethod yX1_guessesRain, Cond.selects RX1 yX1_guessesRain yX1_guessesRain]
def wsX4_digest_r5 : List Cond := [Cond.initialized RX1, Cond.code yX1_guessesRain cX1_guessesRain 2 (some .boolean), Cond.methodLink RX1 34 yX1_leadOfRain, Cond.instanceMethod yX1_leadOfRain, Cond.selects RX1 yX1_leadOfRain yX1_leadOfRain, Cond.code yX1_leadOfRain cX1_leadOfRain 4 (some .int), Cond.fieldLink RX1 9 "BarometerLeague$Village" "weights" "[I", Cond.methodLink RX4 220 yX4_digestWith, Cond.static yX4_digestWith, Cond.code yX4_digestWith cX4_digestWith 3 (some .long), Cond.constantLong RX4 234 (31), Cond.methodLink RX4 49 yX3_glassOn, Cond.methodLink RX4 57 yX3_rainsOn, Cond.methodLink RX4 224 yX4_told, Cond.instanceMethod yX4_told, Cond.selects RX4 yX4_told yX4_told, Cond.code yX4_told cX4_told 4 (some .int), Cond.methodLink RX4 100 yX4_requireSign, Cond.instanceMethod yX4_requireSign, Cond.selects RX4 yX4_requireSign yX4_requireSign, Cond.code yX4_requireSign cX4_requireSign 2 none, Cond.methodLink RX4 145 yX0_daysRight, Cond.instanceMethod yX0_daysRight, Cond.selects RX0 yX0_daysRight yX0_daysRight]
def wsX4_digest_r6 : List Cond := [Cond.code yX0_daysRight cX0_daysRight 4 (some .int), Cond.methodLink RX0 28 yX0_saysRain, Cond.methodLink RX4 149 yX2_allWeightsOf, Cond.instanceMethod yX2_allWeightsOf, Cond.selects RX2 yX2_allWeightsOf yX2_allWeightsOf, Cond.code yX2_allWeightsOf cX2_allWeightsOf 4 (some .int), Cond.methodLink RX2 51 yX1_weightOf, Cond.instanceMethod yX1_weightOf, Cond.selects RX1 yX1_weightOf yX1_weightOf, Cond.code yX1_weightOf cX1_weightOf 2 (some .int), Cond.methodLink RX4 228 yX4_about, Cond.instanceMethod yX4_about, Cond.selects RX4 yX4_about yX4_about, Cond.code yX4_about cX4_about 4 (some .int), Cond.methodLink RX4 96 yX2_get, Cond.instanceMethod yX2_get, Cond.selects RX2 yX2_get yX2_get, Cond.code yX2_get cX2_get 2 (some (.object "BarometerLeague$Village")), Cond.classLink RX2 22 "java/lang/IndexOutOfBoundsException", Cond.methodLink RX4 158 yX1_allWeights, Cond.instanceMethod yX1_allWeights, Cond.selects RX1 yX1_allWeights yX1_allWeights, Cond.code yX1_allWeights cX1_allWeights 4 (some .int), Cond.methodLink RX4 161 yX2_placeOf]
def wsX4_digest_r7 : List Cond := [Cond.instanceMethod yX2_placeOf, Cond.selects RX2 yX2_placeOf yX2_placeOf, Cond.code yX2_placeOf cX2_placeOf 4 (some .int), Cond.methodLink RX2 37 yX1_isAheadOf, Cond.instanceMethod yX1_isAheadOf, Cond.selects RX1 yX1_isAheadOf yX1_isAheadOf, Cond.code yX1_isAheadOf cX1_isAheadOf 2 (some .boolean), Cond.fieldLink RX1 28 "BarometerLeague$Village" "points" "I", Cond.fieldLink RX1 19 "BarometerLeague$Village" "coins" "I", Cond.fieldLink RX1 15 "BarometerLeague$Village" "number" "I", Cond.methodLink RX4 172 yX1_guessesRain, Cond.methodLink RX4 176 yX1_leadOfRain, Cond.methodLink RX4 231 yX4_weight, Cond.instanceMethod yX4_weight, Cond.selects RX4 yX4_weight yX4_weight, Cond.code yX4_weight cX4_weight 4 (some .int), Cond.methodLink RX4 105 yX1_weightOf]
def wsX4_digest : List Cond := .code yX4_digest cX4_digest 5 (some .long) :: ((wsX4_digest_r1 ++ (wsX4_digest_r2 ++ (wsX4_digest_r3 ++ (wsX4_digest_r4 ++ (wsX4_digest_r5 ++ (wsX4_digest_r6 ++ wsX4_digest_r7)))))) ++ wsX40 ++ wsJx4a65c0 ++ wsX20 ++ wsX30 ++ wsX10 ++ wsX00 ++ (vx_atS RX4 184 "java/lang/IndexOutOfBoundsException" ["java/lang/RuntimeException", "java/lang/Exception"]).filter goodWord ++ (vx_atS RX2 26 "java/lang/IndexOutOfBoundsException" ["java/lang/RuntimeException", "java/lang/Exception"]).filter goodWord)
def wsX5_init : List Cond := .code yX5_init cX5_init 1 none :: ([.methodLink RX5 3 objectInit, .instanceMethod objectInit, .code objectInit ⟨#[0xb1]⟩ 1 none, .arrayClass .int, .fieldLink RX5 9 "BarometerLeagueModel$State" "points" "[I", .fieldLink RX5 15 "BarometerLeagueModel$State" "coins" "[I", .fieldLink RX5 18 "BarometerLeagueModel$State" "row" "[I", .fieldLink RX5 21 "BarometerLeagueModel$State" "weight" "[I"] ++ wsX50)
def wsX5_copy : List Cond := .code yX5_copy cX5_copy 2 none :: ([.methodLink RX5 24 arraycopyName, .native arraycopyName, .static arraycopyName, .initialized "java/lang/System"])
def wsX5_become : List Cond := .code yX5_become cX5_become 2 none :: ([.fieldLink RX5 30 "BarometerLeagueModel$State" "day" "I", .fieldLink RX5 34 "BarometerLeagueModel$State" "hits" "I", .fieldLink RX5 9 "BarometerLeagueModel$State" "points" "[I", .fieldLink RX5 15 "BarometerLeagueModel$State" "coins" "[I", .fieldLink RX5 18 "BarometerLeagueModel$State" "row" "[I", .fieldLink RX5 21 "BarometerLeagueModel$State" "weight" "[I", .methodLink RX5 37 yX5_copy, .static yX5_copy, .initialized RX5, .code yX5_copy cX5_copy 2 none, .methodLink RX5 24 arraycopyName, .native arraycopyName, .static arraycopyName, .initialized "java/lang/System"] ++ wsX50)
def wsX6_init : List Cond := .code yX6_init cX6_init 2 none :: ([.methodLink RX6 1 objectInit, .instanceMethod objectInit, .code objectInit ⟨#[0xb1]⟩ 1 none, .arrayClass .int, .fieldLink RX6 9 "BarometerLeagueModel" "glass" "[I", .fieldLink RX6 13 "BarometerLeagueModel" "rains" "[I", .fieldLink RX6 16 "BarometerLeagueModel" "kind" "[I", .fieldLink RX6 19 "BarometerLeagueModel" "number" "[I", .fieldLink RX6 22 "BarometerLeagueModel" "said" "[I", .classLink RX6 25 RX5, .instantiable RX5 6, .initialized RX5, .fieldLink RX6 28 "BarometerLeagueModel" "now" "LBarometerLeagueModel$State;", .fieldLink RX6 32 "BarometerLeagueModel" "ahead" "LBarometerLeagueModel$State;", .instanceMethod yX5_init, .code yX5_init cX5_init 1 none, .methodLink RX5 3 objectInit, .fieldLink RX5 9 "BarometerLeagueModel$State" "points" "[I", .fieldLink RX5 15 "BarometerLeagueModel$State" "coins" "[I", .fieldLink RX5 18 "BarometerLeagueModel$State" "row" "[I", .fieldLink RX5 21 "BarometerLeagueModel$State" "weight" "[I"] ++ wsX60 ++ wsX50)
def wsX6_thrown : List Cond := .code yX6_thrown cX6_thrown 1 (some .int) :: ([.fieldLink RX6 41 "BarometerLeagueModel" "thrown" "I"] ++ wsX60)
def wsX6_no : List Cond := .code yX6_no cX6_no 2 (some .int) :: ([.fieldLink RX6 41 "BarometerLeagueModel" "thrown" "I"] ++ wsX60)
def wsX6_isIn : List Cond := .code yX6_isIn cX6_isIn 3 (some .boolean) :: ([])
def wsX6_isSign : List Cond := .code yX6_isSign cX6_isSign 2 (some .boolean) :: ([.fieldLink RX6 45 "BarometerLeagueModel" "signs" "I", .methodLink RX6 48 yX6_isIn, .static yX6_isIn, .initialized RX6, .code yX6_isIn cX6_isIn 3 (some .boolean)] ++ wsX60)
def wsX6_isVillage : List Cond := .code yX6_isVillage cX6_isVillage 2 (some .boolean) :: ([.fieldLink RX6 52 "BarometerLeagueModel" "villages" "I", .methodLink RX6 48 yX6_isIn, .static yX6_isIn, .initialized RX6, .code yX6_isIn cX6_isIn 3 (some .boolean)] ++ wsX60)
def wsX6_isRain : List Cond := .code yX6_isRain cX6_isRain 5 (some .boolean) :: ([.fieldLink RX6 16 "BarometerLeagueModel" "kind" "[I", .fieldLink RX6 9 "BarometerLeagueModel" "glass" "[I", .fieldLink RX6 19 "BarometerLeagueModel" "number" "[I", .fieldLink RX6 13 "BarometerLeagueModel" "rains" "[I"] ++ wsX60)
def wsX6_look : List Cond := .code yX6_look cX6_look 3 none :: ([.fieldLink RX6 45 "BarometerLeagueModel" "signs" "I", .fieldLink RX6 22 "BarometerLeagueModel" "said" "[I", .methodLink RX6 55 yX6_isRain, .instanceMethod yX6_isRain, .selects RX6 yX6_isRain yX6_isRain, .initialized RX6, .code yX6_isRain cX6_isRain 5 (some .boolean), .fieldLink RX6 16 "BarometerLeagueModel" "kind" "[I", .fieldLink RX6 9 "BarometerLeagueModel" "glass" "[I", .fieldLink RX6 19 "BarometerLeagueModel" "number" "[I", .fieldLink RX6 13 "BarometerLeagueModel" "rains" "[I"] ++ wsX60)
def wsX6_isRight : List Cond := .code yX6_isRight cX6_isRight 3 (some .boolean) :: ([.fieldLink RX6 13 "BarometerLeagueModel" "rains" "[I", .methodLink RX6 55 yX6_isRain, .instanceMethod yX6_isRain, .selects RX6 yX6_isRain yX6_isRain, .initialized RX6, .code yX6_isRain cX6_isRain 5 (some .boolean), .fieldLink RX6 16 "BarometerLeagueModel" "kind" "[I", .fieldLink RX6 9 "BarometerLeagueModel" "glass" "[I", .fieldLink RX6 19 "BarometerLeagueModel" "number" "[I"] ++ wsX60)
def wsX6_rightDays : List Cond := .code yX6_rightDays cX6_rightDays 4 (some .int) :: ([.methodLink RX6 59 yX6_isRight, .instanceMethod yX6_isRight, .selects RX6 yX6_isRight yX6_isRight, .initialized RX6, .code yX6_isRight cX6_isRight 3 (some .boolean), .fieldLink RX6 13 "BarometerLeagueModel" "rains" "[I", .methodLink RX6 55 yX6_isRain, .instanceMethod yX6_isRain, .selects RX6 yX6_isRain yX6_isRain, .code yX6_isRain cX6_isRain 5 (some .boolean), .fieldLink RX6 16 "BarometerLeagueModel" "kind" "[I", .fieldLink RX6 9 "BarometerLeagueModel" "glass" "[I", .fieldLink RX6 19 "BarometerLeagueModel" "number" "[I"] ++ wsX60)
def wsX6_lean : List Cond := .code yX6_lean cX6_lean 5 (some .int) :: ([.fieldLink RX6 45 "BarometerLeagueModel" "signs" "I", .fieldLink RX6 22 "BarometerLeagueModel" "said" "[I"] ++ wsX60 ++ wsX50)
def wsX6_guess : List Cond := .code yX6_guess cX6_guess 5 none :: ([.methodLink RX6 62 yX6_lean, .instanceMethod yX6_lean, .selects RX6 yX6_lean yX6_lean, .initialized RX6, .code yX6_lean cX6_lean 5 (some .int), .fieldLink RX6 45 "BarometerLeagueModel" "signs" "I", .fieldLink RX6 22 "BarometerLeagueModel" "said" "[I"] ++ wsX50 ++ wsX60)
def wsX6_learn : List Cond := .code yX6_learn cX6_learn 6 none :: ([.fieldLink RX6 45 "BarometerLeagueModel" "signs" "I", .fieldLink RX6 22 "BarometerLeagueModel" "said" "[I", .methodLink RX6 75 Lib.Math.min.name, .static Lib.Math.min.name, .initialized "java/lang/Math", .code Lib.Math.min.name Lib.Math.min.code 2 (some .int)] ++ wsX60 ++ wsX50)
def wsX6_sell : List Cond := .code yX6_sell cX6_sell 2 none :: ([.methodLink RX6 75 Lib.Math.min.name, .static Lib.Math.min.name, .initialized "java/lang/Math", .code Lib.Math.min.name Lib.Math.min.code 2 (some .int), .methodLink RX6 81 Lib.Math.max.name, .static Lib.Math.max.name, .code Lib.Math.max.name Lib.Math.max.code 2 (some .int)] ++ wsX50)
def wsX6_pass_r1 : List Cond := [Cond.fieldLink RX6 13 "BarometerLeagueModel" "rains" "[I", Cond.fieldLink RX6 52 "BarometerLeagueModel" "villages" "I", Cond.methodLink RX6 87 yX6_look, Cond.instanceMethod yX6_look, Cond.selects RX6 yX6_look yX6_look, Cond.initialized RX6, Cond.code yX6_look cX6_look 3 none, Cond.fieldLink RX6 45 "BarometerLeagueModel" "signs" "I", Cond.fieldLink RX6 22 "BarometerLeagueModel" "said" "[I", Cond.methodLink RX6 55 yX6_isRain, Cond.instanceMethod yX6_isRain, Cond.selects RX6 yX6_isRain yX6_isRain, Cond.code yX6_isRain cX6_isRain 5 (some .boolean), Cond.fieldLink RX6 16 "BarometerLeagueModel" "kind" "[I", Cond.fieldLink RX6 9 "BarometerLeagueModel" "glass" "[I", Cond.fieldLink RX6 19 "BarometerLeagueModel" "number" "[I", Cond.methodLink RX6 91 yX6_guess, Cond.instanceMethod yX6_guess, Cond.selects RX6 yX6_guess yX6_guess, Cond.code yX6_guess cX6_guess 5 none, Cond.methodLink RX6 62 yX6_lean, Cond.instanceMethod yX6_lean, Cond.selects RX6 yX6_lean yX6_lean, Cond.code yX6_lean cX6_lean 5 (some .int)]
def wsX6_pass_r2 : List Cond := [Cond.methodLink RX6 95 yX6_learn, Cond.instanceMethod yX6_learn, Cond.selects RX6 yX6_learn yX6_learn, Cond.code yX6_learn cX6_learn 6 none, Cond.methodLink RX6 75 Lib.Math.min.name, Cond.static Lib.Math.min.name, Cond.initialized "java/lang/Math", Cond.code Lib.Math.min.name Lib.Math.min.code 2 (some .int), Cond.methodLink RX6 98 yX6_sell, Cond.static yX6_sell, Cond.code yX6_sell cX6_sell 2 none, Cond.methodLink RX6 81 Lib.Math.max.name, Cond.static Lib.Math.max.name, Cond.code Lib.Math.max.name Lib.Math.max.code 2 (some .int)]
def wsX6_pass : List Cond := .code yX6_pass cX6_pass 4 none :: ((wsX6_pass_r1 ++ wsX6_pass_r2) ++ wsX60 ++ wsX50)
def wsX6_passAll_r1 : List Cond := [Cond.methodLink RX6 102 yX6_pass, Cond.instanceMethod yX6_pass, Cond.selects RX6 yX6_pass yX6_pass, Cond.initialized RX6, Cond.code yX6_pass cX6_pass 4 none, Cond.fieldLink RX6 13 "BarometerLeagueModel" "rains" "[I", Cond.fieldLink RX6 52 "BarometerLeagueModel" "villages" "I", Cond.methodLink RX6 87 yX6_look, Cond.instanceMethod yX6_look, Cond.selects RX6 yX6_look yX6_look, Cond.code yX6_look cX6_look 3 none, Cond.fieldLink RX6 45 "BarometerLeagueModel" "signs" "I", Cond.fieldLink RX6 22 "BarometerLeagueModel" "said" "[I", Cond.methodLink RX6 55 yX6_isRain, Cond.instanceMethod yX6_isRain, Cond.selects RX6 yX6_isRain yX6_isRain, Cond.code yX6_isRain cX6_isRain 5 (some .boolean), Cond.fieldLink RX6 16 "BarometerLeagueModel" "kind" "[I", Cond.fieldLink RX6 9 "BarometerLeagueModel" "glass" "[I", Cond.fieldLink RX6 19 "BarometerLeagueModel" "number" "[I", Cond.methodLink RX6 91 yX6_guess, Cond.instanceMethod yX6_guess, Cond.selects RX6 yX6_guess yX6_guess, Cond.code yX6_guess cX6_guess 5 none]
def wsX6_passAll_r2 : List Cond := [Cond.methodLink RX6 62 yX6_lean, Cond.instanceMethod yX6_lean, Cond.selects RX6 yX6_lean yX6_lean, Cond.code yX6_lean cX6_lean 5 (some .int), Cond.methodLink RX6 95 yX6_learn, Cond.instanceMethod yX6_learn, Cond.selects RX6 yX6_learn yX6_learn, Cond.code yX6_learn cX6_learn 6 none, Cond.methodLink RX6 75 Lib.Math.min.name, Cond.static Lib.Math.min.name, Cond.initialized "java/lang/Math", Cond.code Lib.Math.min.name Lib.Math.min.code 2 (some .int), Cond.methodLink RX6 98 yX6_sell, Cond.static yX6_sell, Cond.code yX6_sell cX6_sell 2 none, Cond.methodLink RX6 81 Lib.Math.max.name, Cond.static Lib.Math.max.name, Cond.code Lib.Math.max.name Lib.Math.max.code 2 (some .int)]
def wsX6_passAll : List Cond := .code yX6_passAll cX6_passAll 4 (some (.object "BarometerLeagueModel$State")) :: ((wsX6_passAll_r1 ++ wsX6_passAll_r2) ++ wsX60 ++ wsX50)
def wsX6_lookAhead : List Cond := .code yX6_lookAhead cX6_lookAhead 1 (some (.object "BarometerLeagueModel$State")) :: ([.fieldLink RX6 32 "BarometerLeagueModel" "ahead" "LBarometerLeagueModel$State;", .fieldLink RX6 28 "BarometerLeagueModel" "now" "LBarometerLeagueModel$State;", .methodLink RX6 106 yX5_become, .instanceMethod yX5_become, .selects RX5 yX5_become yX5_become, .initialized RX5, .code yX5_become cX5_become 2 none, .fieldLink RX5 30 "BarometerLeagueModel$State" "day" "I", .fieldLink RX5 34 "BarometerLeagueModel$State" "hits" "I", .fieldLink RX5 9 "BarometerLeagueModel$State" "points" "[I", .fieldLink RX5 15 "BarometerLeagueModel$State" "coins" "[I", .fieldLink RX5 18 "BarometerLeagueModel$State" "row" "[I", .fieldLink RX5 21 "BarometerLeagueModel$State" "weight" "[I", .methodLink RX5 37 yX5_copy, .static yX5_copy, .code yX5_copy cX5_copy 2 none, .methodLink RX5 24 arraycopyName, .native arraycopyName, .static arraycopyName, .initialized "java/lang/System"] ++ wsX60 ++ wsX50)
def wsX6_isBetter : List Cond := .code yX6_isBetter cX6_isBetter 3 (some .boolean) :: ([] ++ wsX50)
def wsX6_placeOf : List Cond := .code yX6_placeOf cX6_placeOf 4 (some .int) :: ([.fieldLink RX6 52 "BarometerLeagueModel" "villages" "I", .fieldLink RX6 28 "BarometerLeagueModel" "now" "LBarometerLeagueModel$State;", .methodLink RX6 109 yX6_isBetter, .static yX6_isBetter, .initialized RX6, .code yX6_isBetter cX6_isBetter 3 (some .boolean)] ++ wsX60 ++ wsX50)
def wsX6_sumOf : List Cond := .code yX6_sumOf cX6_sumOf 4 (some .int) :: ([.fieldLink RX6 52 "BarometerLeagueModel" "villages" "I"] ++ wsX60)
def wsX6_rainGuessed : List Cond := .code yX6_rainGuessed cX6_rainGuessed 4 (some .int) :: ([.fieldLink RX6 52 "BarometerLeagueModel" "villages" "I", .methodLink RX6 87 yX6_look, .instanceMethod yX6_look, .selects RX6 yX6_look yX6_look, .initialized RX6, .code yX6_look cX6_look 3 none, .fieldLink RX6 45 "BarometerLeagueModel" "signs" "I", .fieldLink RX6 22 "BarometerLeagueModel" "said" "[I", .methodLink RX6 55 yX6_isRain, .instanceMethod yX6_isRain, .selects RX6 yX6_isRain yX6_isRain, .code yX6_isRain cX6_isRain 5 (some .boolean), .fieldLink RX6 16 "BarometerLeagueModel" "kind" "[I", .fieldLink RX6 9 "BarometerLeagueModel" "glass" "[I", .fieldLink RX6 19 "BarometerLeagueModel" "number" "[I", .fieldLink RX6 13 "BarometerLeagueModel" "rains" "[I", .methodLink RX6 62 yX6_lean, .instanceMethod yX6_lean, .selects RX6 yX6_lean yX6_lean, .code yX6_lean cX6_lean 5 (some .int)] ++ wsX50 ++ wsX60)
def wsX6_setGlass : List Cond := .code yX6_setGlass cX6_setGlass 4 (some .int) :: ([.fieldLink RX6 41 "BarometerLeagueModel" "thrown" "I", .fieldLink RX6 9 "BarometerLeagueModel" "glass" "[I", .methodLink RX6 48 yX6_isIn, .static yX6_isIn, .initialized RX6, .code yX6_isIn cX6_isIn 3 (some .boolean), .methodLink RX6 113 yX6_no, .instanceMethod yX6_no, .selects RX6 yX6_no yX6_no, .code yX6_no cX6_no 2 (some .int)] ++ wsX60)
def wsX6_setRain : List Cond := .code yX6_setRain cX6_setRain 4 (some .boolean) :: ([.fieldLink RX6 41 "BarometerLeagueModel" "thrown" "I", .fieldLink RX6 13 "BarometerLeagueModel" "rains" "[I", .methodLink RX6 48 yX6_isIn, .static yX6_isIn, .initialized RX6, .code yX6_isIn cX6_isIn 3 (some .boolean)] ++ wsX60)
def wsX6_sign : List Cond := .code yX6_sign cX6_sign 3 (some .int) :: ([.fieldLink RX6 41 "BarometerLeagueModel" "thrown" "I", .fieldLink RX6 45 "BarometerLeagueModel" "signs" "I", .fieldLink RX6 16 "BarometerLeagueModel" "kind" "[I", .fieldLink RX6 19 "BarometerLeagueModel" "number" "[I", .methodLink RX6 48 yX6_isIn, .static yX6_isIn, .initialized RX6, .code yX6_isIn cX6_isIn 3 (some .boolean), .methodLink RX6 113 yX6_no, .instanceMethod yX6_no, .selects RX6 yX6_no yX6_no, .code yX6_no cX6_no 2 (some .int)] ++ wsX60)
def wsX6_join : List Cond := .code yX6_join cX6_join 1 (some .int) :: ([.fieldLink RX6 41 "BarometerLeagueModel" "thrown" "I", .fieldLink RX6 52 "BarometerLeagueModel" "villages" "I", .methodLink RX6 113 yX6_no, .instanceMethod yX6_no, .selects RX6 yX6_no yX6_no, .initialized RX6, .code yX6_no cX6_no 2 (some .int)] ++ wsX60)
def wsX6_weigh : List Cond := .code yX6_weigh cX6_weigh 5 (some .int) :: ([.fieldLink RX6 41 "BarometerLeagueModel" "thrown" "I", .fieldLink RX6 28 "BarometerLeagueModel" "now" "LBarometerLeagueModel$State;", .methodLink RX6 117 yX6_isVillage, .instanceMethod yX6_isVillage, .selects RX6 yX6_isVillage yX6_isVillage, .initialized RX6, .code yX6_isVillage cX6_isVillage 2 (some .boolean), .fieldLink RX6 52 "BarometerLeagueModel" "villages" "I", .methodLink RX6 48 yX6_isIn, .static yX6_isIn, .code yX6_isIn cX6_isIn 3 (some .boolean), .methodLink RX6 121 yX6_isSign, .instanceMethod yX6_isSign, .selects RX6 yX6_isSign yX6_isSign, .code yX6_isSign cX6_isSign 2 (some .boolean), .fieldLink RX6 45 "BarometerLeagueModel" "signs" "I", .methodLink RX6 113 yX6_no, .instanceMethod yX6_no, .selects RX6 yX6_no yX6_no, .code yX6_no cX6_no 2 (some .int)] ++ wsX60 ++ wsX50)
def wsX6_share : List Cond := .code yX6_share cX6_share 4 (some .int) :: ([.fieldLink RX6 41 "BarometerLeagueModel" "thrown" "I", .fieldLink RX6 28 "BarometerLeagueModel" "now" "LBarometerLeagueModel$State;", .fieldLink RX6 45 "BarometerLeagueModel" "signs" "I", .methodLink RX6 117 yX6_isVillage, .instanceMethod yX6_isVillage, .selects RX6 yX6_isVillage yX6_isVillage, .initialized RX6, .code yX6_isVillage cX6_isVillage 2 (some .boolean), .fieldLink RX6 52 "BarometerLeagueModel" "villages" "I", .methodLink RX6 48 yX6_isIn, .static yX6_isIn, .code yX6_isIn cX6_isIn 3 (some .boolean), .methodLink RX6 113 yX6_no, .instanceMethod yX6_no, .selects RX6 yX6_no yX6_no, .code yX6_no cX6_no 2 (some .int)] ++ wsX60 ++ wsX50)
def wsX6_says : List Cond := .code yX6_says cX6_says 3 (some .boolean) :: ([.fieldLink RX6 41 "BarometerLeagueModel" "thrown" "I", .methodLink RX6 121 yX6_isSign, .instanceMethod yX6_isSign, .selects RX6 yX6_isSign yX6_isSign, .initialized RX6, .code yX6_isSign cX6_isSign 2 (some .boolean), .fieldLink RX6 45 "BarometerLeagueModel" "signs" "I", .methodLink RX6 48 yX6_isIn, .static yX6_isIn, .code yX6_isIn cX6_isIn 3 (some .boolean), .methodLink RX6 55 yX6_isRain, .instanceMethod yX6_isRain, .selects RX6 yX6_isRain yX6_isRain, .code yX6_isRain cX6_isRain 5 (some .boolean), .fieldLink RX6 16 "BarometerLeagueModel" "kind" "[I", .fieldLink RX6 9 "BarometerLeagueModel" "glass" "[I", .fieldLink RX6 19 "BarometerLeagueModel" "number" "[I", .fieldLink RX6 13 "BarometerLeagueModel" "rains" "[I"] ++ wsX60)
def wsX6_signTold : List Cond := .code yX6_signTold cX6_signTold 5 (some .int) :: ([.fieldLink RX6 16 "BarometerLeagueModel" "kind" "[I", .fieldLink RX6 19 "BarometerLeagueModel" "number" "[I", .fieldLink RX6 52 "BarometerLeagueModel" "villages" "I", .fieldLink RX6 28 "BarometerLeagueModel" "now" "LBarometerLeagueModel$State;", .methodLink RX6 124 yX6_rightDays, .instanceMethod yX6_rightDays, .selects RX6 yX6_rightDays yX6_rightDays, .initialized RX6, .code yX6_rightDays cX6_rightDays 4 (some .int), .methodLink RX6 59 yX6_isRight, .instanceMethod yX6_isRight, .selects RX6 yX6_isRight yX6_isRight, .code yX6_isRight cX6_isRight 3 (some .boolean), .fieldLink RX6 13 "BarometerLeagueModel" "rains" "[I", .methodLink RX6 55 yX6_isRain, .instanceMethod yX6_isRain, .selects RX6 yX6_isRain yX6_isRain, .code yX6_isRain cX6_isRain 5 (some .boolean), .fieldLink RX6 9 "BarometerLeagueModel" "glass" "[I"] ++ wsX60 ++ wsX50)
def wsX6_told_r1 : List Cond := [Cond.fieldLink RX6 41 "BarometerLeagueModel" "thrown" "I", Cond.methodLink RX6 121 yX6_isSign, Cond.instanceMethod yX6_isSign, Cond.selects RX6 yX6_isSign yX6_isSign, Cond.initialized RX6, Cond.code yX6_isSign cX6_isSign 2 (some .boolean), Cond.fieldLink RX6 45 "BarometerLeagueModel" "signs" "I", Cond.methodLink RX6 48 yX6_isIn, Cond.static yX6_isIn, Cond.code yX6_isIn cX6_isIn 3 (some .boolean), Cond.methodLink RX6 127 yX6_signTold, Cond.instanceMethod yX6_signTold, Cond.selects RX6 yX6_signTold yX6_signTold, Cond.code yX6_signTold cX6_signTold 5 (some .int), Cond.fieldLink RX6 16 "BarometerLeagueModel" "kind" "[I", Cond.fieldLink RX6 19 "BarometerLeagueModel" "number" "[I", Cond.fieldLink RX6 52 "BarometerLeagueModel" "villages" "I", Cond.fieldLink RX6 28 "BarometerLeagueModel" "now" "LBarometerLeagueModel$State;", Cond.methodLink RX6 124 yX6_rightDays, Cond.instanceMethod yX6_rightDays, Cond.selects RX6 yX6_rightDays yX6_rightDays, Cond.code yX6_rightDays cX6_rightDays 4 (some .int), Cond.methodLink RX6 59 yX6_isRight, Cond.instanceMethod yX6_isRight]
def wsX6_told_r2 : List Cond := [Cond.selects RX6 yX6_isRight yX6_isRight, Cond.code yX6_isRight cX6_isRight 3 (some .boolean), Cond.fieldLink RX6 13 "BarometerLeagueModel" "rains" "[I", Cond.methodLink RX6 55 yX6_isRain, Cond.instanceMethod yX6_isRain, Cond.selects RX6 yX6_isRain yX6_isRain, Cond.code yX6_isRain cX6_isRain 5 (some .boolean), Cond.fieldLink RX6 9 "BarometerLeagueModel" "glass" "[I", Cond.methodLink RX6 113 yX6_no, Cond.instanceMethod yX6_no, Cond.selects RX6 yX6_no yX6_no, Cond.code yX6_no cX6_no 2 (some .int)]
def wsX6_told : List Cond := .code yX6_told cX6_told 3 (some .int) :: ((wsX6_told_r1 ++ wsX6_told_r2) ++ wsX60 ++ wsX50)
def wsX6_weight : List Cond := .code yX6_weight cX6_weight 3 (some .int) :: ([.fieldLink RX6 41 "BarometerLeagueModel" "thrown" "I", .fieldLink RX6 28 "BarometerLeagueModel" "now" "LBarometerLeagueModel$State;", .methodLink RX6 117 yX6_isVillage, .instanceMethod yX6_isVillage, .selects RX6 yX6_isVillage yX6_isVillage, .initialized RX6, .code yX6_isVillage cX6_isVillage 2 (some .boolean), .fieldLink RX6 52 "BarometerLeagueModel" "villages" "I", .methodLink RX6 48 yX6_isIn, .static yX6_isIn, .code yX6_isIn cX6_isIn 3 (some .boolean), .methodLink RX6 121 yX6_isSign, .instanceMethod yX6_isSign, .selects RX6 yX6_isSign yX6_isSign, .code yX6_isSign cX6_isSign 2 (some .boolean), .fieldLink RX6 45 "BarometerLeagueModel" "signs" "I", .methodLink RX6 113 yX6_no, .instanceMethod yX6_no, .selects RX6 yX6_no yX6_no, .code yX6_no cX6_no 2 (some .int)] ++ wsX60 ++ wsX50)
def wsX6_weightsOf : List Cond := .code yX6_weightsOf cX6_weightsOf 4 (some .int) :: ([.fieldLink RX6 45 "BarometerLeagueModel" "signs" "I", .fieldLink RX6 28 "BarometerLeagueModel" "now" "LBarometerLeagueModel$State;"] ++ wsX60 ++ wsX50)
def wsX6_villageTold_r1 : List Cond := [Cond.fieldLink RX6 28 "BarometerLeagueModel" "now" "LBarometerLeagueModel$State;", Cond.methodLink RX6 87 yX6_look, Cond.instanceMethod yX6_look, Cond.selects RX6 yX6_look yX6_look, Cond.initialized RX6, Cond.code yX6_look cX6_look 3 none, Cond.fieldLink RX6 45 "BarometerLeagueModel" "signs" "I", Cond.fieldLink RX6 22 "BarometerLeagueModel" "said" "[I", Cond.methodLink RX6 55 yX6_isRain, Cond.instanceMethod yX6_isRain, Cond.selects RX6 yX6_isRain yX6_isRain, Cond.code yX6_isRain cX6_isRain 5 (some .boolean), Cond.fieldLink RX6 16 "BarometerLeagueModel" "kind" "[I", Cond.fieldLink RX6 9 "BarometerLeagueModel" "glass" "[I", Cond.fieldLink RX6 19 "BarometerLeagueModel" "number" "[I", Cond.fieldLink RX6 13 "BarometerLeagueModel" "rains" "[I", Cond.methodLink RX6 130 yX6_weightsOf, Cond.instanceMethod yX6_weightsOf, Cond.selects RX6 yX6_weightsOf yX6_weightsOf, Cond.code yX6_weightsOf cX6_weightsOf 4 (some .int), Cond.methodLink RX6 133 yX6_placeOf, Cond.instanceMethod yX6_placeOf, Cond.selects RX6 yX6_placeOf yX6_placeOf, Cond.code yX6_placeOf cX6_placeOf 4 (some .int)]
def wsX6_villageTold_r2 : List Cond := [Cond.fieldLink RX6 52 "BarometerLeagueModel" "villages" "I", Cond.methodLink RX6 109 yX6_isBetter, Cond.static yX6_isBetter, Cond.code yX6_isBetter cX6_isBetter 3 (some .boolean), Cond.methodLink RX6 62 yX6_lean, Cond.instanceMethod yX6_lean, Cond.selects RX6 yX6_lean yX6_lean, Cond.code yX6_lean cX6_lean 5 (some .int)]
def wsX6_villageTold : List Cond := .code yX6_villageTold cX6_villageTold 3 (some .int) :: ((wsX6_villageTold_r1 ++ wsX6_villageTold_r2) ++ wsX60 ++ wsX50)
def wsX6_about_r1 : List Cond := [Cond.fieldLink RX6 41 "BarometerLeagueModel" "thrown" "I", Cond.methodLink RX6 117 yX6_isVillage, Cond.instanceMethod yX6_isVillage, Cond.selects RX6 yX6_isVillage yX6_isVillage, Cond.initialized RX6, Cond.code yX6_isVillage cX6_isVillage 2 (some .boolean), Cond.fieldLink RX6 52 "BarometerLeagueModel" "villages" "I", Cond.methodLink RX6 48 yX6_isIn, Cond.static yX6_isIn, Cond.code yX6_isIn cX6_isIn 3 (some .boolean), Cond.methodLink RX6 136 yX6_villageTold, Cond.instanceMethod yX6_villageTold, Cond.selects RX6 yX6_villageTold yX6_villageTold, Cond.code yX6_villageTold cX6_villageTold 3 (some .int), Cond.fieldLink RX6 28 "BarometerLeagueModel" "now" "LBarometerLeagueModel$State;", Cond.methodLink RX6 87 yX6_look, Cond.instanceMethod yX6_look, Cond.selects RX6 yX6_look yX6_look, Cond.code yX6_look cX6_look 3 none, Cond.fieldLink RX6 45 "BarometerLeagueModel" "signs" "I", Cond.fieldLink RX6 22 "BarometerLeagueModel" "said" "[I", Cond.methodLink RX6 55 yX6_isRain, Cond.instanceMethod yX6_isRain, Cond.selects RX6 yX6_isRain yX6_isRain]
def wsX6_about_r2 : List Cond := [Cond.code yX6_isRain cX6_isRain 5 (some .boolean), Cond.fieldLink RX6 16 "BarometerLeagueModel" "kind" "[I", Cond.fieldLink RX6 9 "BarometerLeagueModel" "glass" "[I", Cond.fieldLink RX6 19 "BarometerLeagueModel" "number" "[I", Cond.fieldLink RX6 13 "BarometerLeagueModel" "rains" "[I", Cond.methodLink RX6 130 yX6_weightsOf, Cond.instanceMethod yX6_weightsOf, Cond.selects RX6 yX6_weightsOf yX6_weightsOf, Cond.code yX6_weightsOf cX6_weightsOf 4 (some .int), Cond.methodLink RX6 133 yX6_placeOf, Cond.instanceMethod yX6_placeOf, Cond.selects RX6 yX6_placeOf yX6_placeOf, Cond.code yX6_placeOf cX6_placeOf 4 (some .int), Cond.methodLink RX6 109 yX6_isBetter, Cond.static yX6_isBetter, Cond.code yX6_isBetter cX6_isBetter 3 (some .boolean), Cond.methodLink RX6 62 yX6_lean, Cond.instanceMethod yX6_lean, Cond.selects RX6 yX6_lean yX6_lean, Cond.code yX6_lean cX6_lean 5 (some .int), Cond.methodLink RX6 113 yX6_no, Cond.instanceMethod yX6_no, Cond.selects RX6 yX6_no yX6_no, Cond.code yX6_no cX6_no 2 (some .int)]
def wsX6_about : List Cond := .code yX6_about cX6_about 3 (some .int) :: ((wsX6_about_r1 ++ wsX6_about_r2) ++ wsX60 ++ wsX50)
def wsX6_at : List Cond := .code yX6_at cX6_at 3 (some .int) :: ([.fieldLink RX6 41 "BarometerLeagueModel" "thrown" "I", .fieldLink RX6 52 "BarometerLeagueModel" "villages" "I", .methodLink RX6 133 yX6_placeOf, .instanceMethod yX6_placeOf, .selects RX6 yX6_placeOf yX6_placeOf, .initialized RX6, .code yX6_placeOf cX6_placeOf 4 (some .int), .fieldLink RX6 28 "BarometerLeagueModel" "now" "LBarometerLeagueModel$State;", .methodLink RX6 109 yX6_isBetter, .static yX6_isBetter, .code yX6_isBetter cX6_isBetter 3 (some .boolean), .methodLink RX6 113 yX6_no, .instanceMethod yX6_no, .selects RX6 yX6_no yX6_no, .code yX6_no cX6_no 2 (some .int)] ++ wsX60 ++ wsX50)
def wsX6_counted_r1 : List Cond := [Cond.fieldLink RX6 45 "BarometerLeagueModel" "signs" "I", Cond.fieldLink RX6 52 "BarometerLeagueModel" "villages" "I", Cond.fieldLink RX6 13 "BarometerLeagueModel" "rains" "[I", Cond.methodLink RX6 139 yX6_sumOf, Cond.instanceMethod yX6_sumOf, Cond.selects RX6 yX6_sumOf yX6_sumOf, Cond.initialized RX6, Cond.code yX6_sumOf cX6_sumOf 4 (some .int), Cond.methodLink RX6 143 yX6_rainGuessed, Cond.instanceMethod yX6_rainGuessed, Cond.selects RX6 yX6_rainGuessed yX6_rainGuessed, Cond.code yX6_rainGuessed cX6_rainGuessed 4 (some .int), Cond.methodLink RX6 87 yX6_look, Cond.instanceMethod yX6_look, Cond.selects RX6 yX6_look yX6_look, Cond.code yX6_look cX6_look 3 none, Cond.fieldLink RX6 22 "BarometerLeagueModel" "said" "[I", Cond.methodLink RX6 55 yX6_isRain, Cond.instanceMethod yX6_isRain, Cond.selects RX6 yX6_isRain yX6_isRain, Cond.code yX6_isRain cX6_isRain 5 (some .boolean), Cond.fieldLink RX6 16 "BarometerLeagueModel" "kind" "[I", Cond.fieldLink RX6 9 "BarometerLeagueModel" "glass" "[I", Cond.fieldLink RX6 19 "BarometerLeagueModel" "number" "[I"]
def wsX6_counted_r2 : List Cond := [Cond.methodLink RX6 62 yX6_lean, Cond.instanceMethod yX6_lean, Cond.selects RX6 yX6_lean yX6_lean, Cond.code yX6_lean cX6_lean 5 (some .int)]
def wsX6_counted : List Cond := .code yX6_counted cX6_counted 5 (some .int) :: ((wsX6_counted_r1 ++ wsX6_counted_r2) ++ wsX50 ++ wsX60)
def wsX6_count_r1 : List Cond := [Cond.fieldLink RX6 41 "BarometerLeagueModel" "thrown" "I", Cond.fieldLink RX6 28 "BarometerLeagueModel" "now" "LBarometerLeagueModel$State;", Cond.methodLink RX6 48 yX6_isIn, Cond.static yX6_isIn, Cond.initialized RX6, Cond.code yX6_isIn cX6_isIn 3 (some .boolean), Cond.methodLink RX6 147 yX6_counted, Cond.instanceMethod yX6_counted, Cond.selects RX6 yX6_counted yX6_counted, Cond.code yX6_counted cX6_counted 5 (some .int), Cond.fieldLink RX6 45 "BarometerLeagueModel" "signs" "I", Cond.fieldLink RX6 52 "BarometerLeagueModel" "villages" "I", Cond.fieldLink RX6 13 "BarometerLeagueModel" "rains" "[I", Cond.methodLink RX6 139 yX6_sumOf, Cond.instanceMethod yX6_sumOf, Cond.selects RX6 yX6_sumOf yX6_sumOf, Cond.code yX6_sumOf cX6_sumOf 4 (some .int), Cond.methodLink RX6 143 yX6_rainGuessed, Cond.instanceMethod yX6_rainGuessed, Cond.selects RX6 yX6_rainGuessed yX6_rainGuessed, Cond.code yX6_rainGuessed cX6_rainGuessed 4 (some .int), Cond.methodLink RX6 87 yX6_look, Cond.instanceMethod yX6_look, Cond.selects RX6 yX6_look yX6_look]
def wsX6_count_r2 : List Cond := [Cond.code yX6_look cX6_look 3 none, Cond.fieldLink RX6 22 "BarometerLeagueModel" "said" "[I", Cond.methodLink RX6 55 yX6_isRain, Cond.instanceMethod yX6_isRain, Cond.selects RX6 yX6_isRain yX6_isRain, Cond.code yX6_isRain cX6_isRain 5 (some .boolean), Cond.fieldLink RX6 16 "BarometerLeagueModel" "kind" "[I", Cond.fieldLink RX6 9 "BarometerLeagueModel" "glass" "[I", Cond.fieldLink RX6 19 "BarometerLeagueModel" "number" "[I", Cond.methodLink RX6 62 yX6_lean, Cond.instanceMethod yX6_lean, Cond.selects RX6 yX6_lean yX6_lean, Cond.code yX6_lean cX6_lean 5 (some .int), Cond.methodLink RX6 113 yX6_no, Cond.instanceMethod yX6_no, Cond.selects RX6 yX6_no yX6_no, Cond.code yX6_no cX6_no 2 (some .int)]
def wsX6_count : List Cond := .code yX6_count cX6_count 2 (some .int) :: ((wsX6_count_r1 ++ wsX6_count_r2) ++ wsX60 ++ wsX50)
def wsX6_pass__r1 : List Cond := [Cond.fieldLink RX6 41 "BarometerLeagueModel" "thrown" "I", Cond.fieldLink RX6 28 "BarometerLeagueModel" "now" "LBarometerLeagueModel$State;", Cond.methodLink RX6 48 yX6_isIn, Cond.static yX6_isIn, Cond.initialized RX6, Cond.code yX6_isIn cX6_isIn 3 (some .boolean), Cond.methodLink RX6 113 yX6_no, Cond.instanceMethod yX6_no, Cond.selects RX6 yX6_no yX6_no, Cond.code yX6_no cX6_no 2 (some .int), Cond.methodLink RX6 150 yX6_passAll, Cond.instanceMethod yX6_passAll, Cond.selects RX6 yX6_passAll yX6_passAll, Cond.code yX6_passAll cX6_passAll 4 (some (.object "BarometerLeagueModel$State")), Cond.methodLink RX6 102 yX6_pass, Cond.instanceMethod yX6_pass, Cond.selects RX6 yX6_pass yX6_pass, Cond.code yX6_pass cX6_pass 4 none, Cond.fieldLink RX6 13 "BarometerLeagueModel" "rains" "[I", Cond.fieldLink RX6 52 "BarometerLeagueModel" "villages" "I", Cond.methodLink RX6 87 yX6_look, Cond.instanceMethod yX6_look, Cond.selects RX6 yX6_look yX6_look, Cond.code yX6_look cX6_look 3 none]
def wsX6_pass__r2 : List Cond := [Cond.fieldLink RX6 45 "BarometerLeagueModel" "signs" "I", Cond.fieldLink RX6 22 "BarometerLeagueModel" "said" "[I", Cond.methodLink RX6 55 yX6_isRain, Cond.instanceMethod yX6_isRain, Cond.selects RX6 yX6_isRain yX6_isRain, Cond.code yX6_isRain cX6_isRain 5 (some .boolean), Cond.fieldLink RX6 16 "BarometerLeagueModel" "kind" "[I", Cond.fieldLink RX6 9 "BarometerLeagueModel" "glass" "[I", Cond.fieldLink RX6 19 "BarometerLeagueModel" "number" "[I", Cond.methodLink RX6 91 yX6_guess, Cond.instanceMethod yX6_guess, Cond.selects RX6 yX6_guess yX6_guess, Cond.code yX6_guess cX6_guess 5 none, Cond.methodLink RX6 62 yX6_lean, Cond.instanceMethod yX6_lean, Cond.selects RX6 yX6_lean yX6_lean, Cond.code yX6_lean cX6_lean 5 (some .int), Cond.methodLink RX6 95 yX6_learn, Cond.instanceMethod yX6_learn, Cond.selects RX6 yX6_learn yX6_learn, Cond.code yX6_learn cX6_learn 6 none, Cond.methodLink RX6 75 Lib.Math.min.name, Cond.static Lib.Math.min.name, Cond.initialized "java/lang/Math"]
def wsX6_pass__r3 : List Cond := [Cond.code Lib.Math.min.name Lib.Math.min.code 2 (some .int), Cond.methodLink RX6 98 yX6_sell, Cond.static yX6_sell, Cond.code yX6_sell cX6_sell 2 none, Cond.methodLink RX6 81 Lib.Math.max.name, Cond.static Lib.Math.max.name, Cond.code Lib.Math.max.name Lib.Math.max.code 2 (some .int)]
def wsX6_pass_ : List Cond := .code yX6_pass_ cX6_pass_ 3 (some .int) :: ((wsX6_pass__r1 ++ (wsX6_pass__r2 ++ wsX6_pass__r3)) ++ wsX60 ++ wsX50)
def wsX6_foresee_r1 : List Cond := [Cond.fieldLink RX6 41 "BarometerLeagueModel" "thrown" "I", Cond.methodLink RX6 48 yX6_isIn, Cond.static yX6_isIn, Cond.initialized RX6, Cond.code yX6_isIn cX6_isIn 3 (some .boolean), Cond.methodLink RX6 113 yX6_no, Cond.instanceMethod yX6_no, Cond.selects RX6 yX6_no yX6_no, Cond.code yX6_no cX6_no 2 (some .int), Cond.methodLink RX6 154 yX6_lookAhead, Cond.instanceMethod yX6_lookAhead, Cond.selects RX6 yX6_lookAhead yX6_lookAhead, Cond.code yX6_lookAhead cX6_lookAhead 1 (some (.object "BarometerLeagueModel$State")), Cond.fieldLink RX6 32 "BarometerLeagueModel" "ahead" "LBarometerLeagueModel$State;", Cond.fieldLink RX6 28 "BarometerLeagueModel" "now" "LBarometerLeagueModel$State;", Cond.methodLink RX6 106 yX5_become, Cond.instanceMethod yX5_become, Cond.selects RX5 yX5_become yX5_become, Cond.initialized RX5, Cond.code yX5_become cX5_become 2 none, Cond.fieldLink RX5 30 "BarometerLeagueModel$State" "day" "I", Cond.fieldLink RX5 34 "BarometerLeagueModel$State" "hits" "I", Cond.fieldLink RX5 9 "BarometerLeagueModel$State" "points" "[I", Cond.fieldLink RX5 15 "BarometerLeagueModel$State" "coins" "[I"]
def wsX6_foresee_r2 : List Cond := [Cond.fieldLink RX5 18 "BarometerLeagueModel$State" "row" "[I", Cond.fieldLink RX5 21 "BarometerLeagueModel$State" "weight" "[I", Cond.methodLink RX5 37 yX5_copy, Cond.static yX5_copy, Cond.code yX5_copy cX5_copy 2 none, Cond.methodLink RX5 24 arraycopyName, Cond.native arraycopyName, Cond.static arraycopyName, Cond.initialized "java/lang/System", Cond.methodLink RX6 150 yX6_passAll, Cond.instanceMethod yX6_passAll, Cond.selects RX6 yX6_passAll yX6_passAll, Cond.code yX6_passAll cX6_passAll 4 (some (.object "BarometerLeagueModel$State")), Cond.methodLink RX6 102 yX6_pass, Cond.instanceMethod yX6_pass, Cond.selects RX6 yX6_pass yX6_pass, Cond.code yX6_pass cX6_pass 4 none, Cond.fieldLink RX6 13 "BarometerLeagueModel" "rains" "[I", Cond.fieldLink RX6 52 "BarometerLeagueModel" "villages" "I", Cond.methodLink RX6 87 yX6_look, Cond.instanceMethod yX6_look, Cond.selects RX6 yX6_look yX6_look, Cond.code yX6_look cX6_look 3 none, Cond.fieldLink RX6 45 "BarometerLeagueModel" "signs" "I"]
def wsX6_foresee_r3 : List Cond := [Cond.fieldLink RX6 22 "BarometerLeagueModel" "said" "[I", Cond.methodLink RX6 55 yX6_isRain, Cond.instanceMethod yX6_isRain, Cond.selects RX6 yX6_isRain yX6_isRain, Cond.code yX6_isRain cX6_isRain 5 (some .boolean), Cond.fieldLink RX6 16 "BarometerLeagueModel" "kind" "[I", Cond.fieldLink RX6 9 "BarometerLeagueModel" "glass" "[I", Cond.fieldLink RX6 19 "BarometerLeagueModel" "number" "[I", Cond.methodLink RX6 91 yX6_guess, Cond.instanceMethod yX6_guess, Cond.selects RX6 yX6_guess yX6_guess, Cond.code yX6_guess cX6_guess 5 none, Cond.methodLink RX6 62 yX6_lean, Cond.instanceMethod yX6_lean, Cond.selects RX6 yX6_lean yX6_lean, Cond.code yX6_lean cX6_lean 5 (some .int), Cond.methodLink RX6 95 yX6_learn, Cond.instanceMethod yX6_learn, Cond.selects RX6 yX6_learn yX6_learn, Cond.code yX6_learn cX6_learn 6 none, Cond.methodLink RX6 75 Lib.Math.min.name, Cond.static Lib.Math.min.name, Cond.initialized "java/lang/Math", Cond.code Lib.Math.min.name Lib.Math.min.code 2 (some .int)]
def wsX6_foresee_r4 : List Cond := [Cond.methodLink RX6 98 yX6_sell, Cond.static yX6_sell, Cond.code yX6_sell cX6_sell 2 none, Cond.methodLink RX6 81 Lib.Math.max.name, Cond.static Lib.Math.max.name, Cond.code Lib.Math.max.name Lib.Math.max.code 2 (some .int), Cond.methodLink RX6 147 yX6_counted, Cond.instanceMethod yX6_counted, Cond.selects RX6 yX6_counted yX6_counted, Cond.code yX6_counted cX6_counted 5 (some .int), Cond.methodLink RX6 139 yX6_sumOf, Cond.instanceMethod yX6_sumOf, Cond.selects RX6 yX6_sumOf yX6_sumOf, Cond.code yX6_sumOf cX6_sumOf 4 (some .int), Cond.methodLink RX6 143 yX6_rainGuessed, Cond.instanceMethod yX6_rainGuessed, Cond.selects RX6 yX6_rainGuessed yX6_rainGuessed, Cond.code yX6_rainGuessed cX6_rainGuessed 4 (some .int)]
def wsX6_foresee : List Cond := .code yX6_foresee cX6_foresee 3 (some .int) :: ((wsX6_foresee_r1 ++ (wsX6_foresee_r2 ++ (wsX6_foresee_r3 ++ wsX6_foresee_r4))) ++ wsX60 ++ wsX50)
def wsX6_overtakes_r1 : List Cond := [Cond.fieldLink RX6 41 "BarometerLeagueModel" "thrown" "I", Cond.fieldLink RX6 32 "BarometerLeagueModel" "ahead" "LBarometerLeagueModel$State;", Cond.methodLink RX6 117 yX6_isVillage, Cond.instanceMethod yX6_isVillage, Cond.selects RX6 yX6_isVillage yX6_isVillage, Cond.initialized RX6, Cond.code yX6_isVillage cX6_isVillage 2 (some .boolean), Cond.fieldLink RX6 52 "BarometerLeagueModel" "villages" "I", Cond.methodLink RX6 48 yX6_isIn, Cond.static yX6_isIn, Cond.code yX6_isIn cX6_isIn 3 (some .boolean), Cond.methodLink RX6 113 yX6_no, Cond.instanceMethod yX6_no, Cond.selects RX6 yX6_no yX6_no, Cond.code yX6_no cX6_no 2 (some .int), Cond.methodLink RX6 154 yX6_lookAhead, Cond.instanceMethod yX6_lookAhead, Cond.selects RX6 yX6_lookAhead yX6_lookAhead, Cond.code yX6_lookAhead cX6_lookAhead 1 (some (.object "BarometerLeagueModel$State")), Cond.fieldLink RX6 28 "BarometerLeagueModel" "now" "LBarometerLeagueModel$State;", Cond.methodLink RX6 106 yX5_become, Cond.instanceMethod yX5_become, Cond.selects RX5 yX5_become yX5_become, Cond.initialized RX5]
def wsX6_overtakes_r2 : List Cond := [Cond.code yX5_become cX5_become 2 none, Cond.fieldLink RX5 30 "BarometerLeagueModel$State" "day" "I", Cond.fieldLink RX5 34 "BarometerLeagueModel$State" "hits" "I", Cond.fieldLink RX5 9 "BarometerLeagueModel$State" "points" "[I", Cond.fieldLink RX5 15 "BarometerLeagueModel$State" "coins" "[I", Cond.fieldLink RX5 18 "BarometerLeagueModel$State" "row" "[I", Cond.fieldLink RX5 21 "BarometerLeagueModel$State" "weight" "[I", Cond.methodLink RX5 37 yX5_copy, Cond.static yX5_copy, Cond.code yX5_copy cX5_copy 2 none, Cond.methodLink RX5 24 arraycopyName, Cond.native arraycopyName, Cond.static arraycopyName, Cond.initialized "java/lang/System", Cond.methodLink RX6 109 yX6_isBetter, Cond.static yX6_isBetter, Cond.code yX6_isBetter cX6_isBetter 3 (some .boolean), Cond.methodLink RX6 102 yX6_pass, Cond.instanceMethod yX6_pass, Cond.selects RX6 yX6_pass yX6_pass, Cond.code yX6_pass cX6_pass 4 none, Cond.fieldLink RX6 13 "BarometerLeagueModel" "rains" "[I", Cond.methodLink RX6 87 yX6_look, Cond.instanceMethod yX6_look]
def wsX6_overtakes_r3 : List Cond := [Cond.selects RX6 yX6_look yX6_look, Cond.code yX6_look cX6_look 3 none, Cond.fieldLink RX6 45 "BarometerLeagueModel" "signs" "I", Cond.fieldLink RX6 22 "BarometerLeagueModel" "said" "[I", Cond.methodLink RX6 55 yX6_isRain, Cond.instanceMethod yX6_isRain, Cond.selects RX6 yX6_isRain yX6_isRain, Cond.code yX6_isRain cX6_isRain 5 (some .boolean), Cond.fieldLink RX6 16 "BarometerLeagueModel" "kind" "[I", Cond.fieldLink RX6 9 "BarometerLeagueModel" "glass" "[I", Cond.fieldLink RX6 19 "BarometerLeagueModel" "number" "[I", Cond.methodLink RX6 91 yX6_guess, Cond.instanceMethod yX6_guess, Cond.selects RX6 yX6_guess yX6_guess, Cond.code yX6_guess cX6_guess 5 none, Cond.methodLink RX6 62 yX6_lean, Cond.instanceMethod yX6_lean, Cond.selects RX6 yX6_lean yX6_lean, Cond.code yX6_lean cX6_lean 5 (some .int), Cond.methodLink RX6 95 yX6_learn, Cond.instanceMethod yX6_learn, Cond.selects RX6 yX6_learn yX6_learn, Cond.code yX6_learn cX6_learn 6 none, Cond.methodLink RX6 75 Lib.Math.min.name]
def wsX6_overtakes_r4 : List Cond := [Cond.static Lib.Math.min.name, Cond.initialized "java/lang/Math", Cond.code Lib.Math.min.name Lib.Math.min.code 2 (some .int), Cond.methodLink RX6 98 yX6_sell, Cond.static yX6_sell, Cond.code yX6_sell cX6_sell 2 none, Cond.methodLink RX6 81 Lib.Math.max.name, Cond.static Lib.Math.max.name, Cond.code Lib.Math.max.name Lib.Math.max.code 2 (some .int)]
def wsX6_overtakes : List Cond := .code yX6_overtakes cX6_overtakes 4 (some .int) :: ((wsX6_overtakes_r1 ++ (wsX6_overtakes_r2 ++ (wsX6_overtakes_r3 ++ wsX6_overtakes_r4))) ++ wsX60 ++ wsX50)
def wsX6_advise_r1 : List Cond := [Cond.fieldLink RX6 41 "BarometerLeagueModel" "thrown" "I", Cond.fieldLink RX6 45 "BarometerLeagueModel" "signs" "I", Cond.fieldLink RX6 32 "BarometerLeagueModel" "ahead" "LBarometerLeagueModel$State;", Cond.methodLink RX6 117 yX6_isVillage, Cond.instanceMethod yX6_isVillage, Cond.selects RX6 yX6_isVillage yX6_isVillage, Cond.initialized RX6, Cond.code yX6_isVillage cX6_isVillage 2 (some .boolean), Cond.fieldLink RX6 52 "BarometerLeagueModel" "villages" "I", Cond.methodLink RX6 48 yX6_isIn, Cond.static yX6_isIn, Cond.code yX6_isIn cX6_isIn 3 (some .boolean), Cond.methodLink RX6 113 yX6_no, Cond.instanceMethod yX6_no, Cond.selects RX6 yX6_no yX6_no, Cond.code yX6_no cX6_no 2 (some .int), Cond.methodLink RX6 154 yX6_lookAhead, Cond.instanceMethod yX6_lookAhead, Cond.selects RX6 yX6_lookAhead yX6_lookAhead, Cond.code yX6_lookAhead cX6_lookAhead 1 (some (.object "BarometerLeagueModel$State")), Cond.fieldLink RX6 28 "BarometerLeagueModel" "now" "LBarometerLeagueModel$State;", Cond.methodLink RX6 106 yX5_become, Cond.instanceMethod yX5_become, Cond.selects RX5 yX5_become yX5_become]
def wsX6_advise_r2 : List Cond := [Cond.initialized RX5, Cond.code yX5_become cX5_become 2 none, Cond.fieldLink RX5 30 "BarometerLeagueModel$State" "day" "I", Cond.fieldLink RX5 34 "BarometerLeagueModel$State" "hits" "I", Cond.fieldLink RX5 9 "BarometerLeagueModel$State" "points" "[I", Cond.fieldLink RX5 15 "BarometerLeagueModel$State" "coins" "[I", Cond.fieldLink RX5 18 "BarometerLeagueModel$State" "row" "[I", Cond.fieldLink RX5 21 "BarometerLeagueModel$State" "weight" "[I", Cond.methodLink RX5 37 yX5_copy, Cond.static yX5_copy, Cond.code yX5_copy cX5_copy 2 none, Cond.methodLink RX5 24 arraycopyName, Cond.native arraycopyName, Cond.static arraycopyName, Cond.initialized "java/lang/System", Cond.methodLink RX6 150 yX6_passAll, Cond.instanceMethod yX6_passAll, Cond.selects RX6 yX6_passAll yX6_passAll, Cond.code yX6_passAll cX6_passAll 4 (some (.object "BarometerLeagueModel$State")), Cond.methodLink RX6 102 yX6_pass, Cond.instanceMethod yX6_pass, Cond.selects RX6 yX6_pass yX6_pass, Cond.code yX6_pass cX6_pass 4 none, Cond.fieldLink RX6 13 "BarometerLeagueModel" "rains" "[I"]
def wsX6_advise_r3 : List Cond := [Cond.methodLink RX6 87 yX6_look, Cond.instanceMethod yX6_look, Cond.selects RX6 yX6_look yX6_look, Cond.code yX6_look cX6_look 3 none, Cond.fieldLink RX6 22 "BarometerLeagueModel" "said" "[I", Cond.methodLink RX6 55 yX6_isRain, Cond.instanceMethod yX6_isRain, Cond.selects RX6 yX6_isRain yX6_isRain, Cond.code yX6_isRain cX6_isRain 5 (some .boolean), Cond.fieldLink RX6 16 "BarometerLeagueModel" "kind" "[I", Cond.fieldLink RX6 9 "BarometerLeagueModel" "glass" "[I", Cond.fieldLink RX6 19 "BarometerLeagueModel" "number" "[I", Cond.methodLink RX6 91 yX6_guess, Cond.instanceMethod yX6_guess, Cond.selects RX6 yX6_guess yX6_guess, Cond.code yX6_guess cX6_guess 5 none, Cond.methodLink RX6 62 yX6_lean, Cond.instanceMethod yX6_lean, Cond.selects RX6 yX6_lean yX6_lean, Cond.code yX6_lean cX6_lean 5 (some .int), Cond.methodLink RX6 95 yX6_learn, Cond.instanceMethod yX6_learn, Cond.selects RX6 yX6_learn yX6_learn, Cond.code yX6_learn cX6_learn 6 none]
def wsX6_advise_r4 : List Cond := [Cond.methodLink RX6 75 Lib.Math.min.name, Cond.static Lib.Math.min.name, Cond.initialized "java/lang/Math", Cond.code Lib.Math.min.name Lib.Math.min.code 2 (some .int), Cond.methodLink RX6 98 yX6_sell, Cond.static yX6_sell, Cond.code yX6_sell cX6_sell 2 none, Cond.methodLink RX6 81 Lib.Math.max.name, Cond.static Lib.Math.max.name, Cond.code Lib.Math.max.name Lib.Math.max.code 2 (some .int)]
def wsX6_advise : List Cond := .code yX6_advise cX6_advise 7 (some .int) :: ((wsX6_advise_r1 ++ (wsX6_advise_r2 ++ (wsX6_advise_r3 ++ wsX6_advise_r4))) ++ wsX60 ++ wsX50)
def wsX6_best : List Cond := .code yX6_best cX6_best 3 (some .int) :: ([.fieldLink RX6 41 "BarometerLeagueModel" "thrown" "I", .fieldLink RX6 45 "BarometerLeagueModel" "signs" "I", .methodLink RX6 124 yX6_rightDays, .instanceMethod yX6_rightDays, .selects RX6 yX6_rightDays yX6_rightDays, .initialized RX6, .code yX6_rightDays cX6_rightDays 4 (some .int), .methodLink RX6 59 yX6_isRight, .instanceMethod yX6_isRight, .selects RX6 yX6_isRight yX6_isRight, .code yX6_isRight cX6_isRight 3 (some .boolean), .fieldLink RX6 13 "BarometerLeagueModel" "rains" "[I", .methodLink RX6 55 yX6_isRain, .instanceMethod yX6_isRain, .selects RX6 yX6_isRain yX6_isRain, .code yX6_isRain cX6_isRain 5 (some .boolean), .fieldLink RX6 16 "BarometerLeagueModel" "kind" "[I", .fieldLink RX6 9 "BarometerLeagueModel" "glass" "[I", .fieldLink RX6 19 "BarometerLeagueModel" "number" "[I"] ++ wsX60)
def wsX6_mean : List Cond := .code yX6_mean cX6_mean 1 (some .double) :: ([.fieldLink RX6 41 "BarometerLeagueModel" "thrown" "I", .fieldLink RX6 52 "BarometerLeagueModel" "villages" "I", .fieldLink RX6 28 "BarometerLeagueModel" "now" "LBarometerLeagueModel$State;", .methodLink RX6 139 yX6_sumOf, .instanceMethod yX6_sumOf, .selects RX6 yX6_sumOf yX6_sumOf, .initialized RX6, .code yX6_sumOf cX6_sumOf 4 (some .int)] ++ wsX60 ++ wsX50)
def wsX6_digest_r1 : List Cond := [Cond.fieldLink RX6 41 "BarometerLeagueModel" "thrown" "I", Cond.constantLong RX6 158 (1459), Cond.constantLong RX6 160 (31), Cond.fieldLink RX6 28 "BarometerLeagueModel" "now" "LBarometerLeagueModel$State;", Cond.fieldLink RX6 9 "BarometerLeagueModel" "glass" "[I", Cond.fieldLink RX6 13 "BarometerLeagueModel" "rains" "[I", Cond.fieldLink RX6 45 "BarometerLeagueModel" "signs" "I", Cond.fieldLink RX6 52 "BarometerLeagueModel" "villages" "I", Cond.methodLink RX6 147 yX6_counted, Cond.instanceMethod yX6_counted, Cond.selects RX6 yX6_counted yX6_counted, Cond.initialized RX6, Cond.code yX6_counted cX6_counted 5 (some .int), Cond.methodLink RX6 139 yX6_sumOf, Cond.instanceMethod yX6_sumOf, Cond.selects RX6 yX6_sumOf yX6_sumOf, Cond.code yX6_sumOf cX6_sumOf 4 (some .int), Cond.methodLink RX6 143 yX6_rainGuessed, Cond.instanceMethod yX6_rainGuessed, Cond.selects RX6 yX6_rainGuessed yX6_rainGuessed, Cond.code yX6_rainGuessed cX6_rainGuessed 4 (some .int), Cond.methodLink RX6 87 yX6_look, Cond.instanceMethod yX6_look, Cond.selects RX6 yX6_look yX6_look]
def wsX6_digest_r2 : List Cond := [Cond.code yX6_look cX6_look 3 none, Cond.fieldLink RX6 22 "BarometerLeagueModel" "said" "[I", Cond.methodLink RX6 55 yX6_isRain, Cond.instanceMethod yX6_isRain, Cond.selects RX6 yX6_isRain yX6_isRain, Cond.code yX6_isRain cX6_isRain 5 (some .boolean), Cond.fieldLink RX6 16 "BarometerLeagueModel" "kind" "[I", Cond.fieldLink RX6 19 "BarometerLeagueModel" "number" "[I", Cond.methodLink RX6 62 yX6_lean, Cond.instanceMethod yX6_lean, Cond.selects RX6 yX6_lean yX6_lean, Cond.code yX6_lean cX6_lean 5 (some .int), Cond.methodLink RX6 127 yX6_signTold, Cond.instanceMethod yX6_signTold, Cond.selects RX6 yX6_signTold yX6_signTold, Cond.code yX6_signTold cX6_signTold 5 (some .int), Cond.methodLink RX6 124 yX6_rightDays, Cond.instanceMethod yX6_rightDays, Cond.selects RX6 yX6_rightDays yX6_rightDays, Cond.code yX6_rightDays cX6_rightDays 4 (some .int), Cond.methodLink RX6 59 yX6_isRight, Cond.instanceMethod yX6_isRight, Cond.selects RX6 yX6_isRight yX6_isRight, Cond.code yX6_isRight cX6_isRight 3 (some .boolean)]
def wsX6_digest_r3 : List Cond := [Cond.methodLink RX6 136 yX6_villageTold, Cond.instanceMethod yX6_villageTold, Cond.selects RX6 yX6_villageTold yX6_villageTold, Cond.code yX6_villageTold cX6_villageTold 3 (some .int), Cond.methodLink RX6 130 yX6_weightsOf, Cond.instanceMethod yX6_weightsOf, Cond.selects RX6 yX6_weightsOf yX6_weightsOf, Cond.code yX6_weightsOf cX6_weightsOf 4 (some .int), Cond.methodLink RX6 133 yX6_placeOf, Cond.instanceMethod yX6_placeOf, Cond.selects RX6 yX6_placeOf yX6_placeOf, Cond.code yX6_placeOf cX6_placeOf 4 (some .int), Cond.methodLink RX6 109 yX6_isBetter, Cond.static yX6_isBetter, Cond.code yX6_isBetter cX6_isBetter 3 (some .boolean)]
def wsX6_digest : List Cond := .code yX6_digest cX6_digest 5 (some .long) :: ((wsX6_digest_r1 ++ (wsX6_digest_r2 ++ wsX6_digest_r3)) ++ wsX60 ++ wsX50)
def wsJ9_max_7cf53 : List Cond := .code yJ9_max_7cf53 cJ9_max_7cf53 2 (some .int) :: ([])
def wsJ9_min_7cf53 : List Cond := .code yJ9_min_7cf53 cJ9_min_7cf53 2 (some .int) :: ([])
def wsL_setGlass_r1 : List Cond := [Cond.classLink RL 13 "java/lang/IndexOutOfBoundsException", Cond.classLink RL 15 "java/lang/IllegalArgumentException", Cond.methodLink RL 7 yX4_setGlass, Cond.instanceMethod yX4_setGlass, Cond.selects RX4 yX4_setGlass yX4_setGlass, Cond.initialized RX4, Cond.code yX4_setGlass cX4_setGlass 4 (some .int), Cond.classLink RX4 42 "java/lang/IllegalArgumentException", Cond.initialized "java/lang/IllegalArgumentException", Cond.fieldLink RX4 10 "BarometerLeague" "weather" "LBarometerLeague$Weather;", Cond.methodLink RX4 39 yX4_requireTableDay, Cond.static yX4_requireTableDay, Cond.code yX4_requireTableDay cX4_requireTableDay 1 none, Cond.classLink RX4 180 "java/lang/IndexOutOfBoundsException", Cond.initialized "java/lang/IndexOutOfBoundsException", Cond.methodLink RX4 49 yX3_glassOn, Cond.instanceMethod yX3_glassOn, Cond.selects RX3 yX3_glassOn yX3_glassOn, Cond.initialized RX3, Cond.code yX3_glassOn cX3_glassOn 2 (some .int), Cond.fieldLink RX3 9 "BarometerLeague$Weather" "glass" "[I", Cond.methodLink RX3 25 yJ9_floorMod_7cf53, Cond.static yJ9_floorMod_7cf53, Cond.initialized RJ9]
def wsL_setGlass_r2 : List Cond := [Cond.code yJ9_floorMod_7cf53 cJ9_floorMod_7cf53 3 (some .int), Cond.methodLink RX4 53 yX3_putGlass, Cond.instanceMethod yX3_putGlass, Cond.selects RX3 yX3_putGlass yX3_putGlass, Cond.code yX3_putGlass cX3_putGlass 3 none]
def wsL_setGlass : List Cond := .codeWith yL_setGlass cL_setGlass 5 (some .int) [(0, 10, 13, 13), (0, 10, 17, 15)] :: ((wsL_setGlass_r1 ++ wsL_setGlass_r2) ++ wsX40 ++ wsX30 ++ (vx_atS RX4 46 "java/lang/IllegalArgumentException" ["java/lang/RuntimeException", "java/lang/Exception"]).filter goodWord ++ (vx_atS RX4 184 "java/lang/IndexOutOfBoundsException" ["java/lang/RuntimeException", "java/lang/Exception"]).filter goodWord)
def wsL_setRain_r1 : List Cond := [Cond.classLink RL 13 "java/lang/IndexOutOfBoundsException", Cond.methodLink RL 17 yX4_setRain, Cond.instanceMethod yX4_setRain, Cond.selects RX4 yX4_setRain yX4_setRain, Cond.initialized RX4, Cond.code yX4_setRain cX4_setRain 4 (some .boolean), Cond.fieldLink RX4 10 "BarometerLeague" "weather" "LBarometerLeague$Weather;", Cond.methodLink RX4 39 yX4_requireTableDay, Cond.static yX4_requireTableDay, Cond.code yX4_requireTableDay cX4_requireTableDay 1 none, Cond.classLink RX4 180 "java/lang/IndexOutOfBoundsException", Cond.initialized "java/lang/IndexOutOfBoundsException", Cond.methodLink RX4 57 yX3_rainsOn, Cond.instanceMethod yX3_rainsOn, Cond.selects RX3 yX3_rainsOn yX3_rainsOn, Cond.initialized RX3, Cond.code yX3_rainsOn cX3_rainsOn 2 (some .boolean), Cond.fieldLink RX3 15 "BarometerLeague$Weather" "rain" "[Z", Cond.methodLink RX3 25 yJ9_floorMod_7cf53, Cond.static yJ9_floorMod_7cf53, Cond.initialized RJ9, Cond.code yJ9_floorMod_7cf53 cJ9_floorMod_7cf53 3 (some .int), Cond.methodLink RX4 61 yX3_putRain, Cond.instanceMethod yX3_putRain]
def wsL_setRain_r2 : List Cond := [Cond.selects RX3 yX3_putRain yX3_putRain, Cond.code yX3_putRain cX3_putRain 3 none]
def wsL_setRain : List Cond := .codeWith yL_setRain cL_setRain 5 (some .int) [(0, 17, 20, 13)] :: ((wsL_setRain_r1 ++ wsL_setRain_r2) ++ wsX40 ++ wsX30 ++ (vx_atS RX4 184 "java/lang/IndexOutOfBoundsException" ["java/lang/RuntimeException", "java/lang/Exception"]).filter goodWord)
def wsL_sign_r1 : List Cond := [Cond.classLink RL 15 "java/lang/IllegalArgumentException", Cond.classLink RL 24 "java/lang/IllegalStateException", Cond.methodLink RL 21 yX4_sign, Cond.instanceMethod yX4_sign, Cond.selects RX4 yX4_sign yX4_sign, Cond.initialized RX4, Cond.code yX4_sign cX4_sign 3 (some .int), Cond.classLink RX4 42 "java/lang/IllegalArgumentException", Cond.initialized "java/lang/IllegalArgumentException", Cond.classLink RX4 73 "java/lang/IllegalStateException", Cond.initialized "java/lang/IllegalStateException", Cond.fieldLink RX4 19 "BarometerLeague" "signs" "Ljava/util/ArrayList;", Cond.classLink RX4 78 RX0, Cond.instantiable RX0 2, Cond.initialized RX0, Cond.methodLink RX4 69 yJx4a65c_size_8abf5, Cond.instanceMethod yJx4a65c_size_8abf5, Cond.selects RJx4a65c yJx4a65c_size_8abf5 yJx4a65c_size_8abf5, Cond.initialized RJx4a65c, Cond.code yJx4a65c_size_8abf5 cJx4a65c_size_8abf5 1 (some .int), Cond.fieldLink RJx4a65c 48 "java/util/ArrayList" "size" "I", Cond.methodLink RX4 80 yX0_init, Cond.instanceMethod yX0_init, Cond.code yX0_init cX0_init 3 none]
def wsL_sign_r2 : List Cond := [Cond.methodLink RX0 3 objectInit, Cond.instanceMethod objectInit, Cond.code objectInit ⟨#[0xb1]⟩ 1 none, Cond.fieldLink RX0 9 "BarometerLeague$Sign" "kind" "I", Cond.fieldLink RX0 15 "BarometerLeague$Sign" "number" "I", Cond.methodLink RX4 82 yJx4a65c_add_9ea2d, Cond.instanceMethod yJx4a65c_add_9ea2d, Cond.selects RJx4a65c yJx4a65c_add_9ea2d yJx4a65c_add_9ea2d, Cond.code yJx4a65c_add_9ea2d cJx4a65c_add_9ea2d 2 (some .boolean), Cond.fieldLink RJx4a65c 63 "java/util/ArrayList" "modCount" "I", Cond.sameField "java/util/ArrayList" "java/util/AbstractList" "modCount" "I", Cond.fieldLink RJx4a65c 9 "java/util/ArrayList" "elementData" "[Ljava/lang/Object;", Cond.methodLink RJx4a65c 131 yJx4a65c_add_72be8, Cond.instanceMethod yJx4a65c_add_72be8, Cond.selects RJx4a65c yJx4a65c_add_72be8 yJx4a65c_add_72be8, Cond.code yJx4a65c_add_72be8 cJx4a65c_add_72be8 4 none, Cond.methodLink RJx4a65c 129 yJx4a65c_grow_d5877, Cond.instanceMethod yJx4a65c_grow_d5877, Cond.selects RJx4a65c yJx4a65c_grow_d5877 yJx4a65c_grow_d5877, Cond.code yJx4a65c_grow_d5877 cJx4a65c_grow_d5877 1 (some (.array (.object "java/lang/Object"))), Cond.methodLink RJx4a65c 69 yJx4a65c_grow_92f84, Cond.instanceMethod yJx4a65c_grow_92f84, Cond.selects RJx4a65c yJx4a65c_grow_92f84 yJx4a65c_grow_92f84, Cond.code yJx4a65c_grow_92f84 cJx4a65c_grow_92f84 4 (some (.array (.object "java/lang/Object")))]
def wsL_sign_r3 : List Cond := [Cond.fieldLink RJx4a65c 39 "java/util/ArrayList" "DEFAULTCAPACITY_EMPTY_ELEMENTDATA" "[Ljava/lang/Object;", Cond.methodLink RJx4a65c 79 Lib.Math.max.name, Cond.static Lib.Math.max.name, Cond.initialized "java/lang/Math", Cond.code Lib.Math.max.name Lib.Math.max.code 2 (some .int), Cond.classLink RJx4a65c 7 "java/lang/Object", Cond.methodLink RJx4a65c 73 yJ8_newLength_cabcc, Cond.static yJ8_newLength_cabcc, Cond.initialized RJ8, Cond.code yJ8_newLength_cabcc cJ8_newLength_cabcc 4 (some .int), Cond.methodLink RJ8 194 Lib.Math.max.name, Cond.constant RJ8 200 (2147483639), Cond.methodLink RJ8 201 yJ8_hugeLength_7cf53, Cond.static yJ8_hugeLength_7cf53, Cond.code yJ8_hugeLength_7cf53 cJ8_hugeLength_7cf53 3 (some .int), Cond.methodLink RJx4a65c 66 yJ7_copyOf_1904c, Cond.static yJ7_copyOf_1904c, Cond.initialized RJ7, Cond.code yJ7_copyOf_1904c cJ7_copyOf_1904c 2 (some (.array (.object "java/lang/Object"))), Cond.methodLink RJ7 86 ⟨"java/lang/Object", "getClass", "()Ljava/lang/Class;"⟩, Cond.selects "[Ljava/lang/Object;" ⟨"java/lang/Object", "getClass", "()Ljava/lang/Class;"⟩ ⟨"java/lang/Object", "getClass", "()Ljava/lang/Class;"⟩, Cond.instanceMethod ⟨"java/lang/Object", "getClass", "()Ljava/lang/Class;"⟩, Cond.native ⟨"java/lang/Object", "getClass", "()Ljava/lang/Class;"⟩, Cond.methodLink RJ7 300 yJ7_copyOf_6403c]
def wsL_sign_r4 : List Cond := [Cond.static yJ7_copyOf_6403c, Cond.code yJ7_copyOf_6403c cJ7_copyOf_6403c 4 (some (.array (.object "java/lang/Object"))), Cond.classLink RJ7 110 "[Ljava/lang/Object;", Cond.classLink RJ7 2 "java/lang/Object", Cond.methodLink RJ7 304 Lib.Math.min.name, Cond.static Lib.Math.min.name, Cond.code Lib.Math.min.name Lib.Math.min.code 2 (some .int), Cond.methodLink RJ7 150 arraycopyName, Cond.native arraycopyName, Cond.static arraycopyName, Cond.initialized "java/lang/System"]
def wsL_sign : List Cond := .codeWith yL_sign cL_sign 5 (some .int) [(0, 10, 13, 15), (0, 10, 17, 24)] :: ((wsL_sign_r1 ++ (wsL_sign_r2 ++ (wsL_sign_r3 ++ wsL_sign_r4))) ++ wsX40 ++ wsX00 ++ wsJx4a65c0 ++ (vx_atS RX4 46 "java/lang/IllegalArgumentException" ["java/lang/RuntimeException", "java/lang/Exception"]).filter goodWord ++ (vx_atS RX4 77 "java/lang/IllegalStateException" ["java/lang/RuntimeException", "java/lang/Exception"]).filter goodWord)
def wsL_join_r1 : List Cond := [Cond.classLink RL 24 "java/lang/IllegalStateException", Cond.methodLink RL 26 yX4_join, Cond.instanceMethod yX4_join, Cond.selects RX4 yX4_join yX4_join, Cond.initialized RX4, Cond.code yX4_join cX4_join 1 (some .int), Cond.classLink RX4 73 "java/lang/IllegalStateException", Cond.initialized "java/lang/IllegalStateException", Cond.fieldLink RX4 28 "BarometerLeague" "villages" "LBarometerLeague$VillageRow;", Cond.methodLink RX4 86 yX2_isFull, Cond.instanceMethod yX2_isFull, Cond.selects RX2 yX2_isFull yX2_isFull, Cond.initialized RX2, Cond.code yX2_isFull cX2_isFull 1 (some .boolean), Cond.fieldLink RX2 18 "BarometerLeague$VillageRow" "size" "I", Cond.fieldLink RX2 9 "BarometerLeague$VillageRow" "places" "[LBarometerLeague$Village;", Cond.methodLink RX4 92 yX2_grow, Cond.instanceMethod yX2_grow, Cond.selects RX2 yX2_grow yX2_grow, Cond.code yX2_grow cX2_grow 1 none, Cond.methodLink RX2 29 yX2_isFull, Cond.methodLink RX4 95 yX2_size, Cond.instanceMethod yX2_size, Cond.selects RX2 yX2_size yX2_size]
def wsL_join_r2 : List Cond := [Cond.code yX2_size cX2_size 1 (some .int)]
def wsL_join : List Cond := .codeWith yL_join cL_join 3 (some .int) [(0, 8, 11, 24)] :: ((wsL_join_r1 ++ wsL_join_r2) ++ wsX40 ++ wsX20 ++ (vx_atS RX4 77 "java/lang/IllegalStateException" ["java/lang/RuntimeException", "java/lang/Exception"]).filter goodWord)
def wsL_weigh_r1 : List Cond := [Cond.classLink RL 13 "java/lang/IndexOutOfBoundsException", Cond.classLink RL 15 "java/lang/IllegalArgumentException", Cond.methodLink RL 30 yX4_weigh, Cond.instanceMethod yX4_weigh, Cond.selects RX4 yX4_weigh yX4_weigh, Cond.initialized RX4, Cond.code yX4_weigh cX4_weigh 6 (some .int), Cond.classLink RX4 42 "java/lang/IllegalArgumentException", Cond.initialized "java/lang/IllegalArgumentException", Cond.fieldLink RX4 28 "BarometerLeague" "villages" "LBarometerLeague$VillageRow;", Cond.methodLink RX4 96 yX2_get, Cond.instanceMethod yX2_get, Cond.selects RX2 yX2_get yX2_get, Cond.initialized RX2, Cond.code yX2_get cX2_get 2 (some (.object "BarometerLeague$Village")), Cond.classLink RX2 22 "java/lang/IndexOutOfBoundsException", Cond.initialized "java/lang/IndexOutOfBoundsException", Cond.fieldLink RX2 18 "BarometerLeague$VillageRow" "size" "I", Cond.fieldLink RX2 9 "BarometerLeague$VillageRow" "places" "[LBarometerLeague$Village;", Cond.methodLink RX4 100 yX4_requireSign, Cond.instanceMethod yX4_requireSign, Cond.selects RX4 yX4_requireSign yX4_requireSign, Cond.code yX4_requireSign cX4_requireSign 2 none, Cond.classLink RX4 180 "java/lang/IndexOutOfBoundsException"]
def wsL_weigh_r2 : List Cond := [Cond.fieldLink RX4 19 "BarometerLeague" "signs" "Ljava/util/ArrayList;", Cond.methodLink RX4 69 yJx4a65c_size_8abf5, Cond.instanceMethod yJx4a65c_size_8abf5, Cond.selects RJx4a65c yJx4a65c_size_8abf5 yJx4a65c_size_8abf5, Cond.initialized RJx4a65c, Cond.code yJx4a65c_size_8abf5 cJx4a65c_size_8abf5 1 (some .int), Cond.fieldLink RJx4a65c 48 "java/util/ArrayList" "size" "I", Cond.methodLink RX4 105 yX1_weightOf, Cond.instanceMethod yX1_weightOf, Cond.selects RX1 yX1_weightOf yX1_weightOf, Cond.initialized RX1, Cond.code yX1_weightOf cX1_weightOf 2 (some .int), Cond.fieldLink RX1 9 "BarometerLeague$Village" "weights" "[I", Cond.methodLink RX4 110 yX1_putWeight, Cond.instanceMethod yX1_putWeight, Cond.selects RX1 yX1_putWeight yX1_putWeight, Cond.code yX1_putWeight cX1_putWeight 3 none]
def wsL_weigh : List Cond := .codeWith yL_weigh cL_weigh 6 (some .int) [(0, 12, 15, 13), (0, 12, 19, 15)] :: ((wsL_weigh_r1 ++ wsL_weigh_r2) ++ wsX40 ++ wsX20 ++ wsJx4a65c0 ++ wsX10 ++ (vx_atS RX4 46 "java/lang/IllegalArgumentException" ["java/lang/RuntimeException", "java/lang/Exception"]).filter goodWord ++ (vx_atS RX2 26 "java/lang/IndexOutOfBoundsException" ["java/lang/RuntimeException", "java/lang/Exception"]).filter goodWord ++ (vx_atS RX4 184 "java/lang/IndexOutOfBoundsException" ["java/lang/RuntimeException", "java/lang/Exception"]).filter goodWord)
def wsL_share_r1 : List Cond := [Cond.classLink RL 13 "java/lang/IndexOutOfBoundsException", Cond.classLink RL 15 "java/lang/IllegalArgumentException", Cond.classLink RL 24 "java/lang/IllegalStateException", Cond.methodLink RL 34 yX4_share, Cond.instanceMethod yX4_share, Cond.selects RX4 yX4_share yX4_share, Cond.initialized RX4, Cond.code yX4_share cX4_share 5 (some .int), Cond.classLink RX4 73 "java/lang/IllegalStateException", Cond.initialized "java/lang/IllegalStateException", Cond.fieldLink RX4 28 "BarometerLeague" "villages" "LBarometerLeague$VillageRow;", Cond.methodLink RX4 96 yX2_get, Cond.instanceMethod yX2_get, Cond.selects RX2 yX2_get yX2_get, Cond.initialized RX2, Cond.code yX2_get cX2_get 2 (some (.object "BarometerLeague$Village")), Cond.classLink RX2 22 "java/lang/IndexOutOfBoundsException", Cond.initialized "java/lang/IndexOutOfBoundsException", Cond.fieldLink RX2 18 "BarometerLeague$VillageRow" "size" "I", Cond.fieldLink RX2 9 "BarometerLeague$VillageRow" "places" "[LBarometerLeague$Village;", Cond.methodLink RX4 113 yX4_requireTwo, Cond.static yX4_requireTwo, Cond.code yX4_requireTwo cX4_requireTwo 2 none, Cond.classLink RX4 42 "java/lang/IllegalArgumentException"]
def wsL_share_r2 : List Cond := [Cond.initialized "java/lang/IllegalArgumentException", Cond.methodLink RX4 122 yX1_buyWeightsOf, Cond.instanceMethod yX1_buyWeightsOf, Cond.selects RX1 yX1_buyWeightsOf yX1_buyWeightsOf, Cond.initialized RX1, Cond.code yX1_buyWeightsOf cX1_buyWeightsOf 3 none, Cond.fieldLink RX1 19 "BarometerLeague$Village" "coins" "I", Cond.fieldLink RX1 9 "BarometerLeague$Village" "weights" "[I"]
def wsL_share : List Cond := .codeWith yL_share cL_share 5 (some .int) [(0, 10, 13, 13), (0, 10, 17, 15), (0, 10, 21, 24)] :: ((wsL_share_r1 ++ wsL_share_r2) ++ wsX40 ++ wsX10 ++ wsX20 ++ (vx_atS RX4 77 "java/lang/IllegalStateException" ["java/lang/RuntimeException", "java/lang/Exception"]).filter goodWord ++ (vx_atS RX2 26 "java/lang/IndexOutOfBoundsException" ["java/lang/RuntimeException", "java/lang/Exception"]).filter goodWord ++ (vx_atS RX4 46 "java/lang/IllegalArgumentException" ["java/lang/RuntimeException", "java/lang/Exception"]).filter goodWord)
def wsL_says_r1 : List Cond := [Cond.classLink RL 13 "java/lang/IndexOutOfBoundsException", Cond.classLink RL 15 "java/lang/IllegalArgumentException", Cond.methodLink RL 37 yX4_says, Cond.instanceMethod yX4_says, Cond.selects RX4 yX4_says yX4_says, Cond.initialized RX4, Cond.code yX4_says cX4_says 3 (some .boolean), Cond.classLink RX4 42 "java/lang/IllegalArgumentException", Cond.initialized "java/lang/IllegalArgumentException", Cond.fieldLink RX4 19 "BarometerLeague" "signs" "Ljava/util/ArrayList;", Cond.classLink RX4 78 "BarometerLeague$Sign", Cond.fieldLink RX4 10 "BarometerLeague" "weather" "LBarometerLeague$Weather;", Cond.methodLink RX4 100 yX4_requireSign, Cond.instanceMethod yX4_requireSign, Cond.selects RX4 yX4_requireSign yX4_requireSign, Cond.code yX4_requireSign cX4_requireSign 2 none, Cond.classLink RX4 180 "java/lang/IndexOutOfBoundsException", Cond.initialized "java/lang/IndexOutOfBoundsException", Cond.methodLink RX4 69 yJx4a65c_size_8abf5, Cond.instanceMethod yJx4a65c_size_8abf5, Cond.selects RJx4a65c yJx4a65c_size_8abf5 yJx4a65c_size_8abf5, Cond.initialized RJx4a65c, Cond.code yJx4a65c_size_8abf5 cJx4a65c_size_8abf5 1 (some .int), Cond.fieldLink RJx4a65c 48 "java/util/ArrayList" "size" "I"]
def wsL_says_r2 : List Cond := [Cond.methodLink RX4 128 yJx4a65c_get_915e3, Cond.instanceMethod yJx4a65c_get_915e3, Cond.selects RJx4a65c yJx4a65c_get_915e3 yJx4a65c_get_915e3, Cond.code yJx4a65c_get_915e3 cJx4a65c_get_915e3 2 (some (.object "java/lang/Object")), Cond.methodLink RJx4a65c 118 yJ15_checkIndex_7cf53, Cond.static yJ15_checkIndex_7cf53, Cond.initialized RJ15, Cond.code yJ15_checkIndex_7cf53 cJ15_checkIndex_7cf53 2 (some .int), Cond.methodLink RJ15 105 yJ3_checkIndex_8e157, Cond.static yJ3_checkIndex_8e157, Cond.initialized RJ3, Cond.code yJ3_checkIndex_8e157 cJ3_checkIndex_8e157 3 (some .int), Cond.methodLink RJx4a65c 123 yJx4a65c_elementData_915e3, Cond.instanceMethod yJx4a65c_elementData_915e3, Cond.selects RJx4a65c yJx4a65c_elementData_915e3 yJx4a65c_elementData_915e3, Cond.code yJx4a65c_elementData_915e3 cJx4a65c_elementData_915e3 2 (some (.object "java/lang/Object")), Cond.fieldLink RJx4a65c 9 "java/util/ArrayList" "elementData" "[Ljava/lang/Object;", Cond.methodLink RX4 131 yX0_saysRain, Cond.instanceMethod yX0_saysRain, Cond.selects RX0 yX0_saysRain yX0_saysRain, Cond.initialized RX0, Cond.code yX0_saysRain cX0_saysRain 6 (some .boolean), Cond.fieldLink RX0 9 "BarometerLeague$Sign" "kind" "I", Cond.fieldLink RX0 15 "BarometerLeague$Sign" "number" "I"]
def wsL_says_r3 : List Cond := [Cond.methodLink RX0 18 yX3_glassOn, Cond.instanceMethod yX3_glassOn, Cond.selects RX3 yX3_glassOn yX3_glassOn, Cond.initialized RX3, Cond.code yX3_glassOn cX3_glassOn 2 (some .int), Cond.fieldLink RX3 9 "BarometerLeague$Weather" "glass" "[I", Cond.methodLink RX3 25 yJ9_floorMod_7cf53, Cond.static yJ9_floorMod_7cf53, Cond.initialized RJ9, Cond.code yJ9_floorMod_7cf53 cJ9_floorMod_7cf53 3 (some .int), Cond.methodLink RX0 24 yX3_rainsOn, Cond.instanceMethod yX3_rainsOn, Cond.selects RX3 yX3_rainsOn yX3_rainsOn, Cond.code yX3_rainsOn cX3_rainsOn 2 (some .boolean), Cond.fieldLink RX3 15 "BarometerLeague$Weather" "rain" "[Z"]
def wsL_says : List Cond := .codeWith yL_says cL_says 5 (some .int) [(0, 17, 20, 13), (0, 17, 24, 15)] :: ((wsL_says_r1 ++ (wsL_says_r2 ++ wsL_says_r3)) ++ wsX40 ++ wsJx4a65c0 ++ wsX00 ++ wsX30 ++ (vx_atS RX4 46 "java/lang/IllegalArgumentException" ["java/lang/RuntimeException", "java/lang/Exception"]).filter goodWord ++ (vx_atS RX4 184 "java/lang/IndexOutOfBoundsException" ["java/lang/RuntimeException", "java/lang/Exception"]).filter goodWord)
def wsL_told_r1 : List Cond := [Cond.classLink RL 13 "java/lang/IndexOutOfBoundsException", Cond.methodLink RL 41 yX4_told, Cond.instanceMethod yX4_told, Cond.selects RX4 yX4_told yX4_told, Cond.initialized RX4, Cond.code yX4_told cX4_told 4 (some .int), Cond.fieldLink RX4 19 "BarometerLeague" "signs" "Ljava/util/ArrayList;", Cond.classLink RX4 78 "BarometerLeague$Sign", Cond.fieldLink RX4 10 "BarometerLeague" "weather" "LBarometerLeague$Weather;", Cond.fieldLink RX4 28 "BarometerLeague" "villages" "LBarometerLeague$VillageRow;", Cond.methodLink RX4 100 yX4_requireSign, Cond.instanceMethod yX4_requireSign, Cond.selects RX4 yX4_requireSign yX4_requireSign, Cond.code yX4_requireSign cX4_requireSign 2 none, Cond.classLink RX4 180 "java/lang/IndexOutOfBoundsException", Cond.initialized "java/lang/IndexOutOfBoundsException", Cond.methodLink RX4 69 yJx4a65c_size_8abf5, Cond.instanceMethod yJx4a65c_size_8abf5, Cond.selects RJx4a65c yJx4a65c_size_8abf5 yJx4a65c_size_8abf5, Cond.initialized RJx4a65c, Cond.code yJx4a65c_size_8abf5 cJx4a65c_size_8abf5 1 (some .int), Cond.fieldLink RJx4a65c 48 "java/util/ArrayList" "size" "I", Cond.methodLink RX4 135 yX4_requireWhat, Cond.static yX4_requireWhat]
def wsL_told_r2 : List Cond := [Cond.code yX4_requireWhat cX4_requireWhat 3 none, Cond.methodLink RX4 128 yJx4a65c_get_915e3, Cond.instanceMethod yJx4a65c_get_915e3, Cond.selects RJx4a65c yJx4a65c_get_915e3 yJx4a65c_get_915e3, Cond.code yJx4a65c_get_915e3 cJx4a65c_get_915e3 2 (some (.object "java/lang/Object")), Cond.methodLink RJx4a65c 118 yJ15_checkIndex_7cf53, Cond.static yJ15_checkIndex_7cf53, Cond.initialized RJ15, Cond.code yJ15_checkIndex_7cf53 cJ15_checkIndex_7cf53 2 (some .int), Cond.methodLink RJ15 105 yJ3_checkIndex_8e157, Cond.static yJ3_checkIndex_8e157, Cond.initialized RJ3, Cond.code yJ3_checkIndex_8e157 cJ3_checkIndex_8e157 3 (some .int), Cond.methodLink RJx4a65c 123 yJx4a65c_elementData_915e3, Cond.instanceMethod yJx4a65c_elementData_915e3, Cond.selects RJx4a65c yJx4a65c_elementData_915e3 yJx4a65c_elementData_915e3, Cond.code yJx4a65c_elementData_915e3 cJx4a65c_elementData_915e3 2 (some (.object "java/lang/Object")), Cond.fieldLink RJx4a65c 9 "java/util/ArrayList" "elementData" "[Ljava/lang/Object;", Cond.methodLink RX4 145 yX0_daysRight, Cond.instanceMethod yX0_daysRight, Cond.selects RX0 yX0_daysRight yX0_daysRight, Cond.initialized RX0, Cond.code yX0_daysRight cX0_daysRight 4 (some .int), Cond.methodLink RX0 28 yX0_saysRain]
def wsL_told_r3 : List Cond := [Cond.instanceMethod yX0_saysRain, Cond.selects RX0 yX0_saysRain yX0_saysRain, Cond.code yX0_saysRain cX0_saysRain 6 (some .boolean), Cond.fieldLink RX0 9 "BarometerLeague$Sign" "kind" "I", Cond.fieldLink RX0 15 "BarometerLeague$Sign" "number" "I", Cond.methodLink RX0 18 yX3_glassOn, Cond.instanceMethod yX3_glassOn, Cond.selects RX3 yX3_glassOn yX3_glassOn, Cond.initialized RX3, Cond.code yX3_glassOn cX3_glassOn 2 (some .int), Cond.fieldLink RX3 9 "BarometerLeague$Weather" "glass" "[I", Cond.methodLink RX3 25 yJ9_floorMod_7cf53, Cond.static yJ9_floorMod_7cf53, Cond.initialized RJ9, Cond.code yJ9_floorMod_7cf53 cJ9_floorMod_7cf53 3 (some .int), Cond.methodLink RX0 24 yX3_rainsOn, Cond.instanceMethod yX3_rainsOn, Cond.selects RX3 yX3_rainsOn yX3_rainsOn, Cond.code yX3_rainsOn cX3_rainsOn 2 (some .boolean), Cond.fieldLink RX3 15 "BarometerLeague$Weather" "rain" "[Z", Cond.methodLink RX4 149 yX2_allWeightsOf, Cond.instanceMethod yX2_allWeightsOf, Cond.selects RX2 yX2_allWeightsOf yX2_allWeightsOf, Cond.initialized RX2]
def wsL_told_r4 : List Cond := [Cond.code yX2_allWeightsOf cX2_allWeightsOf 4 (some .int), Cond.fieldLink RX2 18 "BarometerLeague$VillageRow" "size" "I", Cond.fieldLink RX2 9 "BarometerLeague$VillageRow" "places" "[LBarometerLeague$Village;", Cond.methodLink RX2 51 yX1_weightOf, Cond.instanceMethod yX1_weightOf, Cond.selects RX1 yX1_weightOf yX1_weightOf, Cond.initialized RX1, Cond.code yX1_weightOf cX1_weightOf 2 (some .int), Cond.fieldLink RX1 9 "BarometerLeague$Village" "weights" "[I"]
def wsL_told : List Cond := .codeWith yL_told cL_told 5 (some .int) [(0, 10, 13, 13)] :: ((wsL_told_r1 ++ (wsL_told_r2 ++ (wsL_told_r3 ++ wsL_told_r4))) ++ wsX40 ++ wsX00 ++ wsJx4a65c0 ++ wsX30 ++ wsX20 ++ wsX10 ++ (vx_atS RX4 184 "java/lang/IndexOutOfBoundsException" ["java/lang/RuntimeException", "java/lang/Exception"]).filter goodWord)
def wsL_weight_r1 : List Cond := [Cond.classLink RL 13 "java/lang/IndexOutOfBoundsException", Cond.methodLink RL 44 yX4_weight, Cond.instanceMethod yX4_weight, Cond.selects RX4 yX4_weight yX4_weight, Cond.initialized RX4, Cond.code yX4_weight cX4_weight 4 (some .int), Cond.fieldLink RX4 28 "BarometerLeague" "villages" "LBarometerLeague$VillageRow;", Cond.methodLink RX4 96 yX2_get, Cond.instanceMethod yX2_get, Cond.selects RX2 yX2_get yX2_get, Cond.initialized RX2, Cond.code yX2_get cX2_get 2 (some (.object "BarometerLeague$Village")), Cond.classLink RX2 22 "java/lang/IndexOutOfBoundsException", Cond.initialized "java/lang/IndexOutOfBoundsException", Cond.fieldLink RX2 18 "BarometerLeague$VillageRow" "size" "I", Cond.fieldLink RX2 9 "BarometerLeague$VillageRow" "places" "[LBarometerLeague$Village;", Cond.methodLink RX4 100 yX4_requireSign, Cond.instanceMethod yX4_requireSign, Cond.selects RX4 yX4_requireSign yX4_requireSign, Cond.code yX4_requireSign cX4_requireSign 2 none, Cond.classLink RX4 180 "java/lang/IndexOutOfBoundsException", Cond.fieldLink RX4 19 "BarometerLeague" "signs" "Ljava/util/ArrayList;", Cond.methodLink RX4 69 yJx4a65c_size_8abf5, Cond.instanceMethod yJx4a65c_size_8abf5]
def wsL_weight_r2 : List Cond := [Cond.selects RJx4a65c yJx4a65c_size_8abf5 yJx4a65c_size_8abf5, Cond.initialized RJx4a65c, Cond.code yJx4a65c_size_8abf5 cJx4a65c_size_8abf5 1 (some .int), Cond.fieldLink RJx4a65c 48 "java/util/ArrayList" "size" "I", Cond.methodLink RX4 105 yX1_weightOf, Cond.instanceMethod yX1_weightOf, Cond.selects RX1 yX1_weightOf yX1_weightOf, Cond.initialized RX1, Cond.code yX1_weightOf cX1_weightOf 2 (some .int), Cond.fieldLink RX1 9 "BarometerLeague$Village" "weights" "[I"]
def wsL_weight : List Cond := .codeWith yL_weight cL_weight 5 (some .int) [(0, 10, 13, 13)] :: ((wsL_weight_r1 ++ wsL_weight_r2) ++ wsX40 ++ wsX20 ++ wsJx4a65c0 ++ wsX10 ++ (vx_atS RX2 26 "java/lang/IndexOutOfBoundsException" ["java/lang/RuntimeException", "java/lang/Exception"]).filter goodWord ++ (vx_atS RX4 184 "java/lang/IndexOutOfBoundsException" ["java/lang/RuntimeException", "java/lang/Exception"]).filter goodWord)
def wsL_about_r1 : List Cond := [Cond.classLink RL 13 "java/lang/IndexOutOfBoundsException", Cond.methodLink RL 47 yX4_about, Cond.instanceMethod yX4_about, Cond.selects RX4 yX4_about yX4_about, Cond.initialized RX4, Cond.code yX4_about cX4_about 4 (some .int), Cond.fieldLink RX4 28 "BarometerLeague" "villages" "LBarometerLeague$VillageRow;", Cond.fieldLink RX4 19 "BarometerLeague" "signs" "Ljava/util/ArrayList;", Cond.fieldLink RX4 165 "BarometerLeague" "day" "I", Cond.methodLink RX4 96 yX2_get, Cond.instanceMethod yX2_get, Cond.selects RX2 yX2_get yX2_get, Cond.initialized RX2, Cond.code yX2_get cX2_get 2 (some (.object "BarometerLeague$Village")), Cond.classLink RX2 22 "java/lang/IndexOutOfBoundsException", Cond.initialized "java/lang/IndexOutOfBoundsException", Cond.fieldLink RX2 18 "BarometerLeague$VillageRow" "size" "I", Cond.fieldLink RX2 9 "BarometerLeague$VillageRow" "places" "[LBarometerLeague$Village;", Cond.methodLink RX4 135 yX4_requireWhat, Cond.static yX4_requireWhat, Cond.code yX4_requireWhat cX4_requireWhat 3 none, Cond.classLink RX4 180 "java/lang/IndexOutOfBoundsException", Cond.methodLink RX4 69 yJx4a65c_size_8abf5, Cond.instanceMethod yJx4a65c_size_8abf5]
def wsL_about_r2 : List Cond := [Cond.selects RJx4a65c yJx4a65c_size_8abf5 yJx4a65c_size_8abf5, Cond.initialized RJx4a65c, Cond.code yJx4a65c_size_8abf5 cJx4a65c_size_8abf5 1 (some .int), Cond.fieldLink RJx4a65c 48 "java/util/ArrayList" "size" "I", Cond.methodLink RX4 158 yX1_allWeights, Cond.instanceMethod yX1_allWeights, Cond.selects RX1 yX1_allWeights yX1_allWeights, Cond.initialized RX1, Cond.code yX1_allWeights cX1_allWeights 4 (some .int), Cond.fieldLink RX1 9 "BarometerLeague$Village" "weights" "[I", Cond.methodLink RX4 161 yX2_placeOf, Cond.instanceMethod yX2_placeOf, Cond.selects RX2 yX2_placeOf yX2_placeOf, Cond.code yX2_placeOf cX2_placeOf 4 (some .int), Cond.methodLink RX2 37 yX1_isAheadOf, Cond.instanceMethod yX1_isAheadOf, Cond.selects RX1 yX1_isAheadOf yX1_isAheadOf, Cond.code yX1_isAheadOf cX1_isAheadOf 2 (some .boolean), Cond.fieldLink RX1 28 "BarometerLeague$Village" "points" "I", Cond.fieldLink RX1 19 "BarometerLeague$Village" "coins" "I", Cond.fieldLink RX1 15 "BarometerLeague$Village" "number" "I", Cond.methodLink RX4 168 yX4_sayingsOn, Cond.instanceMethod yX4_sayingsOn, Cond.selects RX4 yX4_sayingsOn yX4_sayingsOn]
def wsL_about_r3 : List Cond := [Cond.code yX4_sayingsOn cX4_sayingsOn 3 (some (.array .int)), Cond.fieldLink RX4 32 "BarometerLeague" "sayings" "[I", Cond.classLink RX4 78 "BarometerLeague$Sign", Cond.fieldLink RX4 10 "BarometerLeague" "weather" "LBarometerLeague$Weather;", Cond.methodLink RX4 128 yJx4a65c_get_915e3, Cond.instanceMethod yJx4a65c_get_915e3, Cond.selects RJx4a65c yJx4a65c_get_915e3 yJx4a65c_get_915e3, Cond.code yJx4a65c_get_915e3 cJx4a65c_get_915e3 2 (some (.object "java/lang/Object")), Cond.methodLink RJx4a65c 118 yJ15_checkIndex_7cf53, Cond.static yJ15_checkIndex_7cf53, Cond.initialized RJ15, Cond.code yJ15_checkIndex_7cf53 cJ15_checkIndex_7cf53 2 (some .int), Cond.methodLink RJ15 105 yJ3_checkIndex_8e157, Cond.static yJ3_checkIndex_8e157, Cond.initialized RJ3, Cond.code yJ3_checkIndex_8e157 cJ3_checkIndex_8e157 3 (some .int), Cond.methodLink RJx4a65c 123 yJx4a65c_elementData_915e3, Cond.instanceMethod yJx4a65c_elementData_915e3, Cond.selects RJx4a65c yJx4a65c_elementData_915e3 yJx4a65c_elementData_915e3, Cond.code yJx4a65c_elementData_915e3 cJx4a65c_elementData_915e3 2 (some (.object "java/lang/Object")), Cond.fieldLink RJx4a65c 9 "java/util/ArrayList" "elementData" "[Ljava/lang/Object;", Cond.methodLink RX4 131 yX0_saysRain, Cond.instanceMethod yX0_saysRain, Cond.selects RX0 yX0_saysRain yX0_saysRain]
def wsL_about_r4 : List Cond := [Cond.initialized RX0, Cond.code yX0_saysRain cX0_saysRain 6 (some .boolean), Cond.fieldLink RX0 9 "BarometerLeague$Sign" "kind" "I", Cond.fieldLink RX0 15 "BarometerLeague$Sign" "number" "I", Cond.methodLink RX0 18 yX3_glassOn, Cond.instanceMethod yX3_glassOn, Cond.selects RX3 yX3_glassOn yX3_glassOn, Cond.initialized RX3, Cond.code yX3_glassOn cX3_glassOn 2 (some .int), Cond.fieldLink RX3 9 "BarometerLeague$Weather" "glass" "[I", Cond.methodLink RX3 25 yJ9_floorMod_7cf53, Cond.static yJ9_floorMod_7cf53, Cond.initialized RJ9, Cond.code yJ9_floorMod_7cf53 cJ9_floorMod_7cf53 3 (some .int), Cond.methodLink RX0 24 yX3_rainsOn, Cond.instanceMethod yX3_rainsOn, Cond.selects RX3 yX3_rainsOn yX3_rainsOn, Cond.code yX3_rainsOn cX3_rainsOn 2 (some .boolean), Cond.fieldLink RX3 15 "BarometerLeague$Weather" "rain" "[Z", Cond.methodLink RX4 172 yX1_guessesRain, Cond.instanceMethod yX1_guessesRain, Cond.selects RX1 yX1_guessesRain yX1_guessesRain, Cond.code yX1_guessesRain cX1_guessesRain 2 (some .boolean), Cond.methodLink RX1 34 yX1_leadOfRain]
def wsL_about_r5 : List Cond := [Cond.instanceMethod yX1_leadOfRain, Cond.selects RX1 yX1_leadOfRain yX1_leadOfRain, Cond.code yX1_leadOfRain cX1_leadOfRain 4 (some .int), Cond.methodLink RX4 176 yX1_leadOfRain]
def wsL_about : List Cond := .codeWith yL_about cL_about 5 (some .int) [(0, 10, 13, 13)] :: ((wsL_about_r1 ++ (wsL_about_r2 ++ (wsL_about_r3 ++ (wsL_about_r4 ++ wsL_about_r5)))) ++ wsX40 ++ wsX10 ++ wsX20 ++ wsJx4a65c0 ++ wsX00 ++ wsX30 ++ (vx_atS RX2 26 "java/lang/IndexOutOfBoundsException" ["java/lang/RuntimeException", "java/lang/Exception"]).filter goodWord ++ (vx_atS RX4 184 "java/lang/IndexOutOfBoundsException" ["java/lang/RuntimeException", "java/lang/Exception"]).filter goodWord)
def wsL_at_r1 : List Cond := [Cond.classLink RL 13 "java/lang/IndexOutOfBoundsException", Cond.methodLink RL 50 yX4_at, Cond.instanceMethod yX4_at, Cond.selects RX4 yX4_at yX4_at, Cond.initialized RX4, Cond.code yX4_at cX4_at 3 (some .int), Cond.classLink RX4 180 "java/lang/IndexOutOfBoundsException", Cond.initialized "java/lang/IndexOutOfBoundsException", Cond.fieldLink RX4 28 "BarometerLeague" "villages" "LBarometerLeague$VillageRow;", Cond.methodLink RX4 95 yX2_size, Cond.instanceMethod yX2_size, Cond.selects RX2 yX2_size yX2_size, Cond.initialized RX2, Cond.code yX2_size cX2_size 1 (some .int), Cond.fieldLink RX2 18 "BarometerLeague$VillageRow" "size" "I", Cond.methodLink RX4 96 yX2_get, Cond.instanceMethod yX2_get, Cond.selects RX2 yX2_get yX2_get, Cond.code yX2_get cX2_get 2 (some (.object "BarometerLeague$Village")), Cond.classLink RX2 22 "java/lang/IndexOutOfBoundsException", Cond.fieldLink RX2 9 "BarometerLeague$VillageRow" "places" "[LBarometerLeague$Village;", Cond.methodLink RX4 161 yX2_placeOf, Cond.instanceMethod yX2_placeOf, Cond.selects RX2 yX2_placeOf yX2_placeOf]
def wsL_at_r2 : List Cond := [Cond.code yX2_placeOf cX2_placeOf 4 (some .int), Cond.methodLink RX2 37 yX1_isAheadOf, Cond.instanceMethod yX1_isAheadOf, Cond.selects RX1 yX1_isAheadOf yX1_isAheadOf, Cond.initialized RX1, Cond.code yX1_isAheadOf cX1_isAheadOf 2 (some .boolean), Cond.fieldLink RX1 28 "BarometerLeague$Village" "points" "I", Cond.fieldLink RX1 19 "BarometerLeague$Village" "coins" "I", Cond.fieldLink RX1 15 "BarometerLeague$Village" "number" "I"]
def wsL_at : List Cond := .codeWith yL_at cL_at 4 (some .int) [(0, 9, 12, 13)] :: ((wsL_at_r1 ++ wsL_at_r2) ++ wsX40 ++ wsX20 ++ wsX10 ++ (vx_atS RX4 184 "java/lang/IndexOutOfBoundsException" ["java/lang/RuntimeException", "java/lang/Exception"]).filter goodWord ++ (vx_atS RX2 26 "java/lang/IndexOutOfBoundsException" ["java/lang/RuntimeException", "java/lang/Exception"]).filter goodWord)
def wsL_count_r1 : List Cond := [Cond.classLink RL 13 "java/lang/IndexOutOfBoundsException", Cond.methodLink RL 54 yX4_count, Cond.instanceMethod yX4_count, Cond.selects RX4 yX4_count yX4_count, Cond.initialized RX4, Cond.code yX4_count cX4_count 2 (some .int), Cond.fieldLink RX4 165 "BarometerLeague" "day" "I", Cond.fieldLink RX4 19 "BarometerLeague" "signs" "Ljava/util/ArrayList;", Cond.fieldLink RX4 28 "BarometerLeague" "villages" "LBarometerLeague$VillageRow;", Cond.fieldLink RX4 10 "BarometerLeague" "weather" "LBarometerLeague$Weather;", Cond.methodLink RX4 135 yX4_requireWhat, Cond.static yX4_requireWhat, Cond.code yX4_requireWhat cX4_requireWhat 3 none, Cond.classLink RX4 180 "java/lang/IndexOutOfBoundsException", Cond.initialized "java/lang/IndexOutOfBoundsException", Cond.methodLink RX4 69 yJx4a65c_size_8abf5, Cond.instanceMethod yJx4a65c_size_8abf5, Cond.selects RJx4a65c yJx4a65c_size_8abf5 yJx4a65c_size_8abf5, Cond.initialized RJx4a65c, Cond.code yJx4a65c_size_8abf5 cJx4a65c_size_8abf5 1 (some .int), Cond.fieldLink RJx4a65c 48 "java/util/ArrayList" "size" "I", Cond.methodLink RX4 95 yX2_size, Cond.instanceMethod yX2_size, Cond.selects RX2 yX2_size yX2_size]
def wsL_count_r2 : List Cond := [Cond.initialized RX2, Cond.code yX2_size cX2_size 1 (some .int), Cond.fieldLink RX2 18 "BarometerLeague$VillageRow" "size" "I", Cond.methodLink RX4 185 yX3_rainyDays, Cond.instanceMethod yX3_rainyDays, Cond.selects RX3 yX3_rainyDays yX3_rainyDays, Cond.initialized RX3, Cond.code yX3_rainyDays cX3_rainyDays 6 (some .int), Cond.fieldLink RX3 15 "BarometerLeague$Weather" "rain" "[Z", Cond.methodLink RX4 188 yX4_countOver, Cond.instanceMethod yX4_countOver, Cond.selects RX4 yX4_countOver yX4_countOver, Cond.code yX4_countOver cX4_countOver 4 (some .int), Cond.methodLink RX4 212 yX2_allPoints, Cond.instanceMethod yX2_allPoints, Cond.selects RX2 yX2_allPoints yX2_allPoints, Cond.code yX2_allPoints cX2_allPoints 3 (some .int), Cond.fieldLink RX2 9 "BarometerLeague$VillageRow" "places" "[LBarometerLeague$Village;", Cond.methodLink RX4 239 yX2_allCoins, Cond.instanceMethod yX2_allCoins, Cond.selects RX2 yX2_allCoins yX2_allCoins, Cond.code yX2_allCoins cX2_allCoins 3 (some .int), Cond.methodLink RX4 168 yX4_sayingsOn, Cond.instanceMethod yX4_sayingsOn]
def wsL_count_r3 : List Cond := [Cond.selects RX4 yX4_sayingsOn yX4_sayingsOn, Cond.code yX4_sayingsOn cX4_sayingsOn 3 (some (.array .int)), Cond.fieldLink RX4 32 "BarometerLeague" "sayings" "[I", Cond.classLink RX4 78 "BarometerLeague$Sign", Cond.methodLink RX4 128 yJx4a65c_get_915e3, Cond.instanceMethod yJx4a65c_get_915e3, Cond.selects RJx4a65c yJx4a65c_get_915e3 yJx4a65c_get_915e3, Cond.code yJx4a65c_get_915e3 cJx4a65c_get_915e3 2 (some (.object "java/lang/Object")), Cond.methodLink RJx4a65c 118 yJ15_checkIndex_7cf53, Cond.static yJ15_checkIndex_7cf53, Cond.initialized RJ15, Cond.code yJ15_checkIndex_7cf53 cJ15_checkIndex_7cf53 2 (some .int), Cond.methodLink RJ15 105 yJ3_checkIndex_8e157, Cond.static yJ3_checkIndex_8e157, Cond.initialized RJ3, Cond.code yJ3_checkIndex_8e157 cJ3_checkIndex_8e157 3 (some .int), Cond.methodLink RJx4a65c 123 yJx4a65c_elementData_915e3, Cond.instanceMethod yJx4a65c_elementData_915e3, Cond.selects RJx4a65c yJx4a65c_elementData_915e3 yJx4a65c_elementData_915e3, Cond.code yJx4a65c_elementData_915e3 cJx4a65c_elementData_915e3 2 (some (.object "java/lang/Object")), Cond.fieldLink RJx4a65c 9 "java/util/ArrayList" "elementData" "[Ljava/lang/Object;", Cond.methodLink RX4 131 yX0_saysRain, Cond.instanceMethod yX0_saysRain, Cond.selects RX0 yX0_saysRain yX0_saysRain]
def wsL_count_r4 : List Cond := [Cond.initialized RX0, Cond.code yX0_saysRain cX0_saysRain 6 (some .boolean), Cond.fieldLink RX0 9 "BarometerLeague$Sign" "kind" "I", Cond.fieldLink RX0 15 "BarometerLeague$Sign" "number" "I", Cond.methodLink RX0 18 yX3_glassOn, Cond.instanceMethod yX3_glassOn, Cond.selects RX3 yX3_glassOn yX3_glassOn, Cond.code yX3_glassOn cX3_glassOn 2 (some .int), Cond.fieldLink RX3 9 "BarometerLeague$Weather" "glass" "[I", Cond.methodLink RX3 25 yJ9_floorMod_7cf53, Cond.static yJ9_floorMod_7cf53, Cond.initialized RJ9, Cond.code yJ9_floorMod_7cf53 cJ9_floorMod_7cf53 3 (some .int), Cond.methodLink RX0 24 yX3_rainsOn, Cond.instanceMethod yX3_rainsOn, Cond.selects RX3 yX3_rainsOn yX3_rainsOn, Cond.code yX3_rainsOn cX3_rainsOn 2 (some .boolean), Cond.methodLink RX4 242 yX2_guessingRain, Cond.instanceMethod yX2_guessingRain, Cond.selects RX2 yX2_guessingRain yX2_guessingRain, Cond.code yX2_guessingRain cX2_guessingRain 4 (some .int), Cond.methodLink RX2 55 yX1_guessesRain, Cond.instanceMethod yX1_guessesRain, Cond.selects RX1 yX1_guessesRain yX1_guessesRain]
def wsL_count_r5 : List Cond := [Cond.initialized RX1, Cond.code yX1_guessesRain cX1_guessesRain 2 (some .boolean), Cond.methodLink RX1 34 yX1_leadOfRain, Cond.instanceMethod yX1_leadOfRain, Cond.selects RX1 yX1_leadOfRain yX1_leadOfRain, Cond.code yX1_leadOfRain cX1_leadOfRain 4 (some .int), Cond.fieldLink RX1 9 "BarometerLeague$Village" "weights" "[I"]
def wsL_count : List Cond := .codeWith yL_count cL_count 4 (some .int) [(0, 9, 12, 13)] :: ((wsL_count_r1 ++ (wsL_count_r2 ++ (wsL_count_r3 ++ (wsL_count_r4 ++ wsL_count_r5)))) ++ wsX40 ++ wsJx4a65c0 ++ wsX20 ++ wsX30 ++ wsX10 ++ wsX00 ++ (vx_atS RX4 184 "java/lang/IndexOutOfBoundsException" ["java/lang/RuntimeException", "java/lang/Exception"]).filter goodWord)
def wsL_pass_r1 : List Cond := [Cond.classLink RL 15 "java/lang/IllegalArgumentException", Cond.methodLink RL 57 yX4_pass, Cond.instanceMethod yX4_pass, Cond.selects RX4 yX4_pass yX4_pass, Cond.initialized RX4, Cond.code yX4_pass cX4_pass 3 (some .int), Cond.fieldLink RX4 28 "BarometerLeague" "villages" "LBarometerLeague$VillageRow;", Cond.fieldLink RX4 165 "BarometerLeague" "day" "I", Cond.methodLink RX4 192 yX4_requireDays, Cond.static yX4_requireDays, Cond.code yX4_requireDays cX4_requireDays 2 none, Cond.classLink RX4 42 "java/lang/IllegalArgumentException", Cond.initialized "java/lang/IllegalArgumentException", Cond.methodLink RX4 195 yX4_liveDays, Cond.instanceMethod yX4_liveDays, Cond.selects RX4 yX4_liveDays yX4_liveDays, Cond.code yX4_liveDays cX4_liveDays 5 (some .int), Cond.methodLink RX4 209 yX4_liveDay, Cond.instanceMethod yX4_liveDay, Cond.selects RX4 yX4_liveDay yX4_liveDay, Cond.code yX4_liveDay cX4_liveDay 3 (some .int), Cond.fieldLink RX4 10 "BarometerLeague" "weather" "LBarometerLeague$Weather;", Cond.methodLink RX4 168 yX4_sayingsOn, Cond.instanceMethod yX4_sayingsOn]
def wsL_pass_r2 : List Cond := [Cond.selects RX4 yX4_sayingsOn yX4_sayingsOn, Cond.code yX4_sayingsOn cX4_sayingsOn 3 (some (.array .int)), Cond.fieldLink RX4 32 "BarometerLeague" "sayings" "[I", Cond.fieldLink RX4 19 "BarometerLeague" "signs" "Ljava/util/ArrayList;", Cond.classLink RX4 78 "BarometerLeague$Sign", Cond.methodLink RX4 69 yJx4a65c_size_8abf5, Cond.instanceMethod yJx4a65c_size_8abf5, Cond.selects RJx4a65c yJx4a65c_size_8abf5 yJx4a65c_size_8abf5, Cond.initialized RJx4a65c, Cond.code yJx4a65c_size_8abf5 cJx4a65c_size_8abf5 1 (some .int), Cond.fieldLink RJx4a65c 48 "java/util/ArrayList" "size" "I", Cond.methodLink RX4 128 yJx4a65c_get_915e3, Cond.instanceMethod yJx4a65c_get_915e3, Cond.selects RJx4a65c yJx4a65c_get_915e3 yJx4a65c_get_915e3, Cond.code yJx4a65c_get_915e3 cJx4a65c_get_915e3 2 (some (.object "java/lang/Object")), Cond.methodLink RJx4a65c 118 yJ15_checkIndex_7cf53, Cond.static yJ15_checkIndex_7cf53, Cond.initialized RJ15, Cond.code yJ15_checkIndex_7cf53 cJ15_checkIndex_7cf53 2 (some .int), Cond.methodLink RJ15 105 yJ3_checkIndex_8e157, Cond.static yJ3_checkIndex_8e157, Cond.initialized RJ3, Cond.code yJ3_checkIndex_8e157 cJ3_checkIndex_8e157 3 (some .int), Cond.methodLink RJx4a65c 123 yJx4a65c_elementData_915e3]
def wsL_pass_r3 : List Cond := [Cond.instanceMethod yJx4a65c_elementData_915e3, Cond.selects RJx4a65c yJx4a65c_elementData_915e3 yJx4a65c_elementData_915e3, Cond.code yJx4a65c_elementData_915e3 cJx4a65c_elementData_915e3 2 (some (.object "java/lang/Object")), Cond.fieldLink RJx4a65c 9 "java/util/ArrayList" "elementData" "[Ljava/lang/Object;", Cond.methodLink RX4 131 yX0_saysRain, Cond.instanceMethod yX0_saysRain, Cond.selects RX0 yX0_saysRain yX0_saysRain, Cond.initialized RX0, Cond.code yX0_saysRain cX0_saysRain 6 (some .boolean), Cond.fieldLink RX0 9 "BarometerLeague$Sign" "kind" "I", Cond.fieldLink RX0 15 "BarometerLeague$Sign" "number" "I", Cond.methodLink RX0 18 yX3_glassOn, Cond.instanceMethod yX3_glassOn, Cond.selects RX3 yX3_glassOn yX3_glassOn, Cond.initialized RX3, Cond.code yX3_glassOn cX3_glassOn 2 (some .int), Cond.fieldLink RX3 9 "BarometerLeague$Weather" "glass" "[I", Cond.methodLink RX3 25 yJ9_floorMod_7cf53, Cond.static yJ9_floorMod_7cf53, Cond.initialized RJ9, Cond.code yJ9_floorMod_7cf53 cJ9_floorMod_7cf53 3 (some .int), Cond.methodLink RX0 24 yX3_rainsOn, Cond.instanceMethod yX3_rainsOn, Cond.selects RX3 yX3_rainsOn yX3_rainsOn]
def wsL_pass_r4 : List Cond := [Cond.code yX3_rainsOn cX3_rainsOn 2 (some .boolean), Cond.fieldLink RX3 15 "BarometerLeague$Weather" "rain" "[Z", Cond.methodLink RX4 57 yX3_rainsOn, Cond.methodLink RX4 236 yX2_liveDay, Cond.instanceMethod yX2_liveDay, Cond.selects RX2 yX2_liveDay yX2_liveDay, Cond.initialized RX2, Cond.code yX2_liveDay cX2_liveDay 5 (some .int), Cond.fieldLink RX2 18 "BarometerLeague$VillageRow" "size" "I", Cond.fieldLink RX2 9 "BarometerLeague$VillageRow" "places" "[LBarometerLeague$Village;", Cond.methodLink RX2 41 yX1_liveDay, Cond.instanceMethod yX1_liveDay, Cond.selects RX1 yX1_liveDay yX1_liveDay, Cond.initialized RX1, Cond.code yX1_liveDay cX1_liveDay 4 (some .boolean), Cond.fieldLink RX1 28 "BarometerLeague$Village" "points" "I", Cond.fieldLink RX1 31 "BarometerLeague$Village" "rowOfHits" "I", Cond.methodLink RX1 38 yX1_guessesRain, Cond.instanceMethod yX1_guessesRain, Cond.selects RX1 yX1_guessesRain yX1_guessesRain, Cond.code yX1_guessesRain cX1_guessesRain 2 (some .boolean), Cond.methodLink RX1 34 yX1_leadOfRain, Cond.instanceMethod yX1_leadOfRain, Cond.selects RX1 yX1_leadOfRain yX1_leadOfRain]
def wsL_pass_r5 : List Cond := [Cond.code yX1_leadOfRain cX1_leadOfRain 4 (some .int), Cond.fieldLink RX1 9 "BarometerLeague$Village" "weights" "[I", Cond.methodLink RX1 42 yX1_learn, Cond.instanceMethod yX1_learn, Cond.selects RX1 yX1_learn yX1_learn, Cond.code yX1_learn cX1_learn 4 none, Cond.methodLink RX1 48 Lib.Math.min.name, Cond.static Lib.Math.min.name, Cond.initialized "java/lang/Math", Cond.code Lib.Math.min.name Lib.Math.min.code 2 (some .int), Cond.methodLink RX1 45 yX1_sellAlmanacs, Cond.instanceMethod yX1_sellAlmanacs, Cond.selects RX1 yX1_sellAlmanacs yX1_sellAlmanacs, Cond.code yX1_sellAlmanacs cX1_sellAlmanacs 1 none, Cond.fieldLink RX1 19 "BarometerLeague$Village" "coins" "I"]
def wsL_pass : List Cond := .codeWith yL_pass cL_pass 4 (some .int) [(0, 9, 12, 15)] :: ((wsL_pass_r1 ++ (wsL_pass_r2 ++ (wsL_pass_r3 ++ (wsL_pass_r4 ++ wsL_pass_r5)))) ++ wsX40 ++ wsJx4a65c0 ++ wsX00 ++ wsX30 ++ wsX20 ++ wsX10 ++ (vx_atS RX4 46 "java/lang/IllegalArgumentException" ["java/lang/RuntimeException", "java/lang/Exception"]).filter goodWord)
def wsL_foresee_r1 : List Cond := [Cond.classLink RL 15 "java/lang/IllegalArgumentException", Cond.classLink RL 13 "java/lang/IndexOutOfBoundsException", Cond.methodLink RL 60 yX4_foresee, Cond.instanceMethod yX4_foresee, Cond.selects RX4 yX4_foresee yX4_foresee, Cond.initialized RX4, Cond.code yX4_foresee cX4_foresee 4 (some .int), Cond.fieldLink RX4 36 "BarometerLeague" "trials" "LBarometerLeague$VillageRow;", Cond.fieldLink RX4 28 "BarometerLeague" "villages" "LBarometerLeague$VillageRow;", Cond.fieldLink RX4 165 "BarometerLeague" "day" "I", Cond.methodLink RX4 192 yX4_requireDays, Cond.static yX4_requireDays, Cond.code yX4_requireDays cX4_requireDays 2 none, Cond.classLink RX4 42 "java/lang/IllegalArgumentException", Cond.initialized "java/lang/IllegalArgumentException", Cond.methodLink RX4 135 yX4_requireWhat, Cond.static yX4_requireWhat, Cond.code yX4_requireWhat cX4_requireWhat 3 none, Cond.classLink RX4 180 "java/lang/IndexOutOfBoundsException", Cond.initialized "java/lang/IndexOutOfBoundsException", Cond.methodLink RX4 199 yX2_clear, Cond.instanceMethod yX2_clear, Cond.selects RX2 yX2_clear yX2_clear, Cond.initialized RX2]
def wsL_foresee_r2 : List Cond := [Cond.code yX2_clear cX2_clear 1 none, Cond.fieldLink RX2 18 "BarometerLeague$VillageRow" "size" "I", Cond.methodLink RX4 95 yX2_size, Cond.instanceMethod yX2_size, Cond.selects RX2 yX2_size yX2_size, Cond.code yX2_size cX2_size 1 (some .int), Cond.methodLink RX4 96 yX2_get, Cond.instanceMethod yX2_get, Cond.selects RX2 yX2_get yX2_get, Cond.code yX2_get cX2_get 2 (some (.object "BarometerLeague$Village")), Cond.classLink RX2 22 "java/lang/IndexOutOfBoundsException", Cond.fieldLink RX2 9 "BarometerLeague$VillageRow" "places" "[LBarometerLeague$Village;", Cond.methodLink RX4 202 yX2_addCopy, Cond.instanceMethod yX2_addCopy, Cond.selects RX2 yX2_addCopy yX2_addCopy, Cond.code yX2_addCopy cX2_addCopy 2 none, Cond.methodLink RX2 29 yX2_isFull, Cond.instanceMethod yX2_isFull, Cond.selects RX2 yX2_isFull yX2_isFull, Cond.code yX2_isFull cX2_isFull 1 (some .boolean), Cond.methodLink RX2 33 yX1_becomeLike, Cond.instanceMethod yX1_becomeLike, Cond.selects RX1 yX1_becomeLike yX1_becomeLike, Cond.initialized RX1]
def wsL_foresee_r3 : List Cond := [Cond.code yX1_becomeLike cX1_becomeLike 3 none, Cond.fieldLink RX1 15 "BarometerLeague$Village" "number" "I", Cond.fieldLink RX1 28 "BarometerLeague$Village" "points" "I", Cond.fieldLink RX1 19 "BarometerLeague$Village" "coins" "I", Cond.fieldLink RX1 31 "BarometerLeague$Village" "rowOfHits" "I", Cond.fieldLink RX1 9 "BarometerLeague$Village" "weights" "[I", Cond.methodLink RX4 195 yX4_liveDays, Cond.instanceMethod yX4_liveDays, Cond.selects RX4 yX4_liveDays yX4_liveDays, Cond.code yX4_liveDays cX4_liveDays 5 (some .int), Cond.methodLink RX4 209 yX4_liveDay, Cond.instanceMethod yX4_liveDay, Cond.selects RX4 yX4_liveDay yX4_liveDay, Cond.code yX4_liveDay cX4_liveDay 3 (some .int), Cond.fieldLink RX4 10 "BarometerLeague" "weather" "LBarometerLeague$Weather;", Cond.methodLink RX4 168 yX4_sayingsOn, Cond.instanceMethod yX4_sayingsOn, Cond.selects RX4 yX4_sayingsOn yX4_sayingsOn, Cond.code yX4_sayingsOn cX4_sayingsOn 3 (some (.array .int)), Cond.fieldLink RX4 32 "BarometerLeague" "sayings" "[I", Cond.fieldLink RX4 19 "BarometerLeague" "signs" "Ljava/util/ArrayList;", Cond.classLink RX4 78 "BarometerLeague$Sign", Cond.methodLink RX4 69 yJx4a65c_size_8abf5, Cond.instanceMethod yJx4a65c_size_8abf5]
def wsL_foresee_r4 : List Cond := [Cond.selects RJx4a65c yJx4a65c_size_8abf5 yJx4a65c_size_8abf5, Cond.initialized RJx4a65c, Cond.code yJx4a65c_size_8abf5 cJx4a65c_size_8abf5 1 (some .int), Cond.fieldLink RJx4a65c 48 "java/util/ArrayList" "size" "I", Cond.methodLink RX4 128 yJx4a65c_get_915e3, Cond.instanceMethod yJx4a65c_get_915e3, Cond.selects RJx4a65c yJx4a65c_get_915e3 yJx4a65c_get_915e3, Cond.code yJx4a65c_get_915e3 cJx4a65c_get_915e3 2 (some (.object "java/lang/Object")), Cond.methodLink RJx4a65c 118 yJ15_checkIndex_7cf53, Cond.static yJ15_checkIndex_7cf53, Cond.initialized RJ15, Cond.code yJ15_checkIndex_7cf53 cJ15_checkIndex_7cf53 2 (some .int), Cond.methodLink RJ15 105 yJ3_checkIndex_8e157, Cond.static yJ3_checkIndex_8e157, Cond.initialized RJ3, Cond.code yJ3_checkIndex_8e157 cJ3_checkIndex_8e157 3 (some .int), Cond.methodLink RJx4a65c 123 yJx4a65c_elementData_915e3, Cond.instanceMethod yJx4a65c_elementData_915e3, Cond.selects RJx4a65c yJx4a65c_elementData_915e3 yJx4a65c_elementData_915e3, Cond.code yJx4a65c_elementData_915e3 cJx4a65c_elementData_915e3 2 (some (.object "java/lang/Object")), Cond.fieldLink RJx4a65c 9 "java/util/ArrayList" "elementData" "[Ljava/lang/Object;", Cond.methodLink RX4 131 yX0_saysRain, Cond.instanceMethod yX0_saysRain, Cond.selects RX0 yX0_saysRain yX0_saysRain]
def wsL_foresee_r5 : List Cond := [Cond.initialized RX0, Cond.code yX0_saysRain cX0_saysRain 6 (some .boolean), Cond.fieldLink RX0 9 "BarometerLeague$Sign" "kind" "I", Cond.fieldLink RX0 15 "BarometerLeague$Sign" "number" "I", Cond.methodLink RX0 18 yX3_glassOn, Cond.instanceMethod yX3_glassOn, Cond.selects RX3 yX3_glassOn yX3_glassOn, Cond.initialized RX3, Cond.code yX3_glassOn cX3_glassOn 2 (some .int), Cond.fieldLink RX3 9 "BarometerLeague$Weather" "glass" "[I", Cond.methodLink RX3 25 yJ9_floorMod_7cf53, Cond.static yJ9_floorMod_7cf53, Cond.initialized RJ9, Cond.code yJ9_floorMod_7cf53 cJ9_floorMod_7cf53 3 (some .int), Cond.methodLink RX0 24 yX3_rainsOn, Cond.instanceMethod yX3_rainsOn, Cond.selects RX3 yX3_rainsOn yX3_rainsOn, Cond.code yX3_rainsOn cX3_rainsOn 2 (some .boolean), Cond.fieldLink RX3 15 "BarometerLeague$Weather" "rain" "[Z", Cond.methodLink RX4 57 yX3_rainsOn, Cond.methodLink RX4 236 yX2_liveDay, Cond.instanceMethod yX2_liveDay, Cond.selects RX2 yX2_liveDay yX2_liveDay, Cond.code yX2_liveDay cX2_liveDay 5 (some .int)]
def wsL_foresee_r6 : List Cond := [Cond.methodLink RX2 41 yX1_liveDay, Cond.instanceMethod yX1_liveDay, Cond.selects RX1 yX1_liveDay yX1_liveDay, Cond.code yX1_liveDay cX1_liveDay 4 (some .boolean), Cond.methodLink RX1 38 yX1_guessesRain, Cond.instanceMethod yX1_guessesRain, Cond.selects RX1 yX1_guessesRain yX1_guessesRain, Cond.code yX1_guessesRain cX1_guessesRain 2 (some .boolean), Cond.methodLink RX1 34 yX1_leadOfRain, Cond.instanceMethod yX1_leadOfRain, Cond.selects RX1 yX1_leadOfRain yX1_leadOfRain, Cond.code yX1_leadOfRain cX1_leadOfRain 4 (some .int), Cond.methodLink RX1 42 yX1_learn, Cond.instanceMethod yX1_learn, Cond.selects RX1 yX1_learn yX1_learn, Cond.code yX1_learn cX1_learn 4 none, Cond.methodLink RX1 48 Lib.Math.min.name, Cond.static Lib.Math.min.name, Cond.initialized "java/lang/Math", Cond.code Lib.Math.min.name Lib.Math.min.code 2 (some .int), Cond.methodLink RX1 45 yX1_sellAlmanacs, Cond.instanceMethod yX1_sellAlmanacs, Cond.selects RX1 yX1_sellAlmanacs yX1_sellAlmanacs, Cond.code yX1_sellAlmanacs cX1_sellAlmanacs 1 none]
def wsL_foresee_r7 : List Cond := [Cond.methodLink RX4 188 yX4_countOver, Cond.instanceMethod yX4_countOver, Cond.selects RX4 yX4_countOver yX4_countOver, Cond.code yX4_countOver cX4_countOver 4 (some .int), Cond.methodLink RX4 212 yX2_allPoints, Cond.instanceMethod yX2_allPoints, Cond.selects RX2 yX2_allPoints yX2_allPoints, Cond.code yX2_allPoints cX2_allPoints 3 (some .int), Cond.methodLink RX4 239 yX2_allCoins, Cond.instanceMethod yX2_allCoins, Cond.selects RX2 yX2_allCoins yX2_allCoins, Cond.code yX2_allCoins cX2_allCoins 3 (some .int), Cond.methodLink RX4 242 yX2_guessingRain, Cond.instanceMethod yX2_guessingRain, Cond.selects RX2 yX2_guessingRain yX2_guessingRain, Cond.code yX2_guessingRain cX2_guessingRain 4 (some .int), Cond.methodLink RX2 55 yX1_guessesRain]
def wsL_foresee : List Cond := .codeWith yL_foresee cL_foresee 5 (some .int) [(0, 10, 13, 15), (0, 10, 17, 13)] :: ((wsL_foresee_r1 ++ (wsL_foresee_r2 ++ (wsL_foresee_r3 ++ (wsL_foresee_r4 ++ (wsL_foresee_r5 ++ (wsL_foresee_r6 ++ wsL_foresee_r7)))))) ++ wsX40 ++ wsX20 ++ wsX10 ++ wsJx4a65c0 ++ wsX00 ++ wsX30 ++ (vx_atS RX4 46 "java/lang/IllegalArgumentException" ["java/lang/RuntimeException", "java/lang/Exception"]).filter goodWord ++ (vx_atS RX4 184 "java/lang/IndexOutOfBoundsException" ["java/lang/RuntimeException", "java/lang/Exception"]).filter goodWord ++ (vx_atS RX2 26 "java/lang/IndexOutOfBoundsException" ["java/lang/RuntimeException", "java/lang/Exception"]).filter goodWord)
def wsL_overtakes_r1 : List Cond := [Cond.classLink RL 13 "java/lang/IndexOutOfBoundsException", Cond.classLink RL 15 "java/lang/IllegalArgumentException", Cond.methodLink RL 63 yX4_overtakes, Cond.instanceMethod yX4_overtakes, Cond.selects RX4 yX4_overtakes yX4_overtakes, Cond.initialized RX4, Cond.code yX4_overtakes cX4_overtakes 6 (some .int), Cond.fieldLink RX4 28 "BarometerLeague" "villages" "LBarometerLeague$VillageRow;", Cond.fieldLink RX4 36 "BarometerLeague" "trials" "LBarometerLeague$VillageRow;", Cond.fieldLink RX4 165 "BarometerLeague" "day" "I", Cond.methodLink RX4 96 yX2_get, Cond.instanceMethod yX2_get, Cond.selects RX2 yX2_get yX2_get, Cond.initialized RX2, Cond.code yX2_get cX2_get 2 (some (.object "BarometerLeague$Village")), Cond.classLink RX2 22 "java/lang/IndexOutOfBoundsException", Cond.initialized "java/lang/IndexOutOfBoundsException", Cond.fieldLink RX2 18 "BarometerLeague$VillageRow" "size" "I", Cond.fieldLink RX2 9 "BarometerLeague$VillageRow" "places" "[LBarometerLeague$Village;", Cond.methodLink RX4 113 yX4_requireTwo, Cond.static yX4_requireTwo, Cond.code yX4_requireTwo cX4_requireTwo 2 none, Cond.classLink RX4 42 "java/lang/IllegalArgumentException", Cond.initialized "java/lang/IllegalArgumentException"]
def wsL_overtakes_r2 : List Cond := [Cond.methodLink RX4 199 yX2_clear, Cond.instanceMethod yX2_clear, Cond.selects RX2 yX2_clear yX2_clear, Cond.code yX2_clear cX2_clear 1 none, Cond.methodLink RX4 202 yX2_addCopy, Cond.instanceMethod yX2_addCopy, Cond.selects RX2 yX2_addCopy yX2_addCopy, Cond.code yX2_addCopy cX2_addCopy 2 none, Cond.methodLink RX2 29 yX2_isFull, Cond.instanceMethod yX2_isFull, Cond.selects RX2 yX2_isFull yX2_isFull, Cond.code yX2_isFull cX2_isFull 1 (some .boolean), Cond.methodLink RX2 33 yX1_becomeLike, Cond.instanceMethod yX1_becomeLike, Cond.selects RX1 yX1_becomeLike yX1_becomeLike, Cond.initialized RX1, Cond.code yX1_becomeLike cX1_becomeLike 3 none, Cond.fieldLink RX1 15 "BarometerLeague$Village" "number" "I", Cond.fieldLink RX1 28 "BarometerLeague$Village" "points" "I", Cond.fieldLink RX1 19 "BarometerLeague$Village" "coins" "I", Cond.fieldLink RX1 31 "BarometerLeague$Village" "rowOfHits" "I", Cond.fieldLink RX1 9 "BarometerLeague$Village" "weights" "[I", Cond.methodLink RX4 205 yX1_isAheadOf, Cond.instanceMethod yX1_isAheadOf]
def wsL_overtakes_r3 : List Cond := [Cond.selects RX1 yX1_isAheadOf yX1_isAheadOf, Cond.code yX1_isAheadOf cX1_isAheadOf 2 (some .boolean), Cond.methodLink RX4 209 yX4_liveDay, Cond.instanceMethod yX4_liveDay, Cond.selects RX4 yX4_liveDay yX4_liveDay, Cond.code yX4_liveDay cX4_liveDay 3 (some .int), Cond.fieldLink RX4 10 "BarometerLeague" "weather" "LBarometerLeague$Weather;", Cond.methodLink RX4 168 yX4_sayingsOn, Cond.instanceMethod yX4_sayingsOn, Cond.selects RX4 yX4_sayingsOn yX4_sayingsOn, Cond.code yX4_sayingsOn cX4_sayingsOn 3 (some (.array .int)), Cond.fieldLink RX4 32 "BarometerLeague" "sayings" "[I", Cond.fieldLink RX4 19 "BarometerLeague" "signs" "Ljava/util/ArrayList;", Cond.classLink RX4 78 "BarometerLeague$Sign", Cond.methodLink RX4 69 yJx4a65c_size_8abf5, Cond.instanceMethod yJx4a65c_size_8abf5, Cond.selects RJx4a65c yJx4a65c_size_8abf5 yJx4a65c_size_8abf5, Cond.initialized RJx4a65c, Cond.code yJx4a65c_size_8abf5 cJx4a65c_size_8abf5 1 (some .int), Cond.fieldLink RJx4a65c 48 "java/util/ArrayList" "size" "I", Cond.methodLink RX4 128 yJx4a65c_get_915e3, Cond.instanceMethod yJx4a65c_get_915e3, Cond.selects RJx4a65c yJx4a65c_get_915e3 yJx4a65c_get_915e3, Cond.code yJx4a65c_get_915e3 cJx4a65c_get_915e3 2 (some (.object "java/lang/Object"))]
def wsL_overtakes_r4 : List Cond := [Cond.methodLink RJx4a65c 118 yJ15_checkIndex_7cf53, Cond.static yJ15_checkIndex_7cf53, Cond.initialized RJ15, Cond.code yJ15_checkIndex_7cf53 cJ15_checkIndex_7cf53 2 (some .int), Cond.methodLink RJ15 105 yJ3_checkIndex_8e157, Cond.static yJ3_checkIndex_8e157, Cond.initialized RJ3, Cond.code yJ3_checkIndex_8e157 cJ3_checkIndex_8e157 3 (some .int), Cond.methodLink RJx4a65c 123 yJx4a65c_elementData_915e3, Cond.instanceMethod yJx4a65c_elementData_915e3, Cond.selects RJx4a65c yJx4a65c_elementData_915e3 yJx4a65c_elementData_915e3, Cond.code yJx4a65c_elementData_915e3 cJx4a65c_elementData_915e3 2 (some (.object "java/lang/Object")), Cond.fieldLink RJx4a65c 9 "java/util/ArrayList" "elementData" "[Ljava/lang/Object;", Cond.methodLink RX4 131 yX0_saysRain, Cond.instanceMethod yX0_saysRain, Cond.selects RX0 yX0_saysRain yX0_saysRain, Cond.initialized RX0, Cond.code yX0_saysRain cX0_saysRain 6 (some .boolean), Cond.fieldLink RX0 9 "BarometerLeague$Sign" "kind" "I", Cond.fieldLink RX0 15 "BarometerLeague$Sign" "number" "I", Cond.methodLink RX0 18 yX3_glassOn, Cond.instanceMethod yX3_glassOn, Cond.selects RX3 yX3_glassOn yX3_glassOn, Cond.initialized RX3]
def wsL_overtakes_r5 : List Cond := [Cond.code yX3_glassOn cX3_glassOn 2 (some .int), Cond.fieldLink RX3 9 "BarometerLeague$Weather" "glass" "[I", Cond.methodLink RX3 25 yJ9_floorMod_7cf53, Cond.static yJ9_floorMod_7cf53, Cond.initialized RJ9, Cond.code yJ9_floorMod_7cf53 cJ9_floorMod_7cf53 3 (some .int), Cond.methodLink RX0 24 yX3_rainsOn, Cond.instanceMethod yX3_rainsOn, Cond.selects RX3 yX3_rainsOn yX3_rainsOn, Cond.code yX3_rainsOn cX3_rainsOn 2 (some .boolean), Cond.fieldLink RX3 15 "BarometerLeague$Weather" "rain" "[Z", Cond.methodLink RX4 57 yX3_rainsOn, Cond.methodLink RX4 236 yX2_liveDay, Cond.instanceMethod yX2_liveDay, Cond.selects RX2 yX2_liveDay yX2_liveDay, Cond.code yX2_liveDay cX2_liveDay 5 (some .int), Cond.methodLink RX2 41 yX1_liveDay, Cond.instanceMethod yX1_liveDay, Cond.selects RX1 yX1_liveDay yX1_liveDay, Cond.code yX1_liveDay cX1_liveDay 4 (some .boolean), Cond.methodLink RX1 38 yX1_guessesRain, Cond.instanceMethod yX1_guessesRain, Cond.selects RX1 yX1_guessesRain yX1_guessesRain, Cond.code yX1_guessesRain cX1_guessesRain 2 (some .boolean)]
def wsL_overtakes_r6 : List Cond := [Cond.methodLink RX1 34 yX1_leadOfRain, Cond.instanceMethod yX1_leadOfRain, Cond.selects RX1 yX1_leadOfRain yX1_leadOfRain, Cond.code yX1_leadOfRain cX1_leadOfRain 4 (some .int), Cond.methodLink RX1 42 yX1_learn, Cond.instanceMethod yX1_learn, Cond.selects RX1 yX1_learn yX1_learn, Cond.code yX1_learn cX1_learn 4 none, Cond.methodLink RX1 48 Lib.Math.min.name, Cond.static Lib.Math.min.name, Cond.initialized "java/lang/Math", Cond.code Lib.Math.min.name Lib.Math.min.code 2 (some .int), Cond.methodLink RX1 45 yX1_sellAlmanacs, Cond.instanceMethod yX1_sellAlmanacs, Cond.selects RX1 yX1_sellAlmanacs yX1_sellAlmanacs, Cond.code yX1_sellAlmanacs cX1_sellAlmanacs 1 none]
def wsL_overtakes : List Cond := .codeWith yL_overtakes cL_overtakes 5 (some .int) [(0, 10, 13, 13), (0, 10, 17, 15)] :: ((wsL_overtakes_r1 ++ (wsL_overtakes_r2 ++ (wsL_overtakes_r3 ++ (wsL_overtakes_r4 ++ (wsL_overtakes_r5 ++ wsL_overtakes_r6))))) ++ wsX40 ++ wsX20 ++ wsX10 ++ wsJx4a65c0 ++ wsX00 ++ wsX30 ++ (vx_atS RX2 26 "java/lang/IndexOutOfBoundsException" ["java/lang/RuntimeException", "java/lang/Exception"]).filter goodWord ++ (vx_atS RX4 46 "java/lang/IllegalArgumentException" ["java/lang/RuntimeException", "java/lang/Exception"]).filter goodWord)
def wsL_advise_r1 : List Cond := [Cond.classLink RL 13 "java/lang/IndexOutOfBoundsException", Cond.classLink RL 15 "java/lang/IllegalArgumentException", Cond.methodLink RL 66 yX4_advise, Cond.instanceMethod yX4_advise, Cond.selects RX4 yX4_advise yX4_advise, Cond.initialized RX4, Cond.code yX4_advise cX4_advise 6 (some .int), Cond.fieldLink RX4 28 "BarometerLeague" "villages" "LBarometerLeague$VillageRow;", Cond.fieldLink RX4 36 "BarometerLeague" "trials" "LBarometerLeague$VillageRow;", Cond.fieldLink RX4 19 "BarometerLeague" "signs" "Ljava/util/ArrayList;", Cond.methodLink RX4 96 yX2_get, Cond.instanceMethod yX2_get, Cond.selects RX2 yX2_get yX2_get, Cond.initialized RX2, Cond.code yX2_get cX2_get 2 (some (.object "BarometerLeague$Village")), Cond.classLink RX2 22 "java/lang/IndexOutOfBoundsException", Cond.initialized "java/lang/IndexOutOfBoundsException", Cond.fieldLink RX2 18 "BarometerLeague$VillageRow" "size" "I", Cond.fieldLink RX2 9 "BarometerLeague$VillageRow" "places" "[LBarometerLeague$Village;", Cond.methodLink RX4 192 yX4_requireDays, Cond.static yX4_requireDays, Cond.code yX4_requireDays cX4_requireDays 2 none, Cond.classLink RX4 42 "java/lang/IllegalArgumentException", Cond.initialized "java/lang/IllegalArgumentException"]
def wsL_advise_r2 : List Cond := [Cond.methodLink RX4 199 yX2_clear, Cond.instanceMethod yX2_clear, Cond.selects RX2 yX2_clear yX2_clear, Cond.code yX2_clear cX2_clear 1 none, Cond.methodLink RX4 69 yJx4a65c_size_8abf5, Cond.instanceMethod yJx4a65c_size_8abf5, Cond.selects RJx4a65c yJx4a65c_size_8abf5 yJx4a65c_size_8abf5, Cond.initialized RJx4a65c, Cond.code yJx4a65c_size_8abf5 cJx4a65c_size_8abf5 1 (some .int), Cond.fieldLink RJx4a65c 48 "java/util/ArrayList" "size" "I", Cond.methodLink RX4 202 yX2_addCopy, Cond.instanceMethod yX2_addCopy, Cond.selects RX2 yX2_addCopy yX2_addCopy, Cond.code yX2_addCopy cX2_addCopy 2 none, Cond.methodLink RX2 29 yX2_isFull, Cond.instanceMethod yX2_isFull, Cond.selects RX2 yX2_isFull yX2_isFull, Cond.code yX2_isFull cX2_isFull 1 (some .boolean), Cond.methodLink RX2 33 yX1_becomeLike, Cond.instanceMethod yX1_becomeLike, Cond.selects RX1 yX1_becomeLike yX1_becomeLike, Cond.initialized RX1, Cond.code yX1_becomeLike cX1_becomeLike 3 none, Cond.fieldLink RX1 15 "BarometerLeague$Village" "number" "I"]
def wsL_advise_r3 : List Cond := [Cond.fieldLink RX1 28 "BarometerLeague$Village" "points" "I", Cond.fieldLink RX1 19 "BarometerLeague$Village" "coins" "I", Cond.fieldLink RX1 31 "BarometerLeague$Village" "rowOfHits" "I", Cond.fieldLink RX1 9 "BarometerLeague$Village" "weights" "[I", Cond.methodLink RX4 95 yX2_size, Cond.instanceMethod yX2_size, Cond.selects RX2 yX2_size yX2_size, Cond.code yX2_size cX2_size 1 (some .int), Cond.methodLink RX4 110 yX1_putWeight, Cond.instanceMethod yX1_putWeight, Cond.selects RX1 yX1_putWeight yX1_putWeight, Cond.code yX1_putWeight cX1_putWeight 3 none, Cond.methodLink RX4 195 yX4_liveDays, Cond.instanceMethod yX4_liveDays, Cond.selects RX4 yX4_liveDays yX4_liveDays, Cond.code yX4_liveDays cX4_liveDays 5 (some .int), Cond.fieldLink RX4 165 "BarometerLeague" "day" "I", Cond.methodLink RX4 209 yX4_liveDay, Cond.instanceMethod yX4_liveDay, Cond.selects RX4 yX4_liveDay yX4_liveDay, Cond.code yX4_liveDay cX4_liveDay 3 (some .int), Cond.fieldLink RX4 10 "BarometerLeague" "weather" "LBarometerLeague$Weather;", Cond.methodLink RX4 168 yX4_sayingsOn, Cond.instanceMethod yX4_sayingsOn]
def wsL_advise_r4 : List Cond := [Cond.selects RX4 yX4_sayingsOn yX4_sayingsOn, Cond.code yX4_sayingsOn cX4_sayingsOn 3 (some (.array .int)), Cond.fieldLink RX4 32 "BarometerLeague" "sayings" "[I", Cond.classLink RX4 78 "BarometerLeague$Sign", Cond.methodLink RX4 128 yJx4a65c_get_915e3, Cond.instanceMethod yJx4a65c_get_915e3, Cond.selects RJx4a65c yJx4a65c_get_915e3 yJx4a65c_get_915e3, Cond.code yJx4a65c_get_915e3 cJx4a65c_get_915e3 2 (some (.object "java/lang/Object")), Cond.methodLink RJx4a65c 118 yJ15_checkIndex_7cf53, Cond.static yJ15_checkIndex_7cf53, Cond.initialized RJ15, Cond.code yJ15_checkIndex_7cf53 cJ15_checkIndex_7cf53 2 (some .int), Cond.methodLink RJ15 105 yJ3_checkIndex_8e157, Cond.static yJ3_checkIndex_8e157, Cond.initialized RJ3, Cond.code yJ3_checkIndex_8e157 cJ3_checkIndex_8e157 3 (some .int), Cond.methodLink RJx4a65c 123 yJx4a65c_elementData_915e3, Cond.instanceMethod yJx4a65c_elementData_915e3, Cond.selects RJx4a65c yJx4a65c_elementData_915e3 yJx4a65c_elementData_915e3, Cond.code yJx4a65c_elementData_915e3 cJx4a65c_elementData_915e3 2 (some (.object "java/lang/Object")), Cond.fieldLink RJx4a65c 9 "java/util/ArrayList" "elementData" "[Ljava/lang/Object;", Cond.methodLink RX4 131 yX0_saysRain, Cond.instanceMethod yX0_saysRain, Cond.selects RX0 yX0_saysRain yX0_saysRain]
def wsL_advise_r5 : List Cond := [Cond.initialized RX0, Cond.code yX0_saysRain cX0_saysRain 6 (some .boolean), Cond.fieldLink RX0 9 "BarometerLeague$Sign" "kind" "I", Cond.fieldLink RX0 15 "BarometerLeague$Sign" "number" "I", Cond.methodLink RX0 18 yX3_glassOn, Cond.instanceMethod yX3_glassOn, Cond.selects RX3 yX3_glassOn yX3_glassOn, Cond.initialized RX3, Cond.code yX3_glassOn cX3_glassOn 2 (some .int), Cond.fieldLink RX3 9 "BarometerLeague$Weather" "glass" "[I", Cond.methodLink RX3 25 yJ9_floorMod_7cf53, Cond.static yJ9_floorMod_7cf53, Cond.initialized RJ9, Cond.code yJ9_floorMod_7cf53 cJ9_floorMod_7cf53 3 (some .int), Cond.methodLink RX0 24 yX3_rainsOn, Cond.instanceMethod yX3_rainsOn, Cond.selects RX3 yX3_rainsOn yX3_rainsOn, Cond.code yX3_rainsOn cX3_rainsOn 2 (some .boolean), Cond.fieldLink RX3 15 "BarometerLeague$Weather" "rain" "[Z", Cond.methodLink RX4 57 yX3_rainsOn, Cond.methodLink RX4 236 yX2_liveDay, Cond.instanceMethod yX2_liveDay, Cond.selects RX2 yX2_liveDay yX2_liveDay, Cond.code yX2_liveDay cX2_liveDay 5 (some .int)]
def wsL_advise_r6 : List Cond := [Cond.methodLink RX2 41 yX1_liveDay, Cond.instanceMethod yX1_liveDay, Cond.selects RX1 yX1_liveDay yX1_liveDay, Cond.code yX1_liveDay cX1_liveDay 4 (some .boolean), Cond.methodLink RX1 38 yX1_guessesRain, Cond.instanceMethod yX1_guessesRain, Cond.selects RX1 yX1_guessesRain yX1_guessesRain, Cond.code yX1_guessesRain cX1_guessesRain 2 (some .boolean), Cond.methodLink RX1 34 yX1_leadOfRain, Cond.instanceMethod yX1_leadOfRain, Cond.selects RX1 yX1_leadOfRain yX1_leadOfRain, Cond.code yX1_leadOfRain cX1_leadOfRain 4 (some .int), Cond.methodLink RX1 42 yX1_learn, Cond.instanceMethod yX1_learn, Cond.selects RX1 yX1_learn yX1_learn, Cond.code yX1_learn cX1_learn 4 none, Cond.methodLink RX1 48 Lib.Math.min.name, Cond.static Lib.Math.min.name, Cond.initialized "java/lang/Math", Cond.code Lib.Math.min.name Lib.Math.min.code 2 (some .int), Cond.methodLink RX1 45 yX1_sellAlmanacs, Cond.instanceMethod yX1_sellAlmanacs, Cond.selects RX1 yX1_sellAlmanacs yX1_sellAlmanacs, Cond.code yX1_sellAlmanacs cX1_sellAlmanacs 1 none]
def wsL_advise : List Cond := .codeWith yL_advise cL_advise 5 (some .int) [(0, 10, 13, 13), (0, 10, 17, 15)] :: ((wsL_advise_r1 ++ (wsL_advise_r2 ++ (wsL_advise_r3 ++ (wsL_advise_r4 ++ (wsL_advise_r5 ++ wsL_advise_r6))))) ++ wsX40 ++ wsX10 ++ wsX20 ++ wsJx4a65c0 ++ wsX00 ++ wsX30 ++ (vx_atS RX2 26 "java/lang/IndexOutOfBoundsException" ["java/lang/RuntimeException", "java/lang/Exception"]).filter goodWord ++ (vx_atS RX4 46 "java/lang/IllegalArgumentException" ["java/lang/RuntimeException", "java/lang/Exception"]).filter goodWord)
def wsL_law0_r1 : List Cond := [Cond.classLink RL 8 RX4, Cond.instantiable RX4 6, Cond.initialized RX4, Cond.classLink RL 70 RX6, Cond.instantiable RX6 10, Cond.initialized RX6, Cond.arrayClass .long, Cond.methodLink RL 69 yX4_init, Cond.instanceMethod yX4_init, Cond.code yX4_init cX4_init 1 none, Cond.methodLink RX4 1 objectInit, Cond.instanceMethod objectInit, Cond.code objectInit ⟨#[0xb1]⟩ 1 none, Cond.classLink RX4 7 RX3, Cond.instantiable RX3 2, Cond.initialized RX3, Cond.fieldLink RX4 10 "BarometerLeague" "weather" "LBarometerLeague$Weather;", Cond.classLink RX4 16 RJx4a65c, Cond.instantiable RJx4a65c 3, Cond.initialized RJx4a65c, Cond.fieldLink RX4 19 "BarometerLeague" "signs" "Ljava/util/ArrayList;", Cond.classLink RX4 23 RX2, Cond.instantiable RX2 2, Cond.initialized RX2]
def wsL_law0_r2 : List Cond := [Cond.fieldLink RX4 28 "BarometerLeague" "villages" "LBarometerLeague$VillageRow;", Cond.arrayClass .int, Cond.fieldLink RX4 32 "BarometerLeague" "sayings" "[I", Cond.fieldLink RX4 36 "BarometerLeague" "trials" "LBarometerLeague$VillageRow;", Cond.methodLink RX4 9 yX3_init, Cond.instanceMethod yX3_init, Cond.code yX3_init cX3_init 1 none, Cond.methodLink RX3 3 objectInit, Cond.fieldLink RX3 9 "BarometerLeague$Weather" "glass" "[I", Cond.arrayClass .boolean, Cond.fieldLink RX3 15 "BarometerLeague$Weather" "rain" "[Z", Cond.methodLink RX3 19 yJ7_fill_53178, Cond.static yJ7_fill_53178, Cond.initialized RJ7, Cond.code yJ7_fill_53178 cJ7_fill_53178 4 none, Cond.methodLink RX4 18 yJx4a65c_init_da8c8, Cond.instanceMethod yJx4a65c_init_da8c8, Cond.code yJx4a65c_init_da8c8 cJx4a65c_init_da8c8 1 none, Cond.fieldLink RJx4a65c 39 "java/util/ArrayList" "DEFAULTCAPACITY_EMPTY_ELEMENTDATA" "[Ljava/lang/Object;", Cond.fieldLink RJx4a65c 9 "java/util/ArrayList" "elementData" "[Ljava/lang/Object;", Cond.methodLink RJx4a65c 1 yJxc12de_init_da8c8, Cond.instanceMethod yJxc12de_init_da8c8, Cond.initialized RJxc12de, Cond.code yJxc12de_init_da8c8 cJxc12de_init_da8c8 1 none]
def wsL_law0_r3 : List Cond := [Cond.fieldLink RJxc12de 7 "java/util/AbstractList" "modCount" "I", Cond.methodLink RJxc12de 1 yJxa1e45_init_da8c8, Cond.instanceMethod yJxa1e45_init_da8c8, Cond.initialized RJxa1e45, Cond.code yJxa1e45_init_da8c8 cJxa1e45_init_da8c8 1 none, Cond.methodLink RJxa1e45 1 objectInit, Cond.methodLink RX4 25 yX2_init, Cond.instanceMethod yX2_init, Cond.code yX2_init cX2_init 3 none, Cond.methodLink RX2 1 objectInit, Cond.classLink RX2 7 RX1, Cond.fieldLink RX2 9 "BarometerLeague$VillageRow" "places" "[LBarometerLeague$Village;", Cond.instantiable RX1 5, Cond.initialized RX1, Cond.methodLink RX2 15 yX1_init, Cond.instanceMethod yX1_init, Cond.code yX1_init cX1_init 2 none, Cond.methodLink RX1 3 objectInit, Cond.fieldLink RX1 9 "BarometerLeague$Village" "weights" "[I", Cond.fieldLink RX1 15 "BarometerLeague$Village" "number" "I", Cond.fieldLink RX1 19 "BarometerLeague$Village" "coins" "I", Cond.methodLink RX1 22 yJ7_fill_53178, Cond.methodLink RL 72 yX6_init, Cond.instanceMethod yX6_init]
def wsL_law0_r4 : List Cond := [Cond.code yX6_init cX6_init 2 none, Cond.methodLink RX6 1 objectInit, Cond.fieldLink RX6 9 "BarometerLeagueModel" "glass" "[I", Cond.fieldLink RX6 13 "BarometerLeagueModel" "rains" "[I", Cond.fieldLink RX6 16 "BarometerLeagueModel" "kind" "[I", Cond.fieldLink RX6 19 "BarometerLeagueModel" "number" "[I", Cond.fieldLink RX6 22 "BarometerLeagueModel" "said" "[I", Cond.classLink RX6 25 RX5, Cond.instantiable RX5 6, Cond.initialized RX5, Cond.fieldLink RX6 28 "BarometerLeagueModel" "now" "LBarometerLeagueModel$State;", Cond.fieldLink RX6 32 "BarometerLeagueModel" "ahead" "LBarometerLeagueModel$State;", Cond.instanceMethod yX5_init, Cond.code yX5_init cX5_init 1 none, Cond.methodLink RX5 3 objectInit, Cond.fieldLink RX5 9 "BarometerLeagueModel$State" "points" "[I", Cond.fieldLink RX5 15 "BarometerLeagueModel$State" "coins" "[I", Cond.fieldLink RX5 18 "BarometerLeagueModel$State" "row" "[I", Cond.fieldLink RX5 21 "BarometerLeagueModel$State" "weight" "[I", Cond.methodLink RL 73 yL_setGlass, Cond.static yL_setGlass, Cond.initialized RL, Cond.codeWith yL_setGlass cL_setGlass 5 (some .int) [(0, 10, 13, 13), (0, 10, 17, 15)], Cond.classLink RL 13 "java/lang/IndexOutOfBoundsException"]
def wsL_law0_r5 : List Cond := [Cond.classLink RL 15 "java/lang/IllegalArgumentException", Cond.methodLink RL 7 yX4_setGlass, Cond.instanceMethod yX4_setGlass, Cond.selects RX4 yX4_setGlass yX4_setGlass, Cond.code yX4_setGlass cX4_setGlass 4 (some .int), Cond.classLink RX4 42 "java/lang/IllegalArgumentException", Cond.initialized "java/lang/IllegalArgumentException", Cond.methodLink RX4 39 yX4_requireTableDay, Cond.static yX4_requireTableDay, Cond.code yX4_requireTableDay cX4_requireTableDay 1 none, Cond.classLink RX4 180 "java/lang/IndexOutOfBoundsException", Cond.initialized "java/lang/IndexOutOfBoundsException", Cond.methodLink RX4 49 yX3_glassOn, Cond.instanceMethod yX3_glassOn, Cond.selects RX3 yX3_glassOn yX3_glassOn, Cond.code yX3_glassOn cX3_glassOn 2 (some .int), Cond.methodLink RX3 25 yJ9_floorMod_7cf53, Cond.static yJ9_floorMod_7cf53, Cond.initialized RJ9, Cond.code yJ9_floorMod_7cf53 cJ9_floorMod_7cf53 3 (some .int), Cond.methodLink RX4 53 yX3_putGlass, Cond.instanceMethod yX3_putGlass, Cond.selects RX3 yX3_putGlass yX3_putGlass, Cond.code yX3_putGlass cX3_putGlass 3 none]
def wsL_law0_r6 : List Cond := [Cond.methodLink RL 78 yX6_setGlass, Cond.instanceMethod yX6_setGlass, Cond.selects RX6 yX6_setGlass yX6_setGlass, Cond.code yX6_setGlass cX6_setGlass 4 (some .int), Cond.fieldLink RX6 41 "BarometerLeagueModel" "thrown" "I", Cond.methodLink RX6 48 yX6_isIn, Cond.static yX6_isIn, Cond.code yX6_isIn cX6_isIn 3 (some .boolean), Cond.methodLink RX6 113 yX6_no, Cond.instanceMethod yX6_no, Cond.selects RX6 yX6_no yX6_no, Cond.code yX6_no cX6_no 2 (some .int), Cond.methodLink RL 79 yX6_thrown, Cond.instanceMethod yX6_thrown, Cond.selects RX6 yX6_thrown yX6_thrown, Cond.code yX6_thrown cX6_thrown 1 (some .int), Cond.methodLink RL 82 yL_setRain, Cond.static yL_setRain, Cond.codeWith yL_setRain cL_setRain 5 (some .int) [(0, 17, 20, 13)], Cond.methodLink RL 17 yX4_setRain, Cond.instanceMethod yX4_setRain, Cond.selects RX4 yX4_setRain yX4_setRain, Cond.code yX4_setRain cX4_setRain 4 (some .boolean), Cond.methodLink RX4 57 yX3_rainsOn]
def wsL_law0_r7 : List Cond := [Cond.instanceMethod yX3_rainsOn, Cond.selects RX3 yX3_rainsOn yX3_rainsOn, Cond.code yX3_rainsOn cX3_rainsOn 2 (some .boolean), Cond.methodLink RX4 61 yX3_putRain, Cond.instanceMethod yX3_putRain, Cond.selects RX3 yX3_putRain yX3_putRain, Cond.code yX3_putRain cX3_putRain 3 none, Cond.methodLink RL 85 yX6_setRain, Cond.instanceMethod yX6_setRain, Cond.selects RX6 yX6_setRain yX6_setRain, Cond.code yX6_setRain cX6_setRain 4 (some .boolean), Cond.methodLink RL 86 yL_sign, Cond.static yL_sign, Cond.codeWith yL_sign cL_sign 5 (some .int) [(0, 10, 13, 15), (0, 10, 17, 24)], Cond.classLink RL 24 "java/lang/IllegalStateException", Cond.methodLink RL 21 yX4_sign, Cond.instanceMethod yX4_sign, Cond.selects RX4 yX4_sign yX4_sign, Cond.code yX4_sign cX4_sign 3 (some .int), Cond.classLink RX4 73 "java/lang/IllegalStateException", Cond.initialized "java/lang/IllegalStateException", Cond.classLink RX4 78 RX0, Cond.instantiable RX0 2, Cond.initialized RX0]
def wsL_law0_r8 : List Cond := [Cond.methodLink RX4 69 yJx4a65c_size_8abf5, Cond.instanceMethod yJx4a65c_size_8abf5, Cond.selects RJx4a65c yJx4a65c_size_8abf5 yJx4a65c_size_8abf5, Cond.code yJx4a65c_size_8abf5 cJx4a65c_size_8abf5 1 (some .int), Cond.fieldLink RJx4a65c 48 "java/util/ArrayList" "size" "I", Cond.methodLink RX4 80 yX0_init, Cond.instanceMethod yX0_init, Cond.code yX0_init cX0_init 3 none, Cond.methodLink RX0 3 objectInit, Cond.fieldLink RX0 9 "BarometerLeague$Sign" "kind" "I", Cond.fieldLink RX0 15 "BarometerLeague$Sign" "number" "I", Cond.methodLink RX4 82 yJx4a65c_add_9ea2d, Cond.instanceMethod yJx4a65c_add_9ea2d, Cond.selects RJx4a65c yJx4a65c_add_9ea2d yJx4a65c_add_9ea2d, Cond.code yJx4a65c_add_9ea2d cJx4a65c_add_9ea2d 2 (some .boolean), Cond.fieldLink RJx4a65c 63 "java/util/ArrayList" "modCount" "I", Cond.sameField "java/util/ArrayList" "java/util/AbstractList" "modCount" "I", Cond.methodLink RJx4a65c 131 yJx4a65c_add_72be8, Cond.instanceMethod yJx4a65c_add_72be8, Cond.selects RJx4a65c yJx4a65c_add_72be8 yJx4a65c_add_72be8, Cond.code yJx4a65c_add_72be8 cJx4a65c_add_72be8 4 none, Cond.methodLink RJx4a65c 129 yJx4a65c_grow_d5877, Cond.instanceMethod yJx4a65c_grow_d5877, Cond.selects RJx4a65c yJx4a65c_grow_d5877 yJx4a65c_grow_d5877]
def wsL_law0_r9 : List Cond := [Cond.code yJx4a65c_grow_d5877 cJx4a65c_grow_d5877 1 (some (.array (.object "java/lang/Object"))), Cond.methodLink RJx4a65c 69 yJx4a65c_grow_92f84, Cond.instanceMethod yJx4a65c_grow_92f84, Cond.selects RJx4a65c yJx4a65c_grow_92f84 yJx4a65c_grow_92f84, Cond.code yJx4a65c_grow_92f84 cJx4a65c_grow_92f84 4 (some (.array (.object "java/lang/Object"))), Cond.methodLink RJx4a65c 79 Lib.Math.max.name, Cond.static Lib.Math.max.name, Cond.initialized "java/lang/Math", Cond.code Lib.Math.max.name Lib.Math.max.code 2 (some .int), Cond.classLink RJx4a65c 7 "java/lang/Object", Cond.methodLink RJx4a65c 73 yJ8_newLength_cabcc, Cond.static yJ8_newLength_cabcc, Cond.initialized RJ8, Cond.code yJ8_newLength_cabcc cJ8_newLength_cabcc 4 (some .int), Cond.methodLink RJ8 194 Lib.Math.max.name, Cond.constant RJ8 200 (2147483639), Cond.methodLink RJ8 201 yJ8_hugeLength_7cf53, Cond.static yJ8_hugeLength_7cf53, Cond.code yJ8_hugeLength_7cf53 cJ8_hugeLength_7cf53 3 (some .int), Cond.methodLink RJx4a65c 66 yJ7_copyOf_1904c, Cond.static yJ7_copyOf_1904c, Cond.code yJ7_copyOf_1904c cJ7_copyOf_1904c 2 (some (.array (.object "java/lang/Object"))), Cond.methodLink RJ7 86 ⟨"java/lang/Object", "getClass", "()Ljava/lang/Class;"⟩, Cond.selects "[Ljava/lang/Object;" ⟨"java/lang/Object", "getClass", "()Ljava/lang/Class;"⟩ ⟨"java/lang/Object", "getClass", "()Ljava/lang/Class;"⟩]
def wsL_law0_r10 : List Cond := [Cond.instanceMethod ⟨"java/lang/Object", "getClass", "()Ljava/lang/Class;"⟩, Cond.native ⟨"java/lang/Object", "getClass", "()Ljava/lang/Class;"⟩, Cond.methodLink RJ7 300 yJ7_copyOf_6403c, Cond.static yJ7_copyOf_6403c, Cond.code yJ7_copyOf_6403c cJ7_copyOf_6403c 4 (some (.array (.object "java/lang/Object"))), Cond.classLink RJ7 110 "[Ljava/lang/Object;", Cond.classLink RJ7 2 "java/lang/Object", Cond.methodLink RJ7 304 Lib.Math.min.name, Cond.static Lib.Math.min.name, Cond.code Lib.Math.min.name Lib.Math.min.code 2 (some .int), Cond.methodLink RJ7 150 arraycopyName, Cond.native arraycopyName, Cond.static arraycopyName, Cond.initialized "java/lang/System", Cond.methodLink RL 88 yX6_sign, Cond.instanceMethod yX6_sign, Cond.selects RX6 yX6_sign yX6_sign, Cond.code yX6_sign cX6_sign 3 (some .int), Cond.fieldLink RX6 45 "BarometerLeagueModel" "signs" "I", Cond.methodLink RL 89 yL_join, Cond.static yL_join, Cond.codeWith yL_join cL_join 3 (some .int) [(0, 8, 11, 24)], Cond.methodLink RL 26 yX4_join, Cond.instanceMethod yX4_join]
def wsL_law0_r11 : List Cond := [Cond.selects RX4 yX4_join yX4_join, Cond.code yX4_join cX4_join 1 (some .int), Cond.methodLink RX4 86 yX2_isFull, Cond.instanceMethod yX2_isFull, Cond.selects RX2 yX2_isFull yX2_isFull, Cond.code yX2_isFull cX2_isFull 1 (some .boolean), Cond.fieldLink RX2 18 "BarometerLeague$VillageRow" "size" "I", Cond.methodLink RX4 92 yX2_grow, Cond.instanceMethod yX2_grow, Cond.selects RX2 yX2_grow yX2_grow, Cond.code yX2_grow cX2_grow 1 none, Cond.methodLink RX2 29 yX2_isFull, Cond.methodLink RX4 95 yX2_size, Cond.instanceMethod yX2_size, Cond.selects RX2 yX2_size yX2_size, Cond.code yX2_size cX2_size 1 (some .int), Cond.methodLink RL 92 yX6_join, Cond.instanceMethod yX6_join, Cond.selects RX6 yX6_join yX6_join, Cond.code yX6_join cX6_join 1 (some .int), Cond.fieldLink RX6 52 "BarometerLeagueModel" "villages" "I", Cond.methodLink RL 93 yL_weigh, Cond.static yL_weigh, Cond.codeWith yL_weigh cL_weigh 6 (some .int) [(0, 12, 15, 13), (0, 12, 19, 15)]]
def wsL_law0_r12 : List Cond := [Cond.methodLink RL 30 yX4_weigh, Cond.instanceMethod yX4_weigh, Cond.selects RX4 yX4_weigh yX4_weigh, Cond.code yX4_weigh cX4_weigh 6 (some .int), Cond.methodLink RX4 96 yX2_get, Cond.instanceMethod yX2_get, Cond.selects RX2 yX2_get yX2_get, Cond.code yX2_get cX2_get 2 (some (.object "BarometerLeague$Village")), Cond.classLink RX2 22 "java/lang/IndexOutOfBoundsException", Cond.methodLink RX4 100 yX4_requireSign, Cond.instanceMethod yX4_requireSign, Cond.selects RX4 yX4_requireSign yX4_requireSign, Cond.code yX4_requireSign cX4_requireSign 2 none, Cond.methodLink RX4 105 yX1_weightOf, Cond.instanceMethod yX1_weightOf, Cond.selects RX1 yX1_weightOf yX1_weightOf, Cond.code yX1_weightOf cX1_weightOf 2 (some .int), Cond.methodLink RX4 110 yX1_putWeight, Cond.instanceMethod yX1_putWeight, Cond.selects RX1 yX1_putWeight yX1_putWeight, Cond.code yX1_putWeight cX1_putWeight 3 none, Cond.methodLink RL 96 yX6_weigh, Cond.instanceMethod yX6_weigh, Cond.selects RX6 yX6_weigh yX6_weigh]
def wsL_law0_r13 : List Cond := [Cond.code yX6_weigh cX6_weigh 5 (some .int), Cond.methodLink RX6 117 yX6_isVillage, Cond.instanceMethod yX6_isVillage, Cond.selects RX6 yX6_isVillage yX6_isVillage, Cond.code yX6_isVillage cX6_isVillage 2 (some .boolean), Cond.methodLink RX6 121 yX6_isSign, Cond.instanceMethod yX6_isSign, Cond.selects RX6 yX6_isSign yX6_isSign, Cond.code yX6_isSign cX6_isSign 2 (some .boolean), Cond.methodLink RL 97 yL_share, Cond.static yL_share, Cond.codeWith yL_share cL_share 5 (some .int) [(0, 10, 13, 13), (0, 10, 17, 15), (0, 10, 21, 24)], Cond.methodLink RL 34 yX4_share, Cond.instanceMethod yX4_share, Cond.selects RX4 yX4_share yX4_share, Cond.code yX4_share cX4_share 5 (some .int), Cond.methodLink RX4 113 yX4_requireTwo, Cond.static yX4_requireTwo, Cond.code yX4_requireTwo cX4_requireTwo 2 none, Cond.methodLink RX4 122 yX1_buyWeightsOf, Cond.instanceMethod yX1_buyWeightsOf, Cond.selects RX1 yX1_buyWeightsOf yX1_buyWeightsOf, Cond.code yX1_buyWeightsOf cX1_buyWeightsOf 3 none, Cond.methodLink RL 99 yX6_share]
def wsL_law0_r14 : List Cond := [Cond.instanceMethod yX6_share, Cond.selects RX6 yX6_share yX6_share, Cond.code yX6_share cX6_share 4 (some .int), Cond.methodLink RL 100 yL_says, Cond.static yL_says, Cond.codeWith yL_says cL_says 5 (some .int) [(0, 17, 20, 13), (0, 17, 24, 15)], Cond.methodLink RL 37 yX4_says, Cond.instanceMethod yX4_says, Cond.selects RX4 yX4_says yX4_says, Cond.code yX4_says cX4_says 3 (some .boolean), Cond.classLink RX4 78 "BarometerLeague$Sign", Cond.methodLink RX4 128 yJx4a65c_get_915e3, Cond.instanceMethod yJx4a65c_get_915e3, Cond.selects RJx4a65c yJx4a65c_get_915e3 yJx4a65c_get_915e3, Cond.code yJx4a65c_get_915e3 cJx4a65c_get_915e3 2 (some (.object "java/lang/Object")), Cond.methodLink RJx4a65c 118 yJ15_checkIndex_7cf53, Cond.static yJ15_checkIndex_7cf53, Cond.initialized RJ15, Cond.code yJ15_checkIndex_7cf53 cJ15_checkIndex_7cf53 2 (some .int), Cond.methodLink RJ15 105 yJ3_checkIndex_8e157, Cond.static yJ3_checkIndex_8e157, Cond.initialized RJ3, Cond.code yJ3_checkIndex_8e157 cJ3_checkIndex_8e157 3 (some .int), Cond.methodLink RJx4a65c 123 yJx4a65c_elementData_915e3]
def wsL_law0_r15 : List Cond := [Cond.instanceMethod yJx4a65c_elementData_915e3, Cond.selects RJx4a65c yJx4a65c_elementData_915e3 yJx4a65c_elementData_915e3, Cond.code yJx4a65c_elementData_915e3 cJx4a65c_elementData_915e3 2 (some (.object "java/lang/Object")), Cond.methodLink RX4 131 yX0_saysRain, Cond.instanceMethod yX0_saysRain, Cond.selects RX0 yX0_saysRain yX0_saysRain, Cond.code yX0_saysRain cX0_saysRain 6 (some .boolean), Cond.methodLink RX0 18 yX3_glassOn, Cond.methodLink RX0 24 yX3_rainsOn, Cond.methodLink RL 102 yX6_says, Cond.instanceMethod yX6_says, Cond.selects RX6 yX6_says yX6_says, Cond.code yX6_says cX6_says 3 (some .boolean), Cond.methodLink RX6 55 yX6_isRain, Cond.instanceMethod yX6_isRain, Cond.selects RX6 yX6_isRain yX6_isRain, Cond.code yX6_isRain cX6_isRain 5 (some .boolean), Cond.methodLink RL 103 yL_told, Cond.static yL_told, Cond.codeWith yL_told cL_told 5 (some .int) [(0, 10, 13, 13)], Cond.methodLink RL 41 yX4_told, Cond.instanceMethod yX4_told, Cond.selects RX4 yX4_told yX4_told, Cond.code yX4_told cX4_told 4 (some .int)]
def wsL_law0_r16 : List Cond := [Cond.methodLink RX4 135 yX4_requireWhat, Cond.static yX4_requireWhat, Cond.code yX4_requireWhat cX4_requireWhat 3 none, Cond.methodLink RX4 145 yX0_daysRight, Cond.instanceMethod yX0_daysRight, Cond.selects RX0 yX0_daysRight yX0_daysRight, Cond.code yX0_daysRight cX0_daysRight 4 (some .int), Cond.methodLink RX0 28 yX0_saysRain, Cond.methodLink RX4 149 yX2_allWeightsOf, Cond.instanceMethod yX2_allWeightsOf, Cond.selects RX2 yX2_allWeightsOf yX2_allWeightsOf, Cond.code yX2_allWeightsOf cX2_allWeightsOf 4 (some .int), Cond.methodLink RX2 51 yX1_weightOf, Cond.methodLink RL 105 yX6_told, Cond.instanceMethod yX6_told, Cond.selects RX6 yX6_told yX6_told, Cond.code yX6_told cX6_told 3 (some .int), Cond.methodLink RX6 127 yX6_signTold, Cond.instanceMethod yX6_signTold, Cond.selects RX6 yX6_signTold yX6_signTold, Cond.code yX6_signTold cX6_signTold 5 (some .int), Cond.methodLink RX6 124 yX6_rightDays, Cond.instanceMethod yX6_rightDays, Cond.selects RX6 yX6_rightDays yX6_rightDays]
def wsL_law0_r17 : List Cond := [Cond.code yX6_rightDays cX6_rightDays 4 (some .int), Cond.methodLink RX6 59 yX6_isRight, Cond.instanceMethod yX6_isRight, Cond.selects RX6 yX6_isRight yX6_isRight, Cond.code yX6_isRight cX6_isRight 3 (some .boolean), Cond.methodLink RL 106 yL_weight, Cond.static yL_weight, Cond.codeWith yL_weight cL_weight 5 (some .int) [(0, 10, 13, 13)], Cond.methodLink RL 44 yX4_weight, Cond.instanceMethod yX4_weight, Cond.selects RX4 yX4_weight yX4_weight, Cond.code yX4_weight cX4_weight 4 (some .int), Cond.methodLink RL 108 yX6_weight, Cond.instanceMethod yX6_weight, Cond.selects RX6 yX6_weight yX6_weight, Cond.code yX6_weight cX6_weight 3 (some .int), Cond.methodLink RL 109 yL_about, Cond.static yL_about, Cond.codeWith yL_about cL_about 5 (some .int) [(0, 10, 13, 13)], Cond.methodLink RL 47 yX4_about, Cond.instanceMethod yX4_about, Cond.selects RX4 yX4_about yX4_about, Cond.code yX4_about cX4_about 4 (some .int), Cond.fieldLink RX4 165 "BarometerLeague" "day" "I"]
def wsL_law0_r18 : List Cond := [Cond.methodLink RX4 158 yX1_allWeights, Cond.instanceMethod yX1_allWeights, Cond.selects RX1 yX1_allWeights yX1_allWeights, Cond.code yX1_allWeights cX1_allWeights 4 (some .int), Cond.methodLink RX4 161 yX2_placeOf, Cond.instanceMethod yX2_placeOf, Cond.selects RX2 yX2_placeOf yX2_placeOf, Cond.code yX2_placeOf cX2_placeOf 4 (some .int), Cond.methodLink RX2 37 yX1_isAheadOf, Cond.instanceMethod yX1_isAheadOf, Cond.selects RX1 yX1_isAheadOf yX1_isAheadOf, Cond.code yX1_isAheadOf cX1_isAheadOf 2 (some .boolean), Cond.fieldLink RX1 28 "BarometerLeague$Village" "points" "I", Cond.methodLink RX4 168 yX4_sayingsOn, Cond.instanceMethod yX4_sayingsOn, Cond.selects RX4 yX4_sayingsOn yX4_sayingsOn, Cond.code yX4_sayingsOn cX4_sayingsOn 3 (some (.array .int)), Cond.methodLink RX4 172 yX1_guessesRain, Cond.instanceMethod yX1_guessesRain, Cond.selects RX1 yX1_guessesRain yX1_guessesRain, Cond.code yX1_guessesRain cX1_guessesRain 2 (some .boolean), Cond.methodLink RX1 34 yX1_leadOfRain, Cond.instanceMethod yX1_leadOfRain, Cond.selects RX1 yX1_leadOfRain yX1_leadOfRain]
def wsL_law0_r19 : List Cond := [Cond.code yX1_leadOfRain cX1_leadOfRain 4 (some .int), Cond.methodLink RX4 176 yX1_leadOfRain, Cond.methodLink RL 111 yX6_about, Cond.instanceMethod yX6_about, Cond.selects RX6 yX6_about yX6_about, Cond.code yX6_about cX6_about 3 (some .int), Cond.methodLink RX6 136 yX6_villageTold, Cond.instanceMethod yX6_villageTold, Cond.selects RX6 yX6_villageTold yX6_villageTold, Cond.code yX6_villageTold cX6_villageTold 3 (some .int), Cond.methodLink RX6 87 yX6_look, Cond.instanceMethod yX6_look, Cond.selects RX6 yX6_look yX6_look, Cond.code yX6_look cX6_look 3 none, Cond.methodLink RX6 130 yX6_weightsOf, Cond.instanceMethod yX6_weightsOf, Cond.selects RX6 yX6_weightsOf yX6_weightsOf, Cond.code yX6_weightsOf cX6_weightsOf 4 (some .int), Cond.methodLink RX6 133 yX6_placeOf, Cond.instanceMethod yX6_placeOf, Cond.selects RX6 yX6_placeOf yX6_placeOf, Cond.code yX6_placeOf cX6_placeOf 4 (some .int), Cond.methodLink RX6 109 yX6_isBetter, Cond.static yX6_isBetter]
def wsL_law0_r20 : List Cond := [Cond.code yX6_isBetter cX6_isBetter 3 (some .boolean), Cond.methodLink RX6 62 yX6_lean, Cond.instanceMethod yX6_lean, Cond.selects RX6 yX6_lean yX6_lean, Cond.code yX6_lean cX6_lean 5 (some .int), Cond.methodLink RL 112 yL_at, Cond.static yL_at, Cond.codeWith yL_at cL_at 4 (some .int) [(0, 9, 12, 13)], Cond.methodLink RL 50 yX4_at, Cond.instanceMethod yX4_at, Cond.selects RX4 yX4_at yX4_at, Cond.code yX4_at cX4_at 3 (some .int), Cond.methodLink RL 115 yX6_at, Cond.instanceMethod yX6_at, Cond.selects RX6 yX6_at yX6_at, Cond.code yX6_at cX6_at 3 (some .int), Cond.methodLink RL 116 yL_count, Cond.static yL_count, Cond.codeWith yL_count cL_count 4 (some .int) [(0, 9, 12, 13)], Cond.methodLink RL 54 yX4_count, Cond.instanceMethod yX4_count, Cond.selects RX4 yX4_count yX4_count, Cond.code yX4_count cX4_count 2 (some .int), Cond.methodLink RX4 185 yX3_rainyDays]
def wsL_law0_r21 : List Cond := [Cond.instanceMethod yX3_rainyDays, Cond.selects RX3 yX3_rainyDays yX3_rainyDays, Cond.code yX3_rainyDays cX3_rainyDays 6 (some .int), Cond.methodLink RX4 188 yX4_countOver, Cond.instanceMethod yX4_countOver, Cond.selects RX4 yX4_countOver yX4_countOver, Cond.code yX4_countOver cX4_countOver 4 (some .int), Cond.methodLink RX4 212 yX2_allPoints, Cond.instanceMethod yX2_allPoints, Cond.selects RX2 yX2_allPoints yX2_allPoints, Cond.code yX2_allPoints cX2_allPoints 3 (some .int), Cond.methodLink RX4 239 yX2_allCoins, Cond.instanceMethod yX2_allCoins, Cond.selects RX2 yX2_allCoins yX2_allCoins, Cond.code yX2_allCoins cX2_allCoins 3 (some .int), Cond.methodLink RX4 242 yX2_guessingRain, Cond.instanceMethod yX2_guessingRain, Cond.selects RX2 yX2_guessingRain yX2_guessingRain, Cond.code yX2_guessingRain cX2_guessingRain 4 (some .int), Cond.methodLink RX2 55 yX1_guessesRain, Cond.methodLink RL 118 yX6_count, Cond.instanceMethod yX6_count, Cond.selects RX6 yX6_count yX6_count, Cond.code yX6_count cX6_count 2 (some .int)]
def wsL_law0_r22 : List Cond := [Cond.methodLink RX6 147 yX6_counted, Cond.instanceMethod yX6_counted, Cond.selects RX6 yX6_counted yX6_counted, Cond.code yX6_counted cX6_counted 5 (some .int), Cond.methodLink RX6 139 yX6_sumOf, Cond.instanceMethod yX6_sumOf, Cond.selects RX6 yX6_sumOf yX6_sumOf, Cond.code yX6_sumOf cX6_sumOf 4 (some .int), Cond.methodLink RX6 143 yX6_rainGuessed, Cond.instanceMethod yX6_rainGuessed, Cond.selects RX6 yX6_rainGuessed yX6_rainGuessed, Cond.code yX6_rainGuessed cX6_rainGuessed 4 (some .int), Cond.methodLink RL 119 yL_pass, Cond.static yL_pass, Cond.codeWith yL_pass cL_pass 4 (some .int) [(0, 9, 12, 15)], Cond.methodLink RL 57 yX4_pass, Cond.instanceMethod yX4_pass, Cond.selects RX4 yX4_pass yX4_pass, Cond.code yX4_pass cX4_pass 3 (some .int), Cond.methodLink RX4 192 yX4_requireDays, Cond.static yX4_requireDays, Cond.code yX4_requireDays cX4_requireDays 2 none, Cond.methodLink RX4 195 yX4_liveDays, Cond.instanceMethod yX4_liveDays]
def wsL_law0_r23 : List Cond := [Cond.selects RX4 yX4_liveDays yX4_liveDays, Cond.code yX4_liveDays cX4_liveDays 5 (some .int), Cond.methodLink RX4 209 yX4_liveDay, Cond.instanceMethod yX4_liveDay, Cond.selects RX4 yX4_liveDay yX4_liveDay, Cond.code yX4_liveDay cX4_liveDay 3 (some .int), Cond.methodLink RX4 236 yX2_liveDay, Cond.instanceMethod yX2_liveDay, Cond.selects RX2 yX2_liveDay yX2_liveDay, Cond.code yX2_liveDay cX2_liveDay 5 (some .int), Cond.methodLink RX2 41 yX1_liveDay, Cond.instanceMethod yX1_liveDay, Cond.selects RX1 yX1_liveDay yX1_liveDay, Cond.code yX1_liveDay cX1_liveDay 4 (some .boolean), Cond.fieldLink RX1 31 "BarometerLeague$Village" "rowOfHits" "I", Cond.methodLink RX1 38 yX1_guessesRain, Cond.methodLink RX1 42 yX1_learn, Cond.instanceMethod yX1_learn, Cond.selects RX1 yX1_learn yX1_learn, Cond.code yX1_learn cX1_learn 4 none, Cond.methodLink RX1 48 Lib.Math.min.name, Cond.methodLink RX1 45 yX1_sellAlmanacs, Cond.instanceMethod yX1_sellAlmanacs, Cond.selects RX1 yX1_sellAlmanacs yX1_sellAlmanacs]
def wsL_law0_r24 : List Cond := [Cond.code yX1_sellAlmanacs cX1_sellAlmanacs 1 none, Cond.methodLink RL 121 yX6_pass_, Cond.instanceMethod yX6_pass_, Cond.selects RX6 yX6_pass_ yX6_pass_, Cond.code yX6_pass_ cX6_pass_ 3 (some .int), Cond.methodLink RX6 150 yX6_passAll, Cond.instanceMethod yX6_passAll, Cond.selects RX6 yX6_passAll yX6_passAll, Cond.code yX6_passAll cX6_passAll 4 (some (.object "BarometerLeagueModel$State")), Cond.methodLink RX6 102 yX6_pass, Cond.instanceMethod yX6_pass, Cond.selects RX6 yX6_pass yX6_pass, Cond.code yX6_pass cX6_pass 4 none, Cond.methodLink RX6 91 yX6_guess, Cond.instanceMethod yX6_guess, Cond.selects RX6 yX6_guess yX6_guess, Cond.code yX6_guess cX6_guess 5 none, Cond.methodLink RX6 95 yX6_learn, Cond.instanceMethod yX6_learn, Cond.selects RX6 yX6_learn yX6_learn, Cond.code yX6_learn cX6_learn 6 none, Cond.methodLink RX6 75 Lib.Math.min.name, Cond.methodLink RX6 98 yX6_sell, Cond.static yX6_sell]
def wsL_law0_r25 : List Cond := [Cond.code yX6_sell cX6_sell 2 none, Cond.methodLink RX6 81 Lib.Math.max.name, Cond.methodLink RL 122 yL_foresee, Cond.static yL_foresee, Cond.codeWith yL_foresee cL_foresee 5 (some .int) [(0, 10, 13, 15), (0, 10, 17, 13)], Cond.methodLink RL 60 yX4_foresee, Cond.instanceMethod yX4_foresee, Cond.selects RX4 yX4_foresee yX4_foresee, Cond.code yX4_foresee cX4_foresee 4 (some .int), Cond.methodLink RX4 199 yX2_clear, Cond.instanceMethod yX2_clear, Cond.selects RX2 yX2_clear yX2_clear, Cond.code yX2_clear cX2_clear 1 none, Cond.methodLink RX4 202 yX2_addCopy, Cond.instanceMethod yX2_addCopy, Cond.selects RX2 yX2_addCopy yX2_addCopy, Cond.code yX2_addCopy cX2_addCopy 2 none, Cond.methodLink RX2 33 yX1_becomeLike, Cond.instanceMethod yX1_becomeLike, Cond.selects RX1 yX1_becomeLike yX1_becomeLike, Cond.code yX1_becomeLike cX1_becomeLike 3 none, Cond.methodLink RL 124 yX6_foresee, Cond.instanceMethod yX6_foresee, Cond.selects RX6 yX6_foresee yX6_foresee]
def wsL_law0_r26 : List Cond := [Cond.code yX6_foresee cX6_foresee 3 (some .int), Cond.methodLink RX6 154 yX6_lookAhead, Cond.instanceMethod yX6_lookAhead, Cond.selects RX6 yX6_lookAhead yX6_lookAhead, Cond.code yX6_lookAhead cX6_lookAhead 1 (some (.object "BarometerLeagueModel$State")), Cond.methodLink RX6 106 yX5_become, Cond.instanceMethod yX5_become, Cond.selects RX5 yX5_become yX5_become, Cond.code yX5_become cX5_become 2 none, Cond.fieldLink RX5 30 "BarometerLeagueModel$State" "day" "I", Cond.fieldLink RX5 34 "BarometerLeagueModel$State" "hits" "I", Cond.methodLink RX5 37 yX5_copy, Cond.static yX5_copy, Cond.code yX5_copy cX5_copy 2 none, Cond.methodLink RX5 24 arraycopyName, Cond.methodLink RL 125 yL_overtakes, Cond.static yL_overtakes, Cond.codeWith yL_overtakes cL_overtakes 5 (some .int) [(0, 10, 13, 13), (0, 10, 17, 15)], Cond.methodLink RL 63 yX4_overtakes, Cond.instanceMethod yX4_overtakes, Cond.selects RX4 yX4_overtakes yX4_overtakes, Cond.code yX4_overtakes cX4_overtakes 6 (some .int), Cond.methodLink RX4 205 yX1_isAheadOf, Cond.methodLink RL 127 yX6_overtakes]
def wsL_law0_r27 : List Cond := [Cond.instanceMethod yX6_overtakes, Cond.selects RX6 yX6_overtakes yX6_overtakes, Cond.code yX6_overtakes cX6_overtakes 4 (some .int), Cond.methodLink RL 128 yL_advise, Cond.static yL_advise, Cond.codeWith yL_advise cL_advise 5 (some .int) [(0, 10, 13, 13), (0, 10, 17, 15)], Cond.methodLink RL 66 yX4_advise, Cond.instanceMethod yX4_advise, Cond.selects RX4 yX4_advise yX4_advise, Cond.code yX4_advise cX4_advise 6 (some .int), Cond.methodLink RL 130 yX6_advise, Cond.instanceMethod yX6_advise, Cond.selects RX6 yX6_advise yX6_advise, Cond.code yX6_advise cX6_advise 7 (some .int), Cond.methodLink RL 131 yX4_best, Cond.instanceMethod yX4_best, Cond.selects RX4 yX4_best yX4_best, Cond.code yX4_best cX4_best 5 (some .int), Cond.methodLink RL 134 yX6_best, Cond.instanceMethod yX6_best, Cond.selects RX6 yX6_best yX6_best, Cond.code yX6_best cX6_best 3 (some .int), Cond.methodLink RL 135 yX4_mean, Cond.instanceMethod yX4_mean]
def wsL_law0_r28 : List Cond := [Cond.selects RX4 yX4_mean yX4_mean, Cond.code yX4_mean cX4_mean 1 (some .double), Cond.methodLink RL 139 yX6_mean, Cond.instanceMethod yX6_mean, Cond.selects RX6 yX6_mean yX6_mean, Cond.code yX6_mean cX6_mean 1 (some .double), Cond.methodLink RL 140 yX4_digest, Cond.instanceMethod yX4_digest, Cond.selects RX4 yX4_digest yX4_digest, Cond.code yX4_digest cX4_digest 5 (some .long), Cond.constantLong RX4 215 (1459), Cond.methodLink RX4 217 yX4_count, Cond.methodLink RX4 220 yX4_digestWith, Cond.static yX4_digestWith, Cond.code yX4_digestWith cX4_digestWith 3 (some .long), Cond.constantLong RX4 234 (31), Cond.methodLink RX4 224 yX4_told, Cond.methodLink RX4 228 yX4_about, Cond.methodLink RX4 231 yX4_weight, Cond.methodLink RL 144 yX6_digest, Cond.instanceMethod yX6_digest, Cond.selects RX6 yX6_digest yX6_digest, Cond.code yX6_digest cX6_digest 5 (some .long), Cond.constantLong RX6 158 (1459)]
def wsL_law0_r29 : List Cond := [Cond.constantLong RX6 160 (31)]
def wsL_law0 : List Cond := (wsL_law0_r1 ++ (wsL_law0_r2 ++ (wsL_law0_r3 ++ (wsL_law0_r4 ++ (wsL_law0_r5 ++ (wsL_law0_r6 ++ (wsL_law0_r7 ++ (wsL_law0_r8 ++ (wsL_law0_r9 ++ (wsL_law0_r10 ++ (wsL_law0_r11 ++ (wsL_law0_r12 ++ (wsL_law0_r13 ++ (wsL_law0_r14 ++ (wsL_law0_r15 ++ (wsL_law0_r16 ++ (wsL_law0_r17 ++ (wsL_law0_r18 ++ (wsL_law0_r19 ++ (wsL_law0_r20 ++ (wsL_law0_r21 ++ (wsL_law0_r22 ++ (wsL_law0_r23 ++ (wsL_law0_r24 ++ (wsL_law0_r25 ++ (wsL_law0_r26 ++ (wsL_law0_r27 ++ (wsL_law0_r28 ++ wsL_law0_r29)))))))))))))))))))))))))))) ++ wsX40 ++ wsX60 ++ wsX30 ++ wsJx4a65c0 ++ wsX20 ++ wsX10 ++ wsX50 ++ wsX00 ++ ([] : List Cond)
def wsL_law : List Cond := wsL_law0 ++ (vx_atS RX4 46 "java/lang/IllegalArgumentException" ["java/lang/RuntimeException", "java/lang/Exception"]).filter goodWord ++ (vx_atS RX4 184 "java/lang/IndexOutOfBoundsException" ["java/lang/RuntimeException", "java/lang/Exception"]).filter goodWord ++ (vx_atS RX4 77 "java/lang/IllegalStateException" ["java/lang/RuntimeException", "java/lang/Exception"]).filter goodWord ++ (vx_atS RX2 26 "java/lang/IndexOutOfBoundsException" ["java/lang/RuntimeException", "java/lang/Exception"]).filter goodWord
abbrev vwCl : List vw_C := [(RJx4a65c, TJx4a65c, 3), (RX0, TX0, 2), (RX1, TX1, 5), (RX2, TX2, 2), (RX3, TX3, 2), (RX4, TX4, 6), (RX5, TX5, 6), (RX6, TX6, 10)]
end
section
theorem dX0_init_0 : decode cX0_init 0 = .ok (.aload_n 0, 1) := by decide +kernel
theorem dX0_init_1 : decode cX0_init 1 = .ok (.invokespecial 3, 3) := by decide +kernel
theorem dX0_init_4 : decode cX0_init 4 = .ok (.aload_n 0, 1) := by decide +kernel
theorem dX0_init_5 : decode cX0_init 5 = .ok (.iload_n 1, 1) := by decide +kernel
theorem dX0_init_6 : decode cX0_init 6 = .ok (.putfield 9, 3) := by decide +kernel
theorem dX0_init_9 : decode cX0_init 9 = .ok (.aload_n 0, 1) := by decide +kernel
theorem dX0_init_10 : decode cX0_init 10 = .ok (.iload_n 2, 1) := by decide +kernel
theorem dX0_init_11 : decode cX0_init 11 = .ok (.putfield 15, 3) := by decide +kernel
theorem dX0_init_14 : decode cX0_init 14 = .ok (.return_, 1) := by decide +kernel
set_option maxRecDepth 20000 in
theorem ggX0_saysRain_X3_glassOn : GoodIn wsX0_saysRain wsX3_glassOn := goodIn_r _ [7, 8, 9, 10, 11, 12, 20, 21] (by decide +kernel) (by decide +kernel)
set_option maxRecDepth 20000 in
theorem gX0_saysRain_X3_glassOn : GoodIn wsX0_saysRain (wsV RX0 18 RX3 yX3_glassOn wsX3_glassOn) := goodIn_app (goodIn_of _ (by decide +kernel)) ggX0_saysRain_X3_glassOn
set_option maxRecDepth 20000 in
theorem ggX0_saysRain_X3_rainsOn : GoodIn wsX0_saysRain wsX3_rainsOn := goodIn_r _ [16, 17, 9, 10, 11, 12, 20, 21] (by decide +kernel) (by decide +kernel)
set_option maxRecDepth 20000 in
theorem gX0_saysRain_X3_rainsOn : GoodIn wsX0_saysRain (wsV RX0 24 RX3 yX3_rainsOn wsX3_rainsOn) := goodIn_app (goodIn_of _ (by decide +kernel)) ggX0_saysRain_X3_rainsOn
theorem dX0_saysRain_0 : decode cX0_saysRain 0 = .ok (.aload_n 1, 1) := by decide +kernel
theorem dX0_saysRain_1 : decode cX0_saysRain 1 = .ok (.iload_n 2, 1) := by decide +kernel
theorem dX0_saysRain_2 : decode cX0_saysRain 2 = .ok (.invokevirtual 18, 3) := by decide +kernel
theorem dX0_saysRain_5 : decode cX0_saysRain 5 = .ok (.istore_n 3, 1) := by decide +kernel
theorem dX0_saysRain_6 : decode cX0_saysRain 6 = .ok (.aload_n 1, 1) := by decide +kernel
theorem dX0_saysRain_7 : decode cX0_saysRain 7 = .ok (.iload_n 2, 1) := by decide +kernel
theorem dX0_saysRain_8 : decode cX0_saysRain 8 = .ok (.iconst 1, 1) := by decide +kernel
theorem dX0_saysRain_9 : decode cX0_saysRain 9 = .ok (.isub, 1) := by decide +kernel
theorem dX0_saysRain_10 : decode cX0_saysRain 10 = .ok (.invokevirtual 18, 3) := by decide +kernel
theorem dX0_saysRain_13 : decode cX0_saysRain 13 = .ok (.istore 4, 2) := by decide +kernel
theorem dX0_saysRain_15 : decode cX0_saysRain 15 = .ok (.aload_n 1, 1) := by decide +kernel
theorem dX0_saysRain_16 : decode cX0_saysRain 16 = .ok (.iload_n 2, 1) := by decide +kernel
theorem dX0_saysRain_17 : decode cX0_saysRain 17 = .ok (.iconst 1, 1) := by decide +kernel
theorem dX0_saysRain_18 : decode cX0_saysRain 18 = .ok (.isub, 1) := by decide +kernel
theorem dX0_saysRain_19 : decode cX0_saysRain 19 = .ok (.invokevirtual 24, 3) := by decide +kernel
theorem dX0_saysRain_22 : decode cX0_saysRain 22 = .ok (.istore 5, 2) := by decide +kernel
theorem dX0_saysRain_24 : decode cX0_saysRain 24 = .ok (.aload_n 0, 1) := by decide +kernel
theorem dX0_saysRain_25 : decode cX0_saysRain 25 = .ok (.getfield 9, 3) := by decide +kernel
theorem dX0_saysRain_28 : decode cX0_saysRain 28 = .ok (.tableswitch 107 0 4 #[36, 53, 67, 70, 90], 36) := by decide +kernel
theorem dX0_saysRain_64 : decode cX0_saysRain 64 = .ok (.iload 4, 2) := by decide +kernel
theorem dX0_saysRain_66 : decode cX0_saysRain 66 = .ok (.iload_n 3, 1) := by decide +kernel
theorem dX0_saysRain_67 : decode cX0_saysRain 67 = .ok (.isub, 1) := by decide +kernel
theorem dX0_saysRain_68 : decode cX0_saysRain 68 = .ok (.aload_n 0, 1) := by decide +kernel
theorem dX0_saysRain_69 : decode cX0_saysRain 69 = .ok (.getfield 15, 3) := by decide +kernel
theorem dX0_saysRain_72 : decode cX0_saysRain 72 = .ok (.if_icmp .lt 7, 3) := by decide +kernel
theorem dX0_saysRain_75 : decode cX0_saysRain 75 = .ok (.iconst 1, 1) := by decide +kernel
theorem dX0_saysRain_76 : decode cX0_saysRain 76 = .ok (.goto 4, 3) := by decide +kernel
theorem dX0_saysRain_79 : decode cX0_saysRain 79 = .ok (.iconst 0, 1) := by decide +kernel
theorem dX0_saysRain_80 : decode cX0_saysRain 80 = .ok (.ireturn, 1) := by decide +kernel
theorem dX0_saysRain_81 : decode cX0_saysRain 81 = .ok (.iload_n 3, 1) := by decide +kernel
theorem dX0_saysRain_82 : decode cX0_saysRain 82 = .ok (.aload_n 0, 1) := by decide +kernel
theorem dX0_saysRain_83 : decode cX0_saysRain 83 = .ok (.getfield 15, 3) := by decide +kernel
theorem dX0_saysRain_86 : decode cX0_saysRain 86 = .ok (.if_icmp .ge 7, 3) := by decide +kernel
theorem dX0_saysRain_89 : decode cX0_saysRain 89 = .ok (.iconst 1, 1) := by decide +kernel
theorem dX0_saysRain_90 : decode cX0_saysRain 90 = .ok (.goto 4, 3) := by decide +kernel
theorem dX0_saysRain_93 : decode cX0_saysRain 93 = .ok (.iconst 0, 1) := by decide +kernel
theorem dX0_saysRain_94 : decode cX0_saysRain 94 = .ok (.ireturn, 1) := by decide +kernel
theorem dX0_saysRain_95 : decode cX0_saysRain 95 = .ok (.iload 5, 2) := by decide +kernel
theorem dX0_saysRain_97 : decode cX0_saysRain 97 = .ok (.ireturn, 1) := by decide +kernel
theorem dX0_saysRain_98 : decode cX0_saysRain 98 = .ok (.iload_n 2, 1) := by decide +kernel
theorem dX0_saysRain_99 : decode cX0_saysRain 99 = .ok (.bipush 7, 2) := by decide +kernel
theorem dX0_saysRain_101 : decode cX0_saysRain 101 = .ok (.irem, 1) := by decide +kernel
theorem dX0_saysRain_102 : decode cX0_saysRain 102 = .ok (.aload_n 0, 1) := by decide +kernel
theorem dX0_saysRain_103 : decode cX0_saysRain 103 = .ok (.getfield 15, 3) := by decide +kernel
theorem dX0_saysRain_106 : decode cX0_saysRain 106 = .ok (.bipush 7, 2) := by decide +kernel
theorem dX0_saysRain_108 : decode cX0_saysRain 108 = .ok (.irem, 1) := by decide +kernel
theorem dX0_saysRain_109 : decode cX0_saysRain 109 = .ok (.if_icmp .ne 7, 3) := by decide +kernel
theorem dX0_saysRain_112 : decode cX0_saysRain 112 = .ok (.iconst 1, 1) := by decide +kernel
theorem dX0_saysRain_113 : decode cX0_saysRain 113 = .ok (.goto 4, 3) := by decide +kernel
theorem dX0_saysRain_116 : decode cX0_saysRain 116 = .ok (.iconst 0, 1) := by decide +kernel
theorem dX0_saysRain_117 : decode cX0_saysRain 117 = .ok (.ireturn, 1) := by decide +kernel
theorem dX0_saysRain_118 : decode cX0_saysRain 118 = .ok (.iload 5, 2) := by decide +kernel
theorem dX0_saysRain_120 : decode cX0_saysRain 120 = .ok (.ifCond .ne 13, 3) := by decide +kernel
theorem dX0_saysRain_123 : decode cX0_saysRain 123 = .ok (.iload_n 3, 1) := by decide +kernel
theorem dX0_saysRain_124 : decode cX0_saysRain 124 = .ok (.iload 4, 2) := by decide +kernel
theorem dX0_saysRain_126 : decode cX0_saysRain 126 = .ok (.if_icmp .ge 7, 3) := by decide +kernel
theorem dX0_saysRain_129 : decode cX0_saysRain 129 = .ok (.iconst 1, 1) := by decide +kernel
theorem dX0_saysRain_130 : decode cX0_saysRain 130 = .ok (.goto 4, 3) := by decide +kernel
theorem dX0_saysRain_133 : decode cX0_saysRain 133 = .ok (.iconst 0, 1) := by decide +kernel
theorem dX0_saysRain_134 : decode cX0_saysRain 134 = .ok (.ireturn, 1) := by decide +kernel
theorem dX0_saysRain_135 : decode cX0_saysRain 135 = .ok (.iconst 1, 1) := by decide +kernel
theorem dX0_saysRain_136 : decode cX0_saysRain 136 = .ok (.ireturn, 1) := by decide +kernel
set_option maxRecDepth 20000 in
theorem ggX0_daysRight_X0_saysRain : GoodIn wsX0_daysRight wsX0_saysRain := goodIn_r _ [5, 6, 7, 8, 9, 10, 11, 12, 13, 14, 15, 16, 17, 18, 19, 20, 21, 22, 23, 24, 25, 26] (by decide +kernel) (by decide +kernel)
set_option maxRecDepth 20000 in
theorem gX0_daysRight_X0_saysRain : GoodIn wsX0_daysRight (wsV RX0 28 RX0 yX0_saysRain wsX0_saysRain) := goodIn_app (goodIn_of _ (by decide +kernel)) ggX0_daysRight_X0_saysRain
set_option maxRecDepth 20000 in
theorem ggX0_daysRight_X3_rainsOn : GoodIn wsX0_daysRight wsX3_rainsOn := goodIn_r _ [21, 22, 14, 15, 16, 17, 25, 26] (by decide +kernel) (by decide +kernel)
set_option maxRecDepth 20000 in
theorem gX0_daysRight_X3_rainsOn : GoodIn wsX0_daysRight (wsV RX0 24 RX3 yX3_rainsOn wsX3_rainsOn) := goodIn_app (goodIn_of _ (by decide +kernel)) ggX0_daysRight_X3_rainsOn
theorem dX0_daysRight_0 : decode cX0_daysRight 0 = .ok (.iconst 0, 1) := by decide +kernel
theorem dX0_daysRight_1 : decode cX0_daysRight 1 = .ok (.istore_n 2, 1) := by decide +kernel
theorem dX0_daysRight_2 : decode cX0_daysRight 2 = .ok (.iconst 0, 1) := by decide +kernel
theorem dX0_daysRight_3 : decode cX0_daysRight 3 = .ok (.istore_n 3, 1) := by decide +kernel
theorem dX0_daysRight_4 : decode cX0_daysRight 4 = .ok (.iload_n 3, 1) := by decide +kernel
theorem dX0_daysRight_5 : decode cX0_daysRight 5 = .ok (.bipush 12, 2) := by decide +kernel
theorem dX0_daysRight_7 : decode cX0_daysRight 7 = .ok (.if_icmp .ge 26, 3) := by decide +kernel
theorem dX0_daysRight_10 : decode cX0_daysRight 10 = .ok (.aload_n 0, 1) := by decide +kernel
theorem dX0_daysRight_11 : decode cX0_daysRight 11 = .ok (.aload_n 1, 1) := by decide +kernel
theorem dX0_daysRight_12 : decode cX0_daysRight 12 = .ok (.iload_n 3, 1) := by decide +kernel
theorem dX0_daysRight_13 : decode cX0_daysRight 13 = .ok (.invokevirtual 28, 3) := by decide +kernel
theorem dX0_daysRight_16 : decode cX0_daysRight 16 = .ok (.aload_n 1, 1) := by decide +kernel
theorem dX0_daysRight_17 : decode cX0_daysRight 17 = .ok (.iload_n 3, 1) := by decide +kernel
theorem dX0_daysRight_18 : decode cX0_daysRight 18 = .ok (.invokevirtual 24, 3) := by decide +kernel
theorem dX0_daysRight_21 : decode cX0_daysRight 21 = .ok (.if_icmp .ne 6, 3) := by decide +kernel
theorem dX0_daysRight_24 : decode cX0_daysRight 24 = .ok (.iinc 2 1, 3) := by decide +kernel
theorem dX0_daysRight_27 : decode cX0_daysRight 27 = .ok (.iinc 3 1, 3) := by decide +kernel
theorem dX0_daysRight_30 : decode cX0_daysRight 30 = .ok (.goto (-26), 3) := by decide +kernel
theorem dX0_daysRight_33 : decode cX0_daysRight 33 = .ok (.iload_n 2, 1) := by decide +kernel
theorem dX0_daysRight_34 : decode cX0_daysRight 34 = .ok (.ireturn, 1) := by decide +kernel
set_option maxRecDepth 20000 in
theorem ggX1_init_J7_fill_53178 : GoodIn wsX1_init wsJ7_fill_53178 := goodIn_r _ [11] (by decide +kernel) (by decide +kernel)
set_option maxRecDepth 20000 in
theorem gX1_init_J7_fill_53178 : GoodIn wsX1_init (va_wsS RX1 22 yJ7_fill_53178 wsJ7_fill_53178) := goodIn_app (goodIn_of _ (by decide +kernel)) ggX1_init_J7_fill_53178
theorem dX1_init_0 : decode cX1_init 0 = .ok (.aload_n 0, 1) := by decide +kernel
theorem dX1_init_1 : decode cX1_init 1 = .ok (.invokespecial 3, 3) := by decide +kernel
theorem dX1_init_4 : decode cX1_init 4 = .ok (.aload_n 0, 1) := by decide +kernel
theorem dX1_init_5 : decode cX1_init 5 = .ok (.bipush 8, 2) := by decide +kernel
theorem dX1_init_7 : decode cX1_init 7 = .ok (.newarray .int, 2) := by decide +kernel
theorem dX1_init_9 : decode cX1_init 9 = .ok (.putfield 9, 3) := by decide +kernel
theorem dX1_init_12 : decode cX1_init 12 = .ok (.aload_n 0, 1) := by decide +kernel
theorem dX1_init_13 : decode cX1_init 13 = .ok (.iload_n 1, 1) := by decide +kernel
theorem dX1_init_14 : decode cX1_init 14 = .ok (.putfield 15, 3) := by decide +kernel
theorem dX1_init_17 : decode cX1_init 17 = .ok (.aload_n 0, 1) := by decide +kernel
theorem dX1_init_18 : decode cX1_init 18 = .ok (.bipush 10, 2) := by decide +kernel
theorem dX1_init_20 : decode cX1_init 20 = .ok (.putfield 19, 3) := by decide +kernel
theorem dX1_init_23 : decode cX1_init 23 = .ok (.aload_n 0, 1) := by decide +kernel
theorem dX1_init_24 : decode cX1_init 24 = .ok (.getfield 9, 3) := by decide +kernel
theorem dX1_init_27 : decode cX1_init 27 = .ok (.bipush 20, 2) := by decide +kernel
theorem dX1_init_29 : decode cX1_init 29 = .ok (.invokestatic 22, 3) := by decide +kernel
theorem dX1_init_32 : decode cX1_init 32 = .ok (.return_, 1) := by decide +kernel
theorem dX1_becomeLike_0 : decode cX1_becomeLike 0 = .ok (.aload_n 0, 1) := by decide +kernel
theorem dX1_becomeLike_1 : decode cX1_becomeLike 1 = .ok (.aload_n 1, 1) := by decide +kernel
theorem dX1_becomeLike_2 : decode cX1_becomeLike 2 = .ok (.getfield 15, 3) := by decide +kernel
theorem dX1_becomeLike_5 : decode cX1_becomeLike 5 = .ok (.putfield 15, 3) := by decide +kernel
theorem dX1_becomeLike_8 : decode cX1_becomeLike 8 = .ok (.aload_n 0, 1) := by decide +kernel
theorem dX1_becomeLike_9 : decode cX1_becomeLike 9 = .ok (.aload_n 1, 1) := by decide +kernel
theorem dX1_becomeLike_10 : decode cX1_becomeLike 10 = .ok (.getfield 28, 3) := by decide +kernel
theorem dX1_becomeLike_13 : decode cX1_becomeLike 13 = .ok (.putfield 28, 3) := by decide +kernel
theorem dX1_becomeLike_16 : decode cX1_becomeLike 16 = .ok (.aload_n 0, 1) := by decide +kernel
theorem dX1_becomeLike_17 : decode cX1_becomeLike 17 = .ok (.aload_n 1, 1) := by decide +kernel
theorem dX1_becomeLike_18 : decode cX1_becomeLike 18 = .ok (.getfield 19, 3) := by decide +kernel
theorem dX1_becomeLike_21 : decode cX1_becomeLike 21 = .ok (.putfield 19, 3) := by decide +kernel
theorem dX1_becomeLike_24 : decode cX1_becomeLike 24 = .ok (.aload_n 0, 1) := by decide +kernel
theorem dX1_becomeLike_25 : decode cX1_becomeLike 25 = .ok (.aload_n 1, 1) := by decide +kernel
theorem dX1_becomeLike_26 : decode cX1_becomeLike 26 = .ok (.getfield 31, 3) := by decide +kernel
theorem dX1_becomeLike_29 : decode cX1_becomeLike 29 = .ok (.putfield 31, 3) := by decide +kernel
theorem dX1_becomeLike_32 : decode cX1_becomeLike 32 = .ok (.iconst 0, 1) := by decide +kernel
theorem dX1_becomeLike_33 : decode cX1_becomeLike 33 = .ok (.istore_n 2, 1) := by decide +kernel
theorem dX1_becomeLike_34 : decode cX1_becomeLike 34 = .ok (.iload_n 2, 1) := by decide +kernel
theorem dX1_becomeLike_35 : decode cX1_becomeLike 35 = .ok (.aload_n 0, 1) := by decide +kernel
theorem dX1_becomeLike_36 : decode cX1_becomeLike 36 = .ok (.getfield 9, 3) := by decide +kernel
theorem dX1_becomeLike_39 : decode cX1_becomeLike 39 = .ok (.arraylength, 1) := by decide +kernel
theorem dX1_becomeLike_40 : decode cX1_becomeLike 40 = .ok (.if_icmp .ge 30, 3) := by decide +kernel
theorem dX1_becomeLike_43 : decode cX1_becomeLike 43 = .ok (.iload_n 2, 1) := by decide +kernel
theorem dX1_becomeLike_44 : decode cX1_becomeLike 44 = .ok (.aload_n 1, 1) := by decide +kernel
theorem dX1_becomeLike_45 : decode cX1_becomeLike 45 = .ok (.getfield 9, 3) := by decide +kernel
theorem dX1_becomeLike_48 : decode cX1_becomeLike 48 = .ok (.arraylength, 1) := by decide +kernel
theorem dX1_becomeLike_49 : decode cX1_becomeLike 49 = .ok (.if_icmp .ge 21, 3) := by decide +kernel
theorem dX1_becomeLike_52 : decode cX1_becomeLike 52 = .ok (.aload_n 0, 1) := by decide +kernel
theorem dX1_becomeLike_53 : decode cX1_becomeLike 53 = .ok (.getfield 9, 3) := by decide +kernel
theorem dX1_becomeLike_56 : decode cX1_becomeLike 56 = .ok (.iload_n 2, 1) := by decide +kernel
theorem dX1_becomeLike_57 : decode cX1_becomeLike 57 = .ok (.aload_n 1, 1) := by decide +kernel
theorem dX1_becomeLike_58 : decode cX1_becomeLike 58 = .ok (.getfield 9, 3) := by decide +kernel
theorem dX1_becomeLike_61 : decode cX1_becomeLike 61 = .ok (.iload_n 2, 1) := by decide +kernel
theorem dX1_becomeLike_62 : decode cX1_becomeLike 62 = .ok (.iaload, 1) := by decide +kernel
theorem dX1_becomeLike_63 : decode cX1_becomeLike 63 = .ok (.iastore, 1) := by decide +kernel
theorem dX1_becomeLike_64 : decode cX1_becomeLike 64 = .ok (.iinc 2 1, 3) := by decide +kernel
theorem dX1_becomeLike_67 : decode cX1_becomeLike 67 = .ok (.goto (-33), 3) := by decide +kernel
theorem dX1_becomeLike_70 : decode cX1_becomeLike 70 = .ok (.return_, 1) := by decide +kernel
theorem dX1_weightOf_0 : decode cX1_weightOf 0 = .ok (.iload_n 1, 1) := by decide +kernel
theorem dX1_weightOf_1 : decode cX1_weightOf 1 = .ok (.ifCond .lt 21, 3) := by decide +kernel
theorem dX1_weightOf_4 : decode cX1_weightOf 4 = .ok (.iload_n 1, 1) := by decide +kernel
theorem dX1_weightOf_5 : decode cX1_weightOf 5 = .ok (.aload_n 0, 1) := by decide +kernel
theorem dX1_weightOf_6 : decode cX1_weightOf 6 = .ok (.getfield 9, 3) := by decide +kernel
theorem dX1_weightOf_9 : decode cX1_weightOf 9 = .ok (.arraylength, 1) := by decide +kernel
theorem dX1_weightOf_10 : decode cX1_weightOf 10 = .ok (.if_icmp .ge 12, 3) := by decide +kernel
theorem dX1_weightOf_13 : decode cX1_weightOf 13 = .ok (.aload_n 0, 1) := by decide +kernel
theorem dX1_weightOf_14 : decode cX1_weightOf 14 = .ok (.getfield 9, 3) := by decide +kernel
theorem dX1_weightOf_17 : decode cX1_weightOf 17 = .ok (.iload_n 1, 1) := by decide +kernel
theorem dX1_weightOf_18 : decode cX1_weightOf 18 = .ok (.iaload, 1) := by decide +kernel
theorem dX1_weightOf_19 : decode cX1_weightOf 19 = .ok (.goto 4, 3) := by decide +kernel
theorem dX1_weightOf_22 : decode cX1_weightOf 22 = .ok (.iconst 0, 1) := by decide +kernel
theorem dX1_weightOf_23 : decode cX1_weightOf 23 = .ok (.ireturn, 1) := by decide +kernel
theorem dX1_putWeight_0 : decode cX1_putWeight 0 = .ok (.iload_n 1, 1) := by decide +kernel
theorem dX1_putWeight_1 : decode cX1_putWeight 1 = .ok (.ifCond .lt 19, 3) := by decide +kernel
theorem dX1_putWeight_4 : decode cX1_putWeight 4 = .ok (.iload_n 1, 1) := by decide +kernel
theorem dX1_putWeight_5 : decode cX1_putWeight 5 = .ok (.aload_n 0, 1) := by decide +kernel
theorem dX1_putWeight_6 : decode cX1_putWeight 6 = .ok (.getfield 9, 3) := by decide +kernel
theorem dX1_putWeight_9 : decode cX1_putWeight 9 = .ok (.arraylength, 1) := by decide +kernel
theorem dX1_putWeight_10 : decode cX1_putWeight 10 = .ok (.if_icmp .ge 10, 3) := by decide +kernel
theorem dX1_putWeight_13 : decode cX1_putWeight 13 = .ok (.aload_n 0, 1) := by decide +kernel
theorem dX1_putWeight_14 : decode cX1_putWeight 14 = .ok (.getfield 9, 3) := by decide +kernel
theorem dX1_putWeight_17 : decode cX1_putWeight 17 = .ok (.iload_n 1, 1) := by decide +kernel
theorem dX1_putWeight_18 : decode cX1_putWeight 18 = .ok (.iload_n 2, 1) := by decide +kernel
theorem dX1_putWeight_19 : decode cX1_putWeight 19 = .ok (.iastore, 1) := by decide +kernel
theorem dX1_putWeight_20 : decode cX1_putWeight 20 = .ok (.return_, 1) := by decide +kernel
theorem dX1_allWeights_0 : decode cX1_allWeights 0 = .ok (.iconst 0, 1) := by decide +kernel
theorem dX1_allWeights_1 : decode cX1_allWeights 1 = .ok (.istore_n 2, 1) := by decide +kernel
theorem dX1_allWeights_2 : decode cX1_allWeights 2 = .ok (.iconst 0, 1) := by decide +kernel
theorem dX1_allWeights_3 : decode cX1_allWeights 3 = .ok (.istore_n 3, 1) := by decide +kernel
theorem dX1_allWeights_4 : decode cX1_allWeights 4 = .ok (.iload_n 3, 1) := by decide +kernel
theorem dX1_allWeights_5 : decode cX1_allWeights 5 = .ok (.iload_n 1, 1) := by decide +kernel
theorem dX1_allWeights_6 : decode cX1_allWeights 6 = .ok (.if_icmp .ge 27, 3) := by decide +kernel
theorem dX1_allWeights_9 : decode cX1_allWeights 9 = .ok (.iload_n 3, 1) := by decide +kernel
theorem dX1_allWeights_10 : decode cX1_allWeights 10 = .ok (.aload_n 0, 1) := by decide +kernel
theorem dX1_allWeights_11 : decode cX1_allWeights 11 = .ok (.getfield 9, 3) := by decide +kernel
theorem dX1_allWeights_14 : decode cX1_allWeights 14 = .ok (.arraylength, 1) := by decide +kernel
theorem dX1_allWeights_15 : decode cX1_allWeights 15 = .ok (.if_icmp .ge 18, 3) := by decide +kernel
theorem dX1_allWeights_18 : decode cX1_allWeights 18 = .ok (.iload_n 2, 1) := by decide +kernel
theorem dX1_allWeights_19 : decode cX1_allWeights 19 = .ok (.aload_n 0, 1) := by decide +kernel
theorem dX1_allWeights_20 : decode cX1_allWeights 20 = .ok (.getfield 9, 3) := by decide +kernel
theorem dX1_allWeights_23 : decode cX1_allWeights 23 = .ok (.iload_n 3, 1) := by decide +kernel
theorem dX1_allWeights_24 : decode cX1_allWeights 24 = .ok (.iaload, 1) := by decide +kernel
theorem dX1_allWeights_25 : decode cX1_allWeights 25 = .ok (.iadd, 1) := by decide +kernel
theorem dX1_allWeights_26 : decode cX1_allWeights 26 = .ok (.istore_n 2, 1) := by decide +kernel
theorem dX1_allWeights_27 : decode cX1_allWeights 27 = .ok (.iinc 3 1, 3) := by decide +kernel
theorem dX1_allWeights_30 : decode cX1_allWeights 30 = .ok (.goto (-26), 3) := by decide +kernel
theorem dX1_allWeights_33 : decode cX1_allWeights 33 = .ok (.iload_n 2, 1) := by decide +kernel
theorem dX1_allWeights_34 : decode cX1_allWeights 34 = .ok (.ireturn, 1) := by decide +kernel
theorem dX1_buyWeightsOf_0 : decode cX1_buyWeightsOf 0 = .ok (.aload_n 0, 1) := by decide +kernel
theorem dX1_buyWeightsOf_1 : decode cX1_buyWeightsOf 1 = .ok (.dup, 1) := by decide +kernel
theorem dX1_buyWeightsOf_2 : decode cX1_buyWeightsOf 2 = .ok (.getfield 19, 3) := by decide +kernel
theorem dX1_buyWeightsOf_5 : decode cX1_buyWeightsOf 5 = .ok (.iconst 5, 1) := by decide +kernel
theorem dX1_buyWeightsOf_6 : decode cX1_buyWeightsOf 6 = .ok (.isub, 1) := by decide +kernel
theorem dX1_buyWeightsOf_7 : decode cX1_buyWeightsOf 7 = .ok (.putfield 19, 3) := by decide +kernel
theorem dX1_buyWeightsOf_10 : decode cX1_buyWeightsOf 10 = .ok (.aload_n 1, 1) := by decide +kernel
theorem dX1_buyWeightsOf_11 : decode cX1_buyWeightsOf 11 = .ok (.dup, 1) := by decide +kernel
theorem dX1_buyWeightsOf_12 : decode cX1_buyWeightsOf 12 = .ok (.getfield 19, 3) := by decide +kernel
theorem dX1_buyWeightsOf_15 : decode cX1_buyWeightsOf 15 = .ok (.iconst 5, 1) := by decide +kernel
theorem dX1_buyWeightsOf_16 : decode cX1_buyWeightsOf 16 = .ok (.iadd, 1) := by decide +kernel
theorem dX1_buyWeightsOf_17 : decode cX1_buyWeightsOf 17 = .ok (.putfield 19, 3) := by decide +kernel
theorem dX1_buyWeightsOf_20 : decode cX1_buyWeightsOf 20 = .ok (.iconst 0, 1) := by decide +kernel
theorem dX1_buyWeightsOf_21 : decode cX1_buyWeightsOf 21 = .ok (.istore_n 2, 1) := by decide +kernel
theorem dX1_buyWeightsOf_22 : decode cX1_buyWeightsOf 22 = .ok (.iload_n 2, 1) := by decide +kernel
theorem dX1_buyWeightsOf_23 : decode cX1_buyWeightsOf 23 = .ok (.aload_n 0, 1) := by decide +kernel
theorem dX1_buyWeightsOf_24 : decode cX1_buyWeightsOf 24 = .ok (.getfield 9, 3) := by decide +kernel
theorem dX1_buyWeightsOf_27 : decode cX1_buyWeightsOf 27 = .ok (.arraylength, 1) := by decide +kernel
theorem dX1_buyWeightsOf_28 : decode cX1_buyWeightsOf 28 = .ok (.if_icmp .ge 39, 3) := by decide +kernel
theorem dX1_buyWeightsOf_31 : decode cX1_buyWeightsOf 31 = .ok (.iload_n 2, 1) := by decide +kernel
theorem dX1_buyWeightsOf_32 : decode cX1_buyWeightsOf 32 = .ok (.aload_n 1, 1) := by decide +kernel
theorem dX1_buyWeightsOf_33 : decode cX1_buyWeightsOf 33 = .ok (.getfield 9, 3) := by decide +kernel
theorem dX1_buyWeightsOf_36 : decode cX1_buyWeightsOf 36 = .ok (.arraylength, 1) := by decide +kernel
theorem dX1_buyWeightsOf_37 : decode cX1_buyWeightsOf 37 = .ok (.if_icmp .ge 30, 3) := by decide +kernel
theorem dX1_buyWeightsOf_40 : decode cX1_buyWeightsOf 40 = .ok (.aload_n 0, 1) := by decide +kernel
theorem dX1_buyWeightsOf_41 : decode cX1_buyWeightsOf 41 = .ok (.getfield 9, 3) := by decide +kernel
theorem dX1_buyWeightsOf_44 : decode cX1_buyWeightsOf 44 = .ok (.iload_n 2, 1) := by decide +kernel
theorem dX1_buyWeightsOf_45 : decode cX1_buyWeightsOf 45 = .ok (.aload_n 0, 1) := by decide +kernel
theorem dX1_buyWeightsOf_46 : decode cX1_buyWeightsOf 46 = .ok (.getfield 9, 3) := by decide +kernel
theorem dX1_buyWeightsOf_49 : decode cX1_buyWeightsOf 49 = .ok (.iload_n 2, 1) := by decide +kernel
theorem dX1_buyWeightsOf_50 : decode cX1_buyWeightsOf 50 = .ok (.iaload, 1) := by decide +kernel
theorem dX1_buyWeightsOf_51 : decode cX1_buyWeightsOf 51 = .ok (.aload_n 1, 1) := by decide +kernel
theorem dX1_buyWeightsOf_52 : decode cX1_buyWeightsOf 52 = .ok (.getfield 9, 3) := by decide +kernel
theorem dX1_buyWeightsOf_55 : decode cX1_buyWeightsOf 55 = .ok (.iload_n 2, 1) := by decide +kernel
theorem dX1_buyWeightsOf_56 : decode cX1_buyWeightsOf 56 = .ok (.iaload, 1) := by decide +kernel
theorem dX1_buyWeightsOf_57 : decode cX1_buyWeightsOf 57 = .ok (.iadd, 1) := by decide +kernel
theorem dX1_buyWeightsOf_58 : decode cX1_buyWeightsOf 58 = .ok (.iconst 2, 1) := by decide +kernel
theorem dX1_buyWeightsOf_59 : decode cX1_buyWeightsOf 59 = .ok (.idiv, 1) := by decide +kernel
theorem dX1_buyWeightsOf_60 : decode cX1_buyWeightsOf 60 = .ok (.iastore, 1) := by decide +kernel
theorem dX1_buyWeightsOf_61 : decode cX1_buyWeightsOf 61 = .ok (.iinc 2 1, 3) := by decide +kernel
theorem dX1_buyWeightsOf_64 : decode cX1_buyWeightsOf 64 = .ok (.goto (-42), 3) := by decide +kernel
theorem dX1_buyWeightsOf_67 : decode cX1_buyWeightsOf 67 = .ok (.return_, 1) := by decide +kernel
theorem dX1_leadOfRain_0 : decode cX1_leadOfRain 0 = .ok (.iconst 0, 1) := by decide +kernel
theorem dX1_leadOfRain_1 : decode cX1_leadOfRain 1 = .ok (.istore_n 2, 1) := by decide +kernel
theorem dX1_leadOfRain_2 : decode cX1_leadOfRain 2 = .ok (.iconst 0, 1) := by decide +kernel
theorem dX1_leadOfRain_3 : decode cX1_leadOfRain 3 = .ok (.istore_n 3, 1) := by decide +kernel
theorem dX1_leadOfRain_4 : decode cX1_leadOfRain 4 = .ok (.iload_n 3, 1) := by decide +kernel
theorem dX1_leadOfRain_5 : decode cX1_leadOfRain 5 = .ok (.aload_n 1, 1) := by decide +kernel
theorem dX1_leadOfRain_6 : decode cX1_leadOfRain 6 = .ok (.arraylength, 1) := by decide +kernel
theorem dX1_leadOfRain_7 : decode cX1_leadOfRain 7 = .ok (.if_icmp .ge 31, 3) := by decide +kernel
theorem dX1_leadOfRain_10 : decode cX1_leadOfRain 10 = .ok (.iload_n 3, 1) := by decide +kernel
theorem dX1_leadOfRain_11 : decode cX1_leadOfRain 11 = .ok (.aload_n 0, 1) := by decide +kernel
theorem dX1_leadOfRain_12 : decode cX1_leadOfRain 12 = .ok (.getfield 9, 3) := by decide +kernel
theorem dX1_leadOfRain_15 : decode cX1_leadOfRain 15 = .ok (.arraylength, 1) := by decide +kernel
theorem dX1_leadOfRain_16 : decode cX1_leadOfRain 16 = .ok (.if_icmp .ge 22, 3) := by decide +kernel
theorem dX1_leadOfRain_19 : decode cX1_leadOfRain 19 = .ok (.iload_n 2, 1) := by decide +kernel
theorem dX1_leadOfRain_20 : decode cX1_leadOfRain 20 = .ok (.aload_n 1, 1) := by decide +kernel
theorem dX1_leadOfRain_21 : decode cX1_leadOfRain 21 = .ok (.iload_n 3, 1) := by decide +kernel
theorem dX1_leadOfRain_22 : decode cX1_leadOfRain 22 = .ok (.iaload, 1) := by decide +kernel
theorem dX1_leadOfRain_23 : decode cX1_leadOfRain 23 = .ok (.aload_n 0, 1) := by decide +kernel
theorem dX1_leadOfRain_24 : decode cX1_leadOfRain 24 = .ok (.getfield 9, 3) := by decide +kernel
theorem dX1_leadOfRain_27 : decode cX1_leadOfRain 27 = .ok (.iload_n 3, 1) := by decide +kernel
theorem dX1_leadOfRain_28 : decode cX1_leadOfRain 28 = .ok (.iaload, 1) := by decide +kernel
theorem dX1_leadOfRain_29 : decode cX1_leadOfRain 29 = .ok (.imul, 1) := by decide +kernel
theorem dX1_leadOfRain_30 : decode cX1_leadOfRain 30 = .ok (.iadd, 1) := by decide +kernel
theorem dX1_leadOfRain_31 : decode cX1_leadOfRain 31 = .ok (.istore_n 2, 1) := by decide +kernel
theorem dX1_leadOfRain_32 : decode cX1_leadOfRain 32 = .ok (.iinc 3 1, 3) := by decide +kernel
theorem dX1_leadOfRain_35 : decode cX1_leadOfRain 35 = .ok (.goto (-31), 3) := by decide +kernel
theorem dX1_leadOfRain_38 : decode cX1_leadOfRain 38 = .ok (.iload_n 2, 1) := by decide +kernel
theorem dX1_leadOfRain_39 : decode cX1_leadOfRain 39 = .ok (.ireturn, 1) := by decide +kernel
set_option maxRecDepth 20000 in
theorem ggX1_guessesRain_X1_leadOfRain : GoodIn wsX1_guessesRain wsX1_leadOfRain := goodIn_r _ [5, 6, 7, 8, 9, 10, 11] (by decide +kernel) (by decide +kernel)
set_option maxRecDepth 20000 in
theorem gX1_guessesRain_X1_leadOfRain : GoodIn wsX1_guessesRain (wsV RX1 34 RX1 yX1_leadOfRain wsX1_leadOfRain) := goodIn_app (goodIn_of _ (by decide +kernel)) ggX1_guessesRain_X1_leadOfRain
theorem dX1_guessesRain_0 : decode cX1_guessesRain 0 = .ok (.aload_n 0, 1) := by decide +kernel
theorem dX1_guessesRain_1 : decode cX1_guessesRain 1 = .ok (.aload_n 1, 1) := by decide +kernel
theorem dX1_guessesRain_2 : decode cX1_guessesRain 2 = .ok (.invokevirtual 34, 3) := by decide +kernel
theorem dX1_guessesRain_5 : decode cX1_guessesRain 5 = .ok (.ifCond .le 7, 3) := by decide +kernel
theorem dX1_guessesRain_8 : decode cX1_guessesRain 8 = .ok (.iconst 1, 1) := by decide +kernel
theorem dX1_guessesRain_9 : decode cX1_guessesRain 9 = .ok (.goto 4, 3) := by decide +kernel
theorem dX1_guessesRain_12 : decode cX1_guessesRain 12 = .ok (.iconst 0, 1) := by decide +kernel
theorem dX1_guessesRain_13 : decode cX1_guessesRain 13 = .ok (.ireturn, 1) := by decide +kernel
set_option maxRecDepth 20000 in
theorem ggX1_liveDay_X1_guessesRain : GoodIn wsX1_liveDay wsX1_guessesRain := goodIn_r _ [7, 8, 9, 10, 6, 11, 12, 26, 27, 28, 29, 30] (by decide +kernel) (by decide +kernel)
set_option maxRecDepth 20000 in
theorem gX1_liveDay_X1_guessesRain : GoodIn wsX1_liveDay (wsV RX1 38 RX1 yX1_guessesRain wsX1_guessesRain) := goodIn_app (goodIn_of _ (by decide +kernel)) ggX1_liveDay_X1_guessesRain
set_option maxRecDepth 20000 in
theorem ggX1_liveDay_X1_learn : GoodIn wsX1_liveDay wsX1_learn := goodIn_r _ [16, 12, 17, 18, 19, 20, 26, 27, 28, 29, 30] (by decide +kernel) (by decide +kernel)
set_option maxRecDepth 20000 in
theorem gX1_liveDay_X1_learn : GoodIn wsX1_liveDay (wsV RX1 42 RX1 yX1_learn wsX1_learn) := goodIn_app (goodIn_of _ (by decide +kernel)) ggX1_liveDay_X1_learn
set_option maxRecDepth 20000 in
theorem ggX1_liveDay_X1_sellAlmanacs : GoodIn wsX1_liveDay wsX1_sellAlmanacs := goodIn_r _ [24, 2, 25, 17, 18, 19, 20, 26, 27, 28, 29, 30] (by decide +kernel) (by decide +kernel)
set_option maxRecDepth 20000 in
theorem gX1_liveDay_X1_sellAlmanacs : GoodIn wsX1_liveDay (wsV RX1 45 RX1 yX1_sellAlmanacs wsX1_sellAlmanacs) := goodIn_app (goodIn_of _ (by decide +kernel)) ggX1_liveDay_X1_sellAlmanacs
theorem dX1_liveDay_0 : decode cX1_liveDay 0 = .ok (.aload_n 0, 1) := by decide +kernel
theorem dX1_liveDay_1 : decode cX1_liveDay 1 = .ok (.aload_n 1, 1) := by decide +kernel
theorem dX1_liveDay_2 : decode cX1_liveDay 2 = .ok (.invokevirtual 38, 3) := by decide +kernel
theorem dX1_liveDay_5 : decode cX1_liveDay 5 = .ok (.iload_n 2, 1) := by decide +kernel
theorem dX1_liveDay_6 : decode cX1_liveDay 6 = .ok (.if_icmp .ne 7, 3) := by decide +kernel
theorem dX1_liveDay_9 : decode cX1_liveDay 9 = .ok (.iconst 1, 1) := by decide +kernel
theorem dX1_liveDay_10 : decode cX1_liveDay 10 = .ok (.goto 4, 3) := by decide +kernel
theorem dX1_liveDay_13 : decode cX1_liveDay 13 = .ok (.iconst 0, 1) := by decide +kernel
theorem dX1_liveDay_14 : decode cX1_liveDay 14 = .ok (.istore_n 3, 1) := by decide +kernel
theorem dX1_liveDay_15 : decode cX1_liveDay 15 = .ok (.aload_n 0, 1) := by decide +kernel
theorem dX1_liveDay_16 : decode cX1_liveDay 16 = .ok (.dup, 1) := by decide +kernel
theorem dX1_liveDay_17 : decode cX1_liveDay 17 = .ok (.getfield 28, 3) := by decide +kernel
theorem dX1_liveDay_20 : decode cX1_liveDay 20 = .ok (.iload_n 3, 1) := by decide +kernel
theorem dX1_liveDay_21 : decode cX1_liveDay 21 = .ok (.ifCond .eq 7, 3) := by decide +kernel
theorem dX1_liveDay_24 : decode cX1_liveDay 24 = .ok (.iconst 1, 1) := by decide +kernel
theorem dX1_liveDay_25 : decode cX1_liveDay 25 = .ok (.goto 4, 3) := by decide +kernel
theorem dX1_liveDay_28 : decode cX1_liveDay 28 = .ok (.iconst 0, 1) := by decide +kernel
theorem dX1_liveDay_29 : decode cX1_liveDay 29 = .ok (.iadd, 1) := by decide +kernel
theorem dX1_liveDay_30 : decode cX1_liveDay 30 = .ok (.putfield 28, 3) := by decide +kernel
theorem dX1_liveDay_33 : decode cX1_liveDay 33 = .ok (.aload_n 0, 1) := by decide +kernel
theorem dX1_liveDay_34 : decode cX1_liveDay 34 = .ok (.iload_n 3, 1) := by decide +kernel
theorem dX1_liveDay_35 : decode cX1_liveDay 35 = .ok (.ifCond .eq 12, 3) := by decide +kernel
theorem dX1_liveDay_38 : decode cX1_liveDay 38 = .ok (.aload_n 0, 1) := by decide +kernel
theorem dX1_liveDay_39 : decode cX1_liveDay 39 = .ok (.getfield 31, 3) := by decide +kernel
theorem dX1_liveDay_42 : decode cX1_liveDay 42 = .ok (.iconst 1, 1) := by decide +kernel
theorem dX1_liveDay_43 : decode cX1_liveDay 43 = .ok (.iadd, 1) := by decide +kernel
theorem dX1_liveDay_44 : decode cX1_liveDay 44 = .ok (.goto 4, 3) := by decide +kernel
theorem dX1_liveDay_47 : decode cX1_liveDay 47 = .ok (.iconst 0, 1) := by decide +kernel
theorem dX1_liveDay_48 : decode cX1_liveDay 48 = .ok (.putfield 31, 3) := by decide +kernel
theorem dX1_liveDay_51 : decode cX1_liveDay 51 = .ok (.aload_n 0, 1) := by decide +kernel
theorem dX1_liveDay_52 : decode cX1_liveDay 52 = .ok (.aload_n 1, 1) := by decide +kernel
theorem dX1_liveDay_53 : decode cX1_liveDay 53 = .ok (.iload_n 2, 1) := by decide +kernel
theorem dX1_liveDay_54 : decode cX1_liveDay 54 = .ok (.ifCond .eq 7, 3) := by decide +kernel
theorem dX1_liveDay_57 : decode cX1_liveDay 57 = .ok (.iconst 1, 1) := by decide +kernel
theorem dX1_liveDay_58 : decode cX1_liveDay 58 = .ok (.goto 4, 3) := by decide +kernel
theorem dX1_liveDay_61 : decode cX1_liveDay 61 = .ok (.iconst (-1), 1) := by decide +kernel
theorem dX1_liveDay_62 : decode cX1_liveDay 62 = .ok (.invokevirtual 42, 3) := by decide +kernel
theorem dX1_liveDay_65 : decode cX1_liveDay 65 = .ok (.aload_n 0, 1) := by decide +kernel
theorem dX1_liveDay_66 : decode cX1_liveDay 66 = .ok (.invokevirtual 45, 3) := by decide +kernel
theorem dX1_liveDay_69 : decode cX1_liveDay 69 = .ok (.iload_n 3, 1) := by decide +kernel
theorem dX1_liveDay_70 : decode cX1_liveDay 70 = .ok (.ireturn, 1) := by decide +kernel
theorem dX1_learn_0 : decode cX1_learn 0 = .ok (.iconst 0, 1) := by decide +kernel
theorem dX1_learn_1 : decode cX1_learn 1 = .ok (.istore_n 3, 1) := by decide +kernel
theorem dX1_learn_2 : decode cX1_learn 2 = .ok (.iload_n 3, 1) := by decide +kernel
theorem dX1_learn_3 : decode cX1_learn 3 = .ok (.aload_n 0, 1) := by decide +kernel
theorem dX1_learn_4 : decode cX1_learn 4 = .ok (.getfield 9, 3) := by decide +kernel
theorem dX1_learn_7 : decode cX1_learn 7 = .ok (.arraylength, 1) := by decide +kernel
theorem dX1_learn_8 : decode cX1_learn 8 = .ok (.if_icmp .ge 71, 3) := by decide +kernel
theorem dX1_learn_11 : decode cX1_learn 11 = .ok (.iload_n 3, 1) := by decide +kernel
theorem dX1_learn_12 : decode cX1_learn 12 = .ok (.aload_n 1, 1) := by decide +kernel
theorem dX1_learn_13 : decode cX1_learn 13 = .ok (.arraylength, 1) := by decide +kernel
theorem dX1_learn_14 : decode cX1_learn 14 = .ok (.if_icmp .ge 65, 3) := by decide +kernel
theorem dX1_learn_17 : decode cX1_learn 17 = .ok (.aload_n 1, 1) := by decide +kernel
theorem dX1_learn_18 : decode cX1_learn 18 = .ok (.iload_n 3, 1) := by decide +kernel
theorem dX1_learn_19 : decode cX1_learn 19 = .ok (.iaload, 1) := by decide +kernel
theorem dX1_learn_20 : decode cX1_learn 20 = .ok (.iload_n 2, 1) := by decide +kernel
theorem dX1_learn_21 : decode cX1_learn 21 = .ok (.if_icmp .ne 25, 3) := by decide +kernel
theorem dX1_learn_24 : decode cX1_learn 24 = .ok (.aload_n 0, 1) := by decide +kernel
theorem dX1_learn_25 : decode cX1_learn 25 = .ok (.getfield 9, 3) := by decide +kernel
theorem dX1_learn_28 : decode cX1_learn 28 = .ok (.iload_n 3, 1) := by decide +kernel
theorem dX1_learn_29 : decode cX1_learn 29 = .ok (.aload_n 0, 1) := by decide +kernel
theorem dX1_learn_30 : decode cX1_learn 30 = .ok (.getfield 9, 3) := by decide +kernel
theorem dX1_learn_33 : decode cX1_learn 33 = .ok (.iload_n 3, 1) := by decide +kernel
theorem dX1_learn_34 : decode cX1_learn 34 = .ok (.iaload, 1) := by decide +kernel
theorem dX1_learn_35 : decode cX1_learn 35 = .ok (.iconst 1, 1) := by decide +kernel
theorem dX1_learn_36 : decode cX1_learn 36 = .ok (.iadd, 1) := by decide +kernel
theorem dX1_learn_37 : decode cX1_learn 37 = .ok (.bipush 100, 2) := by decide +kernel
theorem dX1_learn_39 : decode cX1_learn 39 = .ok (.invokestatic 48, 3) := by decide +kernel
theorem dX1_learn_42 : decode cX1_learn 42 = .ok (.iastore, 1) := by decide +kernel
theorem dX1_learn_43 : decode cX1_learn 43 = .ok (.goto 30, 3) := by decide +kernel
theorem dX1_learn_46 : decode cX1_learn 46 = .ok (.aload_n 1, 1) := by decide +kernel
theorem dX1_learn_47 : decode cX1_learn 47 = .ok (.iload_n 3, 1) := by decide +kernel
theorem dX1_learn_48 : decode cX1_learn 48 = .ok (.iaload, 1) := by decide +kernel
theorem dX1_learn_49 : decode cX1_learn 49 = .ok (.iload_n 2, 1) := by decide +kernel
theorem dX1_learn_50 : decode cX1_learn 50 = .ok (.ineg, 1) := by decide +kernel
theorem dX1_learn_51 : decode cX1_learn 51 = .ok (.if_icmp .ne 22, 3) := by decide +kernel
theorem dX1_learn_54 : decode cX1_learn 54 = .ok (.aload_n 0, 1) := by decide +kernel
theorem dX1_learn_55 : decode cX1_learn 55 = .ok (.getfield 9, 3) := by decide +kernel
theorem dX1_learn_58 : decode cX1_learn 58 = .ok (.iload_n 3, 1) := by decide +kernel
theorem dX1_learn_59 : decode cX1_learn 59 = .ok (.dup2, 1) := by decide +kernel
theorem dX1_learn_60 : decode cX1_learn 60 = .ok (.iaload, 1) := by decide +kernel
theorem dX1_learn_61 : decode cX1_learn 61 = .ok (.aload_n 0, 1) := by decide +kernel
theorem dX1_learn_62 : decode cX1_learn 62 = .ok (.getfield 9, 3) := by decide +kernel
theorem dX1_learn_65 : decode cX1_learn 65 = .ok (.iload_n 3, 1) := by decide +kernel
theorem dX1_learn_66 : decode cX1_learn 66 = .ok (.iaload, 1) := by decide +kernel
theorem dX1_learn_67 : decode cX1_learn 67 = .ok (.iconst 3, 1) := by decide +kernel
theorem dX1_learn_68 : decode cX1_learn 68 = .ok (.iadd, 1) := by decide +kernel
theorem dX1_learn_69 : decode cX1_learn 69 = .ok (.iconst 4, 1) := by decide +kernel
theorem dX1_learn_70 : decode cX1_learn 70 = .ok (.idiv, 1) := by decide +kernel
theorem dX1_learn_71 : decode cX1_learn 71 = .ok (.isub, 1) := by decide +kernel
theorem dX1_learn_72 : decode cX1_learn 72 = .ok (.iastore, 1) := by decide +kernel
theorem dX1_learn_73 : decode cX1_learn 73 = .ok (.iinc 3 1, 3) := by decide +kernel
theorem dX1_learn_76 : decode cX1_learn 76 = .ok (.goto (-74), 3) := by decide +kernel
theorem dX1_learn_79 : decode cX1_learn 79 = .ok (.return_, 1) := by decide +kernel
theorem dX1_sellAlmanacs_0 : decode cX1_sellAlmanacs 0 = .ok (.aload_n 0, 1) := by decide +kernel
theorem dX1_sellAlmanacs_1 : decode cX1_sellAlmanacs 1 = .ok (.getfield 31, 3) := by decide +kernel
theorem dX1_sellAlmanacs_4 : decode cX1_sellAlmanacs 4 = .ok (.iconst 1, 1) := by decide +kernel
theorem dX1_sellAlmanacs_5 : decode cX1_sellAlmanacs 5 = .ok (.if_icmp .lt 23, 3) := by decide +kernel
theorem dX1_sellAlmanacs_8 : decode cX1_sellAlmanacs 8 = .ok (.aload_n 0, 1) := by decide +kernel
theorem dX1_sellAlmanacs_9 : decode cX1_sellAlmanacs 9 = .ok (.dup, 1) := by decide +kernel
theorem dX1_sellAlmanacs_10 : decode cX1_sellAlmanacs 10 = .ok (.getfield 19, 3) := by decide +kernel
theorem dX1_sellAlmanacs_13 : decode cX1_sellAlmanacs 13 = .ok (.aload_n 0, 1) := by decide +kernel
theorem dX1_sellAlmanacs_14 : decode cX1_sellAlmanacs 14 = .ok (.getfield 31, 3) := by decide +kernel
theorem dX1_sellAlmanacs_17 : decode cX1_sellAlmanacs 17 = .ok (.iconst 5, 1) := by decide +kernel
theorem dX1_sellAlmanacs_18 : decode cX1_sellAlmanacs 18 = .ok (.invokestatic 48, 3) := by decide +kernel
theorem dX1_sellAlmanacs_21 : decode cX1_sellAlmanacs 21 = .ok (.iadd, 1) := by decide +kernel
theorem dX1_sellAlmanacs_22 : decode cX1_sellAlmanacs 22 = .ok (.putfield 19, 3) := by decide +kernel
theorem dX1_sellAlmanacs_25 : decode cX1_sellAlmanacs 25 = .ok (.goto 20, 3) := by decide +kernel
theorem dX1_sellAlmanacs_28 : decode cX1_sellAlmanacs 28 = .ok (.aload_n 0, 1) := by decide +kernel
theorem dX1_sellAlmanacs_29 : decode cX1_sellAlmanacs 29 = .ok (.getfield 19, 3) := by decide +kernel
theorem dX1_sellAlmanacs_32 : decode cX1_sellAlmanacs 32 = .ok (.ifCond .le 13, 3) := by decide +kernel
theorem dX1_sellAlmanacs_35 : decode cX1_sellAlmanacs 35 = .ok (.aload_n 0, 1) := by decide +kernel
theorem dX1_sellAlmanacs_36 : decode cX1_sellAlmanacs 36 = .ok (.dup, 1) := by decide +kernel
theorem dX1_sellAlmanacs_37 : decode cX1_sellAlmanacs 37 = .ok (.getfield 19, 3) := by decide +kernel
theorem dX1_sellAlmanacs_40 : decode cX1_sellAlmanacs 40 = .ok (.iconst 1, 1) := by decide +kernel
theorem dX1_sellAlmanacs_41 : decode cX1_sellAlmanacs 41 = .ok (.isub, 1) := by decide +kernel
theorem dX1_sellAlmanacs_42 : decode cX1_sellAlmanacs 42 = .ok (.putfield 19, 3) := by decide +kernel
theorem dX1_sellAlmanacs_45 : decode cX1_sellAlmanacs 45 = .ok (.return_, 1) := by decide +kernel
theorem dX1_isAheadOf_0 : decode cX1_isAheadOf 0 = .ok (.aload_n 0, 1) := by decide +kernel
theorem dX1_isAheadOf_1 : decode cX1_isAheadOf 1 = .ok (.getfield 28, 3) := by decide +kernel
theorem dX1_isAheadOf_4 : decode cX1_isAheadOf 4 = .ok (.aload_n 1, 1) := by decide +kernel
theorem dX1_isAheadOf_5 : decode cX1_isAheadOf 5 = .ok (.getfield 28, 3) := by decide +kernel
theorem dX1_isAheadOf_8 : decode cX1_isAheadOf 8 = .ok (.if_icmp .eq 20, 3) := by decide +kernel
theorem dX1_isAheadOf_11 : decode cX1_isAheadOf 11 = .ok (.aload_n 0, 1) := by decide +kernel
theorem dX1_isAheadOf_12 : decode cX1_isAheadOf 12 = .ok (.getfield 28, 3) := by decide +kernel
theorem dX1_isAheadOf_15 : decode cX1_isAheadOf 15 = .ok (.aload_n 1, 1) := by decide +kernel
theorem dX1_isAheadOf_16 : decode cX1_isAheadOf 16 = .ok (.getfield 28, 3) := by decide +kernel
theorem dX1_isAheadOf_19 : decode cX1_isAheadOf 19 = .ok (.if_icmp .le 7, 3) := by decide +kernel
theorem dX1_isAheadOf_22 : decode cX1_isAheadOf 22 = .ok (.iconst 1, 1) := by decide +kernel
theorem dX1_isAheadOf_23 : decode cX1_isAheadOf 23 = .ok (.goto 4, 3) := by decide +kernel
theorem dX1_isAheadOf_26 : decode cX1_isAheadOf 26 = .ok (.iconst 0, 1) := by decide +kernel
theorem dX1_isAheadOf_27 : decode cX1_isAheadOf 27 = .ok (.ireturn, 1) := by decide +kernel
theorem dX1_isAheadOf_28 : decode cX1_isAheadOf 28 = .ok (.aload_n 0, 1) := by decide +kernel
theorem dX1_isAheadOf_29 : decode cX1_isAheadOf 29 = .ok (.getfield 19, 3) := by decide +kernel
theorem dX1_isAheadOf_32 : decode cX1_isAheadOf 32 = .ok (.aload_n 1, 1) := by decide +kernel
theorem dX1_isAheadOf_33 : decode cX1_isAheadOf 33 = .ok (.getfield 19, 3) := by decide +kernel
theorem dX1_isAheadOf_36 : decode cX1_isAheadOf 36 = .ok (.if_icmp .eq 20, 3) := by decide +kernel
theorem dX1_isAheadOf_39 : decode cX1_isAheadOf 39 = .ok (.aload_n 0, 1) := by decide +kernel
theorem dX1_isAheadOf_40 : decode cX1_isAheadOf 40 = .ok (.getfield 19, 3) := by decide +kernel
theorem dX1_isAheadOf_43 : decode cX1_isAheadOf 43 = .ok (.aload_n 1, 1) := by decide +kernel
theorem dX1_isAheadOf_44 : decode cX1_isAheadOf 44 = .ok (.getfield 19, 3) := by decide +kernel
theorem dX1_isAheadOf_47 : decode cX1_isAheadOf 47 = .ok (.if_icmp .le 7, 3) := by decide +kernel
theorem dX1_isAheadOf_50 : decode cX1_isAheadOf 50 = .ok (.iconst 1, 1) := by decide +kernel
theorem dX1_isAheadOf_51 : decode cX1_isAheadOf 51 = .ok (.goto 4, 3) := by decide +kernel
theorem dX1_isAheadOf_54 : decode cX1_isAheadOf 54 = .ok (.iconst 0, 1) := by decide +kernel
theorem dX1_isAheadOf_55 : decode cX1_isAheadOf 55 = .ok (.ireturn, 1) := by decide +kernel
theorem dX1_isAheadOf_56 : decode cX1_isAheadOf 56 = .ok (.aload_n 0, 1) := by decide +kernel
theorem dX1_isAheadOf_57 : decode cX1_isAheadOf 57 = .ok (.getfield 15, 3) := by decide +kernel
theorem dX1_isAheadOf_60 : decode cX1_isAheadOf 60 = .ok (.aload_n 1, 1) := by decide +kernel
theorem dX1_isAheadOf_61 : decode cX1_isAheadOf 61 = .ok (.getfield 15, 3) := by decide +kernel
theorem dX1_isAheadOf_64 : decode cX1_isAheadOf 64 = .ok (.if_icmp .ge 7, 3) := by decide +kernel
theorem dX1_isAheadOf_67 : decode cX1_isAheadOf 67 = .ok (.iconst 1, 1) := by decide +kernel
theorem dX1_isAheadOf_68 : decode cX1_isAheadOf 68 = .ok (.goto 4, 3) := by decide +kernel
theorem dX1_isAheadOf_71 : decode cX1_isAheadOf 71 = .ok (.iconst 0, 1) := by decide +kernel
theorem dX1_isAheadOf_72 : decode cX1_isAheadOf 72 = .ok (.ireturn, 1) := by decide +kernel
set_option maxRecDepth 20000 in
theorem ggX2_init_X1_init : GoodIn wsX2_init wsX1_init := goodIn_r _ [10, 11, 2, 3, 12, 13, 14, 15, 16, 17, 18, 19, 22, 23, 24, 25, 26] (by decide +kernel) (by decide +kernel)
set_option maxRecDepth 20000 in
theorem gX2_init_X1_init : GoodIn wsX2_init (wsX1_init) := ggX2_init_X1_init
theorem dX2_init_0 : decode cX2_init 0 = .ok (.aload_n 0, 1) := by decide +kernel
theorem dX2_init_1 : decode cX2_init 1 = .ok (.invokespecial 1, 3) := by decide +kernel
theorem dX2_init_4 : decode cX2_init 4 = .ok (.aload_n 0, 1) := by decide +kernel
theorem dX2_init_5 : decode cX2_init 5 = .ok (.iload_n 1, 1) := by decide +kernel
theorem dX2_init_6 : decode cX2_init 6 = .ok (.anewarray 7, 3) := by decide +kernel
theorem dX2_init_9 : decode cX2_init 9 = .ok (.putfield 9, 3) := by decide +kernel
theorem dX2_init_12 : decode cX2_init 12 = .ok (.iconst 0, 1) := by decide +kernel
theorem dX2_init_13 : decode cX2_init 13 = .ok (.istore_n 2, 1) := by decide +kernel
theorem dX2_init_14 : decode cX2_init 14 = .ok (.iload_n 2, 1) := by decide +kernel
theorem dX2_init_15 : decode cX2_init 15 = .ok (.aload_n 0, 1) := by decide +kernel
theorem dX2_init_16 : decode cX2_init 16 = .ok (.getfield 9, 3) := by decide +kernel
theorem dX2_init_19 : decode cX2_init 19 = .ok (.arraylength, 1) := by decide +kernel
theorem dX2_init_20 : decode cX2_init 20 = .ok (.if_icmp .ge 23, 3) := by decide +kernel
theorem dX2_init_23 : decode cX2_init 23 = .ok (.aload_n 0, 1) := by decide +kernel
theorem dX2_init_24 : decode cX2_init 24 = .ok (.getfield 9, 3) := by decide +kernel
theorem dX2_init_27 : decode cX2_init 27 = .ok (.iload_n 2, 1) := by decide +kernel
theorem dX2_init_28 : decode cX2_init 28 = .ok (.new 7, 3) := by decide +kernel
theorem dX2_init_31 : decode cX2_init 31 = .ok (.dup, 1) := by decide +kernel
theorem dX2_init_32 : decode cX2_init 32 = .ok (.iload_n 2, 1) := by decide +kernel
theorem dX2_init_33 : decode cX2_init 33 = .ok (.invokespecial 15, 3) := by decide +kernel
theorem dX2_init_36 : decode cX2_init 36 = .ok (.aastore, 1) := by decide +kernel
theorem dX2_init_37 : decode cX2_init 37 = .ok (.iinc 2 1, 3) := by decide +kernel
theorem dX2_init_40 : decode cX2_init 40 = .ok (.goto (-26), 3) := by decide +kernel
theorem dX2_init_43 : decode cX2_init 43 = .ok (.return_, 1) := by decide +kernel
theorem dX2_size_0 : decode cX2_size 0 = .ok (.aload_n 0, 1) := by decide +kernel
theorem dX2_size_1 : decode cX2_size 1 = .ok (.getfield 18, 3) := by decide +kernel
theorem dX2_size_4 : decode cX2_size 4 = .ok (.ireturn, 1) := by decide +kernel
theorem dX2_isFull_0 : decode cX2_isFull 0 = .ok (.aload_n 0, 1) := by decide +kernel
theorem dX2_isFull_1 : decode cX2_isFull 1 = .ok (.getfield 18, 3) := by decide +kernel
theorem dX2_isFull_4 : decode cX2_isFull 4 = .ok (.aload_n 0, 1) := by decide +kernel
theorem dX2_isFull_5 : decode cX2_isFull 5 = .ok (.getfield 9, 3) := by decide +kernel
theorem dX2_isFull_8 : decode cX2_isFull 8 = .ok (.arraylength, 1) := by decide +kernel
theorem dX2_isFull_9 : decode cX2_isFull 9 = .ok (.if_icmp .lt 7, 3) := by decide +kernel
theorem dX2_isFull_12 : decode cX2_isFull 12 = .ok (.iconst 1, 1) := by decide +kernel
theorem dX2_isFull_13 : decode cX2_isFull 13 = .ok (.goto 4, 3) := by decide +kernel
theorem dX2_isFull_16 : decode cX2_isFull 16 = .ok (.iconst 0, 1) := by decide +kernel
theorem dX2_isFull_17 : decode cX2_isFull 17 = .ok (.ireturn, 1) := by decide +kernel
theorem dX2_get_0 : decode cX2_get 0 = .ok (.iload_n 1, 1) := by decide +kernel
theorem dX2_get_1 : decode cX2_get 1 = .ok (.ifCond .lt 11, 3) := by decide +kernel
theorem dX2_get_4 : decode cX2_get 4 = .ok (.iload_n 1, 1) := by decide +kernel
theorem dX2_get_5 : decode cX2_get 5 = .ok (.aload_n 0, 1) := by decide +kernel
theorem dX2_get_6 : decode cX2_get 6 = .ok (.getfield 18, 3) := by decide +kernel
theorem dX2_get_9 : decode cX2_get 9 = .ok (.if_icmp .lt 13, 3) := by decide +kernel
theorem dX2_get_12 : decode cX2_get 12 = .ok (.new 22, 3) := by decide +kernel
theorem dX2_get_15 : decode cX2_get 15 = .ok (.dup, 1) := by decide +kernel
theorem dX2_get_16 : decode cX2_get 16 = .ok (.ldc 24, 2) := by decide +kernel
theorem dX2_get_18 : decode cX2_get 18 = .ok (.invokespecial 26, 3) := by decide +kernel
theorem dX2_get_21 : decode cX2_get 21 = .ok (.athrow, 1) := by decide +kernel
theorem dX2_get_22 : decode cX2_get 22 = .ok (.aload_n 0, 1) := by decide +kernel
theorem dX2_get_23 : decode cX2_get 23 = .ok (.getfield 9, 3) := by decide +kernel
theorem dX2_get_26 : decode cX2_get 26 = .ok (.iload_n 1, 1) := by decide +kernel
theorem dX2_get_27 : decode cX2_get 27 = .ok (.aaload, 1) := by decide +kernel
theorem dX2_get_28 : decode cX2_get 28 = .ok (.areturn, 1) := by decide +kernel
set_option maxRecDepth 20000 in
theorem ggX2_grow_X2_isFull : GoodIn wsX2_grow wsX2_isFull := goodIn_r _ [6, 1, 7, 8, 9] (by decide +kernel) (by decide +kernel)
set_option maxRecDepth 20000 in
theorem gX2_grow_X2_isFull : GoodIn wsX2_grow (wsV RX2 29 RX2 yX2_isFull wsX2_isFull) := goodIn_app (goodIn_of _ (by decide +kernel)) ggX2_grow_X2_isFull
theorem dX2_grow_0 : decode cX2_grow 0 = .ok (.aload_n 0, 1) := by decide +kernel
theorem dX2_grow_1 : decode cX2_grow 1 = .ok (.invokevirtual 29, 3) := by decide +kernel
theorem dX2_grow_4 : decode cX2_grow 4 = .ok (.ifCond .ne 13, 3) := by decide +kernel
theorem dX2_grow_7 : decode cX2_grow 7 = .ok (.aload_n 0, 1) := by decide +kernel
theorem dX2_grow_8 : decode cX2_grow 8 = .ok (.dup, 1) := by decide +kernel
theorem dX2_grow_9 : decode cX2_grow 9 = .ok (.getfield 18, 3) := by decide +kernel
theorem dX2_grow_12 : decode cX2_grow 12 = .ok (.iconst 1, 1) := by decide +kernel
theorem dX2_grow_13 : decode cX2_grow 13 = .ok (.iadd, 1) := by decide +kernel
theorem dX2_grow_14 : decode cX2_grow 14 = .ok (.putfield 18, 3) := by decide +kernel
theorem dX2_grow_17 : decode cX2_grow 17 = .ok (.return_, 1) := by decide +kernel
theorem dX2_clear_0 : decode cX2_clear 0 = .ok (.aload_n 0, 1) := by decide +kernel
theorem dX2_clear_1 : decode cX2_clear 1 = .ok (.iconst 0, 1) := by decide +kernel
theorem dX2_clear_2 : decode cX2_clear 2 = .ok (.putfield 18, 3) := by decide +kernel
theorem dX2_clear_5 : decode cX2_clear 5 = .ok (.return_, 1) := by decide +kernel
set_option maxRecDepth 20000 in
theorem ggX2_addCopy_X2_isFull : GoodIn wsX2_addCopy wsX2_isFull := goodIn_r _ [7, 2, 1, 18, 19] (by decide +kernel) (by decide +kernel)
set_option maxRecDepth 20000 in
theorem gX2_addCopy_X2_isFull : GoodIn wsX2_addCopy (wsV RX2 29 RX2 yX2_isFull wsX2_isFull) := goodIn_app (goodIn_of _ (by decide +kernel)) ggX2_addCopy_X2_isFull
set_option maxRecDepth 20000 in
theorem ggX2_addCopy_X1_becomeLike : GoodIn wsX2_addCopy wsX1_becomeLike := goodIn_r _ [12, 13, 14, 15, 16, 17, 20, 21, 22, 23, 24] (by decide +kernel) (by decide +kernel)
set_option maxRecDepth 20000 in
theorem gX2_addCopy_X1_becomeLike : GoodIn wsX2_addCopy (wsV RX2 33 RX1 yX1_becomeLike wsX1_becomeLike) := goodIn_app (goodIn_of _ (by decide +kernel)) ggX2_addCopy_X1_becomeLike
theorem dX2_addCopy_0 : decode cX2_addCopy 0 = .ok (.aload_n 0, 1) := by decide +kernel
theorem dX2_addCopy_1 : decode cX2_addCopy 1 = .ok (.invokevirtual 29, 3) := by decide +kernel
theorem dX2_addCopy_4 : decode cX2_addCopy 4 = .ok (.ifCond .ne 26, 3) := by decide +kernel
theorem dX2_addCopy_7 : decode cX2_addCopy 7 = .ok (.aload_n 0, 1) := by decide +kernel
theorem dX2_addCopy_8 : decode cX2_addCopy 8 = .ok (.getfield 9, 3) := by decide +kernel
theorem dX2_addCopy_11 : decode cX2_addCopy 11 = .ok (.aload_n 0, 1) := by decide +kernel
theorem dX2_addCopy_12 : decode cX2_addCopy 12 = .ok (.getfield 18, 3) := by decide +kernel
theorem dX2_addCopy_15 : decode cX2_addCopy 15 = .ok (.aaload, 1) := by decide +kernel
theorem dX2_addCopy_16 : decode cX2_addCopy 16 = .ok (.aload_n 1, 1) := by decide +kernel
theorem dX2_addCopy_17 : decode cX2_addCopy 17 = .ok (.invokevirtual 33, 3) := by decide +kernel
theorem dX2_addCopy_20 : decode cX2_addCopy 20 = .ok (.aload_n 0, 1) := by decide +kernel
theorem dX2_addCopy_21 : decode cX2_addCopy 21 = .ok (.dup, 1) := by decide +kernel
theorem dX2_addCopy_22 : decode cX2_addCopy 22 = .ok (.getfield 18, 3) := by decide +kernel
theorem dX2_addCopy_25 : decode cX2_addCopy 25 = .ok (.iconst 1, 1) := by decide +kernel
theorem dX2_addCopy_26 : decode cX2_addCopy 26 = .ok (.iadd, 1) := by decide +kernel
theorem dX2_addCopy_27 : decode cX2_addCopy 27 = .ok (.putfield 18, 3) := by decide +kernel
theorem dX2_addCopy_30 : decode cX2_addCopy 30 = .ok (.return_, 1) := by decide +kernel
set_option maxRecDepth 20000 in
theorem ggX2_placeOf_X1_isAheadOf : GoodIn wsX2_placeOf wsX1_isAheadOf := goodIn_r _ [7, 8, 9, 10, 13, 14, 15, 16, 17] (by decide +kernel) (by decide +kernel)
set_option maxRecDepth 20000 in
theorem gX2_placeOf_X1_isAheadOf : GoodIn wsX2_placeOf (wsV RX2 37 RX1 yX1_isAheadOf wsX1_isAheadOf) := goodIn_app (goodIn_of _ (by decide +kernel)) ggX2_placeOf_X1_isAheadOf
theorem dX2_placeOf_0 : decode cX2_placeOf 0 = .ok (.iconst 1, 1) := by decide +kernel
theorem dX2_placeOf_1 : decode cX2_placeOf 1 = .ok (.istore_n 2, 1) := by decide +kernel
theorem dX2_placeOf_2 : decode cX2_placeOf 2 = .ok (.iconst 0, 1) := by decide +kernel
theorem dX2_placeOf_3 : decode cX2_placeOf 3 = .ok (.istore_n 3, 1) := by decide +kernel
theorem dX2_placeOf_4 : decode cX2_placeOf 4 = .ok (.iload_n 3, 1) := by decide +kernel
theorem dX2_placeOf_5 : decode cX2_placeOf 5 = .ok (.aload_n 0, 1) := by decide +kernel
theorem dX2_placeOf_6 : decode cX2_placeOf 6 = .ok (.getfield 18, 3) := by decide +kernel
theorem dX2_placeOf_9 : decode cX2_placeOf 9 = .ok (.if_icmp .ge 25, 3) := by decide +kernel
theorem dX2_placeOf_12 : decode cX2_placeOf 12 = .ok (.aload_n 0, 1) := by decide +kernel
theorem dX2_placeOf_13 : decode cX2_placeOf 13 = .ok (.getfield 9, 3) := by decide +kernel
theorem dX2_placeOf_16 : decode cX2_placeOf 16 = .ok (.iload_n 3, 1) := by decide +kernel
theorem dX2_placeOf_17 : decode cX2_placeOf 17 = .ok (.aaload, 1) := by decide +kernel
theorem dX2_placeOf_18 : decode cX2_placeOf 18 = .ok (.aload_n 1, 1) := by decide +kernel
theorem dX2_placeOf_19 : decode cX2_placeOf 19 = .ok (.invokevirtual 37, 3) := by decide +kernel
theorem dX2_placeOf_22 : decode cX2_placeOf 22 = .ok (.ifCond .eq 6, 3) := by decide +kernel
theorem dX2_placeOf_25 : decode cX2_placeOf 25 = .ok (.iinc 2 1, 3) := by decide +kernel
theorem dX2_placeOf_28 : decode cX2_placeOf 28 = .ok (.iinc 3 1, 3) := by decide +kernel
theorem dX2_placeOf_31 : decode cX2_placeOf 31 = .ok (.goto (-27), 3) := by decide +kernel
theorem dX2_placeOf_34 : decode cX2_placeOf 34 = .ok (.iload_n 2, 1) := by decide +kernel
theorem dX2_placeOf_35 : decode cX2_placeOf 35 = .ok (.ireturn, 1) := by decide +kernel
set_option maxRecDepth 20000 in
theorem ggX2_liveDay_X1_liveDay : GoodIn wsX2_liveDay wsX1_liveDay := goodIn_r _ [7, 8, 9, 10, 11, 12, 6, 13, 14, 15, 16, 17, 18, 19, 20, 21, 22, 23, 24, 25, 26, 27, 28, 29, 30, 31, 34, 35, 36, 37, 38] (by decide +kernel) (by decide +kernel)
set_option maxRecDepth 20000 in
theorem gX2_liveDay_X1_liveDay : GoodIn wsX2_liveDay (wsV RX2 41 RX1 yX1_liveDay wsX1_liveDay) := goodIn_app (goodIn_of _ (by decide +kernel)) ggX2_liveDay_X1_liveDay
theorem dX2_liveDay_0 : decode cX2_liveDay 0 = .ok (.iconst 0, 1) := by decide +kernel
theorem dX2_liveDay_1 : decode cX2_liveDay 1 = .ok (.istore_n 3, 1) := by decide +kernel
theorem dX2_liveDay_2 : decode cX2_liveDay 2 = .ok (.iconst 0, 1) := by decide +kernel
theorem dX2_liveDay_3 : decode cX2_liveDay 3 = .ok (.istore 4, 2) := by decide +kernel
theorem dX2_liveDay_5 : decode cX2_liveDay 5 = .ok (.iload 4, 2) := by decide +kernel
theorem dX2_liveDay_7 : decode cX2_liveDay 7 = .ok (.aload_n 0, 1) := by decide +kernel
theorem dX2_liveDay_8 : decode cX2_liveDay 8 = .ok (.getfield 18, 3) := by decide +kernel
theorem dX2_liveDay_11 : decode cX2_liveDay 11 = .ok (.if_icmp .ge 32, 3) := by decide +kernel
theorem dX2_liveDay_14 : decode cX2_liveDay 14 = .ok (.iload_n 3, 1) := by decide +kernel
theorem dX2_liveDay_15 : decode cX2_liveDay 15 = .ok (.aload_n 0, 1) := by decide +kernel
theorem dX2_liveDay_16 : decode cX2_liveDay 16 = .ok (.getfield 9, 3) := by decide +kernel
theorem dX2_liveDay_19 : decode cX2_liveDay 19 = .ok (.iload 4, 2) := by decide +kernel
theorem dX2_liveDay_21 : decode cX2_liveDay 21 = .ok (.aaload, 1) := by decide +kernel
theorem dX2_liveDay_22 : decode cX2_liveDay 22 = .ok (.aload_n 1, 1) := by decide +kernel
theorem dX2_liveDay_23 : decode cX2_liveDay 23 = .ok (.iload_n 2, 1) := by decide +kernel
theorem dX2_liveDay_24 : decode cX2_liveDay 24 = .ok (.invokevirtual 41, 3) := by decide +kernel
theorem dX2_liveDay_27 : decode cX2_liveDay 27 = .ok (.ifCond .eq 7, 3) := by decide +kernel
theorem dX2_liveDay_30 : decode cX2_liveDay 30 = .ok (.iconst 1, 1) := by decide +kernel
theorem dX2_liveDay_31 : decode cX2_liveDay 31 = .ok (.goto 4, 3) := by decide +kernel
theorem dX2_liveDay_34 : decode cX2_liveDay 34 = .ok (.iconst 0, 1) := by decide +kernel
theorem dX2_liveDay_35 : decode cX2_liveDay 35 = .ok (.iadd, 1) := by decide +kernel
theorem dX2_liveDay_36 : decode cX2_liveDay 36 = .ok (.istore_n 3, 1) := by decide +kernel
theorem dX2_liveDay_37 : decode cX2_liveDay 37 = .ok (.iinc 4 1, 3) := by decide +kernel
theorem dX2_liveDay_40 : decode cX2_liveDay 40 = .ok (.goto (-35), 3) := by decide +kernel
theorem dX2_liveDay_43 : decode cX2_liveDay 43 = .ok (.iload_n 3, 1) := by decide +kernel
theorem dX2_liveDay_44 : decode cX2_liveDay 44 = .ok (.ireturn, 1) := by decide +kernel
theorem dX2_allPoints_0 : decode cX2_allPoints 0 = .ok (.iconst 0, 1) := by decide +kernel
theorem dX2_allPoints_1 : decode cX2_allPoints 1 = .ok (.istore_n 1, 1) := by decide +kernel
theorem dX2_allPoints_2 : decode cX2_allPoints 2 = .ok (.iconst 0, 1) := by decide +kernel
theorem dX2_allPoints_3 : decode cX2_allPoints 3 = .ok (.istore_n 2, 1) := by decide +kernel
theorem dX2_allPoints_4 : decode cX2_allPoints 4 = .ok (.iload_n 2, 1) := by decide +kernel
theorem dX2_allPoints_5 : decode cX2_allPoints 5 = .ok (.aload_n 0, 1) := by decide +kernel
theorem dX2_allPoints_6 : decode cX2_allPoints 6 = .ok (.getfield 18, 3) := by decide +kernel
theorem dX2_allPoints_9 : decode cX2_allPoints 9 = .ok (.if_icmp .ge 21, 3) := by decide +kernel
theorem dX2_allPoints_12 : decode cX2_allPoints 12 = .ok (.iload_n 1, 1) := by decide +kernel
theorem dX2_allPoints_13 : decode cX2_allPoints 13 = .ok (.aload_n 0, 1) := by decide +kernel
theorem dX2_allPoints_14 : decode cX2_allPoints 14 = .ok (.getfield 9, 3) := by decide +kernel
theorem dX2_allPoints_17 : decode cX2_allPoints 17 = .ok (.iload_n 2, 1) := by decide +kernel
theorem dX2_allPoints_18 : decode cX2_allPoints 18 = .ok (.aaload, 1) := by decide +kernel
theorem dX2_allPoints_19 : decode cX2_allPoints 19 = .ok (.getfield 45, 3) := by decide +kernel
theorem dX2_allPoints_22 : decode cX2_allPoints 22 = .ok (.iadd, 1) := by decide +kernel
theorem dX2_allPoints_23 : decode cX2_allPoints 23 = .ok (.istore_n 1, 1) := by decide +kernel
theorem dX2_allPoints_24 : decode cX2_allPoints 24 = .ok (.iinc 2 1, 3) := by decide +kernel
theorem dX2_allPoints_27 : decode cX2_allPoints 27 = .ok (.goto (-23), 3) := by decide +kernel
theorem dX2_allPoints_30 : decode cX2_allPoints 30 = .ok (.iload_n 1, 1) := by decide +kernel
theorem dX2_allPoints_31 : decode cX2_allPoints 31 = .ok (.ireturn, 1) := by decide +kernel
theorem dX2_allCoins_0 : decode cX2_allCoins 0 = .ok (.iconst 0, 1) := by decide +kernel
theorem dX2_allCoins_1 : decode cX2_allCoins 1 = .ok (.istore_n 1, 1) := by decide +kernel
theorem dX2_allCoins_2 : decode cX2_allCoins 2 = .ok (.iconst 0, 1) := by decide +kernel
theorem dX2_allCoins_3 : decode cX2_allCoins 3 = .ok (.istore_n 2, 1) := by decide +kernel
theorem dX2_allCoins_4 : decode cX2_allCoins 4 = .ok (.iload_n 2, 1) := by decide +kernel
theorem dX2_allCoins_5 : decode cX2_allCoins 5 = .ok (.aload_n 0, 1) := by decide +kernel
theorem dX2_allCoins_6 : decode cX2_allCoins 6 = .ok (.getfield 18, 3) := by decide +kernel
theorem dX2_allCoins_9 : decode cX2_allCoins 9 = .ok (.if_icmp .ge 21, 3) := by decide +kernel
theorem dX2_allCoins_12 : decode cX2_allCoins 12 = .ok (.iload_n 1, 1) := by decide +kernel
theorem dX2_allCoins_13 : decode cX2_allCoins 13 = .ok (.aload_n 0, 1) := by decide +kernel
theorem dX2_allCoins_14 : decode cX2_allCoins 14 = .ok (.getfield 9, 3) := by decide +kernel
theorem dX2_allCoins_17 : decode cX2_allCoins 17 = .ok (.iload_n 2, 1) := by decide +kernel
theorem dX2_allCoins_18 : decode cX2_allCoins 18 = .ok (.aaload, 1) := by decide +kernel
theorem dX2_allCoins_19 : decode cX2_allCoins 19 = .ok (.getfield 48, 3) := by decide +kernel
theorem dX2_allCoins_22 : decode cX2_allCoins 22 = .ok (.iadd, 1) := by decide +kernel
theorem dX2_allCoins_23 : decode cX2_allCoins 23 = .ok (.istore_n 1, 1) := by decide +kernel
theorem dX2_allCoins_24 : decode cX2_allCoins 24 = .ok (.iinc 2 1, 3) := by decide +kernel
theorem dX2_allCoins_27 : decode cX2_allCoins 27 = .ok (.goto (-23), 3) := by decide +kernel
theorem dX2_allCoins_30 : decode cX2_allCoins 30 = .ok (.iload_n 1, 1) := by decide +kernel
theorem dX2_allCoins_31 : decode cX2_allCoins 31 = .ok (.ireturn, 1) := by decide +kernel
set_option maxRecDepth 20000 in
theorem ggX2_allWeightsOf_X1_weightOf : GoodIn wsX2_allWeightsOf wsX1_weightOf := goodIn_r _ [7, 8, 11, 12, 13, 14, 15] (by decide +kernel) (by decide +kernel)
set_option maxRecDepth 20000 in
theorem gX2_allWeightsOf_X1_weightOf : GoodIn wsX2_allWeightsOf (wsV RX2 51 RX1 yX1_weightOf wsX1_weightOf) := goodIn_app (goodIn_of _ (by decide +kernel)) ggX2_allWeightsOf_X1_weightOf
theorem dX2_allWeightsOf_0 : decode cX2_allWeightsOf 0 = .ok (.iconst 0, 1) := by decide +kernel
theorem dX2_allWeightsOf_1 : decode cX2_allWeightsOf 1 = .ok (.istore_n 2, 1) := by decide +kernel
theorem dX2_allWeightsOf_2 : decode cX2_allWeightsOf 2 = .ok (.iconst 0, 1) := by decide +kernel
theorem dX2_allWeightsOf_3 : decode cX2_allWeightsOf 3 = .ok (.istore_n 3, 1) := by decide +kernel
theorem dX2_allWeightsOf_4 : decode cX2_allWeightsOf 4 = .ok (.iload_n 3, 1) := by decide +kernel
theorem dX2_allWeightsOf_5 : decode cX2_allWeightsOf 5 = .ok (.aload_n 0, 1) := by decide +kernel
theorem dX2_allWeightsOf_6 : decode cX2_allWeightsOf 6 = .ok (.getfield 18, 3) := by decide +kernel
theorem dX2_allWeightsOf_9 : decode cX2_allWeightsOf 9 = .ok (.if_icmp .ge 22, 3) := by decide +kernel
theorem dX2_allWeightsOf_12 : decode cX2_allWeightsOf 12 = .ok (.iload_n 2, 1) := by decide +kernel
theorem dX2_allWeightsOf_13 : decode cX2_allWeightsOf 13 = .ok (.aload_n 0, 1) := by decide +kernel
theorem dX2_allWeightsOf_14 : decode cX2_allWeightsOf 14 = .ok (.getfield 9, 3) := by decide +kernel
theorem dX2_allWeightsOf_17 : decode cX2_allWeightsOf 17 = .ok (.iload_n 3, 1) := by decide +kernel
theorem dX2_allWeightsOf_18 : decode cX2_allWeightsOf 18 = .ok (.aaload, 1) := by decide +kernel
theorem dX2_allWeightsOf_19 : decode cX2_allWeightsOf 19 = .ok (.iload_n 1, 1) := by decide +kernel
theorem dX2_allWeightsOf_20 : decode cX2_allWeightsOf 20 = .ok (.invokevirtual 51, 3) := by decide +kernel
theorem dX2_allWeightsOf_23 : decode cX2_allWeightsOf 23 = .ok (.iadd, 1) := by decide +kernel
theorem dX2_allWeightsOf_24 : decode cX2_allWeightsOf 24 = .ok (.istore_n 2, 1) := by decide +kernel
theorem dX2_allWeightsOf_25 : decode cX2_allWeightsOf 25 = .ok (.iinc 3 1, 3) := by decide +kernel
theorem dX2_allWeightsOf_28 : decode cX2_allWeightsOf 28 = .ok (.goto (-24), 3) := by decide +kernel
theorem dX2_allWeightsOf_31 : decode cX2_allWeightsOf 31 = .ok (.iload_n 2, 1) := by decide +kernel
theorem dX2_allWeightsOf_32 : decode cX2_allWeightsOf 32 = .ok (.ireturn, 1) := by decide +kernel
set_option maxRecDepth 20000 in
theorem ggX2_guessingRain_X1_guessesRain : GoodIn wsX2_guessingRain wsX1_guessesRain := goodIn_r _ [7, 8, 9, 10, 6, 11, 12, 15, 16, 17, 18, 19] (by decide +kernel) (by decide +kernel)
set_option maxRecDepth 20000 in
theorem gX2_guessingRain_X1_guessesRain : GoodIn wsX2_guessingRain (wsV RX2 55 RX1 yX1_guessesRain wsX1_guessesRain) := goodIn_app (goodIn_of _ (by decide +kernel)) ggX2_guessingRain_X1_guessesRain
theorem dX2_guessingRain_0 : decode cX2_guessingRain 0 = .ok (.iconst 0, 1) := by decide +kernel
theorem dX2_guessingRain_1 : decode cX2_guessingRain 1 = .ok (.istore_n 2, 1) := by decide +kernel
theorem dX2_guessingRain_2 : decode cX2_guessingRain 2 = .ok (.iconst 0, 1) := by decide +kernel
theorem dX2_guessingRain_3 : decode cX2_guessingRain 3 = .ok (.istore_n 3, 1) := by decide +kernel
theorem dX2_guessingRain_4 : decode cX2_guessingRain 4 = .ok (.iload_n 3, 1) := by decide +kernel
theorem dX2_guessingRain_5 : decode cX2_guessingRain 5 = .ok (.aload_n 0, 1) := by decide +kernel
theorem dX2_guessingRain_6 : decode cX2_guessingRain 6 = .ok (.getfield 18, 3) := by decide +kernel
theorem dX2_guessingRain_9 : decode cX2_guessingRain 9 = .ok (.if_icmp .ge 30, 3) := by decide +kernel
theorem dX2_guessingRain_12 : decode cX2_guessingRain 12 = .ok (.iload_n 2, 1) := by decide +kernel
theorem dX2_guessingRain_13 : decode cX2_guessingRain 13 = .ok (.aload_n 0, 1) := by decide +kernel
theorem dX2_guessingRain_14 : decode cX2_guessingRain 14 = .ok (.getfield 9, 3) := by decide +kernel
theorem dX2_guessingRain_17 : decode cX2_guessingRain 17 = .ok (.iload_n 3, 1) := by decide +kernel
theorem dX2_guessingRain_18 : decode cX2_guessingRain 18 = .ok (.aaload, 1) := by decide +kernel
theorem dX2_guessingRain_19 : decode cX2_guessingRain 19 = .ok (.aload_n 1, 1) := by decide +kernel
theorem dX2_guessingRain_20 : decode cX2_guessingRain 20 = .ok (.invokevirtual 55, 3) := by decide +kernel
theorem dX2_guessingRain_23 : decode cX2_guessingRain 23 = .ok (.ifCond .eq 7, 3) := by decide +kernel
theorem dX2_guessingRain_26 : decode cX2_guessingRain 26 = .ok (.iconst 1, 1) := by decide +kernel
theorem dX2_guessingRain_27 : decode cX2_guessingRain 27 = .ok (.goto 4, 3) := by decide +kernel
theorem dX2_guessingRain_30 : decode cX2_guessingRain 30 = .ok (.iconst 0, 1) := by decide +kernel
theorem dX2_guessingRain_31 : decode cX2_guessingRain 31 = .ok (.iadd, 1) := by decide +kernel
theorem dX2_guessingRain_32 : decode cX2_guessingRain 32 = .ok (.istore_n 2, 1) := by decide +kernel
theorem dX2_guessingRain_33 : decode cX2_guessingRain 33 = .ok (.iinc 3 1, 3) := by decide +kernel
theorem dX2_guessingRain_36 : decode cX2_guessingRain 36 = .ok (.goto (-32), 3) := by decide +kernel
theorem dX2_guessingRain_39 : decode cX2_guessingRain 39 = .ok (.iload_n 2, 1) := by decide +kernel
theorem dX2_guessingRain_40 : decode cX2_guessingRain 40 = .ok (.ireturn, 1) := by decide +kernel
set_option maxRecDepth 20000 in
theorem ggX3_init_J7_fill_53178 : GoodIn wsX3_init wsJ7_fill_53178 := goodIn_r _ [11] (by decide +kernel) (by decide +kernel)
set_option maxRecDepth 20000 in
theorem gX3_init_J7_fill_53178 : GoodIn wsX3_init (va_wsS RX3 19 yJ7_fill_53178 wsJ7_fill_53178) := goodIn_app (goodIn_of _ (by decide +kernel)) ggX3_init_J7_fill_53178
theorem dX3_init_0 : decode cX3_init 0 = .ok (.aload_n 0, 1) := by decide +kernel
theorem dX3_init_1 : decode cX3_init 1 = .ok (.invokespecial 3, 3) := by decide +kernel
theorem dX3_init_4 : decode cX3_init 4 = .ok (.aload_n 0, 1) := by decide +kernel
theorem dX3_init_5 : decode cX3_init 5 = .ok (.bipush 12, 2) := by decide +kernel
theorem dX3_init_7 : decode cX3_init 7 = .ok (.newarray .int, 2) := by decide +kernel
theorem dX3_init_9 : decode cX3_init 9 = .ok (.putfield 9, 3) := by decide +kernel
theorem dX3_init_12 : decode cX3_init 12 = .ok (.aload_n 0, 1) := by decide +kernel
theorem dX3_init_13 : decode cX3_init 13 = .ok (.bipush 12, 2) := by decide +kernel
theorem dX3_init_15 : decode cX3_init 15 = .ok (.newarray .boolean, 2) := by decide +kernel
theorem dX3_init_17 : decode cX3_init 17 = .ok (.putfield 15, 3) := by decide +kernel
theorem dX3_init_20 : decode cX3_init 20 = .ok (.aload_n 0, 1) := by decide +kernel
theorem dX3_init_21 : decode cX3_init 21 = .ok (.getfield 9, 3) := by decide +kernel
theorem dX3_init_24 : decode cX3_init 24 = .ok (.bipush 30, 2) := by decide +kernel
theorem dX3_init_26 : decode cX3_init 26 = .ok (.invokestatic 19, 3) := by decide +kernel
theorem dX3_init_29 : decode cX3_init 29 = .ok (.return_, 1) := by decide +kernel
set_option maxRecDepth 20000 in
theorem ggX3_glassOn_J9_floorMod_7cf53 : GoodIn wsX3_glassOn wsJ9_floorMod_7cf53 := goodIn_r _ [5] (by decide +kernel) (by decide +kernel)
set_option maxRecDepth 20000 in
theorem gX3_glassOn_J9_floorMod_7cf53 : GoodIn wsX3_glassOn (va_wsS RX3 25 yJ9_floorMod_7cf53 wsJ9_floorMod_7cf53) := goodIn_app (goodIn_of _ (by decide +kernel)) ggX3_glassOn_J9_floorMod_7cf53
theorem dX3_glassOn_0 : decode cX3_glassOn 0 = .ok (.aload_n 0, 1) := by decide +kernel
theorem dX3_glassOn_1 : decode cX3_glassOn 1 = .ok (.getfield 9, 3) := by decide +kernel
theorem dX3_glassOn_4 : decode cX3_glassOn 4 = .ok (.iload_n 1, 1) := by decide +kernel
theorem dX3_glassOn_5 : decode cX3_glassOn 5 = .ok (.bipush 12, 2) := by decide +kernel
theorem dX3_glassOn_7 : decode cX3_glassOn 7 = .ok (.invokestatic 25, 3) := by decide +kernel
theorem dX3_glassOn_10 : decode cX3_glassOn 10 = .ok (.iaload, 1) := by decide +kernel
theorem dX3_glassOn_11 : decode cX3_glassOn 11 = .ok (.ireturn, 1) := by decide +kernel
set_option maxRecDepth 20000 in
theorem ggX3_putGlass_J9_floorMod_7cf53 : GoodIn wsX3_putGlass wsJ9_floorMod_7cf53 := goodIn_r _ [5] (by decide +kernel) (by decide +kernel)
set_option maxRecDepth 20000 in
theorem gX3_putGlass_J9_floorMod_7cf53 : GoodIn wsX3_putGlass (va_wsS RX3 25 yJ9_floorMod_7cf53 wsJ9_floorMod_7cf53) := goodIn_app (goodIn_of _ (by decide +kernel)) ggX3_putGlass_J9_floorMod_7cf53
theorem dX3_putGlass_0 : decode cX3_putGlass 0 = .ok (.aload_n 0, 1) := by decide +kernel
theorem dX3_putGlass_1 : decode cX3_putGlass 1 = .ok (.getfield 9, 3) := by decide +kernel
theorem dX3_putGlass_4 : decode cX3_putGlass 4 = .ok (.iload_n 1, 1) := by decide +kernel
theorem dX3_putGlass_5 : decode cX3_putGlass 5 = .ok (.bipush 12, 2) := by decide +kernel
theorem dX3_putGlass_7 : decode cX3_putGlass 7 = .ok (.invokestatic 25, 3) := by decide +kernel
theorem dX3_putGlass_10 : decode cX3_putGlass 10 = .ok (.iload_n 2, 1) := by decide +kernel
theorem dX3_putGlass_11 : decode cX3_putGlass 11 = .ok (.iastore, 1) := by decide +kernel
theorem dX3_putGlass_12 : decode cX3_putGlass 12 = .ok (.return_, 1) := by decide +kernel
set_option maxRecDepth 20000 in
theorem ggX3_rainsOn_J9_floorMod_7cf53 : GoodIn wsX3_rainsOn wsJ9_floorMod_7cf53 := goodIn_r _ [5] (by decide +kernel) (by decide +kernel)
set_option maxRecDepth 20000 in
theorem gX3_rainsOn_J9_floorMod_7cf53 : GoodIn wsX3_rainsOn (va_wsS RX3 25 yJ9_floorMod_7cf53 wsJ9_floorMod_7cf53) := goodIn_app (goodIn_of _ (by decide +kernel)) ggX3_rainsOn_J9_floorMod_7cf53
theorem dX3_rainsOn_0 : decode cX3_rainsOn 0 = .ok (.aload_n 0, 1) := by decide +kernel
theorem dX3_rainsOn_1 : decode cX3_rainsOn 1 = .ok (.getfield 15, 3) := by decide +kernel
theorem dX3_rainsOn_4 : decode cX3_rainsOn 4 = .ok (.iload_n 1, 1) := by decide +kernel
theorem dX3_rainsOn_5 : decode cX3_rainsOn 5 = .ok (.bipush 12, 2) := by decide +kernel
theorem dX3_rainsOn_7 : decode cX3_rainsOn 7 = .ok (.invokestatic 25, 3) := by decide +kernel
theorem dX3_rainsOn_10 : decode cX3_rainsOn 10 = .ok (.baload, 1) := by decide +kernel
theorem dX3_rainsOn_11 : decode cX3_rainsOn 11 = .ok (.ireturn, 1) := by decide +kernel
set_option maxRecDepth 20000 in
theorem ggX3_putRain_J9_floorMod_7cf53 : GoodIn wsX3_putRain wsJ9_floorMod_7cf53 := goodIn_r _ [5] (by decide +kernel) (by decide +kernel)
set_option maxRecDepth 20000 in
theorem gX3_putRain_J9_floorMod_7cf53 : GoodIn wsX3_putRain (va_wsS RX3 25 yJ9_floorMod_7cf53 wsJ9_floorMod_7cf53) := goodIn_app (goodIn_of _ (by decide +kernel)) ggX3_putRain_J9_floorMod_7cf53
theorem dX3_putRain_0 : decode cX3_putRain 0 = .ok (.aload_n 0, 1) := by decide +kernel
theorem dX3_putRain_1 : decode cX3_putRain 1 = .ok (.getfield 15, 3) := by decide +kernel
theorem dX3_putRain_4 : decode cX3_putRain 4 = .ok (.iload_n 1, 1) := by decide +kernel
theorem dX3_putRain_5 : decode cX3_putRain 5 = .ok (.bipush 12, 2) := by decide +kernel
theorem dX3_putRain_7 : decode cX3_putRain 7 = .ok (.invokestatic 25, 3) := by decide +kernel
theorem dX3_putRain_10 : decode cX3_putRain 10 = .ok (.iload_n 2, 1) := by decide +kernel
theorem dX3_putRain_11 : decode cX3_putRain 11 = .ok (.bastore, 1) := by decide +kernel
theorem dX3_putRain_12 : decode cX3_putRain 12 = .ok (.return_, 1) := by decide +kernel
theorem dX3_rainyDays_0 : decode cX3_rainyDays 0 = .ok (.iconst 0, 1) := by decide +kernel
theorem dX3_rainyDays_1 : decode cX3_rainyDays 1 = .ok (.istore_n 1, 1) := by decide +kernel
theorem dX3_rainyDays_2 : decode cX3_rainyDays 2 = .ok (.aload_n 0, 1) := by decide +kernel
theorem dX3_rainyDays_3 : decode cX3_rainyDays 3 = .ok (.getfield 15, 3) := by decide +kernel
theorem dX3_rainyDays_6 : decode cX3_rainyDays 6 = .ok (.astore_n 2, 1) := by decide +kernel
theorem dX3_rainyDays_7 : decode cX3_rainyDays 7 = .ok (.aload_n 2, 1) := by decide +kernel
theorem dX3_rainyDays_8 : decode cX3_rainyDays 8 = .ok (.arraylength, 1) := by decide +kernel
theorem dX3_rainyDays_9 : decode cX3_rainyDays 9 = .ok (.istore_n 3, 1) := by decide +kernel
theorem dX3_rainyDays_10 : decode cX3_rainyDays 10 = .ok (.iconst 0, 1) := by decide +kernel
theorem dX3_rainyDays_11 : decode cX3_rainyDays 11 = .ok (.istore 4, 2) := by decide +kernel
theorem dX3_rainyDays_13 : decode cX3_rainyDays 13 = .ok (.iload 4, 2) := by decide +kernel
theorem dX3_rainyDays_15 : decode cX3_rainyDays 15 = .ok (.iload_n 3, 1) := by decide +kernel
theorem dX3_rainyDays_16 : decode cX3_rainyDays 16 = .ok (.if_icmp .ge 28, 3) := by decide +kernel
theorem dX3_rainyDays_19 : decode cX3_rainyDays 19 = .ok (.aload_n 2, 1) := by decide +kernel
theorem dX3_rainyDays_20 : decode cX3_rainyDays 20 = .ok (.iload 4, 2) := by decide +kernel
theorem dX3_rainyDays_22 : decode cX3_rainyDays 22 = .ok (.baload, 1) := by decide +kernel
theorem dX3_rainyDays_23 : decode cX3_rainyDays 23 = .ok (.istore 5, 2) := by decide +kernel
theorem dX3_rainyDays_25 : decode cX3_rainyDays 25 = .ok (.iload_n 1, 1) := by decide +kernel
theorem dX3_rainyDays_26 : decode cX3_rainyDays 26 = .ok (.iload 5, 2) := by decide +kernel
theorem dX3_rainyDays_28 : decode cX3_rainyDays 28 = .ok (.ifCond .eq 7, 3) := by decide +kernel
theorem dX3_rainyDays_31 : decode cX3_rainyDays 31 = .ok (.iconst 1, 1) := by decide +kernel
theorem dX3_rainyDays_32 : decode cX3_rainyDays 32 = .ok (.goto 4, 3) := by decide +kernel
theorem dX3_rainyDays_35 : decode cX3_rainyDays 35 = .ok (.iconst 0, 1) := by decide +kernel
theorem dX3_rainyDays_36 : decode cX3_rainyDays 36 = .ok (.iadd, 1) := by decide +kernel
theorem dX3_rainyDays_37 : decode cX3_rainyDays 37 = .ok (.istore_n 1, 1) := by decide +kernel
theorem dX3_rainyDays_38 : decode cX3_rainyDays 38 = .ok (.iinc 4 1, 3) := by decide +kernel
theorem dX3_rainyDays_41 : decode cX3_rainyDays 41 = .ok (.goto (-28), 3) := by decide +kernel
theorem dX3_rainyDays_44 : decode cX3_rainyDays 44 = .ok (.iload_n 1, 1) := by decide +kernel
theorem dX3_rainyDays_45 : decode cX3_rainyDays 45 = .ok (.ireturn, 1) := by decide +kernel
theorem dJ9_floorMod_7cf53_0 : decode cJ9_floorMod_7cf53 0 = .ok (.iload_n 0, 1) := by decide +kernel
theorem dJ9_floorMod_7cf53_1 : decode cJ9_floorMod_7cf53 1 = .ok (.iload_n 1, 1) := by decide +kernel
theorem dJ9_floorMod_7cf53_2 : decode cJ9_floorMod_7cf53 2 = .ok (.irem, 1) := by decide +kernel
theorem dJ9_floorMod_7cf53_3 : decode cJ9_floorMod_7cf53 3 = .ok (.istore_n 2, 1) := by decide +kernel
theorem dJ9_floorMod_7cf53_4 : decode cJ9_floorMod_7cf53 4 = .ok (.iload_n 0, 1) := by decide +kernel
theorem dJ9_floorMod_7cf53_5 : decode cJ9_floorMod_7cf53 5 = .ok (.iload_n 1, 1) := by decide +kernel
theorem dJ9_floorMod_7cf53_6 : decode cJ9_floorMod_7cf53 6 = .ok (.ixor, 1) := by decide +kernel
theorem dJ9_floorMod_7cf53_7 : decode cJ9_floorMod_7cf53 7 = .ok (.ifCond .ge 11, 3) := by decide +kernel
theorem dJ9_floorMod_7cf53_10 : decode cJ9_floorMod_7cf53 10 = .ok (.iload_n 2, 1) := by decide +kernel
theorem dJ9_floorMod_7cf53_11 : decode cJ9_floorMod_7cf53 11 = .ok (.ifCond .eq 7, 3) := by decide +kernel
theorem dJ9_floorMod_7cf53_14 : decode cJ9_floorMod_7cf53 14 = .ok (.iload_n 2, 1) := by decide +kernel
theorem dJ9_floorMod_7cf53_15 : decode cJ9_floorMod_7cf53 15 = .ok (.iload_n 1, 1) := by decide +kernel
theorem dJ9_floorMod_7cf53_16 : decode cJ9_floorMod_7cf53 16 = .ok (.iadd, 1) := by decide +kernel
theorem dJ9_floorMod_7cf53_17 : decode cJ9_floorMod_7cf53 17 = .ok (.ireturn, 1) := by decide +kernel
theorem dJ9_floorMod_7cf53_18 : decode cJ9_floorMod_7cf53 18 = .ok (.iload_n 2, 1) := by decide +kernel
theorem dJ9_floorMod_7cf53_19 : decode cJ9_floorMod_7cf53 19 = .ok (.ireturn, 1) := by decide +kernel
theorem dJ9_max_7cf53_0 : decode cJ9_max_7cf53 0 = .ok (.iload_n 0, 1) := by decide +kernel
theorem dJ9_max_7cf53_1 : decode cJ9_max_7cf53 1 = .ok (.iload_n 1, 1) := by decide +kernel
theorem dJ9_max_7cf53_2 : decode cJ9_max_7cf53 2 = .ok (.if_icmp .lt 7, 3) := by decide +kernel
theorem dJ9_max_7cf53_5 : decode cJ9_max_7cf53 5 = .ok (.iload_n 0, 1) := by decide +kernel
theorem dJ9_max_7cf53_6 : decode cJ9_max_7cf53 6 = .ok (.goto 4, 3) := by decide +kernel
theorem dJ9_max_7cf53_9 : decode cJ9_max_7cf53 9 = .ok (.iload_n 1, 1) := by decide +kernel
theorem dJ9_max_7cf53_10 : decode cJ9_max_7cf53 10 = .ok (.ireturn, 1) := by decide +kernel
theorem dJ9_min_7cf53_0 : decode cJ9_min_7cf53 0 = .ok (.iload_n 0, 1) := by decide +kernel
theorem dJ9_min_7cf53_1 : decode cJ9_min_7cf53 1 = .ok (.iload_n 1, 1) := by decide +kernel
theorem dJ9_min_7cf53_2 : decode cJ9_min_7cf53 2 = .ok (.if_icmp .gt 7, 3) := by decide +kernel
theorem dJ9_min_7cf53_5 : decode cJ9_min_7cf53 5 = .ok (.iload_n 0, 1) := by decide +kernel
theorem dJ9_min_7cf53_6 : decode cJ9_min_7cf53 6 = .ok (.goto 4, 3) := by decide +kernel
theorem dJ9_min_7cf53_9 : decode cJ9_min_7cf53 9 = .ok (.iload_n 1, 1) := by decide +kernel
theorem dJ9_min_7cf53_10 : decode cJ9_min_7cf53 10 = .ok (.ireturn, 1) := by decide +kernel
theorem dJxa1e45_init_da8c8_0 : decode cJxa1e45_init_da8c8 0 = .ok (.aload_n 0, 1) := by decide +kernel
theorem dJxa1e45_init_da8c8_1 : decode cJxa1e45_init_da8c8 1 = .ok (.invokespecial 1, 3) := by decide +kernel
theorem dJxa1e45_init_da8c8_4 : decode cJxa1e45_init_da8c8 4 = .ok (.return_, 1) := by decide +kernel
set_option maxRecDepth 20000 in
theorem ggJxc12de_init_da8c8_Jxa1e45_init_da8c8 : GoodIn wsJxc12de_init_da8c8 wsJxa1e45_init_da8c8 := goodIn_r _ [5, 6, 7, 8] (by decide +kernel) (by decide +kernel)
set_option maxRecDepth 20000 in
theorem gJxc12de_init_da8c8_Jxa1e45_init_da8c8 : GoodIn wsJxc12de_init_da8c8 (wsJxa1e45_init_da8c8) := ggJxc12de_init_da8c8_Jxa1e45_init_da8c8
theorem dJxc12de_init_da8c8_0 : decode cJxc12de_init_da8c8 0 = .ok (.aload_n 0, 1) := by decide +kernel
theorem dJxc12de_init_da8c8_1 : decode cJxc12de_init_da8c8 1 = .ok (.invokespecial 1, 3) := by decide +kernel
theorem dJxc12de_init_da8c8_4 : decode cJxc12de_init_da8c8 4 = .ok (.aload_n 0, 1) := by decide +kernel
theorem dJxc12de_init_da8c8_5 : decode cJxc12de_init_da8c8 5 = .ok (.iconst 0, 1) := by decide +kernel
theorem dJxc12de_init_da8c8_6 : decode cJxc12de_init_da8c8 6 = .ok (.putfield 7, 3) := by decide +kernel
theorem dJxc12de_init_da8c8_9 : decode cJxc12de_init_da8c8 9 = .ok (.return_, 1) := by decide +kernel
set_option maxRecDepth 20000 in
theorem ggJx4a65c_init_da8c8_Jxc12de_init_da8c8 : GoodIn wsJx4a65c_init_da8c8 wsJxc12de_init_da8c8 := goodIn_r _ [6, 7, 8, 9, 10, 11, 12, 13, 14, 15, 16, 17] (by decide +kernel) (by decide +kernel)
set_option maxRecDepth 20000 in
theorem gJx4a65c_init_da8c8_Jxc12de_init_da8c8 : GoodIn wsJx4a65c_init_da8c8 (wsJxc12de_init_da8c8) := ggJx4a65c_init_da8c8_Jxc12de_init_da8c8
theorem dJx4a65c_init_da8c8_0 : decode cJx4a65c_init_da8c8 0 = .ok (.aload_n 0, 1) := by decide +kernel
theorem dJx4a65c_init_da8c8_1 : decode cJx4a65c_init_da8c8 1 = .ok (.invokespecial 1, 3) := by decide +kernel
theorem dJx4a65c_init_da8c8_4 : decode cJx4a65c_init_da8c8 4 = .ok (.aload_n 0, 1) := by decide +kernel
theorem dJx4a65c_init_da8c8_5 : decode cJx4a65c_init_da8c8 5 = .ok (.getstatic 39, 3) := by decide +kernel
theorem dJx4a65c_init_da8c8_8 : decode cJx4a65c_init_da8c8 8 = .ok (.putfield 9, 3) := by decide +kernel
theorem dJx4a65c_init_da8c8_11 : decode cJx4a65c_init_da8c8 11 = .ok (.return_, 1) := by decide +kernel
set_option maxRecDepth 20000 in
theorem ggJx4a65c_grow_92f84_J8_newLength_cabcc : GoodIn wsJx4a65c_grow_92f84 wsJ8_newLength_cabcc := goodIn_r _ [11, 12, 4, 5, 6, 13, 14, 15, 10, 16] (by decide +kernel) (by decide +kernel)
set_option maxRecDepth 20000 in
theorem gJx4a65c_grow_92f84_J8_newLength_cabcc : GoodIn wsJx4a65c_grow_92f84 (va_wsS RJx4a65c 73 yJ8_newLength_cabcc wsJ8_newLength_cabcc) := goodIn_app (goodIn_of _ (by decide +kernel)) ggJx4a65c_grow_92f84_J8_newLength_cabcc
set_option maxRecDepth 20000 in
theorem ggJx4a65c_grow_92f84_J7_copyOf_1904c : GoodIn wsJx4a65c_grow_92f84 wsJ7_copyOf_1904c := goodIn_r _ [20, 21, 22, 23, 24, 25, 26, 19, 27, 28, 29, 30, 31, 5, 32, 33, 34, 35, 36] (by decide +kernel) (by decide +kernel)
set_option maxRecDepth 20000 in
theorem gJx4a65c_grow_92f84_J7_copyOf_1904c : GoodIn wsJx4a65c_grow_92f84 (va_wsS RJx4a65c 66 yJ7_copyOf_1904c wsJ7_copyOf_1904c) := goodIn_app (goodIn_of _ (by decide +kernel)) ggJx4a65c_grow_92f84_J7_copyOf_1904c
theorem dJx4a65c_grow_92f84_0 : decode cJx4a65c_grow_92f84 0 = .ok (.aload_n 0, 1) := by decide +kernel
theorem dJx4a65c_grow_92f84_1 : decode cJx4a65c_grow_92f84 1 = .ok (.getfield 9, 3) := by decide +kernel
theorem dJx4a65c_grow_92f84_4 : decode cJx4a65c_grow_92f84 4 = .ok (.arraylength, 1) := by decide +kernel
theorem dJx4a65c_grow_92f84_5 : decode cJx4a65c_grow_92f84 5 = .ok (.istore_n 2, 1) := by decide +kernel
theorem dJx4a65c_grow_92f84_6 : decode cJx4a65c_grow_92f84 6 = .ok (.iload_n 2, 1) := by decide +kernel
theorem dJx4a65c_grow_92f84_7 : decode cJx4a65c_grow_92f84 7 = .ok (.ifCond .gt 13, 3) := by decide +kernel
theorem dJx4a65c_grow_92f84_10 : decode cJx4a65c_grow_92f84 10 = .ok (.aload_n 0, 1) := by decide +kernel
theorem dJx4a65c_grow_92f84_11 : decode cJx4a65c_grow_92f84 11 = .ok (.getfield 9, 3) := by decide +kernel
theorem dJx4a65c_grow_92f84_14 : decode cJx4a65c_grow_92f84 14 = .ok (.getstatic 39, 3) := by decide +kernel
theorem dJx4a65c_grow_92f84_17 : decode cJx4a65c_grow_92f84 17 = .ok (.if_acmp .eq 28, 3) := by decide +kernel
theorem dJx4a65c_grow_92f84_20 : decode cJx4a65c_grow_92f84 20 = .ok (.iload_n 2, 1) := by decide +kernel
theorem dJx4a65c_grow_92f84_21 : decode cJx4a65c_grow_92f84 21 = .ok (.iload_n 1, 1) := by decide +kernel
theorem dJx4a65c_grow_92f84_22 : decode cJx4a65c_grow_92f84 22 = .ok (.iload_n 2, 1) := by decide +kernel
theorem dJx4a65c_grow_92f84_23 : decode cJx4a65c_grow_92f84 23 = .ok (.isub, 1) := by decide +kernel
theorem dJx4a65c_grow_92f84_24 : decode cJx4a65c_grow_92f84 24 = .ok (.iload_n 2, 1) := by decide +kernel
theorem dJx4a65c_grow_92f84_25 : decode cJx4a65c_grow_92f84 25 = .ok (.iconst 1, 1) := by decide +kernel
theorem dJx4a65c_grow_92f84_26 : decode cJx4a65c_grow_92f84 26 = .ok (.ishr, 1) := by decide +kernel
theorem dJx4a65c_grow_92f84_27 : decode cJx4a65c_grow_92f84 27 = .ok (.invokestatic 73, 3) := by decide +kernel
theorem dJx4a65c_grow_92f84_30 : decode cJx4a65c_grow_92f84 30 = .ok (.istore_n 3, 1) := by decide +kernel
theorem dJx4a65c_grow_92f84_31 : decode cJx4a65c_grow_92f84 31 = .ok (.aload_n 0, 1) := by decide +kernel
theorem dJx4a65c_grow_92f84_32 : decode cJx4a65c_grow_92f84 32 = .ok (.aload_n 0, 1) := by decide +kernel
theorem dJx4a65c_grow_92f84_33 : decode cJx4a65c_grow_92f84 33 = .ok (.getfield 9, 3) := by decide +kernel
theorem dJx4a65c_grow_92f84_36 : decode cJx4a65c_grow_92f84 36 = .ok (.iload_n 3, 1) := by decide +kernel
theorem dJx4a65c_grow_92f84_37 : decode cJx4a65c_grow_92f84 37 = .ok (.invokestatic 66, 3) := by decide +kernel
theorem dJx4a65c_grow_92f84_40 : decode cJx4a65c_grow_92f84 40 = .ok (.dup_x1, 1) := by decide +kernel
theorem dJx4a65c_grow_92f84_41 : decode cJx4a65c_grow_92f84 41 = .ok (.putfield 9, 3) := by decide +kernel
theorem dJx4a65c_grow_92f84_44 : decode cJx4a65c_grow_92f84 44 = .ok (.areturn, 1) := by decide +kernel
theorem dJx4a65c_grow_92f84_45 : decode cJx4a65c_grow_92f84 45 = .ok (.aload_n 0, 1) := by decide +kernel
theorem dJx4a65c_grow_92f84_46 : decode cJx4a65c_grow_92f84 46 = .ok (.bipush 10, 2) := by decide +kernel
theorem dJx4a65c_grow_92f84_48 : decode cJx4a65c_grow_92f84 48 = .ok (.iload_n 1, 1) := by decide +kernel
theorem dJx4a65c_grow_92f84_49 : decode cJx4a65c_grow_92f84 49 = .ok (.invokestatic 79, 3) := by decide +kernel
theorem dJx4a65c_grow_92f84_52 : decode cJx4a65c_grow_92f84 52 = .ok (.anewarray 7, 3) := by decide +kernel
theorem dJx4a65c_grow_92f84_55 : decode cJx4a65c_grow_92f84 55 = .ok (.dup_x1, 1) := by decide +kernel
theorem dJx4a65c_grow_92f84_56 : decode cJx4a65c_grow_92f84 56 = .ok (.putfield 9, 3) := by decide +kernel
theorem dJx4a65c_grow_92f84_59 : decode cJx4a65c_grow_92f84 59 = .ok (.areturn, 1) := by decide +kernel
set_option maxRecDepth 20000 in
theorem ggJx4a65c_grow_d5877_Jx4a65c_grow_92f84 : GoodIn wsJx4a65c_grow_d5877 wsJx4a65c_grow_92f84 := goodIn_r _ [6, 7, 8, 9, 10, 11, 12, 13, 14, 15, 16, 17, 18, 19, 20, 21, 22, 23, 24, 25, 26, 27, 28, 29, 30, 31, 32, 33, 34, 35, 36, 37, 38, 39, 40, 41, 42, 43, 44, 45] (by decide +kernel) (by decide +kernel)
set_option maxRecDepth 20000 in
theorem gJx4a65c_grow_d5877_Jx4a65c_grow_92f84 : GoodIn wsJx4a65c_grow_d5877 (wsV RJx4a65c 69 RJx4a65c yJx4a65c_grow_92f84 wsJx4a65c_grow_92f84) := goodIn_app (goodIn_of _ (by decide +kernel)) ggJx4a65c_grow_d5877_Jx4a65c_grow_92f84
theorem dJx4a65c_grow_d5877_0 : decode cJx4a65c_grow_d5877 0 = .ok (.aload_n 0, 1) := by decide +kernel
theorem dJx4a65c_grow_d5877_1 : decode cJx4a65c_grow_d5877 1 = .ok (.aload_n 0, 1) := by decide +kernel
theorem dJx4a65c_grow_d5877_2 : decode cJx4a65c_grow_d5877 2 = .ok (.getfield 48, 3) := by decide +kernel
theorem dJx4a65c_grow_d5877_5 : decode cJx4a65c_grow_d5877 5 = .ok (.iconst 1, 1) := by decide +kernel
theorem dJx4a65c_grow_d5877_6 : decode cJx4a65c_grow_d5877 6 = .ok (.iadd, 1) := by decide +kernel
theorem dJx4a65c_grow_d5877_7 : decode cJx4a65c_grow_d5877 7 = .ok (.invokevirtual 69, 3) := by decide +kernel
theorem dJx4a65c_grow_d5877_10 : decode cJx4a65c_grow_d5877 10 = .ok (.areturn, 1) := by decide +kernel
theorem dJx4a65c_size_8abf5_0 : decode cJx4a65c_size_8abf5 0 = .ok (.aload_n 0, 1) := by decide +kernel
theorem dJx4a65c_size_8abf5_1 : decode cJx4a65c_size_8abf5 1 = .ok (.getfield 48, 3) := by decide +kernel
theorem dJx4a65c_size_8abf5_4 : decode cJx4a65c_size_8abf5 4 = .ok (.ireturn, 1) := by decide +kernel
theorem dJx4a65c_elementData_915e3_0 : decode cJx4a65c_elementData_915e3 0 = .ok (.aload_n 0, 1) := by decide +kernel
theorem dJx4a65c_elementData_915e3_1 : decode cJx4a65c_elementData_915e3 1 = .ok (.getfield 9, 3) := by decide +kernel
theorem dJx4a65c_elementData_915e3_4 : decode cJx4a65c_elementData_915e3 4 = .ok (.iload_n 1, 1) := by decide +kernel
theorem dJx4a65c_elementData_915e3_5 : decode cJx4a65c_elementData_915e3 5 = .ok (.aaload, 1) := by decide +kernel
theorem dJx4a65c_elementData_915e3_6 : decode cJx4a65c_elementData_915e3 6 = .ok (.areturn, 1) := by decide +kernel
set_option maxRecDepth 20000 in
theorem ggJx4a65c_get_915e3_J15_checkIndex_7cf53 : GoodIn wsJx4a65c_get_915e3 wsJ15_checkIndex_7cf53 := goodIn_r _ [5, 6, 7, 8, 9] (by decide +kernel) (by decide +kernel)
set_option maxRecDepth 20000 in
theorem gJx4a65c_get_915e3_J15_checkIndex_7cf53 : GoodIn wsJx4a65c_get_915e3 (va_wsS RJx4a65c 118 yJ15_checkIndex_7cf53 wsJ15_checkIndex_7cf53) := goodIn_app (goodIn_of _ (by decide +kernel)) ggJx4a65c_get_915e3_J15_checkIndex_7cf53
set_option maxRecDepth 20000 in
theorem ggJx4a65c_get_915e3_Jx4a65c_elementData_915e3 : GoodIn wsJx4a65c_get_915e3 wsJx4a65c_elementData_915e3 := goodIn_r _ [14, 15, 16, 17, 18] (by decide +kernel) (by decide +kernel)
set_option maxRecDepth 20000 in
theorem gJx4a65c_get_915e3_Jx4a65c_elementData_915e3 : GoodIn wsJx4a65c_get_915e3 (wsV RJx4a65c 123 RJx4a65c yJx4a65c_elementData_915e3 wsJx4a65c_elementData_915e3) := goodIn_app (goodIn_of _ (by decide +kernel)) ggJx4a65c_get_915e3_Jx4a65c_elementData_915e3
theorem dJx4a65c_get_915e3_0 : decode cJx4a65c_get_915e3 0 = .ok (.iload_n 1, 1) := by decide +kernel
theorem dJx4a65c_get_915e3_1 : decode cJx4a65c_get_915e3 1 = .ok (.aload_n 0, 1) := by decide +kernel
theorem dJx4a65c_get_915e3_2 : decode cJx4a65c_get_915e3 2 = .ok (.getfield 48, 3) := by decide +kernel
theorem dJx4a65c_get_915e3_5 : decode cJx4a65c_get_915e3 5 = .ok (.invokestatic 118, 3) := by decide +kernel
theorem dJx4a65c_get_915e3_8 : decode cJx4a65c_get_915e3 8 = .ok (.pop, 1) := by decide +kernel
theorem dJx4a65c_get_915e3_9 : decode cJx4a65c_get_915e3 9 = .ok (.aload_n 0, 1) := by decide +kernel
theorem dJx4a65c_get_915e3_10 : decode cJx4a65c_get_915e3 10 = .ok (.iload_n 1, 1) := by decide +kernel
theorem dJx4a65c_get_915e3_11 : decode cJx4a65c_get_915e3 11 = .ok (.invokevirtual 123, 3) := by decide +kernel
theorem dJx4a65c_get_915e3_14 : decode cJx4a65c_get_915e3 14 = .ok (.areturn, 1) := by decide +kernel
set_option maxRecDepth 20000 in
theorem ggJx4a65c_add_72be8_Jx4a65c_grow_d5877 : GoodIn wsJx4a65c_add_72be8 wsJx4a65c_grow_d5877 := goodIn_r _ [6, 1, 7, 8, 9, 5, 10, 11, 12, 13, 14, 15, 16, 17, 18, 19, 20, 21, 22, 23, 24, 25, 26, 27, 28, 29, 30, 31, 32, 33, 34, 35, 36, 37, 38, 39, 40, 41, 42, 43, 44, 45, 46, 47, 48, 49] (by decide +kernel) (by decide +kernel)
set_option maxRecDepth 20000 in
theorem gJx4a65c_add_72be8_Jx4a65c_grow_d5877 : GoodIn wsJx4a65c_add_72be8 (wsV RJx4a65c 129 RJx4a65c yJx4a65c_grow_d5877 wsJx4a65c_grow_d5877) := goodIn_app (goodIn_of _ (by decide +kernel)) ggJx4a65c_add_72be8_Jx4a65c_grow_d5877
theorem dJx4a65c_add_72be8_0 : decode cJx4a65c_add_72be8 0 = .ok (.iload_n 3, 1) := by decide +kernel
theorem dJx4a65c_add_72be8_1 : decode cJx4a65c_add_72be8 1 = .ok (.aload_n 2, 1) := by decide +kernel
theorem dJx4a65c_add_72be8_2 : decode cJx4a65c_add_72be8 2 = .ok (.arraylength, 1) := by decide +kernel
theorem dJx4a65c_add_72be8_3 : decode cJx4a65c_add_72be8 3 = .ok (.if_icmp .ne 8, 3) := by decide +kernel
theorem dJx4a65c_add_72be8_6 : decode cJx4a65c_add_72be8 6 = .ok (.aload_n 0, 1) := by decide +kernel
theorem dJx4a65c_add_72be8_7 : decode cJx4a65c_add_72be8 7 = .ok (.invokevirtual 129, 3) := by decide +kernel
theorem dJx4a65c_add_72be8_10 : decode cJx4a65c_add_72be8 10 = .ok (.astore_n 2, 1) := by decide +kernel
theorem dJx4a65c_add_72be8_11 : decode cJx4a65c_add_72be8 11 = .ok (.aload_n 2, 1) := by decide +kernel
theorem dJx4a65c_add_72be8_12 : decode cJx4a65c_add_72be8 12 = .ok (.iload_n 3, 1) := by decide +kernel
theorem dJx4a65c_add_72be8_13 : decode cJx4a65c_add_72be8 13 = .ok (.aload_n 1, 1) := by decide +kernel
theorem dJx4a65c_add_72be8_14 : decode cJx4a65c_add_72be8 14 = .ok (.aastore, 1) := by decide +kernel
theorem dJx4a65c_add_72be8_15 : decode cJx4a65c_add_72be8 15 = .ok (.aload_n 0, 1) := by decide +kernel
theorem dJx4a65c_add_72be8_16 : decode cJx4a65c_add_72be8 16 = .ok (.iload_n 3, 1) := by decide +kernel
theorem dJx4a65c_add_72be8_17 : decode cJx4a65c_add_72be8 17 = .ok (.iconst 1, 1) := by decide +kernel
theorem dJx4a65c_add_72be8_18 : decode cJx4a65c_add_72be8 18 = .ok (.iadd, 1) := by decide +kernel
theorem dJx4a65c_add_72be8_19 : decode cJx4a65c_add_72be8 19 = .ok (.putfield 48, 3) := by decide +kernel
theorem dJx4a65c_add_72be8_22 : decode cJx4a65c_add_72be8 22 = .ok (.return_, 1) := by decide +kernel
set_option maxRecDepth 20000 in
theorem ggJx4a65c_add_9ea2d_Jx4a65c_add_72be8 : GoodIn wsJx4a65c_add_9ea2d wsJx4a65c_add_72be8 := goodIn_r _ [9, 4, 10, 11, 12, 8, 13, 14, 15, 16, 17, 3, 18, 19, 20, 21, 22, 23, 24, 25, 26, 27, 28, 29, 30, 31, 32, 33, 34, 35, 36, 37, 38, 39, 40, 41, 42, 43, 44, 45, 46, 47, 48, 49, 50, 51, 52, 53, 54, 55] (by decide +kernel) (by decide +kernel)
set_option maxRecDepth 20000 in
theorem gJx4a65c_add_9ea2d_Jx4a65c_add_72be8 : GoodIn wsJx4a65c_add_9ea2d (wsV RJx4a65c 131 RJx4a65c yJx4a65c_add_72be8 wsJx4a65c_add_72be8) := goodIn_app (goodIn_of _ (by decide +kernel)) ggJx4a65c_add_9ea2d_Jx4a65c_add_72be8
theorem dJx4a65c_add_9ea2d_0 : decode cJx4a65c_add_9ea2d 0 = .ok (.aload_n 0, 1) := by decide +kernel
theorem dJx4a65c_add_9ea2d_1 : decode cJx4a65c_add_9ea2d 1 = .ok (.dup, 1) := by decide +kernel
theorem dJx4a65c_add_9ea2d_2 : decode cJx4a65c_add_9ea2d 2 = .ok (.getfield 63, 3) := by decide +kernel
theorem dJx4a65c_add_9ea2d_5 : decode cJx4a65c_add_9ea2d 5 = .ok (.iconst 1, 1) := by decide +kernel
theorem dJx4a65c_add_9ea2d_6 : decode cJx4a65c_add_9ea2d 6 = .ok (.iadd, 1) := by decide +kernel
theorem dJx4a65c_add_9ea2d_7 : decode cJx4a65c_add_9ea2d 7 = .ok (.putfield 63, 3) := by decide +kernel
theorem dJx4a65c_add_9ea2d_10 : decode cJx4a65c_add_9ea2d 10 = .ok (.aload_n 0, 1) := by decide +kernel
theorem dJx4a65c_add_9ea2d_11 : decode cJx4a65c_add_9ea2d 11 = .ok (.aload_n 1, 1) := by decide +kernel
theorem dJx4a65c_add_9ea2d_12 : decode cJx4a65c_add_9ea2d 12 = .ok (.aload_n 0, 1) := by decide +kernel
theorem dJx4a65c_add_9ea2d_13 : decode cJx4a65c_add_9ea2d 13 = .ok (.getfield 9, 3) := by decide +kernel
theorem dJx4a65c_add_9ea2d_16 : decode cJx4a65c_add_9ea2d 16 = .ok (.aload_n 0, 1) := by decide +kernel
theorem dJx4a65c_add_9ea2d_17 : decode cJx4a65c_add_9ea2d 17 = .ok (.getfield 48, 3) := by decide +kernel
theorem dJx4a65c_add_9ea2d_20 : decode cJx4a65c_add_9ea2d 20 = .ok (.invokevirtual 131, 3) := by decide +kernel
theorem dJx4a65c_add_9ea2d_23 : decode cJx4a65c_add_9ea2d 23 = .ok (.iconst 1, 1) := by decide +kernel
theorem dJx4a65c_add_9ea2d_24 : decode cJx4a65c_add_9ea2d 24 = .ok (.ireturn, 1) := by decide +kernel
theorem dJ7_fill_53178_0 : decode cJ7_fill_53178 0 = .ok (.iconst 0, 1) := by decide +kernel
theorem dJ7_fill_53178_1 : decode cJ7_fill_53178 1 = .ok (.istore_n 2, 1) := by decide +kernel
theorem dJ7_fill_53178_2 : decode cJ7_fill_53178 2 = .ok (.aload_n 0, 1) := by decide +kernel
theorem dJ7_fill_53178_3 : decode cJ7_fill_53178 3 = .ok (.arraylength, 1) := by decide +kernel
theorem dJ7_fill_53178_4 : decode cJ7_fill_53178 4 = .ok (.istore_n 3, 1) := by decide +kernel
theorem dJ7_fill_53178_5 : decode cJ7_fill_53178 5 = .ok (.iload_n 2, 1) := by decide +kernel
theorem dJ7_fill_53178_6 : decode cJ7_fill_53178 6 = .ok (.iload_n 3, 1) := by decide +kernel
theorem dJ7_fill_53178_7 : decode cJ7_fill_53178 7 = .ok (.if_icmp .ge 13, 3) := by decide +kernel
theorem dJ7_fill_53178_10 : decode cJ7_fill_53178 10 = .ok (.aload_n 0, 1) := by decide +kernel
theorem dJ7_fill_53178_11 : decode cJ7_fill_53178 11 = .ok (.iload_n 2, 1) := by decide +kernel
theorem dJ7_fill_53178_12 : decode cJ7_fill_53178 12 = .ok (.iload_n 1, 1) := by decide +kernel
theorem dJ7_fill_53178_13 : decode cJ7_fill_53178 13 = .ok (.iastore, 1) := by decide +kernel
theorem dJ7_fill_53178_14 : decode cJ7_fill_53178 14 = .ok (.iinc 2 1, 3) := by decide +kernel
theorem dJ7_fill_53178_17 : decode cJ7_fill_53178 17 = .ok (.goto (-12), 3) := by decide +kernel
theorem dJ7_fill_53178_20 : decode cJ7_fill_53178 20 = .ok (.return_, 1) := by decide +kernel
set_option maxRecDepth 20000 in
theorem ggJ7_copyOf_1904c_J7_copyOf_6403c : GoodIn wsJ7_copyOf_1904c wsJ7_copyOf_6403c := goodIn_r _ [8, 9, 10, 11, 12, 13, 14, 15, 16, 17, 18] (by decide +kernel) (by decide +kernel)
set_option maxRecDepth 20000 in
theorem gJ7_copyOf_1904c_J7_copyOf_6403c : GoodIn wsJ7_copyOf_1904c (va_wsS RJ7 300 yJ7_copyOf_6403c wsJ7_copyOf_6403c) := goodIn_app (goodIn_of _ (by decide +kernel)) ggJ7_copyOf_1904c_J7_copyOf_6403c
theorem dJ7_copyOf_1904c_0 : decode cJ7_copyOf_1904c 0 = .ok (.aload_n 0, 1) := by decide +kernel
theorem dJ7_copyOf_1904c_1 : decode cJ7_copyOf_1904c 1 = .ok (.iload_n 1, 1) := by decide +kernel
theorem dJ7_copyOf_1904c_2 : decode cJ7_copyOf_1904c 2 = .ok (.aload_n 0, 1) := by decide +kernel
theorem dJ7_copyOf_1904c_3 : decode cJ7_copyOf_1904c 3 = .ok (.invokevirtual 86, 3) := by decide +kernel
theorem dJ7_copyOf_1904c_6 : decode cJ7_copyOf_1904c 6 = .ok (.invokestatic 300, 3) := by decide +kernel
theorem dJ7_copyOf_1904c_9 : decode cJ7_copyOf_1904c 9 = .ok (.areturn, 1) := by decide +kernel
theorem dJ7_copyOf_6403c_0 : decode cJ7_copyOf_6403c 0 = .ok (.aload_n 2, 1) := by decide +kernel
theorem dJ7_copyOf_6403c_1 : decode cJ7_copyOf_6403c 1 = .ok (.ldc 110, 2) := by decide +kernel
theorem dJ7_copyOf_6403c_3 : decode cJ7_copyOf_6403c 3 = .ok (.if_acmp .ne 10, 3) := by decide +kernel
theorem dJ7_copyOf_6403c_6 : decode cJ7_copyOf_6403c 6 = .ok (.iload_n 1, 1) := by decide +kernel
theorem dJ7_copyOf_6403c_7 : decode cJ7_copyOf_6403c 7 = .ok (.anewarray 2, 3) := by decide +kernel
theorem dJ7_copyOf_6403c_10 : decode cJ7_copyOf_6403c 10 = .ok (.goto 14, 3) := by decide +kernel
theorem dJ7_copyOf_6403c_13 : decode cJ7_copyOf_6403c 13 = .ok (.aload_n 2, 1) := by decide +kernel
theorem dJ7_copyOf_6403c_14 : decode cJ7_copyOf_6403c 14 = .ok (.invokevirtual 90, 3) := by decide +kernel
theorem dJ7_copyOf_6403c_17 : decode cJ7_copyOf_6403c 17 = .ok (.iload_n 1, 1) := by decide +kernel
theorem dJ7_copyOf_6403c_18 : decode cJ7_copyOf_6403c 18 = .ok (.invokestatic 95, 3) := by decide +kernel
theorem dJ7_copyOf_6403c_21 : decode cJ7_copyOf_6403c 21 = .ok (.checkcast 110, 3) := by decide +kernel
theorem dJ7_copyOf_6403c_24 : decode cJ7_copyOf_6403c 24 = .ok (.astore_n 3, 1) := by decide +kernel
theorem dJ7_copyOf_6403c_25 : decode cJ7_copyOf_6403c 25 = .ok (.aload_n 0, 1) := by decide +kernel
theorem dJ7_copyOf_6403c_26 : decode cJ7_copyOf_6403c 26 = .ok (.iconst 0, 1) := by decide +kernel
theorem dJ7_copyOf_6403c_27 : decode cJ7_copyOf_6403c 27 = .ok (.aload_n 3, 1) := by decide +kernel
theorem dJ7_copyOf_6403c_28 : decode cJ7_copyOf_6403c 28 = .ok (.iconst 0, 1) := by decide +kernel
theorem dJ7_copyOf_6403c_29 : decode cJ7_copyOf_6403c 29 = .ok (.aload_n 0, 1) := by decide +kernel
theorem dJ7_copyOf_6403c_30 : decode cJ7_copyOf_6403c 30 = .ok (.arraylength, 1) := by decide +kernel
theorem dJ7_copyOf_6403c_31 : decode cJ7_copyOf_6403c 31 = .ok (.iload_n 1, 1) := by decide +kernel
theorem dJ7_copyOf_6403c_32 : decode cJ7_copyOf_6403c 32 = .ok (.invokestatic 304, 3) := by decide +kernel
theorem dJ7_copyOf_6403c_35 : decode cJ7_copyOf_6403c 35 = .ok (.invokestatic 150, 3) := by decide +kernel
theorem dJ7_copyOf_6403c_38 : decode cJ7_copyOf_6403c 38 = .ok (.aload_n 3, 1) := by decide +kernel
theorem dJ7_copyOf_6403c_39 : decode cJ7_copyOf_6403c 39 = .ok (.areturn, 1) := by decide +kernel
set_option maxRecDepth 20000 in
theorem ggJ15_checkIndex_7cf53_J3_checkIndex_8e157 : GoodIn wsJ15_checkIndex_7cf53 wsJ3_checkIndex_8e157 := goodIn_r _ [4] (by decide +kernel) (by decide +kernel)
set_option maxRecDepth 20000 in
theorem gJ15_checkIndex_7cf53_J3_checkIndex_8e157 : GoodIn wsJ15_checkIndex_7cf53 (va_wsS RJ15 105 yJ3_checkIndex_8e157 wsJ3_checkIndex_8e157) := goodIn_app (goodIn_of _ (by decide +kernel)) ggJ15_checkIndex_7cf53_J3_checkIndex_8e157
theorem dJ15_checkIndex_7cf53_0 : decode cJ15_checkIndex_7cf53 0 = .ok (.iload_n 0, 1) := by decide +kernel
theorem dJ15_checkIndex_7cf53_1 : decode cJ15_checkIndex_7cf53 1 = .ok (.iload_n 1, 1) := by decide +kernel
theorem dJ15_checkIndex_7cf53_2 : decode cJ15_checkIndex_7cf53 2 = .ok (.aconst_null, 1) := by decide +kernel
theorem dJ15_checkIndex_7cf53_3 : decode cJ15_checkIndex_7cf53 3 = .ok (.invokestatic 105, 3) := by decide +kernel
theorem dJ15_checkIndex_7cf53_6 : decode cJ15_checkIndex_7cf53 6 = .ok (.ireturn, 1) := by decide +kernel
set_option maxRecDepth 20000 in
theorem ggJ8_newLength_cabcc_J8_hugeLength_7cf53 : GoodIn wsJ8_newLength_cabcc wsJ8_hugeLength_7cf53 := goodIn_r _ [9, 5] (by decide +kernel) (by decide +kernel)
set_option maxRecDepth 20000 in
theorem gJ8_newLength_cabcc_J8_hugeLength_7cf53 : GoodIn wsJ8_newLength_cabcc (va_wsS RJ8 201 yJ8_hugeLength_7cf53 wsJ8_hugeLength_7cf53) := goodIn_app (goodIn_of _ (by decide +kernel)) ggJ8_newLength_cabcc_J8_hugeLength_7cf53
theorem dJ8_newLength_cabcc_0 : decode cJ8_newLength_cabcc 0 = .ok (.iload_n 0, 1) := by decide +kernel
theorem dJ8_newLength_cabcc_1 : decode cJ8_newLength_cabcc 1 = .ok (.iload_n 1, 1) := by decide +kernel
theorem dJ8_newLength_cabcc_2 : decode cJ8_newLength_cabcc 2 = .ok (.iload_n 2, 1) := by decide +kernel
theorem dJ8_newLength_cabcc_3 : decode cJ8_newLength_cabcc 3 = .ok (.invokestatic 194, 3) := by decide +kernel
theorem dJ8_newLength_cabcc_6 : decode cJ8_newLength_cabcc 6 = .ok (.iadd, 1) := by decide +kernel
theorem dJ8_newLength_cabcc_7 : decode cJ8_newLength_cabcc 7 = .ok (.istore_n 3, 1) := by decide +kernel
theorem dJ8_newLength_cabcc_8 : decode cJ8_newLength_cabcc 8 = .ok (.iconst 0, 1) := by decide +kernel
theorem dJ8_newLength_cabcc_9 : decode cJ8_newLength_cabcc 9 = .ok (.iload_n 3, 1) := by decide +kernel
theorem dJ8_newLength_cabcc_10 : decode cJ8_newLength_cabcc 10 = .ok (.if_icmp .ge 11, 3) := by decide +kernel
theorem dJ8_newLength_cabcc_13 : decode cJ8_newLength_cabcc 13 = .ok (.iload_n 3, 1) := by decide +kernel
theorem dJ8_newLength_cabcc_14 : decode cJ8_newLength_cabcc 14 = .ok (.ldc 200, 2) := by decide +kernel
theorem dJ8_newLength_cabcc_16 : decode cJ8_newLength_cabcc 16 = .ok (.if_icmp .gt 5, 3) := by decide +kernel
theorem dJ8_newLength_cabcc_19 : decode cJ8_newLength_cabcc 19 = .ok (.iload_n 3, 1) := by decide +kernel
theorem dJ8_newLength_cabcc_20 : decode cJ8_newLength_cabcc 20 = .ok (.ireturn, 1) := by decide +kernel
theorem dJ8_newLength_cabcc_21 : decode cJ8_newLength_cabcc 21 = .ok (.iload_n 0, 1) := by decide +kernel
theorem dJ8_newLength_cabcc_22 : decode cJ8_newLength_cabcc 22 = .ok (.iload_n 1, 1) := by decide +kernel
theorem dJ8_newLength_cabcc_23 : decode cJ8_newLength_cabcc 23 = .ok (.invokestatic 201, 3) := by decide +kernel
theorem dJ8_newLength_cabcc_26 : decode cJ8_newLength_cabcc 26 = .ok (.ireturn, 1) := by decide +kernel
theorem dJ8_hugeLength_7cf53_0 : decode cJ8_hugeLength_7cf53 0 = .ok (.iload_n 0, 1) := by decide +kernel
theorem dJ8_hugeLength_7cf53_1 : decode cJ8_hugeLength_7cf53 1 = .ok (.iload_n 1, 1) := by decide +kernel
theorem dJ8_hugeLength_7cf53_2 : decode cJ8_hugeLength_7cf53 2 = .ok (.iadd, 1) := by decide +kernel
theorem dJ8_hugeLength_7cf53_3 : decode cJ8_hugeLength_7cf53 3 = .ok (.istore_n 2, 1) := by decide +kernel
theorem dJ8_hugeLength_7cf53_4 : decode cJ8_hugeLength_7cf53 4 = .ok (.iload_n 2, 1) := by decide +kernel
theorem dJ8_hugeLength_7cf53_5 : decode cJ8_hugeLength_7cf53 5 = .ok (.ifCond .ge 44, 3) := by decide +kernel
theorem dJ8_hugeLength_7cf53_8 : decode cJ8_hugeLength_7cf53 8 = .ok (.new 204, 3) := by decide +kernel
theorem dJ8_hugeLength_7cf53_11 : decode cJ8_hugeLength_7cf53 11 = .ok (.dup, 1) := by decide +kernel
theorem dJ8_hugeLength_7cf53_12 : decode cJ8_hugeLength_7cf53 12 = .ok (.new 89, 3) := by decide +kernel
theorem dJ8_hugeLength_7cf53_15 : decode cJ8_hugeLength_7cf53 15 = .ok (.dup, 1) := by decide +kernel
theorem dJ8_hugeLength_7cf53_16 : decode cJ8_hugeLength_7cf53 16 = .ok (.invokespecial 91, 3) := by decide +kernel
theorem dJ8_hugeLength_7cf53_19 : decode cJ8_hugeLength_7cf53 19 = .ok (.ldc 206, 2) := by decide +kernel
theorem dJ8_hugeLength_7cf53_21 : decode cJ8_hugeLength_7cf53 21 = .ok (.invokevirtual 94, 3) := by decide +kernel
theorem dJ8_hugeLength_7cf53_24 : decode cJ8_hugeLength_7cf53 24 = .ok (.iload_n 0, 1) := by decide +kernel
theorem dJ8_hugeLength_7cf53_25 : decode cJ8_hugeLength_7cf53 25 = .ok (.invokevirtual 98, 3) := by decide +kernel
theorem dJ8_hugeLength_7cf53_28 : decode cJ8_hugeLength_7cf53 28 = .ok (.ldc 208, 2) := by decide +kernel
theorem dJ8_hugeLength_7cf53_30 : decode cJ8_hugeLength_7cf53 30 = .ok (.invokevirtual 94, 3) := by decide +kernel
theorem dJ8_hugeLength_7cf53_33 : decode cJ8_hugeLength_7cf53 33 = .ok (.iload_n 1, 1) := by decide +kernel
theorem dJ8_hugeLength_7cf53_34 : decode cJ8_hugeLength_7cf53 34 = .ok (.invokevirtual 98, 3) := by decide +kernel
theorem dJ8_hugeLength_7cf53_37 : decode cJ8_hugeLength_7cf53 37 = .ok (.ldc 210, 2) := by decide +kernel
theorem dJ8_hugeLength_7cf53_39 : decode cJ8_hugeLength_7cf53 39 = .ok (.invokevirtual 94, 3) := by decide +kernel
theorem dJ8_hugeLength_7cf53_42 : decode cJ8_hugeLength_7cf53 42 = .ok (.invokevirtual 101, 3) := by decide +kernel
theorem dJ8_hugeLength_7cf53_45 : decode cJ8_hugeLength_7cf53 45 = .ok (.invokespecial 212, 3) := by decide +kernel
theorem dJ8_hugeLength_7cf53_48 : decode cJ8_hugeLength_7cf53 48 = .ok (.athrow, 1) := by decide +kernel
theorem dJ8_hugeLength_7cf53_49 : decode cJ8_hugeLength_7cf53 49 = .ok (.iload_n 2, 1) := by decide +kernel
theorem dJ8_hugeLength_7cf53_50 : decode cJ8_hugeLength_7cf53 50 = .ok (.ldc 200, 2) := by decide +kernel
theorem dJ8_hugeLength_7cf53_52 : decode cJ8_hugeLength_7cf53 52 = .ok (.if_icmp .gt 6, 3) := by decide +kernel
theorem dJ8_hugeLength_7cf53_55 : decode cJ8_hugeLength_7cf53 55 = .ok (.ldc 200, 2) := by decide +kernel
theorem dJ8_hugeLength_7cf53_57 : decode cJ8_hugeLength_7cf53 57 = .ok (.ireturn, 1) := by decide +kernel
theorem dJ8_hugeLength_7cf53_58 : decode cJ8_hugeLength_7cf53 58 = .ok (.iload_n 2, 1) := by decide +kernel
theorem dJ8_hugeLength_7cf53_59 : decode cJ8_hugeLength_7cf53 59 = .ok (.ireturn, 1) := by decide +kernel
theorem dJ3_checkIndex_8e157_0 : decode cJ3_checkIndex_8e157 0 = .ok (.iload_n 0, 1) := by decide +kernel
theorem dJ3_checkIndex_8e157_1 : decode cJ3_checkIndex_8e157 1 = .ok (.ifCond .lt 8, 3) := by decide +kernel
theorem dJ3_checkIndex_8e157_4 : decode cJ3_checkIndex_8e157 4 = .ok (.iload_n 0, 1) := by decide +kernel
theorem dJ3_checkIndex_8e157_5 : decode cJ3_checkIndex_8e157 5 = .ok (.iload_n 1, 1) := by decide +kernel
theorem dJ3_checkIndex_8e157_6 : decode cJ3_checkIndex_8e157 6 = .ok (.if_icmp .lt 10, 3) := by decide +kernel
theorem dJ3_checkIndex_8e157_9 : decode cJ3_checkIndex_8e157 9 = .ok (.aload_n 2, 1) := by decide +kernel
theorem dJ3_checkIndex_8e157_10 : decode cJ3_checkIndex_8e157 10 = .ok (.iload_n 0, 1) := by decide +kernel
theorem dJ3_checkIndex_8e157_11 : decode cJ3_checkIndex_8e157 11 = .ok (.iload_n 1, 1) := by decide +kernel
theorem dJ3_checkIndex_8e157_12 : decode cJ3_checkIndex_8e157 12 = .ok (.invokestatic 95, 3) := by decide +kernel
theorem dJ3_checkIndex_8e157_15 : decode cJ3_checkIndex_8e157 15 = .ok (.athrow, 1) := by decide +kernel
theorem dJ3_checkIndex_8e157_16 : decode cJ3_checkIndex_8e157 16 = .ok (.iload_n 0, 1) := by decide +kernel
theorem dJ3_checkIndex_8e157_17 : decode cJ3_checkIndex_8e157 17 = .ok (.ireturn, 1) := by decide +kernel
end
section
/-! ===== the world: cells by their addresses; f a is what lies at a ===== -/
abbrev GG : Type := va_G × (ClassId × ClassId × ClassId × ClassId × ClassId)
abbrev gI (g : GG) : ClassId := g.2.1
abbrev gZ (g : GG) : ClassId := g.2.2.1
abbrev gV (g : GG) : ClassId := g.2.2.2.1
abbrev gO (g : GG) : ClassId := g.2.2.2.2.1
abbrev gJ (g : GG) : ClassId := g.2.2.2.2.2
abbrev gT (g : GG) : List (ClassId × FieldType) := [(gI g, .int), (gZ g, .boolean), (gV g, .object "BarometerLeague$Village"), (gO g, .object "java/lang/Object"), (gJ g, .long)]
/-- the words that are kept, but not as a method's own: private fields of a nest mate, casts -/
def nestW : List Cond := [.fieldLinkNest "BarometerLeague$VillageRow" 45 "BarometerLeague$Village" "points" "I" "BarometerLeague", .fieldLinkNest "BarometerLeague" 152 "BarometerLeague$Village" "points" "I" "BarometerLeague", .fieldLinkNest "BarometerLeague" 116 "BarometerLeague$Village" "coins" "I" "BarometerLeague", .fieldLinkNest "BarometerLeague$VillageRow" 48 "BarometerLeague$Village" "coins" "I" "BarometerLeague", .fieldLinkNest "BarometerLeague" 155 "BarometerLeague$Village" "rowOfHits" "I" "BarometerLeague", .fieldLinkNest "BarometerLeague" 139 "BarometerLeague$Sign" "kind" "I" "BarometerLeague", .fieldLinkNest "BarometerLeague" 142 "BarometerLeague$Sign" "number" "I" "BarometerLeague", .fieldLinkNest "BarometerLeagueModel" 84 "BarometerLeagueModel$State" "day" "I" "BarometerLeagueModel", .fieldLinkNest "BarometerLeagueModel" 69 "BarometerLeagueModel$State" "hits" "I" "BarometerLeagueModel", .fieldLinkNest "BarometerLeagueModel" 66 "BarometerLeagueModel$State" "points" "[I" "BarometerLeagueModel", .fieldLinkNest "BarometerLeagueModel" 38 "BarometerLeagueModel$State" "coins" "[I" "BarometerLeagueModel", .fieldLinkNest "BarometerLeagueModel" 72 "BarometerLeagueModel$State" "row" "[I" "BarometerLeagueModel", .fieldLinkNest "BarometerLeagueModel" 35 "BarometerLeagueModel$State" "weight" "[I" "BarometerLeagueModel", .methodLinkNest "BarometerLeagueModel" 27 ⟨"BarometerLeagueModel$State", "<init>", "()V"⟩ "BarometerLeagueModel", .castable "BarometerLeague" "java/lang/IndexOutOfBoundsException", .castable "BarometerLeague$Weather" "java/lang/IndexOutOfBoundsException", .castable "java/util/ArrayList" "java/lang/IndexOutOfBoundsException", .castable "BarometerLeague$VillageRow" "java/lang/IndexOutOfBoundsException", .castable "BarometerLeague$Village" "java/lang/IndexOutOfBoundsException", .castable "BarometerLeagueModel" "java/lang/IndexOutOfBoundsException", .castable "BarometerLeagueModel$State" "java/lang/IndexOutOfBoundsException", .castable "java/lang/IllegalArgumentException" "java/lang/IndexOutOfBoundsException", .castable "java/lang/IllegalStateException" "java/lang/IndexOutOfBoundsException", .castable "BarometerLeague$Sign" "java/lang/IndexOutOfBoundsException", .castable "BarometerLeague" "java/lang/IllegalArgumentException", .castable "BarometerLeague$Weather" "java/lang/IllegalArgumentException", .castable "java/util/ArrayList" "java/lang/IllegalArgumentException", .castable "BarometerLeague$VillageRow" "java/lang/IllegalArgumentException", .castable "BarometerLeague$Village" "java/lang/IllegalArgumentException", .castable "BarometerLeagueModel" "java/lang/IllegalArgumentException", .castable "BarometerLeagueModel$State" "java/lang/IllegalArgumentException", .castable "java/lang/IndexOutOfBoundsException" "java/lang/IllegalArgumentException", .castable "java/lang/IllegalStateException" "java/lang/IllegalArgumentException", .castable "BarometerLeague$Sign" "java/lang/IllegalArgumentException", .castable "BarometerLeague" "java/lang/IllegalStateException", .castable "BarometerLeague$Weather" "java/lang/IllegalStateException", .castable "java/util/ArrayList" "java/lang/IllegalStateException", .castable "BarometerLeague$VillageRow" "java/lang/IllegalStateException", .castable "BarometerLeague$Village" "java/lang/IllegalStateException", .castable "BarometerLeagueModel" "java/lang/IllegalStateException", .castable "BarometerLeagueModel$State" "java/lang/IllegalStateException", .castable "java/lang/IndexOutOfBoundsException" "java/lang/IllegalStateException", .castable "java/lang/IllegalArgumentException" "java/lang/IllegalStateException", .castable "BarometerLeague$Sign" "java/lang/IllegalStateException", .castable "BarometerLeague" "BarometerLeague$Village", .castable "BarometerLeague$Weather" "BarometerLeague$Village", .castable "java/util/ArrayList" "BarometerLeague$Village", .castable "BarometerLeague$VillageRow" "BarometerLeague$Village", .castable "BarometerLeagueModel" "BarometerLeague$Village", .castable "BarometerLeagueModel$State" "BarometerLeague$Village", .castable "java/lang/IndexOutOfBoundsException" "BarometerLeague$Village", .castable "java/lang/IllegalArgumentException" "BarometerLeague$Village", .castable "java/lang/IllegalStateException" "BarometerLeague$Village", .castable "BarometerLeague$Sign" "BarometerLeague$Village", .castable "java/lang/Throwable" "BarometerLeague$Village", .castable "java/lang/String" "BarometerLeague$Village", .castable "java/lang/IndexOutOfBoundsException" "java/lang/IndexOutOfBoundsException", .castable "java/lang/IllegalArgumentException" "java/lang/IllegalArgumentException", .castable "java/lang/IllegalStateException" "java/lang/IllegalStateException", .castable "BarometerLeague$Village" "java/lang/Object", .castable "BarometerLeague" "java/lang/Object", .castable "BarometerLeague$Weather" "java/lang/Object", .castable "java/util/ArrayList" "java/lang/Object", .castable "BarometerLeague$VillageRow" "java/lang/Object", .castable "BarometerLeagueModel" "java/lang/Object", .castable "BarometerLeagueModel$State" "java/lang/Object", .castable "java/lang/IndexOutOfBoundsException" "java/lang/Object", .castable "java/lang/IllegalArgumentException" "java/lang/Object", .castable "java/lang/IllegalStateException" "java/lang/Object", .castable "BarometerLeague$Sign" "java/lang/Object", .castable "java/lang/Throwable" "java/lang/Object", .castable "java/lang/String" "java/lang/Object", .castable "[I" "java/lang/Object", .castable "[Z" "java/lang/Object", .castable "[LBarometerLeague$Village;" "java/lang/Object", .castable "[B" "java/lang/Object", .castable "[Ljava/lang/Object;" "java/lang/Object", .castable "[J" "java/lang/Object"]
def nwB : Cond → Bool
  | .fieldLinkNest _ _ _ _ _ _ => true
  | .methodLinkNest _ _ _ _ => true
  | .castable _ _ => true
  | _ => false
theorem nestW_ok : nestW.all nwB = true := by decide +kernel
theorem nw_warm {w : Cond} {s U : State} (hw : nwB w = true) (hW : s.WarmedH U.vm) (h : va_Nw w s) : va_Nw w U := by
  cases w <;> first | exact Bool.noConfusion hw | exact va_Nw.warmF hW h | exact va_Nw.warmM hW h | exact va_Nw.warmC hW h
theorem nw_same {w : Cond} {s U : State} (hw : nwB w = true) (hW : s.vm = U.vm) (h : va_Nw w s) : va_Nw w U := by
  cases w <;> first | exact Bool.noConfusion hw | exact va_Nw.same rfl hW h
theorem nw_use {w : Cond} {s : State} {A : Array Value} (hw : nwB w = true) (h : va_Nw w s) : w.before A s = true := by
  cases w <;> first | exact Bool.noConfusion hw | exact va_Nw.use rfl h
theorem nw_of {w : Cond} {s : State} {A : Array Value} (hw : nwB w = true) (h : w.before A s = true) : va_Nw w s := by
  cases w <;> first | exact Bool.noConfusion hw | exact va_Nw.of rfl h
abbrev KK (g : GG) (U : State) : Prop := va_K g.1 vwCl (gT g) U ∧ (∀ w ∈ nestW, va_Nw w U) ∧ va_AO "BarometerLeague$Village" U ∧ va_AO "java/lang/Object" U
theorem KK.warm {g : GG} {s U : State} (hW : s.WarmedH U.vm) (h : KK g s) : KK g U := ⟨va_K.moved hW.alike h.1, fun w hw => nw_warm (List.all_eq_true.mp nestW_ok w hw) hW (h.2.1 w hw), va_AO.moved hW.alike h.2.2.1, va_AO.moved hW.alike h.2.2.2⟩
theorem KK.same {g : GG} {s U : State} (e : s.vm = U.vm) (h : KK g s) : KK g U := ⟨va_K.moved (by rw [e]; exact Vm.Alike.refl _) h.1, fun w hw => nw_same (List.all_eq_true.mp nestW_ok w hw) e (h.2.1 w hw), va_AO.moved (by rw [e]; exact Vm.Alike.refl _) h.2.2.1, va_AO.moved (by rw [e]; exact Vm.Alike.refl _) h.2.2.2⟩
theorem KK.nest {g : GG} {s : State} (h : KK g s) (k : Nat) {w : Cond} {A : Array Value} (hw : nestW[k]? = some w) : w.before A s = true := nw_use (List.all_eq_true.mp nestW_ok w (List.mem_of_getElem? hw)) (h.2.1 w (List.mem_of_getElem? hw))
abbrev PP (g : GG) (L : List Nat) (f : Nat → va_E) (H : Heap) : Prop := va_P g.1 vwCl (va_pl L f) H
/-- which cells a method may change: those of L, and those that it makes -/
def AA (L : List Nat) (sz : Nat) : Nat → Prop := fun q => q ∈ L ∨ sz ≤ q
/-- an object, an int row, a boolean row, a row of references, a row of longs -/
abbrev eO (ci : Nat) (fs : List Value) : va_E := .inr (ci, fs)
abbrev eI (g : GG) (n : Nat) (h : Nat → Int32) : va_E := .inl (gI g, n, .inl h)
abbrev eZ (g : GG) (n : Nat) (h : Nat → Int32) : va_E := .inl (gZ g, n, .inl h)
abbrev eV (g : GG) (n : Nat) (h : Nat → Option Nat) : va_E := .inl (gV g, n, .inr (.inr (.inr (.inr h))))
abbrev eQ (g : GG) (n : Nat) (h : Nat → Option Nat) : va_E := .inl (gO g, n, .inr (.inr (.inr (.inr h))))
abbrev eJ (g : GG) (n : Nat) (h : Nat → Int64) : va_E := .inl (gJ g, n, .inr (.inl h))
theorem pl_inj {L : List Nat} {f : Nat → va_E} {i : Nat} {p : Nat × va_E} (h : (va_pl L f)[i]? = some p) : L[i]? = some p.1 := by
  unfold va_pl at h
  rw [List.getElem?_map] at h
  cases e : L[i]? with
  | none => rw [e] at h; cases h
  | some a => rw [e] at h; cases h; rfl
theorem DD_of {A : Nat → Prop} {L : List Nat} {f : Nat → va_E} (hN : L.Nodup) (hA : ∀ a ∈ L, A a) : va_D A (va_pl L f) := by
  refine ⟨fun i j p q hi hj hpq => ?_, fun k q hk => hA _ (List.mem_of_getElem? (pl_inj hk))⟩
  have h1 := pl_inj hi
  have h2 := pl_inj hj
  rw [hpq] at h1
  exact (List.getElem?_inj (List.getElem?_eq_some_iff.mp h1).1 hN).mp (h1.trans h2.symm)
theorem PP.at {g : GG} {L : List Nat} {f : Nat → va_E} {H : Heap} (h : PP g L f H) {a : Nat} (ha : a ∈ L) : va_at g.1 vwCl (a, f a) H := by
  obtain ⟨k, hk⟩ := va_pl_get (X := []) (f := f) ha
  exact h k _ hk
theorem PP.kept {g : GG} {L : List Nat} {f : Nat → va_E} {H H1 : Heap} (h : PP g L f H) (hq : ∀ a ∈ L, H1[a]? = H[a]?) : PP g L f H1 :=
  va_P.kept h (fun _ _ hk => hq _ (List.mem_of_getElem? (pl_inj hk)))
theorem PP.lt {g : GG} {L : List Nat} {f : Nat → va_E} {H : Heap} (h : PP g L f H) {a : Nat} (ha : a ∈ L) : a < H.size := va_at.lt (h.at ha)
theorem PP.set {g : GG} {L : List Nat} {f : Nat → va_E} {H1 : Heap} {a k : Nat} {e : va_E} (hN : L.Nodup) (hL : a ∈ L) (hk : (va_pl L f)[k]? = some (a, f a)) (h : va_P g.1 vwCl ((va_pl L f).set k (a, e)) H1) : PP g L (va_up f a e) H1 := by
  have e1 := va_pl_set (A := fun _ => True) (X := []) (e := e) (DD_of hN (fun _ _ => trivial)) hL hk
  rw [List.nil_append, List.nil_append] at e1
  rw [e1] at h
  exact h
/-- f and f2 say the same of all but some addresses -/
def Fr (f f2 : Nat → va_E) (as : List Nat) : Prop := ∀ x, x ∉ as → f2 x = f x
theorem Fr.rf {f : Nat → va_E} {as : List Nat} : Fr f f as := fun _ _ => rfl
theorem Fr.up {f f1 : Nat → va_E} {as : List Nat} (h : Fr f f1 as) {a : Nat} {e : va_E} (ha : a ∈ as) : Fr f (va_up f1 a e) as := fun x hx => by
  rw [va_up_ne _ _ (fun q => hx (by rw [q]; exact ha))]
  exact h x hx
theorem Fr.tr {f f1 f2 : Nat → va_E} {as bs : List Nat} (h : Fr f f1 as) (h2 : Fr f1 f2 bs) (hs : ∀ x ∈ bs, x ∈ as) : Fr f f2 as := fun x hx => (h2 x (fun q => hx (hs x q))).trans (h x hx)
theorem Fr.get {f f1 : Nat → va_E} {as : List Nat} (h : Fr f f1 as) {x : Nat} {e : va_E} (hf : f x = e) (hx : x ∉ as) : f1 x = e := (h x hx).trans hf
theorem ne_e {f : Nat → va_E} {a b : Nat} {x y : va_E} (ha : f a = x) (hb : f b = y) (h : x ≠ y) : a ≠ b := fun e => h (by rw [← ha, ← hb, e])
section PG
variable {p : Program} {l : Launch} {e : Env} {R : Room} {s : State} {m : MethodId} {args : Array Value} {below : List Frame} {meth : Method} {c : Code} {H : Heap} {locs : List Loc} {cells slots : Nat} {Q : State → Prop}
variable {cc : ByteArray} {pc : Nat} {ls : Array Slot} {rest st0 : List Value} {g : GG} {L : List Nat} {f : Nat → va_E} {a : Nat} {A : Nat → Prop} {H0 : Heap} {Ts : List Cond}
theorem pg_get (hx : p.tables.exec = Jvm.exec) (hb : c.code = cc) {own ref C : String} {T : u_T} {N ci index : Nat} (hts : ∀ w ∈ Ts, w.before args s = true) (hin : ∀ w ∈ u_ws C T N, w ∈ Ts) (hown : s.vm.findClass own = some m.cls) (hK : KK g s) (hP : PP g L f H) (hL : a ∈ L) {fs : List Value} (hf : f a = .inr (ci, fs)) (hc : vwCl[ci]? = some (C, T, N)) (k : Nat) (hk : k < N) (hlink : (Cond.fieldLink own index ref (T k).2.1 (T k).2.2.1).before args s = true) (hsame : ∀ x, s.fieldFound? (T k).1 (T k).2.1 (T k).2.2.1 = some x → s.fieldFound? ref (T k).2.1 (T k).2.2.1 = some x) {v : Value} (hv : fs[k]? = some v) (hdg : decode cc pc = .ok (.getfield index, 3))
    (kk : W p l e R s m args below meth c H locs cells slots Q (F0 m (pc + 3) ls (v :: rest))) : W p l e R s m args below meth c H locs cells slots Q (F0 m pc ls (.ref a :: rest)) := by
  obtain ⟨q0, h0⟩ := va_pl_get (X := []) (f := f) hL
  rw [hf] at h0
  exact va_get hx hb hts hin hown hK.1 hP q0 h0 hc k hk hlink hsame hv hdg kk
theorem pg_getN (hx : p.tables.exec = Jvm.exec) (hb : c.code = cc) {own ref C host : String} {T : u_T} {N ci index : Nat} (hts : ∀ w ∈ Ts, w.before args s = true) (hin : ∀ w ∈ u_ws C T N, w ∈ Ts) (hown : s.vm.findClass own = some m.cls) (hK : KK g s) (hP : PP g L f H) (hL : a ∈ L) {fs : List Value} (hf : f a = .inr (ci, fs)) (hc : vwCl[ci]? = some (C, T, N)) (k : Nat) (hk : k < N) (hlink : (Cond.fieldLinkNest own index ref (T k).2.1 (T k).2.2.1 host).before args s = true) (hsame : ∀ x, s.fieldFound? (T k).1 (T k).2.1 (T k).2.2.1 = some x → s.fieldFound? ref (T k).2.1 (T k).2.2.1 = some x) {v : Value} (hv : fs[k]? = some v) (hdg : decode cc pc = .ok (.getfield index, 3))
    (kk : W p l e R s m args below meth c H locs cells slots Q (F0 m (pc + 3) ls (v :: rest))) : W p l e R s m args below meth c H locs cells slots Q (F0 m pc ls (.ref a :: rest)) := by
  obtain ⟨q0, h0⟩ := va_pl_get (X := []) (f := f) hL
  rw [hf] at h0
  exact va_getN hx hb hts hin hown hK.1 hP q0 h0 hc k hk hlink hsame hv hdg kk
theorem pg_put (hx : p.tables.exec = Jvm.exec) (hb : c.code = cc) {own ref C : String} {T : u_T} {N ci index : Nat} (hts : ∀ w ∈ Ts, w.before args s = true) (hin : ∀ w ∈ u_ws C T N, w ∈ Ts) (ty0 : Nat → FieldType) (hty : ∀ k, k < N → parseFieldDescriptor (T k).2.2.1 = some (ty0 k)) (hnm : ∀ a, a < N → ∀ b, b < N → a ≠ b → (T a).2.1 ≠ (T b).2.1) (hown : s.vm.findClass own = some m.cls) (hK : KK g s) (hP : PP g L f H) (hN : L.Nodup) (hA : ∀ a ∈ L, A a) (hS : va_S A H0 H locs) (hL : a ∈ L) {fs : List Value} (hf : f a = .inr (ci, fs)) (hc : vwCl[ci]? = some (C, T, N)) (k : Nat) (hk : k < N) (hlink : (Cond.fieldLink own index ref (T k).2.1 (T k).2.2.1).before args s = true) (hsame : ∀ x, s.fieldFound? (T k).1 (T k).2.1 (T k).2.2.1 = some x → s.fieldFound? ref (T k).2.1 (T k).2.2.1 = some x) (hfin : (T k).2.2.2 = false) {ty : FieldType} {v : Value} (hd : parseFieldDescriptor (T k).2.2.1 = some ty) (hn : narrow ty v = v) (hfit : fits ty v = true) (hl : k < fs.length)
    (hdg : decode cc pc = .ok (.putfield index, 3)) (kk : ∀ (H1 : Heap) (locs1 : List Loc), PP g L (va_up f a (.inr (ci, fs.set k v))) H1 → va_S A H0 H1 locs1 → W p l e R s m args below meth c H1 locs1 cells slots Q (F0 m (pc + 3) ls rest)) : W p l e R s m args below meth c H locs cells slots Q (F0 m pc ls (v :: .ref a :: rest)) := by
  obtain ⟨q0, h0⟩ := va_pl_get (X := []) (f := f) hL
  have h1 := h0
  rw [hf] at h1
  exact va_put hx hb hts hin ty0 hty hnm hown hK.1 hP (DD_of hN hA) hS q0 h1 hc k hk hlink hsame hfin hd hn hfit hl hdg (fun H1 locs1 hP1 _ hS1 => kk H1 locs1 (PP.set hN hL h0 hP1) hS1)
theorem pg_putN (hx : p.tables.exec = Jvm.exec) (hb : c.code = cc) {own ref C host : String} {T : u_T} {N ci index : Nat} (hts : ∀ w ∈ Ts, w.before args s = true) (hin : ∀ w ∈ u_ws C T N, w ∈ Ts) (ty0 : Nat → FieldType) (hty : ∀ k, k < N → parseFieldDescriptor (T k).2.2.1 = some (ty0 k)) (hnm : ∀ a, a < N → ∀ b, b < N → a ≠ b → (T a).2.1 ≠ (T b).2.1) (hown : s.vm.findClass own = some m.cls) (hK : KK g s) (hP : PP g L f H) (hN : L.Nodup) (hA : ∀ a ∈ L, A a) (hS : va_S A H0 H locs) (hL : a ∈ L) {fs : List Value} (hf : f a = .inr (ci, fs)) (hc : vwCl[ci]? = some (C, T, N)) (k : Nat) (hk : k < N) (hlink : (Cond.fieldLinkNest own index ref (T k).2.1 (T k).2.2.1 host).before args s = true) (hsame : ∀ x, s.fieldFound? (T k).1 (T k).2.1 (T k).2.2.1 = some x → s.fieldFound? ref (T k).2.1 (T k).2.2.1 = some x) (hfin : (T k).2.2.2 = false) {ty : FieldType} {v : Value} (hd : parseFieldDescriptor (T k).2.2.1 = some ty) (hn : narrow ty v = v) (hfit : fits ty v = true) (hl : k < fs.length)
    (hdg : decode cc pc = .ok (.putfield index, 3)) (kk : ∀ (H1 : Heap) (locs1 : List Loc), PP g L (va_up f a (.inr (ci, fs.set k v))) H1 → va_S A H0 H1 locs1 → W p l e R s m args below meth c H1 locs1 cells slots Q (F0 m (pc + 3) ls rest)) : W p l e R s m args below meth c H locs cells slots Q (F0 m pc ls (v :: .ref a :: rest)) := by
  obtain ⟨q0, h0⟩ := va_pl_get (X := []) (f := f) hL
  have h1 := h0
  rw [hf] at h1
  exact va_putN hx hb hts hin ty0 hty hnm hown hK.1 hP (DD_of hN hA) hS q0 h1 hc k hk hlink hsame hfin hd hn hfit hl hdg (fun H1 locs1 hP1 _ hS1 => kk H1 locs1 (PP.set hN hL h0 hP1) hS1)
theorem pg_iald (hx : p.tables.exec = Jvm.exec) (hb : c.code = cc) (hK : KK g s) (hP : PP g L f H) (hL : a ∈ L) {n : Nat} {h : Nat → Int32} (hf : f a = eI g n h) {i : Int32} (hin : vp_in i n) (hdg : decode cc pc = .ok (.iaload, 1))
    (kk : W p l e R s m args below meth c H locs cells slots Q (F0 m (pc + 1) ls (.int (h i.toNatClampNeg) :: rest))) : W p l e R s m args below meth c H locs cells slots Q (F0 m pc ls (.int i :: .ref a :: rest)) := by
  obtain ⟨q0, h0⟩ := va_pl_get (X := []) (f := f) hL
  rw [hf] at h0
  exact va_iald hx hb hK.1 hP q0 0 h0 rfl hin hdg kk
theorem pg_zald (hx : p.tables.exec = Jvm.exec) (hb : c.code = cc) (hK : KK g s) (hP : PP g L f H) (hL : a ∈ L) {n : Nat} {h : Nat → Int32} (hf : f a = eZ g n h) {i : Int32} (hin : vp_in i n) (hdg : decode cc pc = .ok (.baload, 1))
    (kk : W p l e R s m args below meth c H locs cells slots Q (F0 m (pc + 1) ls (.int (h i.toNatClampNeg) :: rest))) : W p l e R s m args below meth c H locs cells slots Q (F0 m pc ls (.int i :: .ref a :: rest)) := by
  obtain ⟨q0, h0⟩ := va_pl_get (X := []) (f := f) hL
  rw [hf] at h0
  exact va_zald hx hb hK.1 hP q0 1 h0 rfl hin hdg kk
theorem pg_vald (hx : p.tables.exec = Jvm.exec) (hb : c.code = cc) (hK : KK g s) (hP : PP g L f H) (hL : a ∈ L) {n : Nat} {h : Nat → Option Nat} (hf : f a = eV g n h) {i : Int32} (hin : vp_in i n) {v : Nat} (hv : h i.toNatClampNeg = some v) (hdg : decode cc pc = .ok (.aaload, 1))
    (kk : W p l e R s m args below meth c H locs cells slots Q (F0 m (pc + 1) ls (.ref v :: rest))) : W p l e R s m args below meth c H locs cells slots Q (F0 m pc ls (.int i :: .ref a :: rest)) := by
  obtain ⟨q0, h0⟩ := va_pl_get (X := []) (f := f) hL
  rw [hf] at h0
  refine va_aldq hx hb hK.1 hP q0 2 h0 rfl hin hdg ?_
  rw [hv]
  exact kk
theorem pg_qald (hx : p.tables.exec = Jvm.exec) (hb : c.code = cc) (hK : KK g s) (hP : PP g L f H) (hL : a ∈ L) {n : Nat} {h : Nat → Option Nat} (hf : f a = eQ g n h) {i : Int32} (hin : vp_in i n) {v : Nat} (hv : h i.toNatClampNeg = some v) (hdg : decode cc pc = .ok (.aaload, 1))
    (kk : W p l e R s m args below meth c H locs cells slots Q (F0 m (pc + 1) ls (.ref v :: rest))) : W p l e R s m args below meth c H locs cells slots Q (F0 m pc ls (.int i :: .ref a :: rest)) := by
  obtain ⟨q0, h0⟩ := va_pl_get (X := []) (f := f) hL
  rw [hf] at h0
  refine va_aldq hx hb hK.1 hP q0 3 h0 rfl hin hdg ?_
  rw [hv]
  exact kk
theorem pg_iast (hx : p.tables.exec = Jvm.exec) (hb : c.code = cc) (hK : KK g s) (hP : PP g L f H) (hN : L.Nodup) (hA : ∀ a ∈ L, A a) (hS : va_S A H0 H locs) (hL : a ∈ L) {n : Nat} {h : Nat → Int32} (hf : f a = eI g n h) {i x : Int32} (hin : vp_in i n) (hdg : decode cc pc = .ok (.iastore, 1))
    (kk : ∀ (H1 : Heap) (locs1 : List Loc), PP g L (va_up f a (eI g n (upd h i.toNatClampNeg x))) H1 → va_S A H0 H1 locs1 → W p l e R s m args below meth c H1 locs1 cells slots Q (F0 m (pc + 1) ls rest)) : W p l e R s m args below meth c H locs cells slots Q (F0 m pc ls (.int x :: .int i :: .ref a :: rest)) := by
  obtain ⟨q0, h0⟩ := va_pl_get (X := []) (f := f) hL
  have h1 := h0
  rw [hf] at h1
  exact va_iast hx hb hK.1 hP (DD_of hN hA) hS q0 0 h1 rfl hin hdg (fun H1 locs1 hP1 _ hS1 => kk H1 locs1 (PP.set hN hL h0 hP1) hS1)
theorem pg_zast (hx : p.tables.exec = Jvm.exec) (hb : c.code = cc) (hK : KK g s) (hP : PP g L f H) (hN : L.Nodup) (hA : ∀ a ∈ L, A a) (hS : va_S A H0 H locs) (hL : a ∈ L) {n : Nat} {h : Nat → Int32} (hf : f a = eZ g n h) {i x : Int32} (hin : vp_in i n) (hdg : decode cc pc = .ok (.bastore, 1))
    (kk : ∀ (H1 : Heap) (locs1 : List Loc), PP g L (va_up f a (eZ g n (upd h i.toNatClampNeg (vp_nar .boolean x)))) H1 → va_S A H0 H1 locs1 → W p l e R s m args below meth c H1 locs1 cells slots Q (F0 m (pc + 1) ls rest)) : W p l e R s m args below meth c H locs cells slots Q (F0 m pc ls (.int x :: .int i :: .ref a :: rest)) := by
  obtain ⟨q0, h0⟩ := va_pl_get (X := []) (f := f) hL
  have h1 := h0
  rw [hf] at h1
  exact va_zast hx hb hK.1 hP (DD_of hN hA) hS q0 1 h1 rfl hin hdg (fun H1 locs1 hP1 _ hS1 => kk H1 locs1 (PP.set hN hL h0 hP1) hS1)
theorem pg_alen (hx : p.tables.exec = Jvm.exec) (hb : c.code = cc) (hK : KK g s) (hP : PP g L f H) (hL : a ∈ L) {cA : ClassId} {x : vp_A} (hf : f a = .inl (cA, x)) {ty : FieldType} (t0 : Nat) (ht : (gT g)[t0]? = some (cA, ty)) {v : Int32} (hv : Int32.ofNat x.1 = v) (hdg : decode cc pc = .ok (.arraylength, 1))
    (kk : W p l e R s m args below meth c H locs cells slots Q (F0 m (pc + 1) ls (.int v :: rest))) : W p l e R s m args below meth c H locs cells slots Q (F0 m pc ls (.ref a :: rest)) := by
  obtain ⟨q0, h0⟩ := va_pl_get (X := []) (f := f) hL
  rw [hf] at h0
  exact va_alen hx hb hK.1 hP q0 t0 h0 ht hv hdg kk
/-- a receiver -/
theorem pg_recv (hK : KK g s) (hP : PP g L f H) (hL : a ∈ L) {ci : Nat} {fs : List Value} {q : vw_C} (hf : f a = .inr (ci, fs)) (hc : vwCl[ci]? = some q) : ∃ cell : Cell, H[a]? = some cell ∧ cell.vm.isStatics = false ∧ s.vm.findClass q.1 = some cell.cls := by
  obtain ⟨q0, h0⟩ := va_pl_get (X := []) (f := f) hL
  rw [hf] at h0
  exact va_recv hK.1 hP hc h0
end PG
/-- a contract of a method that only reads: an int or boolean answer; the heap stays -/
abbrev rp (g : GG) (L : List Nat) (f : Nat → va_E) : State → Prop := fun U => PP g L f U.heap ∧ KK g U
abbrev RO (l : Launch) (g : GG) (y : MethodName) (ws : List Cond) (fr lo : Nat) (L : List Nat) (f : Nat → va_E) (As : List Value) (post : Int32 → Prop) : Prop := Met l y ws ({ frames := fr, cells := 0, slots := 0, locals := lo }) (va_Pc As (rp g L f)) (vp_Si post) 0 0 (fun _ => False)
/-- a contract of a method that writes cells of L and makes none -/
abbrev wp_ (g : GG) (L : List Nat) (f : Nat → va_E) (sz : Nat) : State → Prop := fun U => U.heap.size = sz ∧ PP g L f U.heap ∧ KK g U
abbrev RW (l : Launch) (g : GG) (y : MethodName) (ws : List Cond) (fr lo : Nat) (L : List Nat) (f : Nat → va_E) (sz : Nat) (As : List Value) (post : Int32 → (Nat → va_E) → Prop) : Prop := Met l y ws ({ frames := fr, cells := 0, slots := 0, locals := lo }) (va_Pc As (wp_ g L f sz)) (va_Qi post (fun f2 t => PP g L f2 t.heap) (AA L sz)) 0 0 (AA L sz)
abbrev RV (l : Launch) (g : GG) (y : MethodName) (ws : List Cond) (fr lo : Nat) (L : List Nat) (f : Nat → va_E) (sz : Nat) (As : List Value) (post : (Nat → va_E) → Prop) : Prop := Met l y ws ({ frames := fr, cells := 0, slots := 0, locals := lo }) (va_Pc As (wp_ g L f sz)) (va_Qv post (fun f2 t => PP g L f2 t.heap) (AA L sz)) 0 0 (AA L sz)
theorem rp_blind {g : GG} {L : List Nat} {f : Nat → va_E} {As : List Value} : FrameBlind (va_Pc As (rp g L f)) := fun a U gg mk q => ⟨q.1, q.2.1, KK.same (s := U) (U := U.calling gg mk a) rfl q.2.2⟩
theorem wp_blind {g : GG} {L : List Nat} {f : Nat → va_E} {sz : Nat} {As : List Value} : FrameBlind (va_Pc As (wp_ g L f sz)) := fun a U gg mk q => ⟨q.1, q.2.1, q.2.2.1, KK.same (s := U) (U := U.calling gg mk a) rfl q.2.2.2⟩
section PC
variable {p : Program} {l : Launch} {e : Env} {R : Room} {s : State} {m : MethodId} {args : Array Value} {below : List Frame} {meth : Method} {c : Code} {H : Heap} {locs : List Loc} {cells slots : Nat} {Q : State → Prop}
variable {cc : ByteArray} {pc : Nat} {ls : Array Slot} {rest st0 : List Value} {g : GG} {L : List Nat} {f : Nat → va_E} {b : Nat} {A : Nat → Prop} {H0 : Heap} {Ts ws : List Cond} {own C : String} {y : MethodName} {bytes : ByteArray} {maxL nL n index fr lo : Nat} {ret : Option FieldType} {As : List Value}
theorem ro_V (S : CallFix p m c cc nL s args Ts own) {post : Int32 → Prop} (hM : RO l g y ws fr lo L f (.ref b :: As) post) (cw : CallW R s args own C index y bytes maxL ret ws ({ frames := fr, cells := 0, slots := 0, locals := lo }) 0 0 n) (hK : KK g s) (hP : PP g L f H) (hL : b ∈ L) {ci : Nat} {fs : List Value} {T : u_T} {N : Nat} (hf : f b = .inr (ci, fs)) (hc : vwCl[ci]? = some (C, T, N))
    (hn : As.length = n) (hsize : ls.size = nL) (hstack : st0 = As.reverse ++ .ref b :: rest) (hW : (rest.map fun v => v.category).sum ≤ 8) (hdg : decode cc pc = .ok (.invokevirtual index, 3)) (hcs : cells ≤ R.cells ∧ slots ≤ R.slots)
    (kk : ∀ r : Int32, post r → W p l e R s m args below meth c H locs cells slots Q (F0 m (pc + 3) ls (.int r :: rest))) : W p l e R s m args below meth c H locs cells slots Q (F0 m pc ls st0) :=
  vp_callSi (W.runV S hM cw ⟨rp_blind, pg_recv hK hP hL hf hc, fun U hU hW => ⟨rfl, by rw [hU]; exact hP, KK.warm hW hK⟩⟩ rfl hn hsize hstack (lv_room hW) hdg hcs) kk
theorem ro_S (S : CallFix p m c cc nL s args Ts own) {post : Int32 → Prop} (hM : RO l g y ws fr lo L f As post) (cw : CallB R s args own index y bytes maxL ret ws ({ frames := fr, cells := 0, slots := 0, locals := lo }) 0 0 n ∧ (Cond.static y).before args s = true) (hK : KK g s) (hP : PP g L f H)
    (hn : As.length = n) (hsize : ls.size = nL) (hstack : st0 = As.reverse ++ rest) (hW : (rest.map fun v => v.category).sum ≤ 8) (hdg : decode cc pc = .ok (.invokestatic index, 3)) (hcs : cells ≤ R.cells ∧ slots ≤ R.slots)
    (kk : ∀ r : Int32, post r → W p l e R s m args below meth c H locs cells slots Q (F0 m (pc + 3) ls (.int r :: rest))) : W p l e R s m args below meth c H locs cells slots Q (F0 m pc ls st0) :=
  vp_callSi (W.runS S hM cw ⟨rp_blind, fun U hU hW => ⟨rfl, by rw [hU]; exact hP, KK.warm hW hK⟩⟩ rfl hn hsize hstack (lv_room hW) hdg hcs) kk
theorem AA_old {L : List Nat} {H : Heap} (hA : ∀ a ∈ L, A a) : ∀ q, q < H.size → AA L H.size q → A q := fun q h1 h2 => h2.elim (hA q) (fun h => absurd h (by omega))
theorem AA_free {L : List Nat} {H H0 : Heap} (hA : ∀ a ∈ L, A a) (hA2 : ∀ q, H0.size ≤ q → A q) (hS : va_S A H0 H locs) : ∀ q, AA L H.size q → A q := fun q h2 => h2.elim (hA q) (fun h => hA2 q (Nat.le_trans hS.1 h))
theorem rw_V (S : CallFix p m c cc nL s args Ts own) {post : Int32 → (Nat → va_E) → Prop} (hM : RW l g y ws fr lo L f H.size (.ref b :: As) post) (cw : CallW R s args own C index y bytes maxL ret ws ({ frames := fr, cells := 0, slots := 0, locals := lo }) 0 0 n) (hK : KK g s) (hP : PP g L f H) (hA : ∀ a ∈ L, A a) (hA2 : ∀ q, H0.size ≤ q → A q) (hS : va_S A H0 H locs) (hL : b ∈ L) {ci : Nat} {fs : List Value} {T : u_T} {N : Nat} (hf : f b = .inr (ci, fs)) (hc : vwCl[ci]? = some (C, T, N))
    (hn : As.length = n) (hsize : ls.size = nL) (hstack : st0 = As.reverse ++ .ref b :: rest) (hW : (rest.map fun v => v.category).sum ≤ 8) (hdg : decode cc pc = .ok (.invokevirtual index, 3)) (hcs : cells ≤ R.cells ∧ slots ≤ R.slots)
    (kk : ∀ (r : Int32) (f2 : Nat → va_E) (H1 : Heap) (locs1 : List Loc), post r f2 → PP g L f2 H1 → va_S A H0 H1 locs1 → W p l e R s m args below meth c H1 locs1 cells slots Q (F0 m (pc + 3) ls (.int r :: rest))) : W p l e R s m args below meth c H locs cells slots Q (F0 m pc ls st0) :=
  va_calli (va_runV S hM cw ⟨wp_blind, pg_recv hK hP hL hf hc, fun U hU hW => ⟨rfl, by rw [hU], by rw [hU]; exact hP, KK.warm hW hK⟩⟩ rfl hn hsize hstack (lv_room hW) hdg hcs) hS (AA_old hA) (AA_free hA hA2 hS) (fun r f2 t H1 locs1 ht _ hw hB _ _ hS1 => kk r f2 H1 locs1 hw (by rw [← ht]; exact hB) hS1)
theorem rv_V (S : CallFix p m c cc nL s args Ts own) {post : (Nat → va_E) → Prop} (hM : RV l g y ws fr lo L f H.size (.ref b :: As) post) (cw : CallW R s args own C index y bytes maxL ret ws ({ frames := fr, cells := 0, slots := 0, locals := lo }) 0 0 n) (hK : KK g s) (hP : PP g L f H) (hA : ∀ a ∈ L, A a) (hA2 : ∀ q, H0.size ≤ q → A q) (hS : va_S A H0 H locs) (hL : b ∈ L) {ci : Nat} {fs : List Value} {T : u_T} {N : Nat} (hf : f b = .inr (ci, fs)) (hc : vwCl[ci]? = some (C, T, N))
    (hn : As.length = n) (hsize : ls.size = nL) (hstack : st0 = As.reverse ++ .ref b :: rest) (hW : (rest.map fun v => v.category).sum ≤ 8) (hdg : decode cc pc = .ok (.invokevirtual index, 3)) (hcs : cells ≤ R.cells ∧ slots ≤ R.slots)
    (kk : ∀ (f2 : Nat → va_E) (H1 : Heap) (locs1 : List Loc), post f2 → PP g L f2 H1 → va_S A H0 H1 locs1 → W p l e R s m args below meth c H1 locs1 cells slots Q (F0 m (pc + 3) ls rest)) : W p l e R s m args below meth c H locs cells slots Q (F0 m pc ls st0) :=
  va_callv (va_runV S hM cw ⟨wp_blind, pg_recv hK hP hL hf hc, fun U hU hW => ⟨rfl, by rw [hU], by rw [hU]; exact hP, KK.warm hW hK⟩⟩ rfl hn hsize hstack (lv_room hW) hdg hcs) hS (AA_old hA) (AA_free hA hA2 hS) (fun f2 t H1 locs1 ht _ hw hB _ _ hS1 => kk f2 H1 locs1 hw (by rw [← ht]; exact hB) hS1)
theorem rv_S (S : CallFix p m c cc nL s args Ts own) {post : (Nat → va_E) → Prop} (hM : RV l g y ws fr lo L f H.size As post) (cw : CallB R s args own index y bytes maxL ret ws ({ frames := fr, cells := 0, slots := 0, locals := lo }) 0 0 n ∧ (Cond.static y).before args s = true) (hK : KK g s) (hP : PP g L f H) (hA : ∀ a ∈ L, A a) (hA2 : ∀ q, H0.size ≤ q → A q) (hS : va_S A H0 H locs)
    (hn : As.length = n) (hsize : ls.size = nL) (hstack : st0 = As.reverse ++ rest) (hW : (rest.map fun v => v.category).sum ≤ 8) (hdg : decode cc pc = .ok (.invokestatic index, 3)) (hcs : cells ≤ R.cells ∧ slots ≤ R.slots)
    (kk : ∀ (f2 : Nat → va_E) (H1 : Heap) (locs1 : List Loc), post f2 → PP g L f2 H1 → va_S A H0 H1 locs1 → W p l e R s m args below meth c H1 locs1 cells slots Q (F0 m (pc + 3) ls rest)) : W p l e R s m args below meth c H locs cells slots Q (F0 m pc ls st0) :=
  va_callv (va_runS S hM cw ⟨wp_blind, fun U hU hW => ⟨rfl, by rw [hU], by rw [hU]; exact hP, KK.warm hW hK⟩⟩ rfl hn hsize hstack (lv_room hW) hdg hcs) hS (AA_old hA) (AA_free hA hA2 hS) (fun f2 t H1 locs1 ht _ hw hB _ _ hS1 => kk f2 H1 locs1 hw (by rw [← ht]; exact hB) hS1)
end PC
/-- Met.ofW for a method whose name alone says that no native row stands in its place (Math.floorMod) -/
theorem ofWF {l : Launch} {y : MethodName} {ws ws' : List Cond} {rm : Room} {Pc : Array Value → State → Prop} {Qc : Array Value → State → Outcome → State → Prop} {mc ms : Nat} {free : Addr → Prop} {cc : ByteArray} {maxL : Nat} {ret : Option FieldType}
    (hy : plainFor y = true) (hw : ws = Cond.code y cc maxL ret :: ws')
    (body : ∀ p e s m args below meth c s₁, BodyLoose p l y (headSpec ws rm) cc maxL ret e s m args below meth c s₁ → c.maxLocals = maxL → Pc args s →
      W p l e (headSpec ws rm).room s m args below meth c s.heap [] 0 0 (MQ below Qc args s mc ms free) (entryFrame m args maxL)) : Met l y ws rm Pc Qc mc ms free := by
  refine MetFree.of_bodySF (code := cc) (maxLocals := maxL) (ret := ret) hy ?_ ?_
  · intro args s m h hn
    obtain ⟨meth, c, h1, h2, h3, h4, h5, h6, -, -⟩ := Cond.code_spec hn (atoms_spec (ws := ws) h _ (by rw [hw]; exact List.mem_cons_self))
    exact ⟨meth, c, h1, h2, h3, h4, h5, h6⟩
  · intro p e s m args below meth c s₁ B hml hP _
    have hh0 : s₁.heap = s.heap := by rw [B.state]; rfl
    obtain ⟨t, a1, o, b1, b2, b3⟩ := body p e s m args below meth c s₁ B hml hP s₁ hh0 (Stand.of_body B)
    exact ⟨t, o, a1, b1, b2, ⟨b3.1, b3.2⟩⟩
/-! ===== how a method's walk begins and ends ===== -/
section ST
variable {l : Launch} {g : GG} {L : List Nat} {f : Nat → va_E} {y : MethodName} {ws ws' : List Cond} {fr lo : Nat} {As : List Value} {cc : ByteArray} {maxL sz : Nat} {ret : FieldType}
theorem RO.start {post : Int32 → Prop} (hy : plainFor y = true) (hw : ws = Cond.code y cc maxL (some ret) :: ws') (hn : (lg_sl As).length ≤ maxL)
    (body : ∀ (p : Program) (e : Env) (s : State) (m : MethodId) (args : Array Value) (below : List Frame) (meth : Method) (c : Code) (Q : State → Prop) (ls : Array Slot), p.tables.exec = Jvm.exec → c.code = cc → c.maxLocals = maxL → (∀ w ∈ ws, w.before args s = true) → s.vm.findClass y.cls = some m.cls → PP g L f s.heap → KK g s → lv_has ls maxL (lv_args 0 As) →
      (∀ (v : Int32) (pc : Nat) (ls : Array Slot), post v → narrow ret (.int v) = .int v → decode cc pc = .ok (.ireturn, 1) → W p l e ({ frames := fr, cells := 0, slots := 0, locals := lo } : Room) s m args below meth c s.heap [] 0 0 Q (F0 m pc ls [.int v])) →
      W p l e ({ frames := fr, cells := 0, slots := 0, locals := lo } : Room) s m args below meth c s.heap [] 0 0 Q (F0 m 0 ls [])) : RO l g y ws fr lo L f As post := by
  refine ofWF (cc := cc) (maxL := maxL) (ret := some ret) hy hw ?_
  intro p e s m args below meth c s₁ B hml hv
  obtain ⟨rfl, hP, hK⟩ := hv
  have hl := lv_entry As (n := maxL) hn
  rw [lg_entry_eq]
  have hlk := B.notSynchronized
  exact body p e s m _ below meth c _ _ B.exec B.bytes hml (atoms_spec (ws := ws) B.pre) (findClass_of_methodNamed B.named) hP hK hl (fun v pc ls hp hnr hd => W.zret (ty := ret) B.exec B.bytes B.returns hnr (fun t ht hW => ⟨v, rfl, hp, ht⟩) (fun _ h => absurd h List.not_mem_nil) hd hlk)
theorem RW.start {post : Int32 → (Nat → va_E) → Prop} (hy : plainFor y = true) (hw : ws = Cond.code y cc maxL (some ret) :: ws') (hn : (lg_sl As).length ≤ maxL)
    (body : ∀ (p : Program) (e : Env) (s : State) (m : MethodId) (args : Array Value) (below : List Frame) (meth : Method) (c : Code) (Q : State → Prop) (ls : Array Slot) (A : Nat → Prop), p.tables.exec = Jvm.exec → c.code = cc → c.maxLocals = maxL → (∀ w ∈ ws, w.before args s = true) → s.vm.findClass y.cls = some m.cls → (∀ a ∈ L, A a) → (∀ q, s.heap.size ≤ q → A q) → va_S A s.heap s.heap [] → PP g L f s.heap → KK g s → lv_has ls maxL (lv_args 0 As) →
      (∀ (v : Int32) (f2 : Nat → va_E) (H : Heap) (locs : List Loc) (pc : Nat) (ls : Array Slot), post v f2 → PP g L f2 H → va_S A s.heap H locs → narrow ret (.int v) = .int v → decode cc pc = .ok (.ireturn, 1) → W p l e ({ frames := fr, cells := 0, slots := 0, locals := lo } : Room) s m args below meth c H locs 0 0 Q (F0 m pc ls [.int v])) →
      W p l e ({ frames := fr, cells := 0, slots := 0, locals := lo } : Room) s m args below meth c s.heap [] 0 0 Q (F0 m 0 ls [])) : RW l g y ws fr lo L f sz As post := by
  refine ofWF (cc := cc) (maxL := maxL) (ret := some ret) hy hw ?_
  intro p e s m args below meth c s₁ B hml hv
  obtain ⟨rfl, hsz, hP, hK⟩ := hv
  subst hsz
  have hl := lv_entry As (n := maxL) hn
  rw [lg_entry_eq]
  have hlk := B.notSynchronized
  exact body p e s m _ below meth c _ _ (AA L s.heap.size) B.exec B.bytes hml (atoms_spec (ws := ws) B.pre) (findClass_of_methodNamed B.named) (fun _ h => Or.inl h) (fun _ h => Or.inr h) va_S.rf hP hK hl (fun v f2 H locs pc ls hp hP2 hS hnr hd => W.zret (ty := ret) B.exec B.bytes B.returns hnr (fun t ht hW => ⟨⟨v, f2, rfl, hp, by dsimp only; rw [ht]; exact hP2⟩, hS.F ht⟩) hS.2.2 hd hlk)
theorem RV.start {post : (Nat → va_E) → Prop} (hy : plainFor y = true) (hw : ws = Cond.code y cc maxL none :: ws') (hn : (lg_sl As).length ≤ maxL)
    (body : ∀ (p : Program) (e : Env) (s : State) (m : MethodId) (args : Array Value) (below : List Frame) (meth : Method) (c : Code) (Q : State → Prop) (ls : Array Slot) (A : Nat → Prop), p.tables.exec = Jvm.exec → c.code = cc → c.maxLocals = maxL → (∀ w ∈ ws, w.before args s = true) → s.vm.findClass y.cls = some m.cls → (∀ a ∈ L, A a) → (∀ q, s.heap.size ≤ q → A q) → va_S A s.heap s.heap [] → PP g L f s.heap → KK g s → lv_has ls maxL (lv_args 0 As) →
      (∀ (f2 : Nat → va_E) (H : Heap) (locs : List Loc) (pc : Nat) (ls : Array Slot), post f2 → PP g L f2 H → va_S A s.heap H locs → decode cc pc = .ok (.return_, 1) → W p l e ({ frames := fr, cells := 0, slots := 0, locals := lo } : Room) s m args below meth c H locs 0 0 Q (F0 m pc ls [])) →
      W p l e ({ frames := fr, cells := 0, slots := 0, locals := lo } : Room) s m args below meth c s.heap [] 0 0 Q (F0 m 0 ls [])) : RV l g y ws fr lo L f sz As post := by
  refine ofWF (cc := cc) (maxL := maxL) (ret := none) hy hw ?_
  intro p e s m args below meth c s₁ B hml hv
  obtain ⟨rfl, hsz, hP, hK⟩ := hv
  subst hsz
  have hl := lv_entry As (n := maxL) hn
  rw [lg_entry_eq]
  have hlk := B.notSynchronized
  exact body p e s m _ below meth c _ _ (AA L s.heap.size) B.exec B.bytes hml (atoms_spec (ws := ws) B.pre) (findClass_of_methodNamed B.named) (fun _ h => Or.inl h) (fun _ h => Or.inr h) va_S.rf hP hK hl (fun f2 H locs pc ls hp hP2 hS hd => W.vret B.exec B.bytes B.returns (fun t ht hW => ⟨⟨f2, rfl, hp, by dsimp only; rw [ht]; exact hP2⟩, hS.F ht⟩) hS.2.2 hd hlk)
end ST
/-! ===== rows by a natural index ===== -/
section PN
variable {p : Program} {l : Launch} {e : Env} {R : Room} {s : State} {m : MethodId} {args : Array Value} {below : List Frame} {meth : Method} {c : Code} {H : Heap} {locs : List Loc} {cells slots : Nat} {Q : State → Prop}
variable {cc : ByteArray} {pc : Nat} {ls : Array Slot} {rest st0 : List Value} {g : GG} {L : List Nat} {f : Nat → va_E} {a : Nat} {A : Nat → Prop} {H0 : Heap}
theorem pn_in {i : Int32} {j n : Nat} (hi : i = nI j) (hj : j < n) (hn : n < 2 ^ 31) : vp_in i n ∧ i.toNatClampNeg = j := by
  subst hi
  exact ⟨vp_in_nI hj hn, nI_clamp (Nat.lt_trans hj hn)⟩
theorem pn_iald (hx : p.tables.exec = Jvm.exec) (hb : c.code = cc) (hK : KK g s) (hP : PP g L f H) (hL : a ∈ L) {n : Nat} {h : Nat → Int32} (hf : f a = eI g n h) {i : Int32} {j : Nat} (hi : i = nI j) (hj : j < n) (hn : n < 2 ^ 31) (hdg : decode cc pc = .ok (.iaload, 1))
    (kk : W p l e R s m args below meth c H locs cells slots Q (F0 m (pc + 1) ls (.int (h j) :: rest))) : W p l e R s m args below meth c H locs cells slots Q (F0 m pc ls (.int i :: .ref a :: rest)) :=
  pg_iald hx hb hK hP hL hf (pn_in hi hj hn).1 hdg (by rw [(pn_in hi hj hn).2]; exact kk)
theorem pn_zald (hx : p.tables.exec = Jvm.exec) (hb : c.code = cc) (hK : KK g s) (hP : PP g L f H) (hL : a ∈ L) {n : Nat} {h : Nat → Int32} (hf : f a = eZ g n h) {i : Int32} {j : Nat} (hi : i = nI j) (hj : j < n) (hn : n < 2 ^ 31) (hdg : decode cc pc = .ok (.baload, 1))
    (kk : W p l e R s m args below meth c H locs cells slots Q (F0 m (pc + 1) ls (.int (h j) :: rest))) : W p l e R s m args below meth c H locs cells slots Q (F0 m pc ls (.int i :: .ref a :: rest)) :=
  pg_zald hx hb hK hP hL hf (pn_in hi hj hn).1 hdg (by rw [(pn_in hi hj hn).2]; exact kk)
theorem pn_vald (hx : p.tables.exec = Jvm.exec) (hb : c.code = cc) (hK : KK g s) (hP : PP g L f H) (hL : a ∈ L) {n : Nat} {h : Nat → Option Nat} (hf : f a = eV g n h) {i : Int32} {j v : Nat} (hi : i = nI j) (hj : j < n) (hn : n < 2 ^ 31) (hv : h j = some v) (hdg : decode cc pc = .ok (.aaload, 1))
    (kk : W p l e R s m args below meth c H locs cells slots Q (F0 m (pc + 1) ls (.ref v :: rest))) : W p l e R s m args below meth c H locs cells slots Q (F0 m pc ls (.int i :: .ref a :: rest)) :=
  pg_vald hx hb hK hP hL hf (pn_in hi hj hn).1 (by rw [(pn_in hi hj hn).2]; exact hv) hdg kk
theorem pn_qald (hx : p.tables.exec = Jvm.exec) (hb : c.code = cc) (hK : KK g s) (hP : PP g L f H) (hL : a ∈ L) {n : Nat} {h : Nat → Option Nat} (hf : f a = eQ g n h) {i : Int32} {j v : Nat} (hi : i = nI j) (hj : j < n) (hn : n < 2 ^ 31) (hv : h j = some v) (hdg : decode cc pc = .ok (.aaload, 1))
    (kk : W p l e R s m args below meth c H locs cells slots Q (F0 m (pc + 1) ls (.ref v :: rest))) : W p l e R s m args below meth c H locs cells slots Q (F0 m pc ls (.int i :: .ref a :: rest)) :=
  pg_qald hx hb hK hP hL hf (pn_in hi hj hn).1 (by rw [(pn_in hi hj hn).2]; exact hv) hdg kk
theorem pn_iast (hx : p.tables.exec = Jvm.exec) (hb : c.code = cc) (hK : KK g s) (hP : PP g L f H) (hN : L.Nodup) (hA : ∀ a ∈ L, A a) (hS : va_S A H0 H locs) (hL : a ∈ L) {n : Nat} {h : Nat → Int32} (hf : f a = eI g n h) {i x : Int32} {j : Nat} (hi : i = nI j) (hj : j < n) (hn : n < 2 ^ 31) (hdg : decode cc pc = .ok (.iastore, 1))
    (kk : ∀ (H1 : Heap) (locs1 : List Loc), PP g L (va_up f a (eI g n (upd h j x))) H1 → va_S A H0 H1 locs1 → W p l e R s m args below meth c H1 locs1 cells slots Q (F0 m (pc + 1) ls rest)) : W p l e R s m args below meth c H locs cells slots Q (F0 m pc ls (.int x :: .int i :: .ref a :: rest)) :=
  pg_iast hx hb hK hP hN hA hS hL hf (pn_in hi hj hn).1 hdg (by rw [(pn_in hi hj hn).2]; exact kk)
theorem pn_zast (hx : p.tables.exec = Jvm.exec) (hb : c.code = cc) (hK : KK g s) (hP : PP g L f H) (hN : L.Nodup) (hA : ∀ a ∈ L, A a) (hS : va_S A H0 H locs) (hL : a ∈ L) {n : Nat} {h : Nat → Int32} (hf : f a = eZ g n h) {i x : Int32} {j : Nat} (hi : i = nI j) (hj : j < n) (hn : n < 2 ^ 31) (hnx : vp_nar .boolean x = x) (hdg : decode cc pc = .ok (.bastore, 1))
    (kk : ∀ (H1 : Heap) (locs1 : List Loc), PP g L (va_up f a (eZ g n (upd h j x))) H1 → va_S A H0 H1 locs1 → W p l e R s m args below meth c H1 locs1 cells slots Q (F0 m (pc + 1) ls rest)) : W p l e R s m args below meth c H locs cells slots Q (F0 m pc ls (.int x :: .int i :: .ref a :: rest)) :=
  pg_zast hx hb hK hP hN hA hS hL hf (pn_in hi hj hn).1 hdg (by rw [(pn_in hi hj hn).2, hnx]; exact kk)
end PN
/-! ===== a truth as an int ===== -/
def b2i (b : Bool) : Int32 := if b then 1 else 0
theorem b2i_t : b2i true = 1 := rfl
theorem b2i_f : b2i false = 0 := rfl
theorem b2i_n (b : Bool) : narrow .boolean (.int (b2i b)) = .int (b2i b) := by cases b <;> rfl
theorem b2i_v (b : Bool) : vp_nar .boolean (b2i b) = b2i b := by cases b <;> rfl
theorem b2i_1 {b : Bool} : b2i b = 1 ↔ b = true := by cases b <;> decide
theorem b2i_0 {b : Bool} : b2i b = 0 ↔ b = false := by cases b <;> decide
theorem b2i_p {b : Bool} {x : Int32} (h : x = 1) (hb : b = true) : x = b2i b := by rw [h, hb]; rfl
theorem b2i_q {b : Bool} {x : Int32} (h : x = 0) (hb : b = false) : x = b2i b := by rw [h, hb]; rfl
end
section
/-! ===== pure words: what the methods compute ===== -/
theorem nm_c {x a : Nat} {as : List Nat} (h : x ≠ a) (k : x ∉ as) : x ∉ a :: as := by
  simp only [List.mem_cons, not_or]
  exact ⟨h, k⟩
/-- a row changed place by place, below n -/
def mapN (F : Nat → Int32 → Int32) (w : Nat → Int32) (n : Nat) : Nat → Int32 := fun j => if j < n then F j (w j) else w j
theorem mapN_0 (F : Nat → Int32 → Int32) (w : Nat → Int32) : mapN F w 0 = w := funext fun j => if_neg (Nat.not_lt_zero j)
theorem mapN_at (F : Nat → Int32 → Int32) (w : Nat → Int32) (n : Nat) : mapN F w n n = w n := if_neg (Nat.lt_irrefl n)
theorem mapN_lt {F : Nat → Int32 → Int32} {w : Nat → Int32} {n j : Nat} (h : j < n) : mapN F w n j = F j (w j) := if_pos h
theorem mapN_s {F : Nat → Int32 → Int32} {w : Nat → Int32} {n : Nat} {x : Int32} (h : x = F n (w n)) : upd (mapN F w n) n x = mapN F w (n + 1) := by
  funext j
  unfold upd mapN
  by_cases h1 : j = n
  · subst h1; simp [h]
  · by_cases h2 : j < n
    · simp [h1, h2, Nat.lt_succ_of_lt h2]
    · have : ¬ j < n + 1 := by omega
      simp [h1, h2, this]
theorem mapN_k {F : Nat → Int32 → Int32} {w : Nat → Int32} {n : Nat} (h : w n = F n (w n)) : mapN F w n = mapN F w (n + 1) := by
  funext j
  unfold mapN
  by_cases h1 : j = n
  · subst h1; simp [← h]
  · by_cases h2 : j < n
    · simp [h2, Nat.lt_succ_of_lt h2]
    · have : ¬ j < n + 1 := by omega
      simp [h2, this]
/-- sums -/
def sumN (w : Nat → Int32) : Nat → Int32
  | 0 => 0
  | n + 1 => sumN w n + w n
theorem sumN_s {w : Nat → Int32} {n : Nat} {x y : Int32} (h : x = sumN w n) (e : y = x + w n) : y = sumN w (n + 1) := by rw [e, h]; rfl
/-- the day as a place in the table; -1 is the day ahead of 0 -/
def dIx (x : Int32) (j : Nat) : Prop := (∃ d : Nat, d < 2 ^ 30 ∧ x = nI d ∧ j = d % 12) ∨ (x = -1 ∧ j = 11)
theorem dIx_n {d : Nat} (h : d < 2 ^ 30) : dIx (nI d) (d % 12) := Or.inl ⟨d, h, rfl, rfl⟩
theorem dIx_p {d : Nat} {x : Int32} (h : d < 2 ^ 30) (hx : x = nI d - 1) : dIx x ((d + 11) % 12) := by
  subst hx
  cases d with
  | zero => exact Or.inr ⟨by decide, by decide⟩
  | succ d => exact Or.inl ⟨d, by omega, nI_pred d, by omega⟩
theorem dIx_lt {x : Int32} {j : Nat} (h : dIx x j) : j < 12 := by
  rcases h with ⟨d, _, _, rfl⟩ | ⟨_, rfl⟩ <;> omega
theorem xor12 {d : Nat} (h : d < 2 ^ 30) : ¬ (nI d ^^^ 12) < 0 := by
  intro q
  have e : (nI d ^^^ 12).toBitVec.msb = true := by
    rw [BitVec.msb_eq_toInt]
    exact decide_eq_true (show (nI d ^^^ 12).toBitVec.toInt < 0 from Int32.lt_iff_toInt_lt.mp q)
  rw [Int32.toBitVec_xor, BitVec.msb_xor] at e
  have e1 : (nI d).toBitVec.msb = false := by
    rw [BitVec.msb_eq_decide, pk_tn (by omega)]
    simp
    omega
  rw [e1] at e
  revert e
  decide
/-- what a sign says -/
def sayB (k n : Int32) (gl rn : Nat → Int32) (d : Nat) : Bool :=
  if k = 0 then decide (n ≤ gl ((d + 11) % 12) - gl (d % 12))
  else if k = 1 then decide (gl (d % 12) < n)
  else if k = 2 then decide (rn ((d + 11) % 12) = 1)
  else if k = 3 then decide (nI d - nI d / 7 * 7 = n - n / 7 * 7)
  else if k = 4 then decide (rn ((d + 11) % 12) = 0 ∧ gl (d % 12) < gl ((d + 11) % 12))
  else true
def rightN (k n : Int32) (gl rn : Nat → Int32) : Nat → Int32 := sumN (fun d => b2i (sayB k n gl rn d == decide (rn d = 1)))
/-- sums of weights by what is said -/
def leadN (sa wt : Nat → Int32) : Nat → Int32 := sumN (fun j => sa j * wt j)
def learn1 (t sa w : Int32) : Int32 := if sa = t then (if 100 < w + 1 then 100 else w + 1) else if sa = -t then w - (w + 3) / 4 else w
def sell1 (row co : Int32) : Int32 := if row < 1 then (if co ≤ 0 then co else co - 1) else co + (if 5 < row then 5 else row)
theorem bool1 {x : Int32} (h : ∃ b, x = b2i b) (hx : ¬ x = 0) : x = 1 := by
  obtain ⟨b, rfl⟩ := h
  cases b
  · exact absurd rfl hx
  · rfl
theorem ti_ne {x j : Int32} (h : ¬ x = j) : x.toInt ≠ j.toInt := fun q => h (Int32.toInt_inj.mp q)
theorem dIx_t {t : Nat} (h : t < 12) : dIx (nI t) t := Or.inl ⟨t, by omega, rfl, (Nat.mod_eq_of_lt h).symm⟩
theorem b2i_d (b : Bool) : b2i (decide (b2i b = 1)) = b2i b := by cases b <;> rfl
theorem say0 {k n : Int32} {gl rn : Nat → Int32} {d : Nat} (h : k = 0) : sayB k n gl rn d = decide (n ≤ gl ((d + 11) % 12) - gl (d % 12)) := by subst h; rfl
theorem say1 {k n : Int32} {gl rn : Nat → Int32} {d : Nat} (h : k = 1) : sayB k n gl rn d = decide (gl (d % 12) < n) := by subst h; rfl
theorem say2 {k n : Int32} {gl rn : Nat → Int32} {d : Nat} (h : k = 2) : sayB k n gl rn d = decide (rn ((d + 11) % 12) = 1) := by subst h; rfl
theorem say3 {k n : Int32} {gl rn : Nat → Int32} {d : Nat} (h : k = 3) : sayB k n gl rn d = decide (nI d - nI d / 7 * 7 = n - n / 7 * 7) := by subst h; rfl
theorem say4 {k n : Int32} {gl rn : Nat → Int32} {d : Nat} (h : k = 4) : sayB k n gl rn d = decide (rn ((d + 11) % 12) = 0 ∧ gl (d % 12) < gl ((d + 11) % 12)) := by subst h; rfl
theorem say5 {k n : Int32} {gl rn : Nat → Int32} {d : Nat} (h0 : ¬ k = 0) (h1 : ¬ k = 1) (h2 : ¬ k = 2) (h3 : ¬ k = 3) (h4 : ¬ k = 4) : sayB k n gl rn d = true := by
  unfold sayB
  rw [if_neg h0, if_neg h1, if_neg h2, if_neg h3, if_neg h4]
theorem bt {b : Bool} {P : Prop} [Decidable P] (e : b = decide P) (h : P) : (1 : Int32) = b2i b := by rw [e, decide_eq_true h]; rfl
theorem bf {b : Bool} {P : Prop} [Decidable P] (e : b = decide P) (h : ¬ P) : (0 : Int32) = b2i b := by rw [e, decide_eq_false h]; rfl
theorem sumN_z {w : Nat → Int32} {n : Nat} {x : Int32} (h : x = sumN w n) (e : w n = 0) : x = sumN w (n + 1) := by
  rw [h]
  show sumN w n = sumN w n + w n
  rw [e, Int32.add_zero]
theorem drT {s : Bool} {r : Int32} (hr : ∃ b, r = b2i b) (h : b2i s = r) : b2i (s == decide (r = 1)) = 1 := by
  obtain ⟨b, rfl⟩ := hr
  cases s <;> cases b <;> first | rfl | exact absurd h (by decide)
theorem drF {s : Bool} {r : Int32} (hr : ∃ b, r = b2i b) (h : ¬ b2i s = r) : b2i (s == decide (r = 1)) = 0 := by
  obtain ⟨b, rfl⟩ := hr
  cases s <;> cases b <;> first | rfl | exact absurd rfl h
def aheadB (p1 c1 n1 p2 c2 n2 : Int32) : Bool := if p1 = p2 then (if c1 = c2 then decide (n1 < n2) else decide (c2 < c1)) else decide (p2 < p1)
theorem ah1 {p1 c1 n1 p2 c2 n2 : Int32} (h : ¬ p1 = p2) : aheadB p1 c1 n1 p2 c2 n2 = decide (p2 < p1) := if_neg h
theorem ah2 {p1 c1 n1 p2 c2 n2 : Int32} (h : p1 = p2) (k : ¬ c1 = c2) : aheadB p1 c1 n1 p2 c2 n2 = decide (c2 < c1) := by unfold aheadB; rw [if_pos h, if_neg k]
theorem ah3 {p1 c1 n1 p2 c2 n2 : Int32} (h : p1 = p2) (k : c1 = c2) : aheadB p1 c1 n1 p2 c2 n2 = decide (n1 < n2) := by unfold aheadB; rw [if_pos h, if_pos k]
/-- is the day a hit: what the lead is, and whether it rains -/
def hitB (lead : Int32) (rb : Bool) : Bool := decide (0 < lead) == rb
def truth (rb : Bool) : Int32 := if rb then 1 else -1
theorem mapN_8 {F : Nat → Int32 → Int32} {w : Nat → Int32} {n i : Nat} (h : n ≤ i) (h2 : i ≤ n) : mapN F w i = mapN F w n := by rw [Nat.le_antisymm h2 h]
end
section
set_option maxHeartbeats 4000000 in
set_option maxRecDepth 100000 in
theorem m_J9_floorMod_7cf53 (l : Launch) (g : GG) (L : List Nat) (f : Nat → va_E) (x : Int32) (j : Nat) (hd : dIx x j) : RO l g yJ9_floorMod_7cf53 wsJ9_floorMod_7cf53 0 0 L f [.int x, .int 12] (fun r => r = nI j) := by
  refine RO.start (cc := cJ9_floorMod_7cf53) (maxL := 3) (ret := .int) (by decide +kernel) rfl (by simp [lg_sl, Value.category]) ?_
  intro p e s m args below meth c Q ls hx hb hml hts hown hP hK hl hend
  have hl : lv_has ls 3 [(0, .int x), (1, .int 12)] := hl
  rcases hd with ⟨d, hd1, rfl, rfl⟩ | ⟨rfl, rfl⟩
  · skip
    refine lv_iload_n hx hb dJ9_floorMod_7cf53_0 rfl (lv_at hl 0 rfl) ?_
    refine lv_iload_n hx hb dJ9_floorMod_7cf53_1 rfl (lv_at hl 1 rfl) ?_
    refine lv_irem hx hb dJ9_floorMod_7cf53_2 (by decide) ?_
    refine lv_topi (fun v2 ev2 => ?_)
    have ev2 : v2 = nI (d % 12) := by rw [ev2]; exact pk_rem (d := 12) (by omega) (by decide) (by decide)
    refine lv_istore_n (lv' := [(2, .int v2), (0, .int (nI d)), (1, .int 12)]) hx hb dJ9_floorMod_7cf53_3 rfl hl (by decide) rfl (fun ls hl => ?_)
    refine lv_iload_n hx hb dJ9_floorMod_7cf53_4 rfl (lv_at hl 1 rfl) ?_
    refine lv_iload_n hx hb dJ9_floorMod_7cf53_5 rfl (lv_at hl 2 rfl) ?_
    refine lv_ixor hx hb dJ9_floorMod_7cf53_6 ?_
    refine lv_topi (fun v6 ev6 => ?_)
    refine lv_if_ge (tgt := 18) hx hb dJ9_floorMod_7cf53_7 (by decide) (fun c7 => ?_) (fun c7 => by exfalso; rw [ev6] at c7; exact c7 (Int32.not_lt.mp (xor12 hd1)))
    refine lv_iload_n hx hb dJ9_floorMod_7cf53_18 rfl (lv_at hl 0 rfl) ?_
    exact hend (v2) _ _ (ev2) rfl dJ9_floorMod_7cf53_19
  · skip
    refine lv_iload_n hx hb dJ9_floorMod_7cf53_0 rfl (lv_at hl 0 rfl) ?_
    refine lv_iload_n hx hb dJ9_floorMod_7cf53_1 rfl (lv_at hl 1 rfl) ?_
    refine lv_irem hx hb dJ9_floorMod_7cf53_2 (by decide) ?_
    refine lv_topi (fun v2 ev2 => ?_)
    have ev2 : v2 = -1 := by rw [ev2]; decide
    refine lv_istore_n (lv' := [(2, .int v2), (0, .int (-1)), (1, .int 12)]) hx hb dJ9_floorMod_7cf53_3 rfl hl (by decide) rfl (fun ls hl => ?_)
    refine lv_iload_n hx hb dJ9_floorMod_7cf53_4 rfl (lv_at hl 1 rfl) ?_
    refine lv_iload_n hx hb dJ9_floorMod_7cf53_5 rfl (lv_at hl 2 rfl) ?_
    refine lv_ixor hx hb dJ9_floorMod_7cf53_6 ?_
    refine lv_topi (fun v6 ev6 => ?_)
    refine lv_if_ge (tgt := 18) hx hb dJ9_floorMod_7cf53_7 (by decide) (fun c7 => by exfalso; rw [ev6] at c7; revert c7; decide) (fun c7 => ?_)
    refine lv_iload_n hx hb dJ9_floorMod_7cf53_10 rfl (lv_at hl 0 rfl) ?_
    refine lv_if_eq (tgt := 18) hx hb dJ9_floorMod_7cf53_11 (by decide) (fun c11 => by exfalso; rw [ev2] at c11; revert c11; decide) (fun c11 => ?_)
    refine lv_iload_n hx hb dJ9_floorMod_7cf53_14 rfl (lv_at hl 0 rfl) ?_
    refine lv_iload_n hx hb dJ9_floorMod_7cf53_15 rfl (lv_at hl 2 rfl) ?_
    refine lv_iadd hx hb dJ9_floorMod_7cf53_16 ?_
    refine lv_topi (fun v16 ev16 => ?_)
    exact hend (v16) _ _ (by rw [ev16, ev2]; decide) rfl dJ9_floorMod_7cf53_17

set_option maxHeartbeats 4000000 in
set_option maxRecDepth 100000 in
theorem m_X3_glassOn (l : Launch) (g : GG) (L : List Nat) (f : Nat → va_E) (h0 ga ra : Nat) (gl rn : Nat → Int32) (x : Int32) (j : Nat) (hL_h0 : h0 ∈ L) (hf_h0 : f h0 = eO 4 [.ref ga, .ref ra]) (hL_ga : ga ∈ L) (hf_ga : f ga = eI g 12 gl) (hL_ra : ra ∈ L) (hf_ra : f ra = eZ g 12 rn) (hd : dIx x j) : RO l g yX3_glassOn wsX3_glassOn 1 22 L f [.ref h0, .int x] (fun r => r = gl j) := by
  refine RO.start (cc := cX3_glassOn) (maxL := 2) (ret := .int) (by decide +kernel) rfl (by simp [lg_sl, Value.category]) ?_
  intro p e s m args below meth c Q ls hx hb hml hts hown hP hK hl hend
  have hl : lv_has ls 2 [(0, .ref h0), (1, .int x)] := hl
  have hi_X3 : ∀ w ∈ u_ws RX3 TX3 2, w ∈ wsX3_glassOn := by decide +kernel
  have n_h0_ga : h0 ≠ ga := ne_e hf_h0 hf_ga (by simp)
  have n_h0_ra : h0 ≠ ra := ne_e hf_h0 hf_ra (by simp)
  refine lv_aload_n hx hb dX3_glassOn_0 rfl (lv_at hl 0 rfl) ?_
  refine pg_get (C := RX3) (T := TX3) (N := 2) hx hb hts hi_X3 hown hK hP hL_h0 hf_h0 rfl 0 (by decide) (hts (.fieldLink RX3 9 "BarometerLeague$Weather" "glass" "[I") (by decide +kernel)) (fun _ h9 => h9) rfl dX3_glassOn_1 ?_
  refine lv_iload_n hx hb dX3_glassOn_4 rfl (lv_at hl 1 rfl) ?_
  refine lv_bipush (v := 12) hx hb dX3_glassOn_5 (by decide) ?_
  refine ro_S (As := [.int x, .int 12]) (rest := [.ref ga]) ⟨hx, hb, hml, hown, hts⟩ (m_J9_floorMod_7cf53 l g L f x j hd) (va_cwS 2 hts gX3_glassOn_J9_floorMod_7cf53 rfl rfl rfl (by decide +kernel) ⟨Nat.le_of_ble_eq_true rfl, Nat.le_of_ble_eq_true rfl⟩) hK hP rfl hl.1 rfl (Nat.le_of_ble_eq_true rfl) dX3_glassOn_7 ⟨Nat.zero_le _, Nat.zero_le _⟩ (fun r7 hr7 => ?_)
  have hj := dIx_lt hd
  refine pn_iald (j := j) hx hb hK hP hL_ga hf_ga hr7 (by omega) (Nat.lt_of_lt_of_le (m := 100) (by omega) (by omega)) dX3_glassOn_10 ?_
  exact hend (gl j) _ _ (by first | rfl | assumption | simp_all) rfl dX3_glassOn_11

set_option maxHeartbeats 4000000 in
set_option maxRecDepth 100000 in
theorem m_X3_rainsOn (l : Launch) (g : GG) (L : List Nat) (f : Nat → va_E) (h0 ga ra : Nat) (gl rn : Nat → Int32) (x : Int32) (j : Nat) (hL_h0 : h0 ∈ L) (hf_h0 : f h0 = eO 4 [.ref ga, .ref ra]) (hL_ga : ga ∈ L) (hf_ga : f ga = eI g 12 gl) (hL_ra : ra ∈ L) (hf_ra : f ra = eZ g 12 rn) (hd : dIx x j) (hrn : ∀ k, k < 12 → ∃ b, rn k = b2i b) : RO l g yX3_rainsOn wsX3_rainsOn 1 22 L f [.ref h0, .int x] (fun r => r = rn j) := by
  refine RO.start (cc := cX3_rainsOn) (maxL := 2) (ret := .boolean) (by decide +kernel) rfl (by simp [lg_sl, Value.category]) ?_
  intro p e s m args below meth c Q ls hx hb hml hts hown hP hK hl hend
  have hl : lv_has ls 2 [(0, .ref h0), (1, .int x)] := hl
  have hi_X3 : ∀ w ∈ u_ws RX3 TX3 2, w ∈ wsX3_rainsOn := by decide +kernel
  have n_h0_ga : h0 ≠ ga := ne_e hf_h0 hf_ga (by simp)
  have n_h0_ra : h0 ≠ ra := ne_e hf_h0 hf_ra (by simp)
  refine lv_aload_n hx hb dX3_rainsOn_0 rfl (lv_at hl 0 rfl) ?_
  refine pg_get (C := RX3) (T := TX3) (N := 2) hx hb hts hi_X3 hown hK hP hL_h0 hf_h0 rfl 1 (by decide) (hts (.fieldLink RX3 15 "BarometerLeague$Weather" "rain" "[Z") (by decide +kernel)) (fun _ h9 => h9) rfl dX3_rainsOn_1 ?_
  refine lv_iload_n hx hb dX3_rainsOn_4 rfl (lv_at hl 1 rfl) ?_
  refine lv_bipush (v := 12) hx hb dX3_rainsOn_5 (by decide) ?_
  refine ro_S (As := [.int x, .int 12]) (rest := [.ref ra]) ⟨hx, hb, hml, hown, hts⟩ (m_J9_floorMod_7cf53 l g L f x j hd) (va_cwS 2 hts gX3_rainsOn_J9_floorMod_7cf53 rfl rfl rfl (by decide +kernel) ⟨Nat.le_of_ble_eq_true rfl, Nat.le_of_ble_eq_true rfl⟩) hK hP rfl hl.1 rfl (Nat.le_of_ble_eq_true rfl) dX3_rainsOn_7 ⟨Nat.zero_le _, Nat.zero_le _⟩ (fun r7 hr7 => ?_)
  have hj := dIx_lt hd
  refine pn_zald (j := j) hx hb hK hP hL_ra hf_ra hr7 (by omega) (Nat.lt_of_lt_of_le (m := 100) (by omega) (by omega)) dX3_rainsOn_10 ?_
  exact hend (rn j) _ _ (rfl) (by obtain ⟨b, hb⟩ := hrn j hj; rw [hb]; exact b2i_n b) dX3_rainsOn_11

set_option maxHeartbeats 4000000 in
set_option maxRecDepth 100000 in
theorem m_X3_putGlass (l : Launch) (g : GG) (L : List Nat) (f : Nat → va_E) (sz : Nat) (hN : L.Nodup) (h0 ga ra : Nat) (gl rn : Nat → Int32) (x y : Int32) (j : Nat) (hL_h0 : h0 ∈ L) (hf_h0 : f h0 = eO 4 [.ref ga, .ref ra]) (hL_ga : ga ∈ L) (hf_ga : f ga = eI g 12 gl) (hL_ra : ra ∈ L) (hf_ra : f ra = eZ g 12 rn) (n_ga_ra : ga ≠ ra) (hd : dIx x j) : RV l g yX3_putGlass wsX3_putGlass 1 22 L f sz [.ref h0, .int x, .int y] (fun f2 => f2 ga = eI g 12 (upd gl j y) ∧ Fr f f2 [ga]) := by
  refine RV.start (cc := cX3_putGlass) (maxL := 3) (by decide +kernel) rfl (by simp [lg_sl, Value.category]) ?_
  intro p e s m args below meth c Q ls A hx hb hml hts hown hA hA2 hS hP hK hl hend
  have hl : lv_has ls 3 [(0, .ref h0), (1, .int x), (2, .int y)] := hl
  have hi_X3 : ∀ w ∈ u_ws RX3 TX3 2, w ∈ wsX3_putGlass := by decide +kernel
  have hFr : Fr f f [ga] := Fr.rf
  have n_h0_ga : h0 ≠ ga := ne_e hf_h0 hf_ga (by simp)
  have n_h0_ra : h0 ≠ ra := ne_e hf_h0 hf_ra (by simp)
  have h0f_h0 := hf_h0
  have h0f_ga := hf_ga
  have h0f_ra := hf_ra
  refine lv_aload_n hx hb dX3_putGlass_0 rfl (lv_at hl 0 rfl) ?_
  refine pg_get (C := RX3) (T := TX3) (N := 2) hx hb hts hi_X3 hown hK hP hL_h0 hf_h0 rfl 0 (by decide) (hts (.fieldLink RX3 9 "BarometerLeague$Weather" "glass" "[I") (by decide +kernel)) (fun _ h9 => h9) rfl dX3_putGlass_1 ?_
  refine lv_iload_n hx hb dX3_putGlass_4 rfl (lv_at hl 1 rfl) ?_
  refine lv_bipush (v := 12) hx hb dX3_putGlass_5 (by decide) ?_
  refine ro_S (As := [.int x, .int 12]) (rest := [.ref ga]) ⟨hx, hb, hml, hown, hts⟩ (m_J9_floorMod_7cf53 l g L f x j hd) (va_cwS 2 hts gX3_putGlass_J9_floorMod_7cf53 rfl rfl rfl (by decide +kernel) ⟨Nat.le_of_ble_eq_true rfl, Nat.le_of_ble_eq_true rfl⟩) hK hP rfl hl.1 rfl (Nat.le_of_ble_eq_true rfl) dX3_putGlass_7 ⟨Nat.zero_le _, Nat.zero_le _⟩ (fun r7 hr7 => ?_)
  have hj := dIx_lt hd
  refine lv_iload_n hx hb dX3_putGlass_10 rfl (lv_at hl 2 rfl) ?_
  refine pn_iast (j := j) hx hb hK hP hN hA hS hL_ga hf_ga hr7 (by omega) (Nat.lt_of_lt_of_le (m := 100) (by omega) (by omega)) dX3_putGlass_11 (fun H locs hP hS => ?_)
  obtain ⟨f11, ef11⟩ : ∃ z, z = va_up f ga (eI g 12 (upd gl j y)) := ⟨_, rfl⟩
  replace hP : PP g L f11 H := by rw [ef11]; exact hP
  have hf_h0 : f11 h0 = eO 4 [.ref ga, .ref ra] := by rw [ef11, va_up_ne _ _ n_h0_ga]; exact hf_h0
  have hf_ra : f11 ra = eZ g 12 rn := by rw [ef11, va_up_ne _ _ n_ga_ra.symm]; exact hf_ra
  have hf_ga : f11 ga = eI g 12 (upd gl j y) := by rw [ef11]; exact va_up_self _ _ _
  replace hFr : Fr f f11 [ga] := by rw [ef11]; exact hFr.up (by simp)
  exact hend f11 _ _ _ _ (⟨by first | exact hf_ga | rw [hf_ga], hFr⟩) hP hS dX3_putGlass_12

set_option maxHeartbeats 4000000 in
set_option maxRecDepth 100000 in
theorem m_X3_putRain (l : Launch) (g : GG) (L : List Nat) (f : Nat → va_E) (sz : Nat) (hN : L.Nodup) (h0 ga ra : Nat) (gl rn : Nat → Int32) (x y : Int32) (j : Nat) (hL_h0 : h0 ∈ L) (hf_h0 : f h0 = eO 4 [.ref ga, .ref ra]) (hL_ga : ga ∈ L) (hf_ga : f ga = eI g 12 gl) (hL_ra : ra ∈ L) (hf_ra : f ra = eZ g 12 rn) (n_ga_ra : ga ≠ ra) (hd : dIx x j) (hy : ∃ b, y = b2i b) : RV l g yX3_putRain wsX3_putRain 1 22 L f sz [.ref h0, .int x, .int y] (fun f2 => f2 ra = eZ g 12 (upd rn j y) ∧ Fr f f2 [ra]) := by
  refine RV.start (cc := cX3_putRain) (maxL := 3) (by decide +kernel) rfl (by simp [lg_sl, Value.category]) ?_
  intro p e s m args below meth c Q ls A hx hb hml hts hown hA hA2 hS hP hK hl hend
  have hl : lv_has ls 3 [(0, .ref h0), (1, .int x), (2, .int y)] := hl
  have hi_X3 : ∀ w ∈ u_ws RX3 TX3 2, w ∈ wsX3_putRain := by decide +kernel
  have hFr : Fr f f [ra] := Fr.rf
  have n_h0_ga : h0 ≠ ga := ne_e hf_h0 hf_ga (by simp)
  have n_h0_ra : h0 ≠ ra := ne_e hf_h0 hf_ra (by simp)
  have h0f_h0 := hf_h0
  have h0f_ga := hf_ga
  have h0f_ra := hf_ra
  refine lv_aload_n hx hb dX3_putRain_0 rfl (lv_at hl 0 rfl) ?_
  refine pg_get (C := RX3) (T := TX3) (N := 2) hx hb hts hi_X3 hown hK hP hL_h0 hf_h0 rfl 1 (by decide) (hts (.fieldLink RX3 15 "BarometerLeague$Weather" "rain" "[Z") (by decide +kernel)) (fun _ h9 => h9) rfl dX3_putRain_1 ?_
  refine lv_iload_n hx hb dX3_putRain_4 rfl (lv_at hl 1 rfl) ?_
  refine lv_bipush (v := 12) hx hb dX3_putRain_5 (by decide) ?_
  refine ro_S (As := [.int x, .int 12]) (rest := [.ref ra]) ⟨hx, hb, hml, hown, hts⟩ (m_J9_floorMod_7cf53 l g L f x j hd) (va_cwS 2 hts gX3_putRain_J9_floorMod_7cf53 rfl rfl rfl (by decide +kernel) ⟨Nat.le_of_ble_eq_true rfl, Nat.le_of_ble_eq_true rfl⟩) hK hP rfl hl.1 rfl (Nat.le_of_ble_eq_true rfl) dX3_putRain_7 ⟨Nat.zero_le _, Nat.zero_le _⟩ (fun r7 hr7 => ?_)
  have hj := dIx_lt hd
  refine lv_iload_n hx hb dX3_putRain_10 rfl (lv_at hl 2 rfl) ?_
  refine pn_zast (j := j) hx hb hK hP hN hA hS hL_ra hf_ra hr7 (by omega) (Nat.lt_of_lt_of_le (m := 100) (by omega) (by omega)) (by obtain ⟨b, rfl⟩ := hy; exact b2i_v b) dX3_putRain_11 (fun H locs hP hS => ?_)
  obtain ⟨f11, ef11⟩ : ∃ z, z = va_up f ra (eZ g 12 (upd rn j y)) := ⟨_, rfl⟩
  replace hP : PP g L f11 H := by rw [ef11]; exact hP
  have hf_h0 : f11 h0 = eO 4 [.ref ga, .ref ra] := by rw [ef11, va_up_ne _ _ n_h0_ra]; exact hf_h0
  have hf_ga : f11 ga = eI g 12 gl := by rw [ef11, va_up_ne _ _ n_ga_ra]; exact hf_ga
  have hf_ra : f11 ra = eZ g 12 (upd rn j y) := by rw [ef11]; exact va_up_self _ _ _
  replace hFr : Fr f f11 [ra] := by rw [ef11]; exact hFr.up (by simp)
  exact hend f11 _ _ _ _ (⟨by first | exact hf_ra | rw [hf_ra], hFr⟩) hP hS dX3_putRain_12

set_option maxHeartbeats 4000000 in
set_option maxRecDepth 100000 in
theorem m_X3_rainyDays (l : Launch) (g : GG) (L : List Nat) (f : Nat → va_E) (h0 ga ra : Nat) (gl rn : Nat → Int32) (hL_h0 : h0 ∈ L) (hf_h0 : f h0 = eO 4 [.ref ga, .ref ra]) (hL_ga : ga ∈ L) (hf_ga : f ga = eI g 12 gl) (hL_ra : ra ∈ L) (hf_ra : f ra = eZ g 12 rn) (hrn : ∀ k, k < 12 → ∃ b, rn k = b2i b) : RO l g yX3_rainyDays wsX3_rainyDays 0 0 L f [.ref h0] (fun r => r = sumN rn 12) := by
  refine RO.start (cc := cX3_rainyDays) (maxL := 6) (ret := .int) (by decide +kernel) rfl (by simp [lg_sl, Value.category]) ?_
  intro p e s m args below meth c Q ls hx hb hml hts hown hP hK hl hend
  have hl : lv_has ls 6 [(0, .ref h0)] := hl
  have hi_X3 : ∀ w ∈ u_ws RX3 TX3 2, w ∈ wsX3_rainyDays := by decide +kernel
  have n_h0_ga : h0 ≠ ga := ne_e hf_h0 hf_ga (by simp)
  have n_h0_ra : h0 ≠ ra := ne_e hf_h0 hf_ra (by simp)
  refine lv_iconst (v := 0) hx hb dX3_rainyDays_0 (by decide) ?_
  refine lv_istore_n (lv' := [(1, .int 0), (0, .ref h0)]) hx hb dX3_rainyDays_1 rfl hl (by decide) rfl (fun ls hl => ?_)
  refine lv_aload_n hx hb dX3_rainyDays_2 rfl (lv_at hl 1 rfl) ?_
  refine pg_get (C := RX3) (T := TX3) (N := 2) hx hb hts hi_X3 hown hK hP hL_h0 hf_h0 rfl 1 (by decide) (hts (.fieldLink RX3 15 "BarometerLeague$Weather" "rain" "[Z") (by decide +kernel)) (fun _ h9 => h9) rfl dX3_rainyDays_3 ?_
  refine lv_astore_n (lv' := [(2, .ref ra), (1, .int 0), (0, .ref h0)]) hx hb dX3_rainyDays_6 rfl hl (by decide) rfl (fun ls hl => ?_)
  refine lv_aload_n hx hb dX3_rainyDays_7 rfl (lv_at hl 0 rfl) ?_
  refine pg_alen hx hb hK hP hL_ra hf_ra 1 rfl (v := nI 12) rfl dX3_rainyDays_8 ?_
  refine lv_istore_n (lv' := [(3, .int (nI 12)), (2, .ref ra), (1, .int 0), (0, .ref h0)]) hx hb dX3_rainyDays_9 rfl hl (by decide) rfl (fun ls hl => ?_)
  refine lv_iconst (v := 0) hx hb dX3_rainyDays_10 (by decide) ?_
  refine lv_istore (lv' := [(4, .int 0), (3, .int (nI 12)), (2, .ref ra), (1, .int 0), (0, .ref h0)]) hx hb dX3_rainyDays_11 hl (by decide) rfl (fun ls hl => ?_)
  have K13 : ∀ (n13 : Nat) (i : Nat) (acc : Int32), 12 - i < n13 → i ≤ 12 → acc = sumN rn i → ∀ (ls : Array Slot), lv_has ls 6 [(4, .int (nI i)), (3, .int (nI 12)), (2, .ref ra), (1, .int acc), (0, .ref h0)] → W p l e ({ frames := 0, cells := 0, slots := 0, locals := 0 } : Room) s m args below meth c s.heap [] 0 0 Q (F0 m 13 ls []) := by
    intro n13
    induction n13 with
    | zero => intros; omega
    | succ n13 ih13 =>
      intro i acc hm13 hi ha ls hl
      refine lv_iload hx hb dX3_rainyDays_13 (lv_at hl 0 rfl) ?_
      refine lv_iload_n hx hb dX3_rainyDays_15 rfl (lv_at hl 1 rfl) ?_
      refine lv_icmp_ge (tgt := 44) hx hb dX3_rainyDays_16 (by decide) (fun c16 => ?_) (fun c16 => ?_)
      · skip
        have c16 : 12 ≤ i := (nI_leI (a := 12) (b := i) (by omega) (by omega)).mp (show nI 12 ≤ nI i from c16)
        refine lv_iload_n hx hb dX3_rainyDays_44 rfl (lv_at hl 3 rfl) ?_
        exact hend (acc) _ _ (by rw [ha, show i = 12 from (by omega)]) rfl dX3_rainyDays_45
      · skip
        have c16 : ¬ 12 ≤ i := fun h => c16 ((nI_leI (a := 12) (b := i) (by omega) (by omega)).mpr h)
        refine lv_aload_n hx hb dX3_rainyDays_19 rfl (lv_at hl 2 rfl) ?_
        refine lv_iload hx hb dX3_rainyDays_20 (lv_at hl 0 rfl) ?_
        refine pn_zald (j := i) hx hb hK hP hL_ra hf_ra rfl (by omega) (Nat.lt_of_lt_of_le (m := 100) (by omega) (by omega)) dX3_rainyDays_22 ?_
        refine lv_istore (lv' := [(5, .int (rn i)), (4, .int (nI i)), (3, .int (nI 12)), (2, .ref ra), (1, .int acc), (0, .ref h0)]) hx hb dX3_rainyDays_23 hl (by decide) rfl (fun ls hl => ?_)
        refine lv_iload_n hx hb dX3_rainyDays_25 rfl (lv_at hl 4 rfl) ?_
        refine lv_iload hx hb dX3_rainyDays_26 (lv_at hl 0 rfl) ?_
        refine lv_if_eq (tgt := 35) hx hb dX3_rainyDays_28 (by decide) (fun c28 => ?_) (fun c28 => ?_)
        · skip
          refine lv_iconst (v := 0) hx hb dX3_rainyDays_35 (by decide) ?_
          refine lv_iadd hx hb dX3_rainyDays_36 ?_
          refine lv_topi (fun v36 ev36 => ?_)
          refine lv_istore_n (lv' := [(1, .int v36), (5, .int (rn i)), (4, .int (nI i)), (3, .int (nI 12)), (2, .ref ra), (0, .ref h0)]) hx hb dX3_rainyDays_37 rfl hl (by decide) rfl (fun ls hl => ?_)
          refine lv_iinc (v := nI (i + 1)) (lv' := [(4, .int (nI (i + 1))), (1, .int v36), (5, .int (rn i)), (3, .int (nI 12)), (2, .ref ra), (0, .ref h0)]) hx hb dX3_rainyDays_38 hl (k := 2) rfl (nI_1 _) (by decide) rfl (fun ls hl => ?_)
          refine lv_goto (tgt := 13) hx hb dX3_rainyDays_41 (by decide) ?_
          exact ih13 (i + 1) v36 (by omega) (by omega) (sumN_s ha (by rw [ev36, c28])) ls (lv_sub hl [0, 3, 4, 1, 5] rfl)
        · skip
          refine lv_iconst (v := 1) hx hb dX3_rainyDays_31 (by decide) ?_
          refine lv_goto (tgt := 36) hx hb dX3_rainyDays_32 (by decide) ?_
          refine lv_iadd hx hb dX3_rainyDays_36 ?_
          refine lv_topi (fun v36 ev36 => ?_)
          refine lv_istore_n (lv' := [(1, .int v36), (5, .int (rn i)), (4, .int (nI i)), (3, .int (nI 12)), (2, .ref ra), (0, .ref h0)]) hx hb dX3_rainyDays_37 rfl hl (by decide) rfl (fun ls hl => ?_)
          refine lv_iinc (v := nI (i + 1)) (lv' := [(4, .int (nI (i + 1))), (1, .int v36), (5, .int (rn i)), (3, .int (nI 12)), (2, .ref ra), (0, .ref h0)]) hx hb dX3_rainyDays_38 hl (k := 2) rfl (nI_1 _) (by decide) rfl (fun ls hl => ?_)
          refine lv_goto (tgt := 13) hx hb dX3_rainyDays_41 (by decide) ?_
          exact ih13 (i + 1) v36 (by omega) (by omega) (sumN_s ha (by rw [ev36, bool1 (hrn i (by omega)) c28])) ls (lv_sub hl [0, 3, 4, 1, 5] rfl)
  exact K13 _ 0 0 (Nat.lt_succ_self _) (Nat.zero_le _) (rfl) ls (lv_sub hl [0, 1, 2, 3, 4] rfl)
end
section
set_option maxHeartbeats 4000000 in
set_option maxRecDepth 100000 in
theorem m_X0_saysRain (l : Launch) (g : GG) (L : List Nat) (f : Nat → va_E) (h0 hw ga ra : Nat) (k n : Int32) (gl rn : Nat → Int32) (d : Nat) (hL_h0 : h0 ∈ L) (hf_h0 : f h0 = eO 1 [.int k, .int n]) (hL_hw : hw ∈ L) (hf_hw : f hw = eO 4 [.ref ga, .ref ra]) (hL_ga : ga ∈ L) (hf_ga : f ga = eI g 12 gl) (hL_ra : ra ∈ L) (hf_ra : f ra = eZ g 12 rn) (hrn : ∀ k, k < 12 → ∃ b, rn k = b2i b) (hd : d < 2 ^ 30) : RO l g yX0_saysRain wsX0_saysRain 2 43 L f [.ref h0, .ref hw, .int (nI d)] (fun r => r = b2i (sayB k n gl rn d)) := by
  refine RO.start (cc := cX0_saysRain) (maxL := 6) (ret := .boolean) (by decide +kernel) rfl (by simp [lg_sl, Value.category]) ?_
  intro p e s m args below meth c Q ls hx hb hml hts hown hP hK hl hend
  have hl : lv_has ls 6 [(0, .ref h0), (1, .ref hw), (2, .int (nI d))] := hl
  have hi_X0 : ∀ w ∈ u_ws RX0 TX0 2, w ∈ wsX0_saysRain := by decide +kernel
  have n_h0_hw : h0 ≠ hw := ne_e hf_h0 hf_hw (by simp)
  have n_h0_ga : h0 ≠ ga := ne_e hf_h0 hf_ga (by simp)
  have n_h0_ra : h0 ≠ ra := ne_e hf_h0 hf_ra (by simp)
  have n_hw_ga : hw ≠ ga := ne_e hf_hw hf_ga (by simp)
  have n_hw_ra : hw ≠ ra := ne_e hf_hw hf_ra (by simp)
  refine lv_aload_n hx hb dX0_saysRain_0 rfl (lv_at hl 1 rfl) ?_
  refine lv_iload_n hx hb dX0_saysRain_1 rfl (lv_at hl 2 rfl) ?_
  refine ro_V (As := [.int (nI d)]) (rest := []) ⟨hx, hb, hml, hown, hts⟩ (m_X3_glassOn l g L f _ _ _ _ _ _ (d % 12) hL_hw hf_hw hL_ga hf_ga hL_ra hf_ra (dIx_n hd)) (cwV 1 hts gX0_saysRain_X3_glassOn rfl rfl rfl (by decide +kernel) ⟨Nat.le_of_ble_eq_true rfl, Nat.le_of_ble_eq_true rfl⟩) hK hP hL_hw hf_hw rfl rfl hl.1 rfl (Nat.le_of_ble_eq_true rfl) dX0_saysRain_2 ⟨Nat.zero_le _, Nat.zero_le _⟩ (fun r2 hr2 => ?_)
  have hr2 : r2 = gl (d % 12) := hr2
  subst hr2
  refine lv_istore_n (lv' := [(3, .int (gl (d % 12))), (0, .ref h0), (1, .ref hw), (2, .int (nI d))]) hx hb dX0_saysRain_5 rfl hl (by decide) rfl (fun ls hl => ?_)
  refine lv_aload_n hx hb dX0_saysRain_6 rfl (lv_at hl 2 rfl) ?_
  refine lv_iload_n hx hb dX0_saysRain_7 rfl (lv_at hl 3 rfl) ?_
  refine lv_iconst (v := 1) hx hb dX0_saysRain_8 (by decide) ?_
  refine lv_isub hx hb dX0_saysRain_9 ?_
  refine lv_topi (fun v9 ev9 => ?_)
  refine ro_V (As := [.int v9]) (rest := []) ⟨hx, hb, hml, hown, hts⟩ (m_X3_glassOn l g L f _ _ _ _ _ _ ((d + 11) % 12) hL_hw hf_hw hL_ga hf_ga hL_ra hf_ra (dIx_p hd ev9)) (cwV 1 hts gX0_saysRain_X3_glassOn rfl rfl rfl (by decide +kernel) ⟨Nat.le_of_ble_eq_true rfl, Nat.le_of_ble_eq_true rfl⟩) hK hP hL_hw hf_hw rfl rfl hl.1 rfl (Nat.le_of_ble_eq_true rfl) dX0_saysRain_10 ⟨Nat.zero_le _, Nat.zero_le _⟩ (fun r10 hr10 => ?_)
  have hr10 : r10 = gl ((d + 11) % 12) := hr10
  subst hr10
  refine lv_istore (lv' := [(4, .int (gl ((d + 11) % 12))), (3, .int (gl (d % 12))), (0, .ref h0), (1, .ref hw), (2, .int (nI d))]) hx hb dX0_saysRain_13 hl (by decide) rfl (fun ls hl => ?_)
  refine lv_aload_n hx hb dX0_saysRain_15 rfl (lv_at hl 3 rfl) ?_
  refine lv_iload_n hx hb dX0_saysRain_16 rfl (lv_at hl 4 rfl) ?_
  refine lv_iconst (v := 1) hx hb dX0_saysRain_17 (by decide) ?_
  refine lv_isub hx hb dX0_saysRain_18 ?_
  refine lv_topi (fun v18 ev18 => ?_)
  refine ro_V (As := [.int v18]) (rest := []) ⟨hx, hb, hml, hown, hts⟩ (m_X3_rainsOn l g L f _ _ _ _ _ _ ((d + 11) % 12) hL_hw hf_hw hL_ga hf_ga hL_ra hf_ra (dIx_p hd ev18) hrn) (cwV 1 hts gX0_saysRain_X3_rainsOn rfl rfl rfl (by decide +kernel) ⟨Nat.le_of_ble_eq_true rfl, Nat.le_of_ble_eq_true rfl⟩) hK hP hL_hw hf_hw rfl rfl hl.1 rfl (Nat.le_of_ble_eq_true rfl) dX0_saysRain_19 ⟨Nat.zero_le _, Nat.zero_le _⟩ (fun r19 hr19 => ?_)
  have hr19 : r19 = rn ((d + 11) % 12) := hr19
  subst hr19
  refine lv_istore (lv' := [(5, .int (rn ((d + 11) % 12))), (4, .int (gl ((d + 11) % 12))), (3, .int (gl (d % 12))), (0, .ref h0), (1, .ref hw), (2, .int (nI d))]) hx hb dX0_saysRain_22 hl (by decide) rfl (fun ls hl => ?_)
  refine lv_aload_n hx hb dX0_saysRain_24 rfl (lv_at hl 3 rfl) ?_
  refine pg_get (C := RX0) (T := TX0) (N := 2) hx hb hts hi_X0 hown hK hP hL_h0 hf_h0 rfl 0 (by decide) (hts (.fieldLink RX0 9 "BarometerLeague$Sign" "kind" "I") (by decide +kernel)) (fun _ h9 => h9) rfl dX0_saysRain_25 ?_
  by_cases k28_0 : k = 0
  · have q : (k).toInt = 0 := by rw [k28_0]; rfl
    refine lv_tableIn (off := 36) (tgt := 64) hx hb dX0_saysRain_28 (by rw [q]; decide) (by rw [q]; decide) (by rw [q]; rfl) (by decide) ?_
    refine lv_iload hx hb dX0_saysRain_64 (lv_at hl 1 rfl) ?_
    refine lv_iload_n hx hb dX0_saysRain_66 rfl (lv_at hl 2 rfl) ?_
    refine lv_isub hx hb dX0_saysRain_67 ?_
    refine lv_topi (fun v67 ev67 => ?_)
    refine lv_aload_n hx hb dX0_saysRain_68 rfl (lv_at hl 3 rfl) ?_
    refine pg_get (C := RX0) (T := TX0) (N := 2) hx hb hts hi_X0 hown hK hP hL_h0 hf_h0 rfl 1 (by decide) (hts (.fieldLink RX0 15 "BarometerLeague$Sign" "number" "I") (by decide +kernel)) (fun _ h9 => h9) rfl dX0_saysRain_69 ?_
    refine lv_icmp_lt (tgt := 79) hx hb dX0_saysRain_72 (by decide) (fun c72 => ?_) (fun c72 => ?_)
    · skip
      refine lv_iconst (v := 0) hx hb dX0_saysRain_79 (by decide) ?_
      exact hend (0) _ _ (bf (say0 k28_0) (by rw [← ev67]; exact Int32.not_le.mpr c72)) rfl dX0_saysRain_80
    · skip
      refine lv_iconst (v := 1) hx hb dX0_saysRain_75 (by decide) ?_
      refine lv_goto (tgt := 80) hx hb dX0_saysRain_76 (by decide) ?_
      exact hend (1) _ _ (bt (say0 k28_0) (by rw [← ev67]; exact Int32.not_lt.mp c72)) rfl dX0_saysRain_80
  have q28_0 : (k).toInt ≠ 0 := ti_ne k28_0
  by_cases k28_1 : k = 1
  · have q : (k).toInt = 1 := by rw [k28_1]; rfl
    refine lv_tableIn (off := 53) (tgt := 81) hx hb dX0_saysRain_28 (by rw [q]; decide) (by rw [q]; decide) (by rw [q]; rfl) (by decide) ?_
    refine lv_iload_n hx hb dX0_saysRain_81 rfl (lv_at hl 2 rfl) ?_
    refine lv_aload_n hx hb dX0_saysRain_82 rfl (lv_at hl 3 rfl) ?_
    refine pg_get (C := RX0) (T := TX0) (N := 2) hx hb hts hi_X0 hown hK hP hL_h0 hf_h0 rfl 1 (by decide) (hts (.fieldLink RX0 15 "BarometerLeague$Sign" "number" "I") (by decide +kernel)) (fun _ h9 => h9) rfl dX0_saysRain_83 ?_
    refine lv_icmp_ge (tgt := 93) hx hb dX0_saysRain_86 (by decide) (fun c86 => ?_) (fun c86 => ?_)
    · skip
      refine lv_iconst (v := 0) hx hb dX0_saysRain_93 (by decide) ?_
      exact hend (0) _ _ (bf (say1 k28_1) (Int32.not_lt.mpr c86)) rfl dX0_saysRain_94
    · skip
      refine lv_iconst (v := 1) hx hb dX0_saysRain_89 (by decide) ?_
      refine lv_goto (tgt := 94) hx hb dX0_saysRain_90 (by decide) ?_
      exact hend (1) _ _ (bt (say1 k28_1) (Int32.not_le.mp c86)) rfl dX0_saysRain_94
  have q28_1 : (k).toInt ≠ 1 := ti_ne k28_1
  by_cases k28_2 : k = 2
  · have q : (k).toInt = 2 := by rw [k28_2]; rfl
    refine lv_tableIn (off := 67) (tgt := 95) hx hb dX0_saysRain_28 (by rw [q]; decide) (by rw [q]; decide) (by rw [q]; rfl) (by decide) ?_
    refine lv_iload hx hb dX0_saysRain_95 (lv_at hl 0 rfl) ?_
    exact hend (rn ((d + 11) % 12)) _ _ (by obtain ⟨b, hb⟩ := hrn ((d + 11) % 12) (by omega); rw [say2 k28_2, hb]; exact (b2i_d b).symm) (by first | rfl | (obtain ⟨b, hb⟩ := hrn ((d + 11) % 12) (by omega); rw [hb]; exact b2i_n b)) dX0_saysRain_97
  have q28_2 : (k).toInt ≠ 2 := ti_ne k28_2
  by_cases k28_3 : k = 3
  · have q : (k).toInt = 3 := by rw [k28_3]; rfl
    refine lv_tableIn (off := 70) (tgt := 98) hx hb dX0_saysRain_28 (by rw [q]; decide) (by rw [q]; decide) (by rw [q]; rfl) (by decide) ?_
    refine lv_iload_n hx hb dX0_saysRain_98 rfl (lv_at hl 5 rfl) ?_
    refine lv_bipush (v := 7) hx hb dX0_saysRain_99 (by decide) ?_
    refine lv_irem hx hb dX0_saysRain_101 (by decide) ?_
    refine lv_topi (fun v101 ev101 => ?_)
    refine lv_aload_n hx hb dX0_saysRain_102 rfl (lv_at hl 3 rfl) ?_
    refine pg_get (C := RX0) (T := TX0) (N := 2) hx hb hts hi_X0 hown hK hP hL_h0 hf_h0 rfl 1 (by decide) (hts (.fieldLink RX0 15 "BarometerLeague$Sign" "number" "I") (by decide +kernel)) (fun _ h9 => h9) rfl dX0_saysRain_103 ?_
    refine lv_bipush (v := 7) hx hb dX0_saysRain_106 (by decide) ?_
    refine lv_irem hx hb dX0_saysRain_108 (by decide) ?_
    refine lv_topi (fun v108 ev108 => ?_)
    refine lv_icmp_ne (tgt := 116) hx hb dX0_saysRain_109 (by decide) (fun c109 => ?_) (fun c109 => ?_)
    · skip
      refine lv_iconst (v := 0) hx hb dX0_saysRain_116 (by decide) ?_
      exact hend (0) _ _ (bf (say3 k28_3) (fun h => c109 (by rw [ev101, ev108]; exact h))) rfl dX0_saysRain_117
    · skip
      refine lv_iconst (v := 1) hx hb dX0_saysRain_112 (by decide) ?_
      refine lv_goto (tgt := 117) hx hb dX0_saysRain_113 (by decide) ?_
      exact hend (1) _ _ (bt (say3 k28_3) (by rw [← ev101, ← ev108]; exact c109)) rfl dX0_saysRain_117
  have q28_3 : (k).toInt ≠ 3 := ti_ne k28_3
  by_cases k28_4 : k = 4
  · have q : (k).toInt = 4 := by rw [k28_4]; rfl
    refine lv_tableIn (off := 90) (tgt := 118) hx hb dX0_saysRain_28 (by rw [q]; decide) (by rw [q]; decide) (by rw [q]; rfl) (by decide) ?_
    refine lv_iload hx hb dX0_saysRain_118 (lv_at hl 0 rfl) ?_
    refine lv_if_ne (tgt := 133) hx hb dX0_saysRain_120 (by decide) (fun c120 => ?_) (fun c120 => ?_)
    · skip
      refine lv_iconst (v := 0) hx hb dX0_saysRain_133 (by decide) ?_
      exact hend (0) _ _ (bf (say4 k28_4) (fun h => c120 h.1)) rfl dX0_saysRain_134
    · skip
      refine lv_iload_n hx hb dX0_saysRain_123 rfl (lv_at hl 2 rfl) ?_
      refine lv_iload hx hb dX0_saysRain_124 (lv_at hl 1 rfl) ?_
      refine lv_icmp_ge (tgt := 133) hx hb dX0_saysRain_126 (by decide) (fun c126 => ?_) (fun c126 => ?_)
      · skip
        refine lv_iconst (v := 0) hx hb dX0_saysRain_133 (by decide) ?_
        exact hend (0) _ _ (bf (say4 k28_4) (fun h => Int32.not_lt.mpr c126 h.2)) rfl dX0_saysRain_134
      · skip
        refine lv_iconst (v := 1) hx hb dX0_saysRain_129 (by decide) ?_
        refine lv_goto (tgt := 134) hx hb dX0_saysRain_130 (by decide) ?_
        exact hend (1) _ _ (bt (say4 k28_4) ⟨c120, Int32.not_le.mp c126⟩) rfl dX0_saysRain_134
  have q28_4 : (k).toInt ≠ 4 := ti_ne k28_4
  refine lv_tableOut (tgt := 135) hx hb dX0_saysRain_28 (by omega) (by decide) ?_
  refine lv_iconst (v := 1) hx hb dX0_saysRain_135 (by decide) ?_
  exact hend (1) _ _ (by rw [say5 k28_0 k28_1 k28_2 k28_3 k28_4]; rfl) rfl dX0_saysRain_136

set_option maxHeartbeats 4000000 in
set_option maxRecDepth 100000 in
theorem m_X0_daysRight (l : Launch) (g : GG) (L : List Nat) (f : Nat → va_E) (h0 hw ga ra : Nat) (k n : Int32) (gl rn : Nat → Int32) (hL_h0 : h0 ∈ L) (hf_h0 : f h0 = eO 1 [.int k, .int n]) (hL_hw : hw ∈ L) (hf_hw : f hw = eO 4 [.ref ga, .ref ra]) (hL_ga : ga ∈ L) (hf_ga : f ga = eI g 12 gl) (hL_ra : ra ∈ L) (hf_ra : f ra = eZ g 12 rn) (hrn : ∀ k, k < 12 → ∃ b, rn k = b2i b) : RO l g yX0_daysRight wsX0_daysRight 3 68 L f [.ref h0, .ref hw] (fun r => r = rightN k n gl rn 12) := by
  refine RO.start (cc := cX0_daysRight) (maxL := 4) (ret := .int) (by decide +kernel) rfl (by simp [lg_sl, Value.category]) ?_
  intro p e s m args below meth c Q ls hx hb hml hts hown hP hK hl hend
  have hl : lv_has ls 4 [(0, .ref h0), (1, .ref hw)] := hl
  have n_h0_hw : h0 ≠ hw := ne_e hf_h0 hf_hw (by simp)
  have n_h0_ga : h0 ≠ ga := ne_e hf_h0 hf_ga (by simp)
  have n_h0_ra : h0 ≠ ra := ne_e hf_h0 hf_ra (by simp)
  have n_hw_ga : hw ≠ ga := ne_e hf_hw hf_ga (by simp)
  have n_hw_ra : hw ≠ ra := ne_e hf_hw hf_ra (by simp)
  refine lv_iconst (v := 0) hx hb dX0_daysRight_0 (by decide) ?_
  refine lv_istore_n (lv' := [(2, .int 0), (0, .ref h0), (1, .ref hw)]) hx hb dX0_daysRight_1 rfl hl (by decide) rfl (fun ls hl => ?_)
  refine lv_iconst (v := 0) hx hb dX0_daysRight_2 (by decide) ?_
  refine lv_istore_n (lv' := [(3, .int 0), (2, .int 0), (0, .ref h0), (1, .ref hw)]) hx hb dX0_daysRight_3 rfl hl (by decide) rfl (fun ls hl => ?_)
  have K4 : ∀ (n4 : Nat) (i : Nat) (acc : Int32), 12 - i < n4 → i ≤ 12 → acc = rightN k n gl rn i → ∀ (ls : Array Slot), lv_has ls 4 [(3, .int (nI i)), (2, .int acc), (1, .ref hw), (0, .ref h0)] → W p l e ({ frames := 3, cells := 0, slots := 0, locals := 68 } : Room) s m args below meth c s.heap [] 0 0 Q (F0 m 4 ls []) := by
    intro n4
    induction n4 with
    | zero => intros; omega
    | succ n4 ih4 =>
      intro i acc hm4 hi ha ls hl
      refine lv_iload_n hx hb dX0_daysRight_4 rfl (lv_at hl 0 rfl) ?_
      refine lv_bipush (v := 12) hx hb dX0_daysRight_5 (by decide) ?_
      refine lv_icmp_ge (tgt := 33) hx hb dX0_daysRight_7 (by decide) (fun c7 => ?_) (fun c7 => ?_)
      · skip
        have c7 : 12 ≤ i := (nI_leI (a := 12) (b := i) (by omega) (by omega)).mp (show nI 12 ≤ nI i from c7)
        refine lv_iload_n hx hb dX0_daysRight_33 rfl (lv_at hl 1 rfl) ?_
        exact hend (acc) _ _ (by rw [ha, show i = 12 from (by omega)]) rfl dX0_daysRight_34
      · skip
        have c7 : ¬ 12 ≤ i := fun h => c7 ((nI_leI (a := 12) (b := i) (by omega) (by omega)).mpr h)
        refine lv_aload_n hx hb dX0_daysRight_10 rfl (lv_at hl 3 rfl) ?_
        refine lv_aload_n hx hb dX0_daysRight_11 rfl (lv_at hl 2 rfl) ?_
        refine lv_iload_n hx hb dX0_daysRight_12 rfl (lv_at hl 0 rfl) ?_
        refine ro_V (As := [.ref hw, .int (nI i)]) (rest := []) ⟨hx, hb, hml, hown, hts⟩ (m_X0_saysRain l g L f _ _ _ _ _ _ _ _ i hL_h0 hf_h0 hL_hw hf_hw hL_ga hf_ga hL_ra hf_ra hrn (by omega)) (cwV 2 hts gX0_daysRight_X0_saysRain rfl rfl rfl (by decide +kernel) ⟨Nat.le_of_ble_eq_true rfl, Nat.le_of_ble_eq_true rfl⟩) hK hP hL_h0 hf_h0 rfl rfl hl.1 rfl (Nat.le_of_ble_eq_true rfl) dX0_daysRight_13 ⟨Nat.zero_le _, Nat.zero_le _⟩ (fun r13 hr13 => ?_)
        have hr13 : r13 = b2i (sayB k n gl rn i) := hr13
        subst hr13
        refine lv_aload_n hx hb dX0_daysRight_16 rfl (lv_at hl 2 rfl) ?_
        refine lv_iload_n hx hb dX0_daysRight_17 rfl (lv_at hl 0 rfl) ?_
        refine ro_V (As := [.int (nI i)]) (rest := [.int (b2i (sayB k n gl rn i))]) ⟨hx, hb, hml, hown, hts⟩ (m_X3_rainsOn l g L f _ _ _ _ _ _ i hL_hw hf_hw hL_ga hf_ga hL_ra hf_ra (dIx_t (by omega)) hrn) (cwV 1 hts gX0_daysRight_X3_rainsOn rfl rfl rfl (by decide +kernel) ⟨Nat.le_of_ble_eq_true rfl, Nat.le_of_ble_eq_true rfl⟩) hK hP hL_hw hf_hw rfl rfl hl.1 rfl (Nat.le_of_ble_eq_true rfl) dX0_daysRight_18 ⟨Nat.zero_le _, Nat.zero_le _⟩ (fun r18 hr18 => ?_)
        have hr18 : r18 = rn i := hr18
        subst hr18
        refine lv_icmp_ne (tgt := 27) hx hb dX0_daysRight_21 (by decide) (fun c21 => ?_) (fun c21 => ?_)
        · skip
          refine lv_iinc (v := nI (i + 1)) (lv' := [(3, .int (nI (i + 1))), (2, .int acc), (1, .ref hw), (0, .ref h0)]) hx hb dX0_daysRight_27 hl (k := 0) rfl (nI_1 _) (by decide) rfl (fun ls hl => ?_)
          refine lv_goto (tgt := 4) hx hb dX0_daysRight_30 (by decide) ?_
          exact ih4 (i + 1) acc (by omega) (by omega) (sumN_z ha (drF (hrn i (by omega)) c21)) ls (lv_sub hl [0, 1, 2, 3] rfl)
        · skip
          obtain ⟨v24, ev24⟩ : ∃ y : Int32, y = acc + 1 := ⟨_, rfl⟩
          refine lv_iinc (v := v24) (lv' := [(2, .int v24), (3, .int (nI i)), (1, .ref hw), (0, .ref h0)]) hx hb dX0_daysRight_24 hl (k := 1) rfl (by rw [ev24]; rfl) (by decide) rfl (fun ls hl => ?_)
          refine lv_iinc (v := nI (i + 1)) (lv' := [(3, .int (nI (i + 1))), (2, .int v24), (1, .ref hw), (0, .ref h0)]) hx hb dX0_daysRight_27 hl (k := 1) rfl (nI_1 _) (by decide) rfl (fun ls hl => ?_)
          refine lv_goto (tgt := 4) hx hb dX0_daysRight_30 (by decide) ?_
          exact ih4 (i + 1) v24 (by omega) (by omega) (sumN_s ha (ev24.trans (congrArg (acc + ·) (drT (hrn i (by omega)) c21).symm))) ls (lv_sub hl [0, 1, 2, 3] rfl)
  exact K4 _ 0 0 (Nat.lt_succ_self _) (Nat.zero_le _) (rfl) ls (lv_sub hl [0, 1, 3, 2] rfl)
end
section
set_option maxHeartbeats 4000000 in
set_option maxRecDepth 100000 in
theorem m_X1_weightOf (l : Launch) (g : GG) (L : List Nat) (f : Nat → va_E) (h0 w0 : Nat) (nu pt co ro : Int32) (wt : Nat → Int32) (j : Nat) (hL_h0 : h0 ∈ L) (hf_h0 : f h0 = eO 2 [.ref w0, .int nu, .int pt, .int co, .int ro]) (hL_w0 : w0 ∈ L) (hf_w0 : f w0 = eI g 8 wt) (hj : j < 8) : RO l g yX1_weightOf wsX1_weightOf 0 0 L f [.ref h0, .int (nI j)] (fun r => r = wt j) := by
  refine RO.start (cc := cX1_weightOf) (maxL := 2) (ret := .int) (by decide +kernel) rfl (by simp [lg_sl, Value.category]) ?_
  intro p e s m args below meth c Q ls hx hb hml hts hown hP hK hl hend
  have hl : lv_has ls 2 [(0, .ref h0), (1, .int (nI j))] := hl
  have hi_X1 : ∀ w ∈ u_ws RX1 TX1 5, w ∈ wsX1_weightOf := by decide +kernel
  have n_h0_w0 : h0 ≠ w0 := ne_e hf_h0 hf_w0 (by simp)
  refine lv_iload_n hx hb dX1_weightOf_0 rfl (lv_at hl 1 rfl) ?_
  refine lv_if_lt (tgt := 22) hx hb dX1_weightOf_1 (by decide) (fun c1 => by exfalso; have c1 := (nI_ltI (a := j) (b := 0) (by omega) (by omega)).mp (show nI j < nI 0 from c1); omega) (fun c1 => ?_)
  have c1 : ¬ j < 0 := fun h => c1 ((nI_ltI (a := j) (b := 0) (by omega) (by omega)).mpr h)
  refine lv_iload_n hx hb dX1_weightOf_4 rfl (lv_at hl 1 rfl) ?_
  refine lv_aload_n hx hb dX1_weightOf_5 rfl (lv_at hl 0 rfl) ?_
  refine pg_get (C := RX1) (T := TX1) (N := 5) hx hb hts hi_X1 hown hK hP hL_h0 hf_h0 rfl 0 (by decide) (hts (.fieldLink RX1 9 "BarometerLeague$Village" "weights" "[I") (by decide +kernel)) (fun _ h9 => h9) rfl dX1_weightOf_6 ?_
  refine pg_alen hx hb hK hP hL_w0 hf_w0 0 rfl (v := nI 8) rfl dX1_weightOf_9 ?_
  refine lv_icmp_ge (tgt := 22) hx hb dX1_weightOf_10 (by decide) (fun c10 => by exfalso; have c10 := (nI_leI (a := 8) (b := j) (by omega) (by omega)).mp (show nI 8 ≤ nI j from c10); omega) (fun c10 => ?_)
  have c10 : ¬ 8 ≤ j := fun h => c10 ((nI_leI (a := 8) (b := j) (by omega) (by omega)).mpr h)
  refine lv_aload_n hx hb dX1_weightOf_13 rfl (lv_at hl 0 rfl) ?_
  refine pg_get (C := RX1) (T := TX1) (N := 5) hx hb hts hi_X1 hown hK hP hL_h0 hf_h0 rfl 0 (by decide) (hts (.fieldLink RX1 9 "BarometerLeague$Village" "weights" "[I") (by decide +kernel)) (fun _ h9 => h9) rfl dX1_weightOf_14 ?_
  refine lv_iload_n hx hb dX1_weightOf_17 rfl (lv_at hl 1 rfl) ?_
  refine pn_iald (j := j) hx hb hK hP hL_w0 hf_w0 rfl (by omega) (Nat.lt_of_lt_of_le (m := 100) (by omega) (by omega)) dX1_weightOf_18 ?_
  refine lv_goto (tgt := 23) hx hb dX1_weightOf_19 (by decide) ?_
  exact hend (wt j) _ _ (rfl) rfl dX1_weightOf_23

set_option maxHeartbeats 4000000 in
set_option maxRecDepth 100000 in
theorem m_X1_putWeight (l : Launch) (g : GG) (L : List Nat) (f : Nat → va_E) (sz : Nat) (hN : L.Nodup) (h0 w0 : Nat) (nu pt co ro : Int32) (wt : Nat → Int32) (j : Nat) (x : Int32) (hL_h0 : h0 ∈ L) (hf_h0 : f h0 = eO 2 [.ref w0, .int nu, .int pt, .int co, .int ro]) (hL_w0 : w0 ∈ L) (hf_w0 : f w0 = eI g 8 wt) (hj : j < 8) : RV l g yX1_putWeight wsX1_putWeight 0 0 L f sz [.ref h0, .int (nI j), .int x] (fun f2 => f2 w0 = eI g 8 (upd wt j x) ∧ Fr f f2 [w0]) := by
  refine RV.start (cc := cX1_putWeight) (maxL := 3) (by decide +kernel) rfl (by simp [lg_sl, Value.category]) ?_
  intro p e s m args below meth c Q ls A hx hb hml hts hown hA hA2 hS hP hK hl hend
  have hl : lv_has ls 3 [(0, .ref h0), (1, .int (nI j)), (2, .int x)] := hl
  have hi_X1 : ∀ w ∈ u_ws RX1 TX1 5, w ∈ wsX1_putWeight := by decide +kernel
  have hFr : Fr f f [w0] := Fr.rf
  have n_h0_w0 : h0 ≠ w0 := ne_e hf_h0 hf_w0 (by simp)
  have h0f_h0 := hf_h0
  have h0f_w0 := hf_w0
  refine lv_iload_n hx hb dX1_putWeight_0 rfl (lv_at hl 1 rfl) ?_
  refine lv_if_lt (tgt := 20) hx hb dX1_putWeight_1 (by decide) (fun c1 => by exfalso; have c1 := (nI_ltI (a := j) (b := 0) (by omega) (by omega)).mp (show nI j < nI 0 from c1); omega) (fun c1 => ?_)
  have c1 : ¬ j < 0 := fun h => c1 ((nI_ltI (a := j) (b := 0) (by omega) (by omega)).mpr h)
  refine lv_iload_n hx hb dX1_putWeight_4 rfl (lv_at hl 1 rfl) ?_
  refine lv_aload_n hx hb dX1_putWeight_5 rfl (lv_at hl 0 rfl) ?_
  refine pg_get (C := RX1) (T := TX1) (N := 5) hx hb hts hi_X1 hown hK hP hL_h0 hf_h0 rfl 0 (by decide) (hts (.fieldLink RX1 9 "BarometerLeague$Village" "weights" "[I") (by decide +kernel)) (fun _ h9 => h9) rfl dX1_putWeight_6 ?_
  refine pg_alen hx hb hK hP hL_w0 hf_w0 0 rfl (v := nI 8) rfl dX1_putWeight_9 ?_
  refine lv_icmp_ge (tgt := 20) hx hb dX1_putWeight_10 (by decide) (fun c10 => by exfalso; have c10 := (nI_leI (a := 8) (b := j) (by omega) (by omega)).mp (show nI 8 ≤ nI j from c10); omega) (fun c10 => ?_)
  have c10 : ¬ 8 ≤ j := fun h => c10 ((nI_leI (a := 8) (b := j) (by omega) (by omega)).mpr h)
  refine lv_aload_n hx hb dX1_putWeight_13 rfl (lv_at hl 0 rfl) ?_
  refine pg_get (C := RX1) (T := TX1) (N := 5) hx hb hts hi_X1 hown hK hP hL_h0 hf_h0 rfl 0 (by decide) (hts (.fieldLink RX1 9 "BarometerLeague$Village" "weights" "[I") (by decide +kernel)) (fun _ h9 => h9) rfl dX1_putWeight_14 ?_
  refine lv_iload_n hx hb dX1_putWeight_17 rfl (lv_at hl 1 rfl) ?_
  refine lv_iload_n hx hb dX1_putWeight_18 rfl (lv_at hl 2 rfl) ?_
  refine pn_iast (j := j) hx hb hK hP hN hA hS hL_w0 hf_w0 rfl (by omega) (Nat.lt_of_lt_of_le (m := 100) (by omega) (by omega)) dX1_putWeight_19 (fun H locs hP hS => ?_)
  obtain ⟨f19, ef19⟩ : ∃ z, z = va_up f w0 (eI g 8 (upd wt j x)) := ⟨_, rfl⟩
  replace hP : PP g L f19 H := by rw [ef19]; exact hP
  have hf_h0 : f19 h0 = eO 2 [.ref w0, .int nu, .int pt, .int co, .int ro] := by rw [ef19, va_up_ne _ _ n_h0_w0]; exact hf_h0
  have hf_w0 : f19 w0 = eI g 8 (upd wt j x) := by rw [ef19]; exact va_up_self _ _ _
  replace hFr : Fr f f19 [w0] := by rw [ef19]; exact hFr.up (by simp)
  exact hend f19 _ _ _ _ (⟨hf_w0, hFr⟩) hP hS dX1_putWeight_20

set_option maxHeartbeats 4000000 in
set_option maxRecDepth 100000 in
theorem m_X1_allWeights (l : Launch) (g : GG) (L : List Nat) (f : Nat → va_E) (h0 w0 : Nat) (nu pt co ro : Int32) (wt : Nat → Int32) (k : Nat) (hL_h0 : h0 ∈ L) (hf_h0 : f h0 = eO 2 [.ref w0, .int nu, .int pt, .int co, .int ro]) (hL_w0 : w0 ∈ L) (hf_w0 : f w0 = eI g 8 wt) (hk : k ≤ 8) : RO l g yX1_allWeights wsX1_allWeights 0 0 L f [.ref h0, .int (nI k)] (fun r => r = sumN wt k) := by
  refine RO.start (cc := cX1_allWeights) (maxL := 4) (ret := .int) (by decide +kernel) rfl (by simp [lg_sl, Value.category]) ?_
  intro p e s m args below meth c Q ls hx hb hml hts hown hP hK hl hend
  have hl : lv_has ls 4 [(0, .ref h0), (1, .int (nI k))] := hl
  have hi_X1 : ∀ w ∈ u_ws RX1 TX1 5, w ∈ wsX1_allWeights := by decide +kernel
  have n_h0_w0 : h0 ≠ w0 := ne_e hf_h0 hf_w0 (by simp)
  refine lv_iconst (v := 0) hx hb dX1_allWeights_0 (by decide) ?_
  refine lv_istore_n (lv' := [(2, .int 0), (0, .ref h0), (1, .int (nI k))]) hx hb dX1_allWeights_1 rfl hl (by decide) rfl (fun ls hl => ?_)
  refine lv_iconst (v := 0) hx hb dX1_allWeights_2 (by decide) ?_
  refine lv_istore_n (lv' := [(3, .int 0), (2, .int 0), (0, .ref h0), (1, .int (nI k))]) hx hb dX1_allWeights_3 rfl hl (by decide) rfl (fun ls hl => ?_)
  have K4 : ∀ (n4 : Nat) (i : Nat) (acc : Int32), k - i < n4 → i ≤ k → acc = sumN wt i → ∀ (ls : Array Slot), lv_has ls 4 [(3, .int (nI i)), (2, .int acc), (1, .int (nI k)), (0, .ref h0)] → W p l e ({ frames := 0, cells := 0, slots := 0, locals := 0 } : Room) s m args below meth c s.heap [] 0 0 Q (F0 m 4 ls []) := by
    intro n4
    induction n4 with
    | zero => intros; omega
    | succ n4 ih4 =>
      intro i acc hm4 hi ha ls hl
      refine lv_iload_n hx hb dX1_allWeights_4 rfl (lv_at hl 0 rfl) ?_
      refine lv_iload_n hx hb dX1_allWeights_5 rfl (lv_at hl 2 rfl) ?_
      refine lv_icmp_ge (tgt := 33) hx hb dX1_allWeights_6 (by decide) (fun c6 => ?_) (fun c6 => ?_)
      · skip
        have c6 : k ≤ i := (nI_leI (a := k) (b := i) (by omega) (by omega)).mp (show nI k ≤ nI i from c6)
        refine lv_iload_n hx hb dX1_allWeights_33 rfl (lv_at hl 1 rfl) ?_
        exact hend (acc) _ _ (by rw [ha, show i = k from (by omega)]) rfl dX1_allWeights_34
      · skip
        have c6 : ¬ k ≤ i := fun h => c6 ((nI_leI (a := k) (b := i) (by omega) (by omega)).mpr h)
        refine lv_iload_n hx hb dX1_allWeights_9 rfl (lv_at hl 0 rfl) ?_
        refine lv_aload_n hx hb dX1_allWeights_10 rfl (lv_at hl 3 rfl) ?_
        refine pg_get (C := RX1) (T := TX1) (N := 5) hx hb hts hi_X1 hown hK hP hL_h0 hf_h0 rfl 0 (by decide) (hts (.fieldLink RX1 9 "BarometerLeague$Village" "weights" "[I") (by decide +kernel)) (fun _ h9 => h9) rfl dX1_allWeights_11 ?_
        refine pg_alen hx hb hK hP hL_w0 hf_w0 0 rfl (v := nI 8) rfl dX1_allWeights_14 ?_
        refine lv_icmp_ge (tgt := 33) hx hb dX1_allWeights_15 (by decide) (fun c15 => by exfalso; have c15 := (nI_leI (a := 8) (b := i) (by omega) (by omega)).mp (show nI 8 ≤ nI i from c15); omega) (fun c15 => ?_)
        have c15 : ¬ 8 ≤ i := fun h => c15 ((nI_leI (a := 8) (b := i) (by omega) (by omega)).mpr h)
        refine lv_iload_n hx hb dX1_allWeights_18 rfl (lv_at hl 1 rfl) ?_
        refine lv_aload_n hx hb dX1_allWeights_19 rfl (lv_at hl 3 rfl) ?_
        refine pg_get (C := RX1) (T := TX1) (N := 5) hx hb hts hi_X1 hown hK hP hL_h0 hf_h0 rfl 0 (by decide) (hts (.fieldLink RX1 9 "BarometerLeague$Village" "weights" "[I") (by decide +kernel)) (fun _ h9 => h9) rfl dX1_allWeights_20 ?_
        refine lv_iload_n hx hb dX1_allWeights_23 rfl (lv_at hl 0 rfl) ?_
        refine pn_iald (j := i) hx hb hK hP hL_w0 hf_w0 rfl (by omega) (Nat.lt_of_lt_of_le (m := 100) (by omega) (by omega)) dX1_allWeights_24 ?_
        refine lv_iadd hx hb dX1_allWeights_25 ?_
        refine lv_topi (fun v25 ev25 => ?_)
        refine lv_istore_n (lv' := [(2, .int v25), (3, .int (nI i)), (1, .int (nI k)), (0, .ref h0)]) hx hb dX1_allWeights_26 rfl hl (by decide) rfl (fun ls hl => ?_)
        refine lv_iinc (v := nI (i + 1)) (lv' := [(3, .int (nI (i + 1))), (2, .int v25), (1, .int (nI k)), (0, .ref h0)]) hx hb dX1_allWeights_27 hl (k := 1) rfl (nI_1 _) (by decide) rfl (fun ls hl => ?_)
        refine lv_goto (tgt := 4) hx hb dX1_allWeights_30 (by decide) ?_
        exact ih4 (i + 1) v25 (by omega) (by omega) (sumN_s ha ev25) ls (lv_sub hl [0, 1, 2, 3] rfl)
  exact K4 _ 0 0 (Nat.lt_succ_self _) (Nat.zero_le _) (rfl) ls (lv_sub hl [0, 1, 3, 2] rfl)

set_option maxHeartbeats 4000000 in
set_option maxRecDepth 100000 in
theorem m_X1_leadOfRain (l : Launch) (g : GG) (L : List Nat) (f : Nat → va_E) (h0 w0 : Nat) (nu pt co ro : Int32) (wt : Nat → Int32) (sy : Nat) (sa : Nat → Int32) (hL_h0 : h0 ∈ L) (hf_h0 : f h0 = eO 2 [.ref w0, .int nu, .int pt, .int co, .int ro]) (hL_w0 : w0 ∈ L) (hf_w0 : f w0 = eI g 8 wt) (hL_sy : sy ∈ L) (hf_sy : f sy = eI g 8 sa) : RO l g yX1_leadOfRain wsX1_leadOfRain 0 0 L f [.ref h0, .ref sy] (fun r => r = leadN sa wt 8) := by
  refine RO.start (cc := cX1_leadOfRain) (maxL := 4) (ret := .int) (by decide +kernel) rfl (by simp [lg_sl, Value.category]) ?_
  intro p e s m args below meth c Q ls hx hb hml hts hown hP hK hl hend
  have hl : lv_has ls 4 [(0, .ref h0), (1, .ref sy)] := hl
  have hi_X1 : ∀ w ∈ u_ws RX1 TX1 5, w ∈ wsX1_leadOfRain := by decide +kernel
  have n_h0_w0 : h0 ≠ w0 := ne_e hf_h0 hf_w0 (by simp)
  have n_h0_sy : h0 ≠ sy := ne_e hf_h0 hf_sy (by simp)
  refine lv_iconst (v := 0) hx hb dX1_leadOfRain_0 (by decide) ?_
  refine lv_istore_n (lv' := [(2, .int 0), (0, .ref h0), (1, .ref sy)]) hx hb dX1_leadOfRain_1 rfl hl (by decide) rfl (fun ls hl => ?_)
  refine lv_iconst (v := 0) hx hb dX1_leadOfRain_2 (by decide) ?_
  refine lv_istore_n (lv' := [(3, .int 0), (2, .int 0), (0, .ref h0), (1, .ref sy)]) hx hb dX1_leadOfRain_3 rfl hl (by decide) rfl (fun ls hl => ?_)
  have K4 : ∀ (n4 : Nat) (i : Nat) (acc : Int32), 8 - i < n4 → i ≤ 8 → acc = leadN sa wt i → ∀ (ls : Array Slot), lv_has ls 4 [(3, .int (nI i)), (2, .int acc), (1, .ref sy), (0, .ref h0)] → W p l e ({ frames := 0, cells := 0, slots := 0, locals := 0 } : Room) s m args below meth c s.heap [] 0 0 Q (F0 m 4 ls []) := by
    intro n4
    induction n4 with
    | zero => intros; omega
    | succ n4 ih4 =>
      intro i acc hm4 hi ha ls hl
      refine lv_iload_n hx hb dX1_leadOfRain_4 rfl (lv_at hl 0 rfl) ?_
      refine lv_aload_n hx hb dX1_leadOfRain_5 rfl (lv_at hl 2 rfl) ?_
      refine pg_alen hx hb hK hP hL_sy hf_sy 0 rfl (v := nI 8) rfl dX1_leadOfRain_6 ?_
      refine lv_icmp_ge (tgt := 38) hx hb dX1_leadOfRain_7 (by decide) (fun c7 => ?_) (fun c7 => ?_)
      · skip
        have c7 : 8 ≤ i := (nI_leI (a := 8) (b := i) (by omega) (by omega)).mp (show nI 8 ≤ nI i from c7)
        refine lv_iload_n hx hb dX1_leadOfRain_38 rfl (lv_at hl 1 rfl) ?_
        exact hend (acc) _ _ (by rw [ha, show i = 8 from (by omega)]) rfl dX1_leadOfRain_39
      · skip
        have c7 : ¬ 8 ≤ i := fun h => c7 ((nI_leI (a := 8) (b := i) (by omega) (by omega)).mpr h)
        refine lv_iload_n hx hb dX1_leadOfRain_10 rfl (lv_at hl 0 rfl) ?_
        refine lv_aload_n hx hb dX1_leadOfRain_11 rfl (lv_at hl 3 rfl) ?_
        refine pg_get (C := RX1) (T := TX1) (N := 5) hx hb hts hi_X1 hown hK hP hL_h0 hf_h0 rfl 0 (by decide) (hts (.fieldLink RX1 9 "BarometerLeague$Village" "weights" "[I") (by decide +kernel)) (fun _ h9 => h9) rfl dX1_leadOfRain_12 ?_
        refine pg_alen hx hb hK hP hL_w0 hf_w0 0 rfl (v := nI 8) rfl dX1_leadOfRain_15 ?_
        refine lv_icmp_ge (tgt := 38) hx hb dX1_leadOfRain_16 (by decide) (fun c16 => ?_) (fun c16 => ?_)
        · skip
          have c16 : 8 ≤ i := (nI_leI (a := 8) (b := i) (by omega) (by omega)).mp (show nI 8 ≤ nI i from c16)
          refine lv_iload_n hx hb dX1_leadOfRain_38 rfl (lv_at hl 1 rfl) ?_
          exact hend (acc) _ _ (by rw [ha, show i = 8 from (by omega)]) rfl dX1_leadOfRain_39
        · skip
          have c16 : ¬ 8 ≤ i := fun h => c16 ((nI_leI (a := 8) (b := i) (by omega) (by omega)).mpr h)
          refine lv_iload_n hx hb dX1_leadOfRain_19 rfl (lv_at hl 1 rfl) ?_
          refine lv_aload_n hx hb dX1_leadOfRain_20 rfl (lv_at hl 2 rfl) ?_
          refine lv_iload_n hx hb dX1_leadOfRain_21 rfl (lv_at hl 0 rfl) ?_
          refine pn_iald (j := i) hx hb hK hP hL_sy hf_sy rfl (by omega) (Nat.lt_of_lt_of_le (m := 100) (by omega) (by omega)) dX1_leadOfRain_22 ?_
          refine lv_aload_n hx hb dX1_leadOfRain_23 rfl (lv_at hl 3 rfl) ?_
          refine pg_get (C := RX1) (T := TX1) (N := 5) hx hb hts hi_X1 hown hK hP hL_h0 hf_h0 rfl 0 (by decide) (hts (.fieldLink RX1 9 "BarometerLeague$Village" "weights" "[I") (by decide +kernel)) (fun _ h9 => h9) rfl dX1_leadOfRain_24 ?_
          refine lv_iload_n hx hb dX1_leadOfRain_27 rfl (lv_at hl 0 rfl) ?_
          refine pn_iald (j := i) hx hb hK hP hL_w0 hf_w0 rfl (by omega) (Nat.lt_of_lt_of_le (m := 100) (by omega) (by omega)) dX1_leadOfRain_28 ?_
          refine lv_imul hx hb dX1_leadOfRain_29 ?_
          refine lv_topi (fun v29 ev29 => ?_)
          refine lv_iadd hx hb dX1_leadOfRain_30 ?_
          refine lv_topi (fun v30 ev30 => ?_)
          refine lv_istore_n (lv' := [(2, .int v30), (3, .int (nI i)), (1, .ref sy), (0, .ref h0)]) hx hb dX1_leadOfRain_31 rfl hl (by decide) rfl (fun ls hl => ?_)
          refine lv_iinc (v := nI (i + 1)) (lv' := [(3, .int (nI (i + 1))), (2, .int v30), (1, .ref sy), (0, .ref h0)]) hx hb dX1_leadOfRain_32 hl (k := 1) rfl (nI_1 _) (by decide) rfl (fun ls hl => ?_)
          refine lv_goto (tgt := 4) hx hb dX1_leadOfRain_35 (by decide) ?_
          exact ih4 (i + 1) v30 (by omega) (by omega) (sumN_s ha (by rw [ev30, ev29])) ls (lv_sub hl [0, 1, 2, 3] rfl)
  exact K4 _ 0 0 (Nat.lt_succ_self _) (Nat.zero_le _) (rfl) ls (lv_sub hl [0, 1, 3, 2] rfl)

set_option maxHeartbeats 4000000 in
set_option maxRecDepth 100000 in
theorem m_X1_guessesRain (l : Launch) (g : GG) (L : List Nat) (f : Nat → va_E) (h0 w0 : Nat) (nu pt co ro : Int32) (wt : Nat → Int32) (sy : Nat) (sa : Nat → Int32) (hL_h0 : h0 ∈ L) (hf_h0 : f h0 = eO 2 [.ref w0, .int nu, .int pt, .int co, .int ro]) (hL_w0 : w0 ∈ L) (hf_w0 : f w0 = eI g 8 wt) (hL_sy : sy ∈ L) (hf_sy : f sy = eI g 8 sa) : RO l g yX1_guessesRain wsX1_guessesRain 1 23 L f [.ref h0, .ref sy] (fun r => r = b2i (decide (0 < leadN sa wt 8))) := by
  refine RO.start (cc := cX1_guessesRain) (maxL := 2) (ret := .boolean) (by decide +kernel) rfl (by simp [lg_sl, Value.category]) ?_
  intro p e s m args below meth c Q ls hx hb hml hts hown hP hK hl hend
  have hl : lv_has ls 2 [(0, .ref h0), (1, .ref sy)] := hl
  have n_h0_w0 : h0 ≠ w0 := ne_e hf_h0 hf_w0 (by simp)
  have n_h0_sy : h0 ≠ sy := ne_e hf_h0 hf_sy (by simp)
  refine lv_aload_n hx hb dX1_guessesRain_0 rfl (lv_at hl 0 rfl) ?_
  refine lv_aload_n hx hb dX1_guessesRain_1 rfl (lv_at hl 1 rfl) ?_
  refine ro_V (As := [.ref sy]) (rest := []) ⟨hx, hb, hml, hown, hts⟩ (m_X1_leadOfRain l g L f _ _ _ _ _ _ _ _ _ hL_h0 hf_h0 hL_w0 hf_w0 hL_sy hf_sy) (cwV 1 hts gX1_guessesRain_X1_leadOfRain rfl rfl rfl (by decide +kernel) ⟨Nat.le_of_ble_eq_true rfl, Nat.le_of_ble_eq_true rfl⟩) hK hP hL_h0 hf_h0 rfl rfl hl.1 rfl (Nat.le_of_ble_eq_true rfl) dX1_guessesRain_2 ⟨Nat.zero_le _, Nat.zero_le _⟩ (fun r2 hr2 => ?_)
  have hr2 : r2 = leadN sa wt 8 := hr2
  subst hr2
  refine lv_if_le (tgt := 12) hx hb dX1_guessesRain_5 (by decide) (fun c5 => ?_) (fun c5 => ?_)
  · skip
    refine lv_iconst (v := 0) hx hb dX1_guessesRain_12 (by decide) ?_
    exact hend (0) _ _ (bf rfl (Int32.not_lt.mpr c5)) rfl dX1_guessesRain_13
  · skip
    refine lv_iconst (v := 1) hx hb dX1_guessesRain_8 (by decide) ?_
    refine lv_goto (tgt := 13) hx hb dX1_guessesRain_9 (by decide) ?_
    exact hend (1) _ _ (bt rfl (Int32.not_le.mp c5)) rfl dX1_guessesRain_13

set_option maxHeartbeats 4000000 in
set_option maxRecDepth 100000 in
theorem m_X1_learn (l : Launch) (g : GG) (L : List Nat) (f : Nat → va_E) (sz : Nat) (hN : L.Nodup) (h0 w0 : Nat) (nu pt co ro : Int32) (wt : Nat → Int32) (sy : Nat) (sa : Nat → Int32) (t : Int32) (hL_h0 : h0 ∈ L) (hf_h0 : f h0 = eO 2 [.ref w0, .int nu, .int pt, .int co, .int ro]) (hL_w0 : w0 ∈ L) (hf_w0 : f w0 = eI g 8 wt) (hL_sy : sy ∈ L) (hf_sy : f sy = eI g 8 sa) (n_w0_sy : w0 ≠ sy) : RV l g yX1_learn wsX1_learn 1 21 L f sz [.ref h0, .ref sy, .int t] (fun f2 => f2 w0 = eI g 8 (mapN (fun j w => learn1 t (sa j) w) wt 8) ∧ Fr f f2 [w0]) := by
  refine RV.start (cc := cX1_learn) (maxL := 4) (by decide +kernel) rfl (by simp [lg_sl, Value.category]) ?_
  intro p e s m args below meth c Q ls A hx hb hml hts hown hA hA2 hS hP hK hl hend
  have hl : lv_has ls 4 [(0, .ref h0), (1, .ref sy), (2, .int t)] := hl
  have hi_X1 : ∀ w ∈ u_ws RX1 TX1 5, w ∈ wsX1_learn := by decide +kernel
  have hFr : Fr f f [w0] := Fr.rf
  have n_h0_w0 : h0 ≠ w0 := ne_e hf_h0 hf_w0 (by simp)
  have n_h0_sy : h0 ≠ sy := ne_e hf_h0 hf_sy (by simp)
  have h0f_h0 := hf_h0
  have h0f_w0 := hf_w0
  have h0f_sy := hf_sy
  refine lv_iconst (v := 0) hx hb dX1_learn_0 (by decide) ?_
  refine lv_istore_n (lv' := [(3, .int 0), (0, .ref h0), (1, .ref sy), (2, .int t)]) hx hb dX1_learn_1 rfl hl (by decide) rfl (fun ls hl => ?_)
  have hf_w0 : f w0 = eI g 8 (mapN (fun j w => learn1 t (sa j) w) wt 0) := by rw [hf_w0, mapN_0]
  have K2 : ∀ (n2 : Nat) (i : Nat) (f2 : Nat → va_E) (H : Heap) (locs : List Loc), 8 - i < n2 → i ≤ 8 → f2 w0 = eI g 8 (mapN (fun j w => learn1 t (sa j) w) wt i) → Fr f f2 [w0] → PP g L f2 H → va_S A s.heap H locs → ∀ (ls : Array Slot), lv_has ls 4 [(3, .int (nI i)), (2, .int t), (1, .ref sy), (0, .ref h0)] → W p l e ({ frames := 1, cells := 0, slots := 0, locals := 21 } : Room) s m args below meth c H locs 0 0 Q (F0 m 2 ls []) := by
    intro n2
    induction n2 with
    | zero => intros; omega
    | succ n2 ih2 =>
      intro i f2 H locs hm2 hi hq2_0 hFr hP hS ls hl
      have hf_h0 : f2 h0 = eO 2 [.ref w0, .int nu, .int pt, .int co, .int ro] := hFr.get h0f_h0 (nm_c n_h0_w0 (List.not_mem_nil))
      have hf_sy : f2 sy = eI g 8 sa := hFr.get h0f_sy (nm_c n_w0_sy.symm (List.not_mem_nil))
      have hf_w0 : f2 w0 = eI g 8 (mapN (fun j w => learn1 t (sa j) w) wt i) := hq2_0
      refine lv_iload_n hx hb dX1_learn_2 rfl (lv_at hl 0 rfl) ?_
      refine lv_aload_n hx hb dX1_learn_3 rfl (lv_at hl 3 rfl) ?_
      refine pg_get (C := RX1) (T := TX1) (N := 5) hx hb hts hi_X1 hown hK hP hL_h0 hf_h0 rfl 0 (by decide) (hts (.fieldLink RX1 9 "BarometerLeague$Village" "weights" "[I") (by decide +kernel)) (fun _ h9 => h9) rfl dX1_learn_4 ?_
      refine pg_alen hx hb hK hP hL_w0 hf_w0 0 rfl (v := nI 8) rfl dX1_learn_7 ?_
      refine lv_icmp_ge (tgt := 79) hx hb dX1_learn_8 (by decide) (fun c8 => ?_) (fun c8 => ?_)
      · skip
        have c8 : 8 ≤ i := (nI_leI (a := 8) (b := i) (by omega) (by omega)).mp (show nI 8 ≤ nI i from c8)
        exact hend f2 _ _ _ _ (⟨by rw [hf_w0, show i = 8 from (by omega)], hFr⟩) hP hS dX1_learn_79
      · skip
        have c8 : ¬ 8 ≤ i := fun h => c8 ((nI_leI (a := 8) (b := i) (by omega) (by omega)).mpr h)
        refine lv_iload_n hx hb dX1_learn_11 rfl (lv_at hl 0 rfl) ?_
        refine lv_aload_n hx hb dX1_learn_12 rfl (lv_at hl 2 rfl) ?_
        refine pg_alen hx hb hK hP hL_sy hf_sy 0 rfl (v := nI 8) rfl dX1_learn_13 ?_
        refine lv_icmp_ge (tgt := 79) hx hb dX1_learn_14 (by decide) (fun c14 => by exfalso; have c14 := (nI_leI (a := 8) (b := i) (by omega) (by omega)).mp (show nI 8 ≤ nI i from c14); omega) (fun c14 => ?_)
        have c14 : ¬ 8 ≤ i := fun h => c14 ((nI_leI (a := 8) (b := i) (by omega) (by omega)).mpr h)
        refine lv_aload_n hx hb dX1_learn_17 rfl (lv_at hl 2 rfl) ?_
        refine lv_iload_n hx hb dX1_learn_18 rfl (lv_at hl 0 rfl) ?_
        refine pn_iald (j := i) hx hb hK hP hL_sy hf_sy rfl (by omega) (Nat.lt_of_lt_of_le (m := 100) (by omega) (by omega)) dX1_learn_19 ?_
        refine lv_iload_n hx hb dX1_learn_20 rfl (lv_at hl 1 rfl) ?_
        refine lv_icmp_ne (tgt := 46) hx hb dX1_learn_21 (by decide) (fun c21 => ?_) (fun c21 => ?_)
        · skip
          refine lv_aload_n hx hb dX1_learn_46 rfl (lv_at hl 2 rfl) ?_
          refine lv_iload_n hx hb dX1_learn_47 rfl (lv_at hl 0 rfl) ?_
          refine pn_iald (j := i) hx hb hK hP hL_sy hf_sy rfl (by omega) (Nat.lt_of_lt_of_le (m := 100) (by omega) (by omega)) dX1_learn_48 ?_
          refine lv_iload_n hx hb dX1_learn_49 rfl (lv_at hl 1 rfl) ?_
          refine lv_ineg hx hb dX1_learn_50 ?_
          refine lv_topi (fun v50 ev50 => ?_)
          refine lv_icmp_ne (tgt := 73) hx hb dX1_learn_51 (by decide) (fun c51 => ?_) (fun c51 => ?_)
          · skip
            refine lv_iinc (v := nI (i + 1)) (lv' := [(3, .int (nI (i + 1))), (2, .int t), (1, .ref sy), (0, .ref h0)]) hx hb dX1_learn_73 hl (k := 0) rfl (nI_1 _) (by decide) rfl (fun ls hl => ?_)
            refine lv_goto (tgt := 2) hx hb dX1_learn_76 (by decide) ?_
            have hz : wt i = learn1 t (sa i) (wt i) := by unfold learn1; rw [if_neg c21, if_neg (by rw [← ev50]; exact c51)]
            have hf_w0 : f2 w0 = eI g 8 (mapN (fun j w => learn1 t (sa j) w) wt (i + 1)) := by rw [hf_w0, ← mapN_k (F := (fun j w => learn1 t (sa j) w)) hz]
            exact ih2 (i + 1) f2 H locs (by omega) (by omega) hf_w0 hFr hP hS ls (lv_sub hl [0, 1, 2, 3] rfl)
          · skip
            refine lv_aload_n hx hb dX1_learn_54 rfl (lv_at hl 3 rfl) ?_
            refine pg_get (C := RX1) (T := TX1) (N := 5) hx hb hts hi_X1 hown hK hP hL_h0 hf_h0 rfl 0 (by decide) (hts (.fieldLink RX1 9 "BarometerLeague$Village" "weights" "[I") (by decide +kernel)) (fun _ h9 => h9) rfl dX1_learn_55 ?_
            refine lv_iload_n hx hb dX1_learn_58 rfl (lv_at hl 0 rfl) ?_
            refine lv_dup2_11 hx hb dX1_learn_59 rfl rfl ?_
            refine pn_iald (j := i) hx hb hK hP hL_w0 hf_w0 rfl (by omega) (Nat.lt_of_lt_of_le (m := 100) (by omega) (by omega)) dX1_learn_60 ?_
            refine lv_aload_n hx hb dX1_learn_61 rfl (lv_at hl 3 rfl) ?_
            refine pg_get (C := RX1) (T := TX1) (N := 5) hx hb hts hi_X1 hown hK hP hL_h0 hf_h0 rfl 0 (by decide) (hts (.fieldLink RX1 9 "BarometerLeague$Village" "weights" "[I") (by decide +kernel)) (fun _ h9 => h9) rfl dX1_learn_62 ?_
            refine lv_iload_n hx hb dX1_learn_65 rfl (lv_at hl 0 rfl) ?_
            refine pn_iald (j := i) hx hb hK hP hL_w0 hf_w0 rfl (by omega) (Nat.lt_of_lt_of_le (m := 100) (by omega) (by omega)) dX1_learn_66 ?_
            refine lv_iconst (v := 3) hx hb dX1_learn_67 (by decide) ?_
            refine lv_iadd hx hb dX1_learn_68 ?_
            refine lv_topi (fun v68 ev68 => ?_)
            refine lv_iconst (v := 4) hx hb dX1_learn_69 (by decide) ?_
            refine lv_idiv hx hb dX1_learn_70 (by decide) ?_
            refine lv_topi (fun v70 ev70 => ?_)
            refine lv_isub hx hb dX1_learn_71 ?_
            refine lv_topi (fun v71 ev71 => ?_)
            refine pn_iast (j := i) hx hb hK hP hN hA hS hL_w0 hf_w0 rfl (by omega) (Nat.lt_of_lt_of_le (m := 100) (by omega) (by omega)) dX1_learn_72 (fun H locs hP hS => ?_)
            obtain ⟨f72, ef72⟩ : ∃ z, z = va_up f2 w0 (eI g 8 (upd (mapN (fun j w => learn1 t (sa j) w) wt i) i v71)) := ⟨_, rfl⟩
            replace hP : PP g L f72 H := by rw [ef72]; exact hP
            have hf_h0 : f72 h0 = eO 2 [.ref w0, .int nu, .int pt, .int co, .int ro] := by rw [ef72, va_up_ne _ _ n_h0_w0]; exact hf_h0
            have hf_sy : f72 sy = eI g 8 sa := by rw [ef72, va_up_ne _ _ n_w0_sy.symm]; exact hf_sy
            have hf_w0 : f72 w0 = eI g 8 (upd (mapN (fun j w => learn1 t (sa j) w) wt i) i v71) := by rw [ef72]; exact va_up_self _ _ _
            replace hFr : Fr f f72 [w0] := by rw [ef72]; exact hFr.up (by simp)
            refine lv_iinc (v := nI (i + 1)) (lv' := [(3, .int (nI (i + 1))), (2, .int t), (1, .ref sy), (0, .ref h0)]) hx hb dX1_learn_73 hl (k := 0) rfl (nI_1 _) (by decide) rfl (fun ls hl => ?_)
            refine lv_goto (tgt := 2) hx hb dX1_learn_76 (by decide) ?_
            have hz : v71 = learn1 t (sa i) (wt i) := by rw [ev71, ev70, ev68, mapN_at]; unfold learn1; rw [if_neg c21, if_pos (by rw [← ev50]; exact c51)]
            have hf_w0 : f72 w0 = eI g 8 (mapN (fun j w => learn1 t (sa j) w) wt (i + 1)) := by rw [hf_w0, mapN_s hz]
            exact ih2 (i + 1) f72 H locs (by omega) (by omega) hf_w0 hFr hP hS ls (lv_sub hl [0, 1, 2, 3] rfl)
        · skip
          refine lv_aload_n hx hb dX1_learn_24 rfl (lv_at hl 3 rfl) ?_
          refine pg_get (C := RX1) (T := TX1) (N := 5) hx hb hts hi_X1 hown hK hP hL_h0 hf_h0 rfl 0 (by decide) (hts (.fieldLink RX1 9 "BarometerLeague$Village" "weights" "[I") (by decide +kernel)) (fun _ h9 => h9) rfl dX1_learn_25 ?_
          refine lv_iload_n hx hb dX1_learn_28 rfl (lv_at hl 0 rfl) ?_
          refine lv_aload_n hx hb dX1_learn_29 rfl (lv_at hl 3 rfl) ?_
          refine pg_get (C := RX1) (T := TX1) (N := 5) hx hb hts hi_X1 hown hK hP hL_h0 hf_h0 rfl 0 (by decide) (hts (.fieldLink RX1 9 "BarometerLeague$Village" "weights" "[I") (by decide +kernel)) (fun _ h9 => h9) rfl dX1_learn_30 ?_
          refine lv_iload_n hx hb dX1_learn_33 rfl (lv_at hl 0 rfl) ?_
          refine pn_iald (j := i) hx hb hK hP hL_w0 hf_w0 rfl (by omega) (Nat.lt_of_lt_of_le (m := 100) (by omega) (by omega)) dX1_learn_34 ?_
          refine lv_iconst (v := 1) hx hb dX1_learn_35 (by decide) ?_
          refine lv_iadd hx hb dX1_learn_36 ?_
          refine lv_topi (fun v36 ev36 => ?_)
          refine lv_bipush (v := 100) hx hb dX1_learn_37 (by decide) ?_
          refine va_mmin hx hb (hml.trans hl.1.symm) hown (hts (.methodLink RX1 48 Lib.Math.min.name) (by decide +kernel)) (hts (.static Lib.Math.min.name) (by decide +kernel)) (hts (.initialized "java/lang/Math") (by decide +kernel)) (hts (.code Lib.Math.min.name Lib.Math.min.code 2 (some .int)) (by decide +kernel)) (Nat.le_of_ble_eq_true rfl) (Nat.le_of_ble_eq_true rfl) (Nat.zero_le _) (Nat.zero_le _) dX1_learn_39 ?_
          refine lv_topi (fun v39 ev39 => ?_)
          refine pn_iast (j := i) hx hb hK hP hN hA hS hL_w0 hf_w0 rfl (by omega) (Nat.lt_of_lt_of_le (m := 100) (by omega) (by omega)) dX1_learn_42 (fun H locs hP hS => ?_)
          obtain ⟨f42, ef42⟩ : ∃ z, z = va_up f2 w0 (eI g 8 (upd (mapN (fun j w => learn1 t (sa j) w) wt i) i v39)) := ⟨_, rfl⟩
          replace hP : PP g L f42 H := by rw [ef42]; exact hP
          have hf_h0 : f42 h0 = eO 2 [.ref w0, .int nu, .int pt, .int co, .int ro] := by rw [ef42, va_up_ne _ _ n_h0_w0]; exact hf_h0
          have hf_sy : f42 sy = eI g 8 sa := by rw [ef42, va_up_ne _ _ n_w0_sy.symm]; exact hf_sy
          have hf_w0 : f42 w0 = eI g 8 (upd (mapN (fun j w => learn1 t (sa j) w) wt i) i v39) := by rw [ef42]; exact va_up_self _ _ _
          replace hFr : Fr f f42 [w0] := by rw [ef42]; exact hFr.up (by simp)
          refine lv_goto (tgt := 73) hx hb dX1_learn_43 (by decide) ?_
          refine lv_iinc (v := nI (i + 1)) (lv' := [(3, .int (nI (i + 1))), (2, .int t), (1, .ref sy), (0, .ref h0)]) hx hb dX1_learn_73 hl (k := 0) rfl (nI_1 _) (by decide) rfl (fun ls hl => ?_)
          refine lv_goto (tgt := 2) hx hb dX1_learn_76 (by decide) ?_
          have hz : v39 = learn1 t (sa i) (wt i) := by rw [ev39, ev36, mapN_at]; unfold learn1; rw [if_pos c21]
          have hf_w0 : f42 w0 = eI g 8 (mapN (fun j w => learn1 t (sa j) w) wt (i + 1)) := by rw [hf_w0, mapN_s hz]
          exact ih2 (i + 1) f42 H locs (by omega) (by omega) hf_w0 hFr hP hS ls (lv_sub hl [0, 1, 2, 3] rfl)
  exact K2 _ 0 f _ _ (Nat.lt_succ_self _) (Nat.zero_le _) hf_w0 hFr hP hS ls (lv_sub hl [0, 3, 2, 1] rfl)

set_option maxHeartbeats 4000000 in
set_option maxRecDepth 100000 in
theorem m_X1_sellAlmanacs (l : Launch) (g : GG) (L : List Nat) (f : Nat → va_E) (sz : Nat) (hN : L.Nodup) (h0 w0 : Nat) (nu pt co ro : Int32) (wt : Nat → Int32) (hL_h0 : h0 ∈ L) (hf_h0 : f h0 = eO 2 [.ref w0, .int nu, .int pt, .int co, .int ro]) (hL_w0 : w0 ∈ L) (hf_w0 : f w0 = eI g 8 wt) : RV l g yX1_sellAlmanacs wsX1_sellAlmanacs 1 21 L f sz [.ref h0] (fun f2 => f2 h0 = eO 2 [.ref w0, .int nu, .int pt, .int (sell1 ro co), .int ro] ∧ Fr f f2 [h0]) := by
  refine RV.start (cc := cX1_sellAlmanacs) (maxL := 1) (by decide +kernel) rfl (by simp [lg_sl, Value.category]) ?_
  intro p e s m args below meth c Q ls A hx hb hml hts hown hA hA2 hS hP hK hl hend
  have hl : lv_has ls 1 [(0, .ref h0)] := hl
  have hi_X1 : ∀ w ∈ u_ws RX1 TX1 5, w ∈ wsX1_sellAlmanacs := by decide +kernel
  have hFr : Fr f f [h0] := Fr.rf
  have n_h0_w0 : h0 ≠ w0 := ne_e hf_h0 hf_w0 (by simp)
  have h0f_h0 := hf_h0
  have h0f_w0 := hf_w0
  refine lv_aload_n hx hb dX1_sellAlmanacs_0 rfl (lv_at hl 0 rfl) ?_
  refine pg_get (C := RX1) (T := TX1) (N := 5) hx hb hts hi_X1 hown hK hP hL_h0 hf_h0 rfl 4 (by decide) (hts (.fieldLink RX1 31 "BarometerLeague$Village" "rowOfHits" "I") (by decide +kernel)) (fun _ h9 => h9) rfl dX1_sellAlmanacs_1 ?_
  refine lv_iconst (v := 1) hx hb dX1_sellAlmanacs_4 (by decide) ?_
  refine lv_icmp_lt (tgt := 28) hx hb dX1_sellAlmanacs_5 (by decide) (fun c5 => ?_) (fun c5 => ?_)
  · skip
    refine lv_aload_n hx hb dX1_sellAlmanacs_28 rfl (lv_at hl 0 rfl) ?_
    refine pg_get (C := RX1) (T := TX1) (N := 5) hx hb hts hi_X1 hown hK hP hL_h0 hf_h0 rfl 3 (by decide) (hts (.fieldLink RX1 19 "BarometerLeague$Village" "coins" "I") (by decide +kernel)) (fun _ h9 => h9) rfl dX1_sellAlmanacs_29 ?_
    refine lv_if_le (tgt := 45) hx hb dX1_sellAlmanacs_32 (by decide) (fun c32 => ?_) (fun c32 => ?_)
    · skip
      exact hend f _ _ _ _ (⟨by rw [hf_h0]; exact congrArg (fun z => eO 2 [.ref w0, .int nu, .int pt, .int z, .int ro]) (show co = sell1 ro co by unfold sell1; rw [if_pos c5, if_pos c32]), hFr⟩) hP hS dX1_sellAlmanacs_45
    · skip
      refine lv_aload_n hx hb dX1_sellAlmanacs_35 rfl (lv_at hl 0 rfl) ?_
      refine lv_dup hx hb dX1_sellAlmanacs_36 rfl ?_
      refine pg_get (C := RX1) (T := TX1) (N := 5) hx hb hts hi_X1 hown hK hP hL_h0 hf_h0 rfl 3 (by decide) (hts (.fieldLink RX1 19 "BarometerLeague$Village" "coins" "I") (by decide +kernel)) (fun _ h9 => h9) rfl dX1_sellAlmanacs_37 ?_
      refine lv_iconst (v := 1) hx hb dX1_sellAlmanacs_40 (by decide) ?_
      refine lv_isub hx hb dX1_sellAlmanacs_41 ?_
      refine lv_topi (fun v41 ev41 => ?_)
      refine pg_put (ty := .int) (C := RX1) (T := TX1) (N := 5) hx hb hts hi_X1 tyX1 tyX1_ok nmX1 hown hK hP hN hA hS hL_h0 hf_h0 rfl 3 (by decide) (hts (.fieldLink RX1 19 "BarometerLeague$Village" "coins" "I") (by decide +kernel)) (fun _ h9 => h9) rfl (by decide +kernel) rfl rfl (Nat.le_of_ble_eq_true rfl) dX1_sellAlmanacs_42 (fun H locs hP hS => ?_)
      obtain ⟨f42, ef42⟩ : ∃ z, z = va_up f h0 (eO 2 [.ref w0, .int nu, .int pt, .int v41, .int ro]) := ⟨_, rfl⟩
      replace hP : PP g L f42 H := by rw [ef42]; exact hP
      have hf_w0 : f42 w0 = eI g 8 wt := by rw [ef42, va_up_ne _ _ n_h0_w0.symm]; exact hf_w0
      have hf_h0 : f42 h0 = eO 2 [.ref w0, .int nu, .int pt, .int v41, .int ro] := by rw [ef42]; exact va_up_self _ _ _
      replace hFr : Fr f f42 [h0] := by rw [ef42]; exact hFr.up (by simp)
      exact hend f42 _ _ _ _ (⟨by rw [hf_h0]; exact congrArg (fun z => eO 2 [.ref w0, .int nu, .int pt, .int z, .int ro]) (show v41 = sell1 ro co by unfold sell1; rw [if_pos c5, if_neg c32]; exact ev41), hFr⟩) hP hS dX1_sellAlmanacs_45
  · skip
    refine lv_aload_n hx hb dX1_sellAlmanacs_8 rfl (lv_at hl 0 rfl) ?_
    refine lv_dup hx hb dX1_sellAlmanacs_9 rfl ?_
    refine pg_get (C := RX1) (T := TX1) (N := 5) hx hb hts hi_X1 hown hK hP hL_h0 hf_h0 rfl 3 (by decide) (hts (.fieldLink RX1 19 "BarometerLeague$Village" "coins" "I") (by decide +kernel)) (fun _ h9 => h9) rfl dX1_sellAlmanacs_10 ?_
    refine lv_aload_n hx hb dX1_sellAlmanacs_13 rfl (lv_at hl 0 rfl) ?_
    refine pg_get (C := RX1) (T := TX1) (N := 5) hx hb hts hi_X1 hown hK hP hL_h0 hf_h0 rfl 4 (by decide) (hts (.fieldLink RX1 31 "BarometerLeague$Village" "rowOfHits" "I") (by decide +kernel)) (fun _ h9 => h9) rfl dX1_sellAlmanacs_14 ?_
    refine lv_iconst (v := 5) hx hb dX1_sellAlmanacs_17 (by decide) ?_
    refine va_mmin hx hb (hml.trans hl.1.symm) hown (hts (.methodLink RX1 48 Lib.Math.min.name) (by decide +kernel)) (hts (.static Lib.Math.min.name) (by decide +kernel)) (hts (.initialized "java/lang/Math") (by decide +kernel)) (hts (.code Lib.Math.min.name Lib.Math.min.code 2 (some .int)) (by decide +kernel)) (Nat.le_of_ble_eq_true rfl) (Nat.le_of_ble_eq_true rfl) (Nat.zero_le _) (Nat.zero_le _) dX1_sellAlmanacs_18 ?_
    refine lv_topi (fun v18 ev18 => ?_)
    refine lv_iadd hx hb dX1_sellAlmanacs_21 ?_
    refine lv_topi (fun v21 ev21 => ?_)
    refine pg_put (ty := .int) (C := RX1) (T := TX1) (N := 5) hx hb hts hi_X1 tyX1 tyX1_ok nmX1 hown hK hP hN hA hS hL_h0 hf_h0 rfl 3 (by decide) (hts (.fieldLink RX1 19 "BarometerLeague$Village" "coins" "I") (by decide +kernel)) (fun _ h9 => h9) rfl (by decide +kernel) rfl rfl (Nat.le_of_ble_eq_true rfl) dX1_sellAlmanacs_22 (fun H locs hP hS => ?_)
    obtain ⟨f22, ef22⟩ : ∃ z, z = va_up f h0 (eO 2 [.ref w0, .int nu, .int pt, .int v21, .int ro]) := ⟨_, rfl⟩
    replace hP : PP g L f22 H := by rw [ef22]; exact hP
    have hf_w0 : f22 w0 = eI g 8 wt := by rw [ef22, va_up_ne _ _ n_h0_w0.symm]; exact hf_w0
    have hf_h0 : f22 h0 = eO 2 [.ref w0, .int nu, .int pt, .int v21, .int ro] := by rw [ef22]; exact va_up_self _ _ _
    replace hFr : Fr f f22 [h0] := by rw [ef22]; exact hFr.up (by simp)
    refine lv_goto (tgt := 45) hx hb dX1_sellAlmanacs_25 (by decide) ?_
    exact hend f22 _ _ _ _ (⟨by rw [hf_h0]; exact congrArg (fun z => eO 2 [.ref w0, .int nu, .int pt, .int z, .int ro]) (show v21 = sell1 ro co by unfold sell1; rw [if_neg c5, ev21, ev18]), hFr⟩) hP hS dX1_sellAlmanacs_45

set_option maxHeartbeats 4000000 in
set_option maxRecDepth 100000 in
theorem m_X1_isAheadOf (l : Launch) (g : GG) (L : List Nat) (f : Nat → va_E) (h0 w0 h1 w1 : Nat) (nu pt co ro nu1 pt1 co1 ro1 : Int32) (hL_h0 : h0 ∈ L) (hf_h0 : f h0 = eO 2 [.ref w0, .int nu, .int pt, .int co, .int ro]) (hL_h1 : h1 ∈ L) (hf_h1 : f h1 = eO 2 [.ref w1, .int nu1, .int pt1, .int co1, .int ro1]) : RO l g yX1_isAheadOf wsX1_isAheadOf 0 0 L f [.ref h0, .ref h1] (fun r => r = b2i (aheadB pt co nu pt1 co1 nu1)) := by
  refine RO.start (cc := cX1_isAheadOf) (maxL := 2) (ret := .boolean) (by decide +kernel) rfl (by simp [lg_sl, Value.category]) ?_
  intro p e s m args below meth c Q ls hx hb hml hts hown hP hK hl hend
  have hl : lv_has ls 2 [(0, .ref h0), (1, .ref h1)] := hl
  have hi_X1 : ∀ w ∈ u_ws RX1 TX1 5, w ∈ wsX1_isAheadOf := by decide +kernel
  refine lv_aload_n hx hb dX1_isAheadOf_0 rfl (lv_at hl 0 rfl) ?_
  refine pg_get (C := RX1) (T := TX1) (N := 5) hx hb hts hi_X1 hown hK hP hL_h0 hf_h0 rfl 2 (by decide) (hts (.fieldLink RX1 28 "BarometerLeague$Village" "points" "I") (by decide +kernel)) (fun _ h9 => h9) rfl dX1_isAheadOf_1 ?_
  refine lv_aload_n hx hb dX1_isAheadOf_4 rfl (lv_at hl 1 rfl) ?_
  refine pg_get (C := RX1) (T := TX1) (N := 5) hx hb hts hi_X1 hown hK hP hL_h1 hf_h1 rfl 2 (by decide) (hts (.fieldLink RX1 28 "BarometerLeague$Village" "points" "I") (by decide +kernel)) (fun _ h9 => h9) rfl dX1_isAheadOf_5 ?_
  refine lv_icmp_eq (tgt := 28) hx hb dX1_isAheadOf_8 (by decide) (fun c8 => ?_) (fun c8 => ?_)
  · skip
    refine lv_aload_n hx hb dX1_isAheadOf_28 rfl (lv_at hl 0 rfl) ?_
    refine pg_get (C := RX1) (T := TX1) (N := 5) hx hb hts hi_X1 hown hK hP hL_h0 hf_h0 rfl 3 (by decide) (hts (.fieldLink RX1 19 "BarometerLeague$Village" "coins" "I") (by decide +kernel)) (fun _ h9 => h9) rfl dX1_isAheadOf_29 ?_
    refine lv_aload_n hx hb dX1_isAheadOf_32 rfl (lv_at hl 1 rfl) ?_
    refine pg_get (C := RX1) (T := TX1) (N := 5) hx hb hts hi_X1 hown hK hP hL_h1 hf_h1 rfl 3 (by decide) (hts (.fieldLink RX1 19 "BarometerLeague$Village" "coins" "I") (by decide +kernel)) (fun _ h9 => h9) rfl dX1_isAheadOf_33 ?_
    refine lv_icmp_eq (tgt := 56) hx hb dX1_isAheadOf_36 (by decide) (fun c36 => ?_) (fun c36 => ?_)
    · skip
      refine lv_aload_n hx hb dX1_isAheadOf_56 rfl (lv_at hl 0 rfl) ?_
      refine pg_get (C := RX1) (T := TX1) (N := 5) hx hb hts hi_X1 hown hK hP hL_h0 hf_h0 rfl 1 (by decide) (hts (.fieldLink RX1 15 "BarometerLeague$Village" "number" "I") (by decide +kernel)) (fun _ h9 => h9) rfl dX1_isAheadOf_57 ?_
      refine lv_aload_n hx hb dX1_isAheadOf_60 rfl (lv_at hl 1 rfl) ?_
      refine pg_get (C := RX1) (T := TX1) (N := 5) hx hb hts hi_X1 hown hK hP hL_h1 hf_h1 rfl 1 (by decide) (hts (.fieldLink RX1 15 "BarometerLeague$Village" "number" "I") (by decide +kernel)) (fun _ h9 => h9) rfl dX1_isAheadOf_61 ?_
      refine lv_icmp_ge (tgt := 71) hx hb dX1_isAheadOf_64 (by decide) (fun c64 => ?_) (fun c64 => ?_)
      · skip
        refine lv_iconst (v := 0) hx hb dX1_isAheadOf_71 (by decide) ?_
        exact hend (0) _ _ (bf (ah3 c8 c36) (Int32.not_lt.mpr c64)) rfl dX1_isAheadOf_72
      · skip
        refine lv_iconst (v := 1) hx hb dX1_isAheadOf_67 (by decide) ?_
        refine lv_goto (tgt := 72) hx hb dX1_isAheadOf_68 (by decide) ?_
        exact hend (1) _ _ (bt (ah3 c8 c36) (Int32.not_le.mp c64)) rfl dX1_isAheadOf_72
    · skip
      refine lv_aload_n hx hb dX1_isAheadOf_39 rfl (lv_at hl 0 rfl) ?_
      refine pg_get (C := RX1) (T := TX1) (N := 5) hx hb hts hi_X1 hown hK hP hL_h0 hf_h0 rfl 3 (by decide) (hts (.fieldLink RX1 19 "BarometerLeague$Village" "coins" "I") (by decide +kernel)) (fun _ h9 => h9) rfl dX1_isAheadOf_40 ?_
      refine lv_aload_n hx hb dX1_isAheadOf_43 rfl (lv_at hl 1 rfl) ?_
      refine pg_get (C := RX1) (T := TX1) (N := 5) hx hb hts hi_X1 hown hK hP hL_h1 hf_h1 rfl 3 (by decide) (hts (.fieldLink RX1 19 "BarometerLeague$Village" "coins" "I") (by decide +kernel)) (fun _ h9 => h9) rfl dX1_isAheadOf_44 ?_
      refine lv_icmp_le (tgt := 54) hx hb dX1_isAheadOf_47 (by decide) (fun c47 => ?_) (fun c47 => ?_)
      · skip
        refine lv_iconst (v := 0) hx hb dX1_isAheadOf_54 (by decide) ?_
        exact hend (0) _ _ (bf (ah2 c8 c36) (Int32.not_lt.mpr c47)) rfl dX1_isAheadOf_55
      · skip
        refine lv_iconst (v := 1) hx hb dX1_isAheadOf_50 (by decide) ?_
        refine lv_goto (tgt := 55) hx hb dX1_isAheadOf_51 (by decide) ?_
        exact hend (1) _ _ (bt (ah2 c8 c36) (Int32.not_le.mp c47)) rfl dX1_isAheadOf_55
  · skip
    refine lv_aload_n hx hb dX1_isAheadOf_11 rfl (lv_at hl 0 rfl) ?_
    refine pg_get (C := RX1) (T := TX1) (N := 5) hx hb hts hi_X1 hown hK hP hL_h0 hf_h0 rfl 2 (by decide) (hts (.fieldLink RX1 28 "BarometerLeague$Village" "points" "I") (by decide +kernel)) (fun _ h9 => h9) rfl dX1_isAheadOf_12 ?_
    refine lv_aload_n hx hb dX1_isAheadOf_15 rfl (lv_at hl 1 rfl) ?_
    refine pg_get (C := RX1) (T := TX1) (N := 5) hx hb hts hi_X1 hown hK hP hL_h1 hf_h1 rfl 2 (by decide) (hts (.fieldLink RX1 28 "BarometerLeague$Village" "points" "I") (by decide +kernel)) (fun _ h9 => h9) rfl dX1_isAheadOf_16 ?_
    refine lv_icmp_le (tgt := 26) hx hb dX1_isAheadOf_19 (by decide) (fun c19 => ?_) (fun c19 => ?_)
    · skip
      refine lv_iconst (v := 0) hx hb dX1_isAheadOf_26 (by decide) ?_
      exact hend (0) _ _ (bf (ah1 c8) (Int32.not_lt.mpr c19)) rfl dX1_isAheadOf_27
    · skip
      refine lv_iconst (v := 1) hx hb dX1_isAheadOf_22 (by decide) ?_
      refine lv_goto (tgt := 27) hx hb dX1_isAheadOf_23 (by decide) ?_
      exact hend (1) _ _ (bt (ah1 c8) (Int32.not_le.mp c19)) rfl dX1_isAheadOf_27

set_option maxHeartbeats 4000000 in
set_option maxRecDepth 100000 in
theorem m_X1_becomeLike (l : Launch) (g : GG) (L : List Nat) (f : Nat → va_E) (sz : Nat) (hN : L.Nodup) (h0 w0 : Nat) (nu pt co ro : Int32) (wt : Nat → Int32) (h1 w1 : Nat) (nu1 pt1 co1 ro1 : Int32) (wt1 : Nat → Int32) (hL_h0 : h0 ∈ L) (hf_h0 : f h0 = eO 2 [.ref w0, .int nu, .int pt, .int co, .int ro]) (hL_w0 : w0 ∈ L) (hf_w0 : f w0 = eI g 8 wt) (hL_h1 : h1 ∈ L) (hf_h1 : f h1 = eO 2 [.ref w1, .int nu1, .int pt1, .int co1, .int ro1]) (hL_w1 : w1 ∈ L) (hf_w1 : f w1 = eI g 8 wt1) (n_h0_h1 : h0 ≠ h1) (n_w0_w1 : w0 ≠ w1) : RV l g yX1_becomeLike wsX1_becomeLike 0 0 L f sz [.ref h0, .ref h1] (fun f2 => f2 h0 = eO 2 [.ref w0, .int nu1, .int pt1, .int co1, .int ro1] ∧ f2 w0 = eI g 8 (mapN (fun j _ => wt1 j) wt 8) ∧ Fr f f2 [h0, w0]) := by
  refine RV.start (cc := cX1_becomeLike) (maxL := 3) (by decide +kernel) rfl (by simp [lg_sl, Value.category]) ?_
  intro p e s m args below meth c Q ls A hx hb hml hts hown hA hA2 hS hP hK hl hend
  have hl : lv_has ls 3 [(0, .ref h0), (1, .ref h1)] := hl
  have hi_X1 : ∀ w ∈ u_ws RX1 TX1 5, w ∈ wsX1_becomeLike := by decide +kernel
  have hFr : Fr f f [h0, w0] := Fr.rf
  have n_h0_w0 : h0 ≠ w0 := ne_e hf_h0 hf_w0 (by simp)
  have n_h0_w1 : h0 ≠ w1 := ne_e hf_h0 hf_w1 (by simp)
  have n_w0_h1 : w0 ≠ h1 := ne_e hf_w0 hf_h1 (by simp)
  have n_h1_w1 : h1 ≠ w1 := ne_e hf_h1 hf_w1 (by simp)
  have h0f_h0 := hf_h0
  have h0f_w0 := hf_w0
  have h0f_h1 := hf_h1
  have h0f_w1 := hf_w1
  refine lv_aload_n hx hb dX1_becomeLike_0 rfl (lv_at hl 0 rfl) ?_
  refine lv_aload_n hx hb dX1_becomeLike_1 rfl (lv_at hl 1 rfl) ?_
  refine pg_get (C := RX1) (T := TX1) (N := 5) hx hb hts hi_X1 hown hK hP hL_h1 hf_h1 rfl 1 (by decide) (hts (.fieldLink RX1 15 "BarometerLeague$Village" "number" "I") (by decide +kernel)) (fun _ h9 => h9) rfl dX1_becomeLike_2 ?_
  refine pg_put (ty := .int) (C := RX1) (T := TX1) (N := 5) hx hb hts hi_X1 tyX1 tyX1_ok nmX1 hown hK hP hN hA hS hL_h0 hf_h0 rfl 1 (by decide) (hts (.fieldLink RX1 15 "BarometerLeague$Village" "number" "I") (by decide +kernel)) (fun _ h9 => h9) rfl (by decide +kernel) rfl rfl (Nat.le_of_ble_eq_true rfl) dX1_becomeLike_5 (fun H locs hP hS => ?_)
  obtain ⟨f5, ef5⟩ : ∃ z, z = va_up f h0 (eO 2 [.ref w0, .int nu1, .int pt, .int co, .int ro]) := ⟨_, rfl⟩
  replace hP : PP g L f5 H := by rw [ef5]; exact hP
  have hf_w0 : f5 w0 = eI g 8 wt := by rw [ef5, va_up_ne _ _ n_h0_w0.symm]; exact hf_w0
  have hf_h1 : f5 h1 = eO 2 [.ref w1, .int nu1, .int pt1, .int co1, .int ro1] := by rw [ef5, va_up_ne _ _ n_h0_h1.symm]; exact hf_h1
  have hf_w1 : f5 w1 = eI g 8 wt1 := by rw [ef5, va_up_ne _ _ n_h0_w1.symm]; exact hf_w1
  have hf_h0 : f5 h0 = eO 2 [.ref w0, .int nu1, .int pt, .int co, .int ro] := by rw [ef5]; exact va_up_self _ _ _
  replace hFr : Fr f f5 [h0, w0] := by rw [ef5]; exact hFr.up (by simp)
  refine lv_aload_n hx hb dX1_becomeLike_8 rfl (lv_at hl 0 rfl) ?_
  refine lv_aload_n hx hb dX1_becomeLike_9 rfl (lv_at hl 1 rfl) ?_
  refine pg_get (C := RX1) (T := TX1) (N := 5) hx hb hts hi_X1 hown hK hP hL_h1 hf_h1 rfl 2 (by decide) (hts (.fieldLink RX1 28 "BarometerLeague$Village" "points" "I") (by decide +kernel)) (fun _ h9 => h9) rfl dX1_becomeLike_10 ?_
  refine pg_put (ty := .int) (C := RX1) (T := TX1) (N := 5) hx hb hts hi_X1 tyX1 tyX1_ok nmX1 hown hK hP hN hA hS hL_h0 hf_h0 rfl 2 (by decide) (hts (.fieldLink RX1 28 "BarometerLeague$Village" "points" "I") (by decide +kernel)) (fun _ h9 => h9) rfl (by decide +kernel) rfl rfl (Nat.le_of_ble_eq_true rfl) dX1_becomeLike_13 (fun H locs hP hS => ?_)
  obtain ⟨f13, ef13⟩ : ∃ z, z = va_up f5 h0 (eO 2 [.ref w0, .int nu1, .int pt1, .int co, .int ro]) := ⟨_, rfl⟩
  replace hP : PP g L f13 H := by rw [ef13]; exact hP
  have hf_w0 : f13 w0 = eI g 8 wt := by rw [ef13, va_up_ne _ _ n_h0_w0.symm]; exact hf_w0
  have hf_h1 : f13 h1 = eO 2 [.ref w1, .int nu1, .int pt1, .int co1, .int ro1] := by rw [ef13, va_up_ne _ _ n_h0_h1.symm]; exact hf_h1
  have hf_w1 : f13 w1 = eI g 8 wt1 := by rw [ef13, va_up_ne _ _ n_h0_w1.symm]; exact hf_w1
  have hf_h0 : f13 h0 = eO 2 [.ref w0, .int nu1, .int pt1, .int co, .int ro] := by rw [ef13]; exact va_up_self _ _ _
  replace hFr : Fr f f13 [h0, w0] := by rw [ef13]; exact hFr.up (by simp)
  refine lv_aload_n hx hb dX1_becomeLike_16 rfl (lv_at hl 0 rfl) ?_
  refine lv_aload_n hx hb dX1_becomeLike_17 rfl (lv_at hl 1 rfl) ?_
  refine pg_get (C := RX1) (T := TX1) (N := 5) hx hb hts hi_X1 hown hK hP hL_h1 hf_h1 rfl 3 (by decide) (hts (.fieldLink RX1 19 "BarometerLeague$Village" "coins" "I") (by decide +kernel)) (fun _ h9 => h9) rfl dX1_becomeLike_18 ?_
  refine pg_put (ty := .int) (C := RX1) (T := TX1) (N := 5) hx hb hts hi_X1 tyX1 tyX1_ok nmX1 hown hK hP hN hA hS hL_h0 hf_h0 rfl 3 (by decide) (hts (.fieldLink RX1 19 "BarometerLeague$Village" "coins" "I") (by decide +kernel)) (fun _ h9 => h9) rfl (by decide +kernel) rfl rfl (Nat.le_of_ble_eq_true rfl) dX1_becomeLike_21 (fun H locs hP hS => ?_)
  obtain ⟨f21, ef21⟩ : ∃ z, z = va_up f13 h0 (eO 2 [.ref w0, .int nu1, .int pt1, .int co1, .int ro]) := ⟨_, rfl⟩
  replace hP : PP g L f21 H := by rw [ef21]; exact hP
  have hf_w0 : f21 w0 = eI g 8 wt := by rw [ef21, va_up_ne _ _ n_h0_w0.symm]; exact hf_w0
  have hf_h1 : f21 h1 = eO 2 [.ref w1, .int nu1, .int pt1, .int co1, .int ro1] := by rw [ef21, va_up_ne _ _ n_h0_h1.symm]; exact hf_h1
  have hf_w1 : f21 w1 = eI g 8 wt1 := by rw [ef21, va_up_ne _ _ n_h0_w1.symm]; exact hf_w1
  have hf_h0 : f21 h0 = eO 2 [.ref w0, .int nu1, .int pt1, .int co1, .int ro] := by rw [ef21]; exact va_up_self _ _ _
  replace hFr : Fr f f21 [h0, w0] := by rw [ef21]; exact hFr.up (by simp)
  refine lv_aload_n hx hb dX1_becomeLike_24 rfl (lv_at hl 0 rfl) ?_
  refine lv_aload_n hx hb dX1_becomeLike_25 rfl (lv_at hl 1 rfl) ?_
  refine pg_get (C := RX1) (T := TX1) (N := 5) hx hb hts hi_X1 hown hK hP hL_h1 hf_h1 rfl 4 (by decide) (hts (.fieldLink RX1 31 "BarometerLeague$Village" "rowOfHits" "I") (by decide +kernel)) (fun _ h9 => h9) rfl dX1_becomeLike_26 ?_
  refine pg_put (ty := .int) (C := RX1) (T := TX1) (N := 5) hx hb hts hi_X1 tyX1 tyX1_ok nmX1 hown hK hP hN hA hS hL_h0 hf_h0 rfl 4 (by decide) (hts (.fieldLink RX1 31 "BarometerLeague$Village" "rowOfHits" "I") (by decide +kernel)) (fun _ h9 => h9) rfl (by decide +kernel) rfl rfl (Nat.le_of_ble_eq_true rfl) dX1_becomeLike_29 (fun H locs hP hS => ?_)
  obtain ⟨f29, ef29⟩ : ∃ z, z = va_up f21 h0 (eO 2 [.ref w0, .int nu1, .int pt1, .int co1, .int ro1]) := ⟨_, rfl⟩
  replace hP : PP g L f29 H := by rw [ef29]; exact hP
  have hf_w0 : f29 w0 = eI g 8 wt := by rw [ef29, va_up_ne _ _ n_h0_w0.symm]; exact hf_w0
  have hf_h1 : f29 h1 = eO 2 [.ref w1, .int nu1, .int pt1, .int co1, .int ro1] := by rw [ef29, va_up_ne _ _ n_h0_h1.symm]; exact hf_h1
  have hf_w1 : f29 w1 = eI g 8 wt1 := by rw [ef29, va_up_ne _ _ n_h0_w1.symm]; exact hf_w1
  have hf_h0 : f29 h0 = eO 2 [.ref w0, .int nu1, .int pt1, .int co1, .int ro1] := by rw [ef29]; exact va_up_self _ _ _
  replace hFr : Fr f f29 [h0, w0] := by rw [ef29]; exact hFr.up (by simp)
  refine lv_iconst (v := 0) hx hb dX1_becomeLike_32 (by decide) ?_
  refine lv_istore_n (lv' := [(2, .int 0), (0, .ref h0), (1, .ref h1)]) hx hb dX1_becomeLike_33 rfl hl (by decide) rfl (fun ls hl => ?_)
  have hf_w0 : f29 w0 = eI g 8 (mapN (fun j _ => wt1 j) wt 0) := by rw [hf_w0, mapN_0]
  have K34 : ∀ (n34 : Nat) (i : Nat) (f34 : Nat → va_E) (H : Heap) (locs : List Loc), 8 - i < n34 → i ≤ 8 → f34 h0 = eO 2 [.ref w0, .int nu1, .int pt1, .int co1, .int ro1] → f34 w0 = eI g 8 (mapN (fun j _ => wt1 j) wt i) → Fr f f34 [h0, w0] → PP g L f34 H → va_S A s.heap H locs → ∀ (ls : Array Slot), lv_has ls 3 [(2, .int (nI i)), (1, .ref h1), (0, .ref h0)] → W p l e ({ frames := 0, cells := 0, slots := 0, locals := 0 } : Room) s m args below meth c H locs 0 0 Q (F0 m 34 ls []) := by
    intro n34
    induction n34 with
    | zero => intros; omega
    | succ n34 ih34 =>
      intro i f34 H locs hm34 hi hq34_0 hq34_1 hFr hP hS ls hl
      have hf_h1 : f34 h1 = eO 2 [.ref w1, .int nu1, .int pt1, .int co1, .int ro1] := hFr.get h0f_h1 (nm_c n_h0_h1.symm (nm_c n_w0_h1.symm (List.not_mem_nil)))
      have hf_w1 : f34 w1 = eI g 8 wt1 := hFr.get h0f_w1 (nm_c n_h0_w1.symm (nm_c n_w0_w1.symm (List.not_mem_nil)))
      have hf_h0 : f34 h0 = eO 2 [.ref w0, .int nu1, .int pt1, .int co1, .int ro1] := hq34_0
      have hf_w0 : f34 w0 = eI g 8 (mapN (fun j _ => wt1 j) wt i) := hq34_1
      refine lv_iload_n hx hb dX1_becomeLike_34 rfl (lv_at hl 0 rfl) ?_
      refine lv_aload_n hx hb dX1_becomeLike_35 rfl (lv_at hl 2 rfl) ?_
      refine pg_get (C := RX1) (T := TX1) (N := 5) hx hb hts hi_X1 hown hK hP hL_h0 hf_h0 rfl 0 (by decide) (hts (.fieldLink RX1 9 "BarometerLeague$Village" "weights" "[I") (by decide +kernel)) (fun _ h9 => h9) rfl dX1_becomeLike_36 ?_
      refine pg_alen hx hb hK hP hL_w0 hf_w0 0 rfl (v := nI 8) rfl dX1_becomeLike_39 ?_
      refine lv_icmp_ge (tgt := 70) hx hb dX1_becomeLike_40 (by decide) (fun c40 => ?_) (fun c40 => ?_)
      · skip
        have c40 : 8 ≤ i := (nI_leI (a := 8) (b := i) (by omega) (by omega)).mp (show nI 8 ≤ nI i from c40)
        exact hend f34 _ _ _ _ (⟨hf_h0, by rw [hf_w0, show i = 8 from (by omega)], hFr⟩) hP hS dX1_becomeLike_70
      · skip
        have c40 : ¬ 8 ≤ i := fun h => c40 ((nI_leI (a := 8) (b := i) (by omega) (by omega)).mpr h)
        refine lv_iload_n hx hb dX1_becomeLike_43 rfl (lv_at hl 0 rfl) ?_
        refine lv_aload_n hx hb dX1_becomeLike_44 rfl (lv_at hl 1 rfl) ?_
        refine pg_get (C := RX1) (T := TX1) (N := 5) hx hb hts hi_X1 hown hK hP hL_h1 hf_h1 rfl 0 (by decide) (hts (.fieldLink RX1 9 "BarometerLeague$Village" "weights" "[I") (by decide +kernel)) (fun _ h9 => h9) rfl dX1_becomeLike_45 ?_
        refine pg_alen hx hb hK hP hL_w1 hf_w1 0 rfl (v := nI 8) rfl dX1_becomeLike_48 ?_
        refine lv_icmp_ge (tgt := 70) hx hb dX1_becomeLike_49 (by decide) (fun c49 => by exfalso; have c49 := (nI_leI (a := 8) (b := i) (by omega) (by omega)).mp (show nI 8 ≤ nI i from c49); omega) (fun c49 => ?_)
        have c49 : ¬ 8 ≤ i := fun h => c49 ((nI_leI (a := 8) (b := i) (by omega) (by omega)).mpr h)
        refine lv_aload_n hx hb dX1_becomeLike_52 rfl (lv_at hl 2 rfl) ?_
        refine pg_get (C := RX1) (T := TX1) (N := 5) hx hb hts hi_X1 hown hK hP hL_h0 hf_h0 rfl 0 (by decide) (hts (.fieldLink RX1 9 "BarometerLeague$Village" "weights" "[I") (by decide +kernel)) (fun _ h9 => h9) rfl dX1_becomeLike_53 ?_
        refine lv_iload_n hx hb dX1_becomeLike_56 rfl (lv_at hl 0 rfl) ?_
        refine lv_aload_n hx hb dX1_becomeLike_57 rfl (lv_at hl 1 rfl) ?_
        refine pg_get (C := RX1) (T := TX1) (N := 5) hx hb hts hi_X1 hown hK hP hL_h1 hf_h1 rfl 0 (by decide) (hts (.fieldLink RX1 9 "BarometerLeague$Village" "weights" "[I") (by decide +kernel)) (fun _ h9 => h9) rfl dX1_becomeLike_58 ?_
        refine lv_iload_n hx hb dX1_becomeLike_61 rfl (lv_at hl 0 rfl) ?_
        refine pn_iald (j := i) hx hb hK hP hL_w1 hf_w1 rfl (by omega) (Nat.lt_of_lt_of_le (m := 100) (by omega) (by omega)) dX1_becomeLike_62 ?_
        refine pn_iast (j := i) hx hb hK hP hN hA hS hL_w0 hf_w0 rfl (by omega) (Nat.lt_of_lt_of_le (m := 100) (by omega) (by omega)) dX1_becomeLike_63 (fun H locs hP hS => ?_)
        obtain ⟨f63, ef63⟩ : ∃ z, z = va_up f34 w0 (eI g 8 (upd (mapN (fun j _ => wt1 j) wt i) i (wt1 i))) := ⟨_, rfl⟩
        replace hP : PP g L f63 H := by rw [ef63]; exact hP
        have hf_h0 : f63 h0 = eO 2 [.ref w0, .int nu1, .int pt1, .int co1, .int ro1] := by rw [ef63, va_up_ne _ _ n_h0_w0]; exact hf_h0
        have hf_h1 : f63 h1 = eO 2 [.ref w1, .int nu1, .int pt1, .int co1, .int ro1] := by rw [ef63, va_up_ne _ _ n_w0_h1.symm]; exact hf_h1
        have hf_w1 : f63 w1 = eI g 8 wt1 := by rw [ef63, va_up_ne _ _ n_w0_w1.symm]; exact hf_w1
        have hf_w0 : f63 w0 = eI g 8 (upd (mapN (fun j _ => wt1 j) wt i) i (wt1 i)) := by rw [ef63]; exact va_up_self _ _ _
        replace hFr : Fr f f63 [h0, w0] := by rw [ef63]; exact hFr.up (by simp)
        refine lv_iinc (v := nI (i + 1)) (lv' := [(2, .int (nI (i + 1))), (1, .ref h1), (0, .ref h0)]) hx hb dX1_becomeLike_64 hl (k := 0) rfl (nI_1 _) (by decide) rfl (fun ls hl => ?_)
        refine lv_goto (tgt := 34) hx hb dX1_becomeLike_67 (by decide) ?_
        have hf_w0 : f63 w0 = eI g 8 (mapN (fun j _ => wt1 j) wt (i + 1)) := by rw [hf_w0, mapN_s rfl]
        exact ih34 (i + 1) f63 H locs (by omega) (by omega) hf_h0 hf_w0 hFr hP hS ls (lv_sub hl [0, 1, 2] rfl)
  exact K34 _ 0 f29 _ _ (Nat.lt_succ_self _) (Nat.zero_le _) hf_h0 hf_w0 hFr hP hS ls (lv_sub hl [0, 2, 1] rfl)

set_option maxHeartbeats 4000000 in
set_option maxRecDepth 100000 in
theorem m_X1_buyWeightsOf (l : Launch) (g : GG) (L : List Nat) (f : Nat → va_E) (sz : Nat) (hN : L.Nodup) (h0 w0 : Nat) (nu pt co ro : Int32) (wt : Nat → Int32) (h1 w1 : Nat) (nu1 pt1 co1 ro1 : Int32) (wt1 : Nat → Int32) (hL_h0 : h0 ∈ L) (hf_h0 : f h0 = eO 2 [.ref w0, .int nu, .int pt, .int co, .int ro]) (hL_w0 : w0 ∈ L) (hf_w0 : f w0 = eI g 8 wt) (hL_h1 : h1 ∈ L) (hf_h1 : f h1 = eO 2 [.ref w1, .int nu1, .int pt1, .int co1, .int ro1]) (hL_w1 : w1 ∈ L) (hf_w1 : f w1 = eI g 8 wt1) (n_h0_h1 : h0 ≠ h1) (n_w0_w1 : w0 ≠ w1) : RV l g yX1_buyWeightsOf wsX1_buyWeightsOf 0 0 L f sz [.ref h0, .ref h1] (fun f2 => f2 h0 = eO 2 [.ref w0, .int nu, .int pt, .int (co - 5), .int ro] ∧ f2 w0 = eI g 8 (mapN (fun j w => (w + wt1 j) / 2) wt 8) ∧ f2 h1 = eO 2 [.ref w1, .int nu1, .int pt1, .int (co1 + 5), .int ro1] ∧ Fr f f2 [h0, w0, h1]) := by
  refine RV.start (cc := cX1_buyWeightsOf) (maxL := 3) (by decide +kernel) rfl (by simp [lg_sl, Value.category]) ?_
  intro p e s m args below meth c Q ls A hx hb hml hts hown hA hA2 hS hP hK hl hend
  have hl : lv_has ls 3 [(0, .ref h0), (1, .ref h1)] := hl
  have hi_X1 : ∀ w ∈ u_ws RX1 TX1 5, w ∈ wsX1_buyWeightsOf := by decide +kernel
  have hFr : Fr f f [h0, w0, h1] := Fr.rf
  have n_h0_w0 : h0 ≠ w0 := ne_e hf_h0 hf_w0 (by simp)
  have n_h0_w1 : h0 ≠ w1 := ne_e hf_h0 hf_w1 (by simp)
  have n_w0_h1 : w0 ≠ h1 := ne_e hf_w0 hf_h1 (by simp)
  have n_h1_w1 : h1 ≠ w1 := ne_e hf_h1 hf_w1 (by simp)
  have h0f_h0 := hf_h0
  have h0f_w0 := hf_w0
  have h0f_h1 := hf_h1
  have h0f_w1 := hf_w1
  refine lv_aload_n hx hb dX1_buyWeightsOf_0 rfl (lv_at hl 0 rfl) ?_
  refine lv_dup hx hb dX1_buyWeightsOf_1 rfl ?_
  refine pg_get (C := RX1) (T := TX1) (N := 5) hx hb hts hi_X1 hown hK hP hL_h0 hf_h0 rfl 3 (by decide) (hts (.fieldLink RX1 19 "BarometerLeague$Village" "coins" "I") (by decide +kernel)) (fun _ h9 => h9) rfl dX1_buyWeightsOf_2 ?_
  refine lv_iconst (v := 5) hx hb dX1_buyWeightsOf_5 (by decide) ?_
  refine lv_isub hx hb dX1_buyWeightsOf_6 ?_
  refine lv_topi (fun v6 ev6 => ?_)
  refine pg_put (ty := .int) (C := RX1) (T := TX1) (N := 5) hx hb hts hi_X1 tyX1 tyX1_ok nmX1 hown hK hP hN hA hS hL_h0 hf_h0 rfl 3 (by decide) (hts (.fieldLink RX1 19 "BarometerLeague$Village" "coins" "I") (by decide +kernel)) (fun _ h9 => h9) rfl (by decide +kernel) rfl rfl (Nat.le_of_ble_eq_true rfl) dX1_buyWeightsOf_7 (fun H locs hP hS => ?_)
  obtain ⟨f7, ef7⟩ : ∃ z, z = va_up f h0 (eO 2 [.ref w0, .int nu, .int pt, .int v6, .int ro]) := ⟨_, rfl⟩
  replace hP : PP g L f7 H := by rw [ef7]; exact hP
  have hf_w0 : f7 w0 = eI g 8 wt := by rw [ef7, va_up_ne _ _ n_h0_w0.symm]; exact hf_w0
  have hf_h1 : f7 h1 = eO 2 [.ref w1, .int nu1, .int pt1, .int co1, .int ro1] := by rw [ef7, va_up_ne _ _ n_h0_h1.symm]; exact hf_h1
  have hf_w1 : f7 w1 = eI g 8 wt1 := by rw [ef7, va_up_ne _ _ n_h0_w1.symm]; exact hf_w1
  have hf_h0 : f7 h0 = eO 2 [.ref w0, .int nu, .int pt, .int v6, .int ro] := by rw [ef7]; exact va_up_self _ _ _
  replace hFr : Fr f f7 [h0, w0, h1] := by rw [ef7]; exact hFr.up (by simp)
  refine lv_aload_n hx hb dX1_buyWeightsOf_10 rfl (lv_at hl 1 rfl) ?_
  refine lv_dup hx hb dX1_buyWeightsOf_11 rfl ?_
  refine pg_get (C := RX1) (T := TX1) (N := 5) hx hb hts hi_X1 hown hK hP hL_h1 hf_h1 rfl 3 (by decide) (hts (.fieldLink RX1 19 "BarometerLeague$Village" "coins" "I") (by decide +kernel)) (fun _ h9 => h9) rfl dX1_buyWeightsOf_12 ?_
  refine lv_iconst (v := 5) hx hb dX1_buyWeightsOf_15 (by decide) ?_
  refine lv_iadd hx hb dX1_buyWeightsOf_16 ?_
  refine lv_topi (fun v16 ev16 => ?_)
  refine pg_put (ty := .int) (C := RX1) (T := TX1) (N := 5) hx hb hts hi_X1 tyX1 tyX1_ok nmX1 hown hK hP hN hA hS hL_h1 hf_h1 rfl 3 (by decide) (hts (.fieldLink RX1 19 "BarometerLeague$Village" "coins" "I") (by decide +kernel)) (fun _ h9 => h9) rfl (by decide +kernel) rfl rfl (Nat.le_of_ble_eq_true rfl) dX1_buyWeightsOf_17 (fun H locs hP hS => ?_)
  obtain ⟨f17, ef17⟩ : ∃ z, z = va_up f7 h1 (eO 2 [.ref w1, .int nu1, .int pt1, .int v16, .int ro1]) := ⟨_, rfl⟩
  replace hP : PP g L f17 H := by rw [ef17]; exact hP
  have hf_h0 : f17 h0 = eO 2 [.ref w0, .int nu, .int pt, .int v6, .int ro] := by rw [ef17, va_up_ne _ _ n_h0_h1]; exact hf_h0
  have hf_w0 : f17 w0 = eI g 8 wt := by rw [ef17, va_up_ne _ _ n_w0_h1]; exact hf_w0
  have hf_w1 : f17 w1 = eI g 8 wt1 := by rw [ef17, va_up_ne _ _ n_h1_w1.symm]; exact hf_w1
  have hf_h1 : f17 h1 = eO 2 [.ref w1, .int nu1, .int pt1, .int v16, .int ro1] := by rw [ef17]; exact va_up_self _ _ _
  replace hFr : Fr f f17 [h0, w0, h1] := by rw [ef17]; exact hFr.up (by simp)
  refine lv_iconst (v := 0) hx hb dX1_buyWeightsOf_20 (by decide) ?_
  refine lv_istore_n (lv' := [(2, .int 0), (0, .ref h0), (1, .ref h1)]) hx hb dX1_buyWeightsOf_21 rfl hl (by decide) rfl (fun ls hl => ?_)
  have hf_w0 : f17 w0 = eI g 8 (mapN (fun j w => (w + wt1 j) / 2) wt 0) := by rw [hf_w0, mapN_0]
  rw [ev6] at hf_h0
  rw [ev16] at hf_h1
  have K22 : ∀ (n22 : Nat) (i : Nat) (f22 : Nat → va_E) (H : Heap) (locs : List Loc), 8 - i < n22 → i ≤ 8 → f22 h0 = eO 2 [.ref w0, .int nu, .int pt, .int (co - 5), .int ro] → f22 h1 = eO 2 [.ref w1, .int nu1, .int pt1, .int (co1 + 5), .int ro1] → f22 w0 = eI g 8 (mapN (fun j w => (w + wt1 j) / 2) wt i) → Fr f f22 [h0, w0, h1] → PP g L f22 H → va_S A s.heap H locs → ∀ (ls : Array Slot), lv_has ls 3 [(2, .int (nI i)), (1, .ref h1), (0, .ref h0)] → W p l e ({ frames := 0, cells := 0, slots := 0, locals := 0 } : Room) s m args below meth c H locs 0 0 Q (F0 m 22 ls []) := by
    intro n22
    induction n22 with
    | zero => intros; omega
    | succ n22 ih22 =>
      intro i f22 H locs hm22 hi hq22_0 hq22_1 hq22_2 hFr hP hS ls hl
      have hf_w1 : f22 w1 = eI g 8 wt1 := hFr.get h0f_w1 (nm_c n_h0_w1.symm (nm_c n_w0_w1.symm (nm_c n_h1_w1.symm (List.not_mem_nil))))
      have hf_h0 : f22 h0 = eO 2 [.ref w0, .int nu, .int pt, .int (co - 5), .int ro] := hq22_0
      have hf_h1 : f22 h1 = eO 2 [.ref w1, .int nu1, .int pt1, .int (co1 + 5), .int ro1] := hq22_1
      have hf_w0 : f22 w0 = eI g 8 (mapN (fun j w => (w + wt1 j) / 2) wt i) := hq22_2
      refine lv_iload_n hx hb dX1_buyWeightsOf_22 rfl (lv_at hl 0 rfl) ?_
      refine lv_aload_n hx hb dX1_buyWeightsOf_23 rfl (lv_at hl 2 rfl) ?_
      refine pg_get (C := RX1) (T := TX1) (N := 5) hx hb hts hi_X1 hown hK hP hL_h0 hf_h0 rfl 0 (by decide) (hts (.fieldLink RX1 9 "BarometerLeague$Village" "weights" "[I") (by decide +kernel)) (fun _ h9 => h9) rfl dX1_buyWeightsOf_24 ?_
      refine pg_alen hx hb hK hP hL_w0 hf_w0 0 rfl (v := nI 8) rfl dX1_buyWeightsOf_27 ?_
      refine lv_icmp_ge (tgt := 67) hx hb dX1_buyWeightsOf_28 (by decide) (fun c28 => ?_) (fun c28 => ?_)
      · skip
        have c28 : 8 ≤ i := (nI_leI (a := 8) (b := i) (by omega) (by omega)).mp (show nI 8 ≤ nI i from c28)
        exact hend f22 _ _ _ _ (⟨hf_h0, by rw [hf_w0, show i = 8 from (by omega)], hf_h1, hFr⟩) hP hS dX1_buyWeightsOf_67
      · skip
        have c28 : ¬ 8 ≤ i := fun h => c28 ((nI_leI (a := 8) (b := i) (by omega) (by omega)).mpr h)
        refine lv_iload_n hx hb dX1_buyWeightsOf_31 rfl (lv_at hl 0 rfl) ?_
        refine lv_aload_n hx hb dX1_buyWeightsOf_32 rfl (lv_at hl 1 rfl) ?_
        refine pg_get (C := RX1) (T := TX1) (N := 5) hx hb hts hi_X1 hown hK hP hL_h1 hf_h1 rfl 0 (by decide) (hts (.fieldLink RX1 9 "BarometerLeague$Village" "weights" "[I") (by decide +kernel)) (fun _ h9 => h9) rfl dX1_buyWeightsOf_33 ?_
        refine pg_alen hx hb hK hP hL_w1 hf_w1 0 rfl (v := nI 8) rfl dX1_buyWeightsOf_36 ?_
        refine lv_icmp_ge (tgt := 67) hx hb dX1_buyWeightsOf_37 (by decide) (fun c37 => ?_) (fun c37 => ?_)
        · skip
          have c37 : 8 ≤ i := (nI_leI (a := 8) (b := i) (by omega) (by omega)).mp (show nI 8 ≤ nI i from c37)
          exact hend f22 _ _ _ _ (⟨hf_h0, by rw [hf_w0, show i = 8 from (by omega)], hf_h1, hFr⟩) hP hS dX1_buyWeightsOf_67
        · skip
          have c37 : ¬ 8 ≤ i := fun h => c37 ((nI_leI (a := 8) (b := i) (by omega) (by omega)).mpr h)
          refine lv_aload_n hx hb dX1_buyWeightsOf_40 rfl (lv_at hl 2 rfl) ?_
          refine pg_get (C := RX1) (T := TX1) (N := 5) hx hb hts hi_X1 hown hK hP hL_h0 hf_h0 rfl 0 (by decide) (hts (.fieldLink RX1 9 "BarometerLeague$Village" "weights" "[I") (by decide +kernel)) (fun _ h9 => h9) rfl dX1_buyWeightsOf_41 ?_
          refine lv_iload_n hx hb dX1_buyWeightsOf_44 rfl (lv_at hl 0 rfl) ?_
          refine lv_aload_n hx hb dX1_buyWeightsOf_45 rfl (lv_at hl 2 rfl) ?_
          refine pg_get (C := RX1) (T := TX1) (N := 5) hx hb hts hi_X1 hown hK hP hL_h0 hf_h0 rfl 0 (by decide) (hts (.fieldLink RX1 9 "BarometerLeague$Village" "weights" "[I") (by decide +kernel)) (fun _ h9 => h9) rfl dX1_buyWeightsOf_46 ?_
          refine lv_iload_n hx hb dX1_buyWeightsOf_49 rfl (lv_at hl 0 rfl) ?_
          refine pn_iald (j := i) hx hb hK hP hL_w0 hf_w0 rfl (by omega) (Nat.lt_of_lt_of_le (m := 100) (by omega) (by omega)) dX1_buyWeightsOf_50 ?_
          refine lv_aload_n hx hb dX1_buyWeightsOf_51 rfl (lv_at hl 1 rfl) ?_
          refine pg_get (C := RX1) (T := TX1) (N := 5) hx hb hts hi_X1 hown hK hP hL_h1 hf_h1 rfl 0 (by decide) (hts (.fieldLink RX1 9 "BarometerLeague$Village" "weights" "[I") (by decide +kernel)) (fun _ h9 => h9) rfl dX1_buyWeightsOf_52 ?_
          refine lv_iload_n hx hb dX1_buyWeightsOf_55 rfl (lv_at hl 0 rfl) ?_
          refine pn_iald (j := i) hx hb hK hP hL_w1 hf_w1 rfl (by omega) (Nat.lt_of_lt_of_le (m := 100) (by omega) (by omega)) dX1_buyWeightsOf_56 ?_
          refine lv_iadd hx hb dX1_buyWeightsOf_57 ?_
          refine lv_topi (fun v57 ev57 => ?_)
          refine lv_iconst (v := 2) hx hb dX1_buyWeightsOf_58 (by decide) ?_
          refine lv_idiv hx hb dX1_buyWeightsOf_59 (by decide) ?_
          refine lv_topi (fun v59 ev59 => ?_)
          refine pn_iast (j := i) hx hb hK hP hN hA hS hL_w0 hf_w0 rfl (by omega) (Nat.lt_of_lt_of_le (m := 100) (by omega) (by omega)) dX1_buyWeightsOf_60 (fun H locs hP hS => ?_)
          obtain ⟨f60, ef60⟩ : ∃ z, z = va_up f22 w0 (eI g 8 (upd (mapN (fun j w => (w + wt1 j) / 2) wt i) i v59)) := ⟨_, rfl⟩
          replace hP : PP g L f60 H := by rw [ef60]; exact hP
          have hf_h0 : f60 h0 = eO 2 [.ref w0, .int nu, .int pt, .int (co - 5), .int ro] := by rw [ef60, va_up_ne _ _ n_h0_w0]; exact hf_h0
          have hf_h1 : f60 h1 = eO 2 [.ref w1, .int nu1, .int pt1, .int (co1 + 5), .int ro1] := by rw [ef60, va_up_ne _ _ n_w0_h1.symm]; exact hf_h1
          have hf_w1 : f60 w1 = eI g 8 wt1 := by rw [ef60, va_up_ne _ _ n_w0_w1.symm]; exact hf_w1
          have hf_w0 : f60 w0 = eI g 8 (upd (mapN (fun j w => (w + wt1 j) / 2) wt i) i v59) := by rw [ef60]; exact va_up_self _ _ _
          replace hFr : Fr f f60 [h0, w0, h1] := by rw [ef60]; exact hFr.up (by simp)
          refine lv_iinc (v := nI (i + 1)) (lv' := [(2, .int (nI (i + 1))), (1, .ref h1), (0, .ref h0)]) hx hb dX1_buyWeightsOf_61 hl (k := 0) rfl (nI_1 _) (by decide) rfl (fun ls hl => ?_)
          refine lv_goto (tgt := 22) hx hb dX1_buyWeightsOf_64 (by decide) ?_
          have hf_w0 : f60 w0 = eI g 8 (mapN (fun j w => (w + wt1 j) / 2) wt (i + 1)) := by rw [hf_w0, mapN_s (by rw [ev59, ev57, mapN_at])]
          exact ih22 (i + 1) f60 H locs (by omega) (by omega) hf_h0 hf_h1 hf_w0 hFr hP hS ls (lv_sub hl [0, 1, 2] rfl)
  exact K22 _ 0 f17 _ _ (Nat.lt_succ_self _) (Nat.zero_le _) hf_h0 hf_h1 hf_w0 hFr hP hS ls (lv_sub hl [0, 2, 1] rfl)

set_option maxHeartbeats 4000000 in
set_option maxRecDepth 100000 in
theorem m_X1_liveDay (l : Launch) (g : GG) (L : List Nat) (f : Nat → va_E) (sz : Nat) (hN : L.Nodup) (h0 w0 : Nat) (nu pt co ro : Int32) (wt : Nat → Int32) (sy : Nat) (sa : Nat → Int32) (rb : Bool) (hL_h0 : h0 ∈ L) (hf_h0 : f h0 = eO 2 [.ref w0, .int nu, .int pt, .int co, .int ro]) (hL_w0 : w0 ∈ L) (hf_w0 : f w0 = eI g 8 wt) (hL_sy : sy ∈ L) (hf_sy : f sy = eI g 8 sa) (n_w0_sy : w0 ≠ sy) : RW l g yX1_liveDay wsX1_liveDay 2 44 L f sz [.ref h0, .ref sy, .int (b2i rb)] (fun r f2 => r = b2i (hitB (leadN sa wt 8) rb) ∧ f2 h0 = eO 2 [.ref w0, .int nu, .int (pt + b2i (hitB (leadN sa wt 8) rb)), .int (sell1 (if hitB (leadN sa wt 8) rb then ro + 1 else 0) co), .int (if hitB (leadN sa wt 8) rb then ro + 1 else 0)] ∧ f2 w0 = eI g 8 (mapN (fun j w => learn1 (truth rb) (sa j) w) wt 8) ∧ Fr f f2 [h0, w0]) := by
  refine RW.start (cc := cX1_liveDay) (maxL := 4) (ret := .boolean) (by decide +kernel) rfl (by simp [lg_sl, Value.category]) ?_
  intro p e s m args below meth c Q ls A hx hb hml hts hown hA hA2 hS hP hK hl hend
  have hl : lv_has ls 4 [(0, .ref h0), (1, .ref sy), (2, .int (b2i rb))] := hl
  have hi_X1 : ∀ w ∈ u_ws RX1 TX1 5, w ∈ wsX1_liveDay := by decide +kernel
  have hFr : Fr f f [h0, w0] := Fr.rf
  have n_h0_w0 : h0 ≠ w0 := ne_e hf_h0 hf_w0 (by simp)
  have n_h0_sy : h0 ≠ sy := ne_e hf_h0 hf_sy (by simp)
  have h0f_h0 := hf_h0
  have h0f_w0 := hf_w0
  have h0f_sy := hf_sy
  cases rb with
  | true =>
    have hl : lv_has ls 4 [(0, .ref h0), (1, .ref sy), (2, .int 1)] := hl
    refine lv_aload_n hx hb dX1_liveDay_0 rfl (lv_at hl 0 rfl) ?_
    refine lv_aload_n hx hb dX1_liveDay_1 rfl (lv_at hl 1 rfl) ?_
    refine ro_V (As := [.ref sy]) (rest := []) ⟨hx, hb, hml, hown, hts⟩ (m_X1_guessesRain l g L f _ _ _ _ _ _ _ _ _ hL_h0 hf_h0 hL_w0 hf_w0 hL_sy hf_sy) (cwV 1 hts gX1_liveDay_X1_guessesRain rfl rfl rfl (by decide +kernel) ⟨Nat.le_of_ble_eq_true rfl, Nat.le_of_ble_eq_true rfl⟩) hK hP hL_h0 hf_h0 rfl rfl hl.1 rfl (Nat.le_of_ble_eq_true rfl) dX1_liveDay_2 ⟨Nat.zero_le _, Nat.zero_le _⟩ (fun r2 hr2 => ?_)
    have hr2 : r2 = b2i (decide (0 < leadN sa wt 8)) := hr2
    subst hr2
    refine lv_iload_n hx hb dX1_liveDay_5 rfl (lv_at hl 2 rfl) ?_
    refine lv_icmp_ne (tgt := 13) hx hb dX1_liveDay_6 (by decide) (fun c6 => ?_) (fun c6 => ?_)
    · skip
      refine lv_iconst (v := 0) hx hb dX1_liveDay_13 (by decide) ?_
      have hh : hitB (leadN sa wt 8) true = false := by unfold hitB; revert c6; cases decide (0 < (leadN sa wt 8)) <;> intro c6 <;> first | rfl | exact absurd c6 (by decide) | exact absurd rfl c6
      refine lv_istore_n (lv' := [(3, .int 0), (0, .ref h0), (1, .ref sy), (2, .int 1)]) hx hb dX1_liveDay_14 rfl hl (by decide) rfl (fun ls hl => ?_)
      refine lv_aload_n hx hb dX1_liveDay_15 rfl (lv_at hl 1 rfl) ?_
      refine lv_dup hx hb dX1_liveDay_16 rfl ?_
      refine pg_get (C := RX1) (T := TX1) (N := 5) hx hb hts hi_X1 hown hK hP hL_h0 hf_h0 rfl 2 (by decide) (hts (.fieldLink RX1 28 "BarometerLeague$Village" "points" "I") (by decide +kernel)) (fun _ h9 => h9) rfl dX1_liveDay_17 ?_
      refine lv_iload_n hx hb dX1_liveDay_20 rfl (lv_at hl 0 rfl) ?_
      refine lv_if_eq (tgt := 28) hx hb dX1_liveDay_21 (by decide) (fun _ => ?_) (fun h => absurd (by decide) h)
      refine lv_iconst (v := 0) hx hb dX1_liveDay_28 (by decide) ?_
      refine lv_iadd hx hb dX1_liveDay_29 ?_
      refine lv_topi (fun v29 ev29 => ?_)
      refine pg_put (ty := .int) (C := RX1) (T := TX1) (N := 5) hx hb hts hi_X1 tyX1 tyX1_ok nmX1 hown hK hP hN hA hS hL_h0 hf_h0 rfl 2 (by decide) (hts (.fieldLink RX1 28 "BarometerLeague$Village" "points" "I") (by decide +kernel)) (fun _ h9 => h9) rfl (by decide +kernel) rfl rfl (Nat.le_of_ble_eq_true rfl) dX1_liveDay_30 (fun H locs hP hS => ?_)
      obtain ⟨f30, ef30⟩ : ∃ z, z = va_up f h0 (eO 2 [.ref w0, .int nu, .int v29, .int co, .int ro]) := ⟨_, rfl⟩
      replace hP : PP g L f30 H := by rw [ef30]; exact hP
      have hf_w0 : f30 w0 = eI g 8 wt := by rw [ef30, va_up_ne _ _ n_h0_w0.symm]; exact hf_w0
      have hf_sy : f30 sy = eI g 8 sa := by rw [ef30, va_up_ne _ _ n_h0_sy.symm]; exact hf_sy
      have hf_h0 : f30 h0 = eO 2 [.ref w0, .int nu, .int v29, .int co, .int ro] := by rw [ef30]; exact va_up_self _ _ _
      replace hFr : Fr f f30 [h0, w0] := by rw [ef30]; exact hFr.up (by simp)
      refine lv_aload_n hx hb dX1_liveDay_33 rfl (lv_at hl 1 rfl) ?_
      refine lv_iload_n hx hb dX1_liveDay_34 rfl (lv_at hl 0 rfl) ?_
      refine lv_if_eq (tgt := 47) hx hb dX1_liveDay_35 (by decide) (fun _ => ?_) (fun h => absurd (by decide) h)
      refine lv_iconst (v := 0) hx hb dX1_liveDay_47 (by decide) ?_
      refine pg_put (ty := .int) (C := RX1) (T := TX1) (N := 5) hx hb hts hi_X1 tyX1 tyX1_ok nmX1 hown hK hP hN hA hS hL_h0 hf_h0 rfl 4 (by decide) (hts (.fieldLink RX1 31 "BarometerLeague$Village" "rowOfHits" "I") (by decide +kernel)) (fun _ h9 => h9) rfl (by decide +kernel) rfl rfl (Nat.le_of_ble_eq_true rfl) dX1_liveDay_48 (fun H locs hP hS => ?_)
      obtain ⟨f48, ef48⟩ : ∃ z, z = va_up f30 h0 (eO 2 [.ref w0, .int nu, .int v29, .int co, .int 0]) := ⟨_, rfl⟩
      replace hP : PP g L f48 H := by rw [ef48]; exact hP
      have hf_w0 : f48 w0 = eI g 8 wt := by rw [ef48, va_up_ne _ _ n_h0_w0.symm]; exact hf_w0
      have hf_sy : f48 sy = eI g 8 sa := by rw [ef48, va_up_ne _ _ n_h0_sy.symm]; exact hf_sy
      have hf_h0 : f48 h0 = eO 2 [.ref w0, .int nu, .int v29, .int co, .int 0] := by rw [ef48]; exact va_up_self _ _ _
      replace hFr : Fr f f48 [h0, w0] := by rw [ef48]; exact hFr.up (by simp)
      refine lv_aload_n hx hb dX1_liveDay_51 rfl (lv_at hl 1 rfl) ?_
      refine lv_aload_n hx hb dX1_liveDay_52 rfl (lv_at hl 2 rfl) ?_
      refine lv_iload_n hx hb dX1_liveDay_53 rfl (lv_at hl 3 rfl) ?_
      refine lv_if_eq (tgt := 61) hx hb dX1_liveDay_54 (by decide) (fun h => absurd h (by decide)) (fun _ => ?_)
      refine lv_iconst (v := 1) hx hb dX1_liveDay_57 (by decide) ?_
      refine lv_goto (tgt := 62) hx hb dX1_liveDay_58 (by decide) ?_
      refine rv_V (As := [.ref sy, .int 1]) (rest := []) ⟨hx, hb, hml, hown, hts⟩ (m_X1_learn l g L f48 _ hN _ _ _ _ _ _ _ _ _ _ hL_h0 hf_h0 hL_w0 hf_w0 hL_sy hf_sy n_w0_sy) (cwV 2 hts gX1_liveDay_X1_learn rfl rfl rfl (by decide +kernel) ⟨Nat.le_of_ble_eq_true rfl, Nat.le_of_ble_eq_true rfl⟩) hK hP hA hA2 hS hL_h0 hf_h0 rfl rfl hl.1 rfl (Nat.le_of_ble_eq_true rfl) dX1_liveDay_62 ⟨Nat.zero_le _, Nat.zero_le _⟩ (fun f62 H locs hr62 hP hS => ?_)
      obtain ⟨hc62_0, hw62⟩ := hr62
      have hf_h0 : f62 h0 = eO 2 [.ref w0, .int nu, .int v29, .int co, .int 0] := hw62.get hf_h0 (nm_c n_h0_w0 (List.not_mem_nil))
      have hf_sy : f62 sy = eI g 8 sa := hw62.get hf_sy (nm_c n_w0_sy.symm (List.not_mem_nil))
      have hf_w0 : f62 w0 = eI g 8 (mapN (fun j w => learn1 1 (sa j) w) wt 8) := hc62_0
      replace hFr : Fr f f62 [h0, w0] := hFr.tr hw62 (by simp)
      refine lv_aload_n hx hb dX1_liveDay_65 rfl (lv_at hl 1 rfl) ?_
      refine rv_V (As := []) (rest := []) ⟨hx, hb, hml, hown, hts⟩ (m_X1_sellAlmanacs l g L f62 _ hN _ _ _ _ _ _ _ hL_h0 hf_h0 hL_w0 hf_w0) (cwV 0 hts gX1_liveDay_X1_sellAlmanacs rfl rfl rfl (by decide +kernel) ⟨Nat.le_of_ble_eq_true rfl, Nat.le_of_ble_eq_true rfl⟩) hK hP hA hA2 hS hL_h0 hf_h0 rfl rfl hl.1 rfl (Nat.le_of_ble_eq_true rfl) dX1_liveDay_66 ⟨Nat.zero_le _, Nat.zero_le _⟩ (fun f66 H locs hr66 hP hS => ?_)
      obtain ⟨hc66_0, hw66⟩ := hr66
      have hf_w0 : f66 w0 = eI g 8 (mapN (fun j w => learn1 1 (sa j) w) wt 8) := hw66.get hf_w0 (nm_c n_h0_w0.symm (List.not_mem_nil))
      have hf_sy : f66 sy = eI g 8 sa := hw66.get hf_sy (nm_c n_h0_sy.symm (List.not_mem_nil))
      have hf_h0 : f66 h0 = eO 2 [.ref w0, .int nu, .int v29, .int (sell1 0 co), .int 0] := hc66_0
      replace hFr : Fr f f66 [h0, w0] := hFr.tr hw66 (by simp)
      refine lv_iload_n hx hb dX1_liveDay_69 rfl (lv_at hl 0 rfl) ?_
      exact hend (0) f66 _ _ _ _ (⟨by rw [hh]; rfl, by rw [hf_h0, hh]; first | rfl | (rw [ev29]; rfl), hf_w0, hFr⟩) hP hS rfl dX1_liveDay_70
    · skip
      refine lv_iconst (v := 1) hx hb dX1_liveDay_9 (by decide) ?_
      refine lv_goto (tgt := 14) hx hb dX1_liveDay_10 (by decide) ?_
      have hh : hitB (leadN sa wt 8) true = true := by unfold hitB; revert c6; cases decide (0 < (leadN sa wt 8)) <;> intro c6 <;> first | rfl | exact absurd c6 (by decide) | exact absurd rfl c6
      refine lv_istore_n (lv' := [(3, .int 1), (0, .ref h0), (1, .ref sy), (2, .int 1)]) hx hb dX1_liveDay_14 rfl hl (by decide) rfl (fun ls hl => ?_)
      refine lv_aload_n hx hb dX1_liveDay_15 rfl (lv_at hl 1 rfl) ?_
      refine lv_dup hx hb dX1_liveDay_16 rfl ?_
      refine pg_get (C := RX1) (T := TX1) (N := 5) hx hb hts hi_X1 hown hK hP hL_h0 hf_h0 rfl 2 (by decide) (hts (.fieldLink RX1 28 "BarometerLeague$Village" "points" "I") (by decide +kernel)) (fun _ h9 => h9) rfl dX1_liveDay_17 ?_
      refine lv_iload_n hx hb dX1_liveDay_20 rfl (lv_at hl 0 rfl) ?_
      refine lv_if_eq (tgt := 28) hx hb dX1_liveDay_21 (by decide) (fun h => absurd h (by decide)) (fun _ => ?_)
      refine lv_iconst (v := 1) hx hb dX1_liveDay_24 (by decide) ?_
      refine lv_goto (tgt := 29) hx hb dX1_liveDay_25 (by decide) ?_
      refine lv_iadd hx hb dX1_liveDay_29 ?_
      refine lv_topi (fun v29 ev29 => ?_)
      refine pg_put (ty := .int) (C := RX1) (T := TX1) (N := 5) hx hb hts hi_X1 tyX1 tyX1_ok nmX1 hown hK hP hN hA hS hL_h0 hf_h0 rfl 2 (by decide) (hts (.fieldLink RX1 28 "BarometerLeague$Village" "points" "I") (by decide +kernel)) (fun _ h9 => h9) rfl (by decide +kernel) rfl rfl (Nat.le_of_ble_eq_true rfl) dX1_liveDay_30 (fun H locs hP hS => ?_)
      obtain ⟨f30, ef30⟩ : ∃ z, z = va_up f h0 (eO 2 [.ref w0, .int nu, .int v29, .int co, .int ro]) := ⟨_, rfl⟩
      replace hP : PP g L f30 H := by rw [ef30]; exact hP
      have hf_w0 : f30 w0 = eI g 8 wt := by rw [ef30, va_up_ne _ _ n_h0_w0.symm]; exact hf_w0
      have hf_sy : f30 sy = eI g 8 sa := by rw [ef30, va_up_ne _ _ n_h0_sy.symm]; exact hf_sy
      have hf_h0 : f30 h0 = eO 2 [.ref w0, .int nu, .int v29, .int co, .int ro] := by rw [ef30]; exact va_up_self _ _ _
      replace hFr : Fr f f30 [h0, w0] := by rw [ef30]; exact hFr.up (by simp)
      refine lv_aload_n hx hb dX1_liveDay_33 rfl (lv_at hl 1 rfl) ?_
      refine lv_iload_n hx hb dX1_liveDay_34 rfl (lv_at hl 0 rfl) ?_
      refine lv_if_eq (tgt := 47) hx hb dX1_liveDay_35 (by decide) (fun h => absurd h (by decide)) (fun _ => ?_)
      refine lv_aload_n hx hb dX1_liveDay_38 rfl (lv_at hl 1 rfl) ?_
      refine pg_get (C := RX1) (T := TX1) (N := 5) hx hb hts hi_X1 hown hK hP hL_h0 hf_h0 rfl 4 (by decide) (hts (.fieldLink RX1 31 "BarometerLeague$Village" "rowOfHits" "I") (by decide +kernel)) (fun _ h9 => h9) rfl dX1_liveDay_39 ?_
      refine lv_iconst (v := 1) hx hb dX1_liveDay_42 (by decide) ?_
      refine lv_iadd hx hb dX1_liveDay_43 ?_
      refine lv_topi (fun v43 ev43 => ?_)
      refine lv_goto (tgt := 48) hx hb dX1_liveDay_44 (by decide) ?_
      refine pg_put (ty := .int) (C := RX1) (T := TX1) (N := 5) hx hb hts hi_X1 tyX1 tyX1_ok nmX1 hown hK hP hN hA hS hL_h0 hf_h0 rfl 4 (by decide) (hts (.fieldLink RX1 31 "BarometerLeague$Village" "rowOfHits" "I") (by decide +kernel)) (fun _ h9 => h9) rfl (by decide +kernel) rfl rfl (Nat.le_of_ble_eq_true rfl) dX1_liveDay_48 (fun H locs hP hS => ?_)
      obtain ⟨f48, ef48⟩ : ∃ z, z = va_up f30 h0 (eO 2 [.ref w0, .int nu, .int v29, .int co, .int v43]) := ⟨_, rfl⟩
      replace hP : PP g L f48 H := by rw [ef48]; exact hP
      have hf_w0 : f48 w0 = eI g 8 wt := by rw [ef48, va_up_ne _ _ n_h0_w0.symm]; exact hf_w0
      have hf_sy : f48 sy = eI g 8 sa := by rw [ef48, va_up_ne _ _ n_h0_sy.symm]; exact hf_sy
      have hf_h0 : f48 h0 = eO 2 [.ref w0, .int nu, .int v29, .int co, .int v43] := by rw [ef48]; exact va_up_self _ _ _
      replace hFr : Fr f f48 [h0, w0] := by rw [ef48]; exact hFr.up (by simp)
      refine lv_aload_n hx hb dX1_liveDay_51 rfl (lv_at hl 1 rfl) ?_
      refine lv_aload_n hx hb dX1_liveDay_52 rfl (lv_at hl 2 rfl) ?_
      refine lv_iload_n hx hb dX1_liveDay_53 rfl (lv_at hl 3 rfl) ?_
      refine lv_if_eq (tgt := 61) hx hb dX1_liveDay_54 (by decide) (fun h => absurd h (by decide)) (fun _ => ?_)
      refine lv_iconst (v := 1) hx hb dX1_liveDay_57 (by decide) ?_
      refine lv_goto (tgt := 62) hx hb dX1_liveDay_58 (by decide) ?_
      refine rv_V (As := [.ref sy, .int 1]) (rest := []) ⟨hx, hb, hml, hown, hts⟩ (m_X1_learn l g L f48 _ hN _ _ _ _ _ _ _ _ _ _ hL_h0 hf_h0 hL_w0 hf_w0 hL_sy hf_sy n_w0_sy) (cwV 2 hts gX1_liveDay_X1_learn rfl rfl rfl (by decide +kernel) ⟨Nat.le_of_ble_eq_true rfl, Nat.le_of_ble_eq_true rfl⟩) hK hP hA hA2 hS hL_h0 hf_h0 rfl rfl hl.1 rfl (Nat.le_of_ble_eq_true rfl) dX1_liveDay_62 ⟨Nat.zero_le _, Nat.zero_le _⟩ (fun f62 H locs hr62 hP hS => ?_)
      obtain ⟨hc62_0, hw62⟩ := hr62
      have hf_h0 : f62 h0 = eO 2 [.ref w0, .int nu, .int v29, .int co, .int v43] := hw62.get hf_h0 (nm_c n_h0_w0 (List.not_mem_nil))
      have hf_sy : f62 sy = eI g 8 sa := hw62.get hf_sy (nm_c n_w0_sy.symm (List.not_mem_nil))
      have hf_w0 : f62 w0 = eI g 8 (mapN (fun j w => learn1 1 (sa j) w) wt 8) := hc62_0
      replace hFr : Fr f f62 [h0, w0] := hFr.tr hw62 (by simp)
      refine lv_aload_n hx hb dX1_liveDay_65 rfl (lv_at hl 1 rfl) ?_
      refine rv_V (As := []) (rest := []) ⟨hx, hb, hml, hown, hts⟩ (m_X1_sellAlmanacs l g L f62 _ hN _ _ _ _ _ _ _ hL_h0 hf_h0 hL_w0 hf_w0) (cwV 0 hts gX1_liveDay_X1_sellAlmanacs rfl rfl rfl (by decide +kernel) ⟨Nat.le_of_ble_eq_true rfl, Nat.le_of_ble_eq_true rfl⟩) hK hP hA hA2 hS hL_h0 hf_h0 rfl rfl hl.1 rfl (Nat.le_of_ble_eq_true rfl) dX1_liveDay_66 ⟨Nat.zero_le _, Nat.zero_le _⟩ (fun f66 H locs hr66 hP hS => ?_)
      obtain ⟨hc66_0, hw66⟩ := hr66
      have hf_w0 : f66 w0 = eI g 8 (mapN (fun j w => learn1 1 (sa j) w) wt 8) := hw66.get hf_w0 (nm_c n_h0_w0.symm (List.not_mem_nil))
      have hf_sy : f66 sy = eI g 8 sa := hw66.get hf_sy (nm_c n_h0_sy.symm (List.not_mem_nil))
      have hf_h0 : f66 h0 = eO 2 [.ref w0, .int nu, .int v29, .int (sell1 v43 co), .int v43] := hc66_0
      replace hFr : Fr f f66 [h0, w0] := hFr.tr hw66 (by simp)
      refine lv_iload_n hx hb dX1_liveDay_69 rfl (lv_at hl 0 rfl) ?_
      exact hend (1) f66 _ _ _ _ (⟨by rw [hh]; rfl, by rw [hf_h0, hh]; first | rfl | (rw [ev29, ev43]; rfl), hf_w0, hFr⟩) hP hS rfl dX1_liveDay_70
  | false =>
    have hl : lv_has ls 4 [(0, .ref h0), (1, .ref sy), (2, .int 0)] := hl
    refine lv_aload_n hx hb dX1_liveDay_0 rfl (lv_at hl 0 rfl) ?_
    refine lv_aload_n hx hb dX1_liveDay_1 rfl (lv_at hl 1 rfl) ?_
    refine ro_V (As := [.ref sy]) (rest := []) ⟨hx, hb, hml, hown, hts⟩ (m_X1_guessesRain l g L f _ _ _ _ _ _ _ _ _ hL_h0 hf_h0 hL_w0 hf_w0 hL_sy hf_sy) (cwV 1 hts gX1_liveDay_X1_guessesRain rfl rfl rfl (by decide +kernel) ⟨Nat.le_of_ble_eq_true rfl, Nat.le_of_ble_eq_true rfl⟩) hK hP hL_h0 hf_h0 rfl rfl hl.1 rfl (Nat.le_of_ble_eq_true rfl) dX1_liveDay_2 ⟨Nat.zero_le _, Nat.zero_le _⟩ (fun r2 hr2 => ?_)
    have hr2 : r2 = b2i (decide (0 < leadN sa wt 8)) := hr2
    subst hr2
    refine lv_iload_n hx hb dX1_liveDay_5 rfl (lv_at hl 2 rfl) ?_
    refine lv_icmp_ne (tgt := 13) hx hb dX1_liveDay_6 (by decide) (fun c6 => ?_) (fun c6 => ?_)
    · skip
      refine lv_iconst (v := 0) hx hb dX1_liveDay_13 (by decide) ?_
      have hh : hitB (leadN sa wt 8) false = false := by unfold hitB; revert c6; cases decide (0 < (leadN sa wt 8)) <;> intro c6 <;> first | rfl | exact absurd c6 (by decide) | exact absurd rfl c6
      refine lv_istore_n (lv' := [(3, .int 0), (0, .ref h0), (1, .ref sy), (2, .int 0)]) hx hb dX1_liveDay_14 rfl hl (by decide) rfl (fun ls hl => ?_)
      refine lv_aload_n hx hb dX1_liveDay_15 rfl (lv_at hl 1 rfl) ?_
      refine lv_dup hx hb dX1_liveDay_16 rfl ?_
      refine pg_get (C := RX1) (T := TX1) (N := 5) hx hb hts hi_X1 hown hK hP hL_h0 hf_h0 rfl 2 (by decide) (hts (.fieldLink RX1 28 "BarometerLeague$Village" "points" "I") (by decide +kernel)) (fun _ h9 => h9) rfl dX1_liveDay_17 ?_
      refine lv_iload_n hx hb dX1_liveDay_20 rfl (lv_at hl 0 rfl) ?_
      refine lv_if_eq (tgt := 28) hx hb dX1_liveDay_21 (by decide) (fun _ => ?_) (fun h => absurd (by decide) h)
      refine lv_iconst (v := 0) hx hb dX1_liveDay_28 (by decide) ?_
      refine lv_iadd hx hb dX1_liveDay_29 ?_
      refine lv_topi (fun v29 ev29 => ?_)
      refine pg_put (ty := .int) (C := RX1) (T := TX1) (N := 5) hx hb hts hi_X1 tyX1 tyX1_ok nmX1 hown hK hP hN hA hS hL_h0 hf_h0 rfl 2 (by decide) (hts (.fieldLink RX1 28 "BarometerLeague$Village" "points" "I") (by decide +kernel)) (fun _ h9 => h9) rfl (by decide +kernel) rfl rfl (Nat.le_of_ble_eq_true rfl) dX1_liveDay_30 (fun H locs hP hS => ?_)
      obtain ⟨f30, ef30⟩ : ∃ z, z = va_up f h0 (eO 2 [.ref w0, .int nu, .int v29, .int co, .int ro]) := ⟨_, rfl⟩
      replace hP : PP g L f30 H := by rw [ef30]; exact hP
      have hf_w0 : f30 w0 = eI g 8 wt := by rw [ef30, va_up_ne _ _ n_h0_w0.symm]; exact hf_w0
      have hf_sy : f30 sy = eI g 8 sa := by rw [ef30, va_up_ne _ _ n_h0_sy.symm]; exact hf_sy
      have hf_h0 : f30 h0 = eO 2 [.ref w0, .int nu, .int v29, .int co, .int ro] := by rw [ef30]; exact va_up_self _ _ _
      replace hFr : Fr f f30 [h0, w0] := by rw [ef30]; exact hFr.up (by simp)
      refine lv_aload_n hx hb dX1_liveDay_33 rfl (lv_at hl 1 rfl) ?_
      refine lv_iload_n hx hb dX1_liveDay_34 rfl (lv_at hl 0 rfl) ?_
      refine lv_if_eq (tgt := 47) hx hb dX1_liveDay_35 (by decide) (fun _ => ?_) (fun h => absurd (by decide) h)
      refine lv_iconst (v := 0) hx hb dX1_liveDay_47 (by decide) ?_
      refine pg_put (ty := .int) (C := RX1) (T := TX1) (N := 5) hx hb hts hi_X1 tyX1 tyX1_ok nmX1 hown hK hP hN hA hS hL_h0 hf_h0 rfl 4 (by decide) (hts (.fieldLink RX1 31 "BarometerLeague$Village" "rowOfHits" "I") (by decide +kernel)) (fun _ h9 => h9) rfl (by decide +kernel) rfl rfl (Nat.le_of_ble_eq_true rfl) dX1_liveDay_48 (fun H locs hP hS => ?_)
      obtain ⟨f48, ef48⟩ : ∃ z, z = va_up f30 h0 (eO 2 [.ref w0, .int nu, .int v29, .int co, .int 0]) := ⟨_, rfl⟩
      replace hP : PP g L f48 H := by rw [ef48]; exact hP
      have hf_w0 : f48 w0 = eI g 8 wt := by rw [ef48, va_up_ne _ _ n_h0_w0.symm]; exact hf_w0
      have hf_sy : f48 sy = eI g 8 sa := by rw [ef48, va_up_ne _ _ n_h0_sy.symm]; exact hf_sy
      have hf_h0 : f48 h0 = eO 2 [.ref w0, .int nu, .int v29, .int co, .int 0] := by rw [ef48]; exact va_up_self _ _ _
      replace hFr : Fr f f48 [h0, w0] := by rw [ef48]; exact hFr.up (by simp)
      refine lv_aload_n hx hb dX1_liveDay_51 rfl (lv_at hl 1 rfl) ?_
      refine lv_aload_n hx hb dX1_liveDay_52 rfl (lv_at hl 2 rfl) ?_
      refine lv_iload_n hx hb dX1_liveDay_53 rfl (lv_at hl 3 rfl) ?_
      refine lv_if_eq (tgt := 61) hx hb dX1_liveDay_54 (by decide) (fun _ => ?_) (fun h => absurd (by decide) h)
      refine lv_iconst (v := (-1)) hx hb dX1_liveDay_61 (by decide) ?_
      refine rv_V (As := [.ref sy, .int (-1)]) (rest := []) ⟨hx, hb, hml, hown, hts⟩ (m_X1_learn l g L f48 _ hN _ _ _ _ _ _ _ _ _ _ hL_h0 hf_h0 hL_w0 hf_w0 hL_sy hf_sy n_w0_sy) (cwV 2 hts gX1_liveDay_X1_learn rfl rfl rfl (by decide +kernel) ⟨Nat.le_of_ble_eq_true rfl, Nat.le_of_ble_eq_true rfl⟩) hK hP hA hA2 hS hL_h0 hf_h0 rfl rfl hl.1 rfl (Nat.le_of_ble_eq_true rfl) dX1_liveDay_62 ⟨Nat.zero_le _, Nat.zero_le _⟩ (fun f62 H locs hr62 hP hS => ?_)
      obtain ⟨hc62_0, hw62⟩ := hr62
      have hf_h0 : f62 h0 = eO 2 [.ref w0, .int nu, .int v29, .int co, .int 0] := hw62.get hf_h0 (nm_c n_h0_w0 (List.not_mem_nil))
      have hf_sy : f62 sy = eI g 8 sa := hw62.get hf_sy (nm_c n_w0_sy.symm (List.not_mem_nil))
      have hf_w0 : f62 w0 = eI g 8 (mapN (fun j w => learn1 (-1) (sa j) w) wt 8) := hc62_0
      replace hFr : Fr f f62 [h0, w0] := hFr.tr hw62 (by simp)
      refine lv_aload_n hx hb dX1_liveDay_65 rfl (lv_at hl 1 rfl) ?_
      refine rv_V (As := []) (rest := []) ⟨hx, hb, hml, hown, hts⟩ (m_X1_sellAlmanacs l g L f62 _ hN _ _ _ _ _ _ _ hL_h0 hf_h0 hL_w0 hf_w0) (cwV 0 hts gX1_liveDay_X1_sellAlmanacs rfl rfl rfl (by decide +kernel) ⟨Nat.le_of_ble_eq_true rfl, Nat.le_of_ble_eq_true rfl⟩) hK hP hA hA2 hS hL_h0 hf_h0 rfl rfl hl.1 rfl (Nat.le_of_ble_eq_true rfl) dX1_liveDay_66 ⟨Nat.zero_le _, Nat.zero_le _⟩ (fun f66 H locs hr66 hP hS => ?_)
      obtain ⟨hc66_0, hw66⟩ := hr66
      have hf_w0 : f66 w0 = eI g 8 (mapN (fun j w => learn1 (-1) (sa j) w) wt 8) := hw66.get hf_w0 (nm_c n_h0_w0.symm (List.not_mem_nil))
      have hf_sy : f66 sy = eI g 8 sa := hw66.get hf_sy (nm_c n_h0_sy.symm (List.not_mem_nil))
      have hf_h0 : f66 h0 = eO 2 [.ref w0, .int nu, .int v29, .int (sell1 0 co), .int 0] := hc66_0
      replace hFr : Fr f f66 [h0, w0] := hFr.tr hw66 (by simp)
      refine lv_iload_n hx hb dX1_liveDay_69 rfl (lv_at hl 0 rfl) ?_
      exact hend (0) f66 _ _ _ _ (⟨by rw [hh]; rfl, by rw [hf_h0, hh]; first | rfl | (rw [ev29]; rfl), hf_w0, hFr⟩) hP hS rfl dX1_liveDay_70
    · skip
      refine lv_iconst (v := 1) hx hb dX1_liveDay_9 (by decide) ?_
      refine lv_goto (tgt := 14) hx hb dX1_liveDay_10 (by decide) ?_
      have hh : hitB (leadN sa wt 8) false = true := by unfold hitB; revert c6; cases decide (0 < (leadN sa wt 8)) <;> intro c6 <;> first | rfl | exact absurd c6 (by decide) | exact absurd rfl c6
      refine lv_istore_n (lv' := [(3, .int 1), (0, .ref h0), (1, .ref sy), (2, .int 0)]) hx hb dX1_liveDay_14 rfl hl (by decide) rfl (fun ls hl => ?_)
      refine lv_aload_n hx hb dX1_liveDay_15 rfl (lv_at hl 1 rfl) ?_
      refine lv_dup hx hb dX1_liveDay_16 rfl ?_
      refine pg_get (C := RX1) (T := TX1) (N := 5) hx hb hts hi_X1 hown hK hP hL_h0 hf_h0 rfl 2 (by decide) (hts (.fieldLink RX1 28 "BarometerLeague$Village" "points" "I") (by decide +kernel)) (fun _ h9 => h9) rfl dX1_liveDay_17 ?_
      refine lv_iload_n hx hb dX1_liveDay_20 rfl (lv_at hl 0 rfl) ?_
      refine lv_if_eq (tgt := 28) hx hb dX1_liveDay_21 (by decide) (fun h => absurd h (by decide)) (fun _ => ?_)
      refine lv_iconst (v := 1) hx hb dX1_liveDay_24 (by decide) ?_
      refine lv_goto (tgt := 29) hx hb dX1_liveDay_25 (by decide) ?_
      refine lv_iadd hx hb dX1_liveDay_29 ?_
      refine lv_topi (fun v29 ev29 => ?_)
      refine pg_put (ty := .int) (C := RX1) (T := TX1) (N := 5) hx hb hts hi_X1 tyX1 tyX1_ok nmX1 hown hK hP hN hA hS hL_h0 hf_h0 rfl 2 (by decide) (hts (.fieldLink RX1 28 "BarometerLeague$Village" "points" "I") (by decide +kernel)) (fun _ h9 => h9) rfl (by decide +kernel) rfl rfl (Nat.le_of_ble_eq_true rfl) dX1_liveDay_30 (fun H locs hP hS => ?_)
      obtain ⟨f30, ef30⟩ : ∃ z, z = va_up f h0 (eO 2 [.ref w0, .int nu, .int v29, .int co, .int ro]) := ⟨_, rfl⟩
      replace hP : PP g L f30 H := by rw [ef30]; exact hP
      have hf_w0 : f30 w0 = eI g 8 wt := by rw [ef30, va_up_ne _ _ n_h0_w0.symm]; exact hf_w0
      have hf_sy : f30 sy = eI g 8 sa := by rw [ef30, va_up_ne _ _ n_h0_sy.symm]; exact hf_sy
      have hf_h0 : f30 h0 = eO 2 [.ref w0, .int nu, .int v29, .int co, .int ro] := by rw [ef30]; exact va_up_self _ _ _
      replace hFr : Fr f f30 [h0, w0] := by rw [ef30]; exact hFr.up (by simp)
      refine lv_aload_n hx hb dX1_liveDay_33 rfl (lv_at hl 1 rfl) ?_
      refine lv_iload_n hx hb dX1_liveDay_34 rfl (lv_at hl 0 rfl) ?_
      refine lv_if_eq (tgt := 47) hx hb dX1_liveDay_35 (by decide) (fun h => absurd h (by decide)) (fun _ => ?_)
      refine lv_aload_n hx hb dX1_liveDay_38 rfl (lv_at hl 1 rfl) ?_
      refine pg_get (C := RX1) (T := TX1) (N := 5) hx hb hts hi_X1 hown hK hP hL_h0 hf_h0 rfl 4 (by decide) (hts (.fieldLink RX1 31 "BarometerLeague$Village" "rowOfHits" "I") (by decide +kernel)) (fun _ h9 => h9) rfl dX1_liveDay_39 ?_
      refine lv_iconst (v := 1) hx hb dX1_liveDay_42 (by decide) ?_
      refine lv_iadd hx hb dX1_liveDay_43 ?_
      refine lv_topi (fun v43 ev43 => ?_)
      refine lv_goto (tgt := 48) hx hb dX1_liveDay_44 (by decide) ?_
      refine pg_put (ty := .int) (C := RX1) (T := TX1) (N := 5) hx hb hts hi_X1 tyX1 tyX1_ok nmX1 hown hK hP hN hA hS hL_h0 hf_h0 rfl 4 (by decide) (hts (.fieldLink RX1 31 "BarometerLeague$Village" "rowOfHits" "I") (by decide +kernel)) (fun _ h9 => h9) rfl (by decide +kernel) rfl rfl (Nat.le_of_ble_eq_true rfl) dX1_liveDay_48 (fun H locs hP hS => ?_)
      obtain ⟨f48, ef48⟩ : ∃ z, z = va_up f30 h0 (eO 2 [.ref w0, .int nu, .int v29, .int co, .int v43]) := ⟨_, rfl⟩
      replace hP : PP g L f48 H := by rw [ef48]; exact hP
      have hf_w0 : f48 w0 = eI g 8 wt := by rw [ef48, va_up_ne _ _ n_h0_w0.symm]; exact hf_w0
      have hf_sy : f48 sy = eI g 8 sa := by rw [ef48, va_up_ne _ _ n_h0_sy.symm]; exact hf_sy
      have hf_h0 : f48 h0 = eO 2 [.ref w0, .int nu, .int v29, .int co, .int v43] := by rw [ef48]; exact va_up_self _ _ _
      replace hFr : Fr f f48 [h0, w0] := by rw [ef48]; exact hFr.up (by simp)
      refine lv_aload_n hx hb dX1_liveDay_51 rfl (lv_at hl 1 rfl) ?_
      refine lv_aload_n hx hb dX1_liveDay_52 rfl (lv_at hl 2 rfl) ?_
      refine lv_iload_n hx hb dX1_liveDay_53 rfl (lv_at hl 3 rfl) ?_
      refine lv_if_eq (tgt := 61) hx hb dX1_liveDay_54 (by decide) (fun _ => ?_) (fun h => absurd (by decide) h)
      refine lv_iconst (v := (-1)) hx hb dX1_liveDay_61 (by decide) ?_
      refine rv_V (As := [.ref sy, .int (-1)]) (rest := []) ⟨hx, hb, hml, hown, hts⟩ (m_X1_learn l g L f48 _ hN _ _ _ _ _ _ _ _ _ _ hL_h0 hf_h0 hL_w0 hf_w0 hL_sy hf_sy n_w0_sy) (cwV 2 hts gX1_liveDay_X1_learn rfl rfl rfl (by decide +kernel) ⟨Nat.le_of_ble_eq_true rfl, Nat.le_of_ble_eq_true rfl⟩) hK hP hA hA2 hS hL_h0 hf_h0 rfl rfl hl.1 rfl (Nat.le_of_ble_eq_true rfl) dX1_liveDay_62 ⟨Nat.zero_le _, Nat.zero_le _⟩ (fun f62 H locs hr62 hP hS => ?_)
      obtain ⟨hc62_0, hw62⟩ := hr62
      have hf_h0 : f62 h0 = eO 2 [.ref w0, .int nu, .int v29, .int co, .int v43] := hw62.get hf_h0 (nm_c n_h0_w0 (List.not_mem_nil))
      have hf_sy : f62 sy = eI g 8 sa := hw62.get hf_sy (nm_c n_w0_sy.symm (List.not_mem_nil))
      have hf_w0 : f62 w0 = eI g 8 (mapN (fun j w => learn1 (-1) (sa j) w) wt 8) := hc62_0
      replace hFr : Fr f f62 [h0, w0] := hFr.tr hw62 (by simp)
      refine lv_aload_n hx hb dX1_liveDay_65 rfl (lv_at hl 1 rfl) ?_
      refine rv_V (As := []) (rest := []) ⟨hx, hb, hml, hown, hts⟩ (m_X1_sellAlmanacs l g L f62 _ hN _ _ _ _ _ _ _ hL_h0 hf_h0 hL_w0 hf_w0) (cwV 0 hts gX1_liveDay_X1_sellAlmanacs rfl rfl rfl (by decide +kernel) ⟨Nat.le_of_ble_eq_true rfl, Nat.le_of_ble_eq_true rfl⟩) hK hP hA hA2 hS hL_h0 hf_h0 rfl rfl hl.1 rfl (Nat.le_of_ble_eq_true rfl) dX1_liveDay_66 ⟨Nat.zero_le _, Nat.zero_le _⟩ (fun f66 H locs hr66 hP hS => ?_)
      obtain ⟨hc66_0, hw66⟩ := hr66
      have hf_w0 : f66 w0 = eI g 8 (mapN (fun j w => learn1 (-1) (sa j) w) wt 8) := hw66.get hf_w0 (nm_c n_h0_w0.symm (List.not_mem_nil))
      have hf_sy : f66 sy = eI g 8 sa := hw66.get hf_sy (nm_c n_h0_sy.symm (List.not_mem_nil))
      have hf_h0 : f66 h0 = eO 2 [.ref w0, .int nu, .int v29, .int (sell1 v43 co), .int v43] := hc66_0
      replace hFr : Fr f f66 [h0, w0] := hFr.tr hw66 (by simp)
      refine lv_iload_n hx hb dX1_liveDay_69 rfl (lv_at hl 0 rfl) ?_
      exact hend (1) f66 _ _ _ _ (⟨by rw [hh]; rfl, by rw [hf_h0, hh]; first | rfl | (rw [ev29, ev43]; rfl), hf_w0, hFr⟩) hP hS rfl dX1_liveDay_70
end
section
/-! ===== villages in a row: what a village is, where the villages of a row lie ===== -/
abbrev VV : Type := Int32 × Int32 × Int32 × Int32 × (Nat → Int32)
/-- where the villages of a row lie: ad v the village, aw v its weights -/
def Vils (g : GG) (L : List Nat) (f : Nat → va_E) (cap : Nat) (ad aw : Nat → Nat) (vs : Nat → VV) : Prop :=
  ∀ v, v < cap → ad v ∈ L ∧ f (ad v) = eO 2 [.ref (aw v), .int (vs v).1, .int (vs v).2.1, .int (vs v).2.2.1, .int (vs v).2.2.2.1] ∧ aw v ∈ L ∧ f (aw v) = eI g 8 (vs v).2.2.2.2
/-- apart -/
def Dst (cap : Nat) (ad aw : Nat → Nat) : Prop := ∀ u v, u < cap → v < cap → u ≠ v → ad u ≠ ad v ∧ aw u ≠ aw v
def Off (cap : Nat) (ad aw : Nat → Nat) (x : Nat) : Prop := ∀ v, v < cap → x ≠ ad v ∧ x ≠ aw v
/-- all but a row's villages is the same -/
def Fr2 (f f2 : Nat → va_E) (cap : Nat) (ad aw : Nat → Nat) : Prop := ∀ x, Off cap ad aw x → f2 x = f x
theorem Fr2.rf {f : Nat → va_E} {cap : Nat} {ad aw : Nat → Nat} : Fr2 f f cap ad aw := fun _ _ => rfl
theorem Fr2.get {f f1 : Nat → va_E} {cap : Nat} {ad aw : Nat → Nat} (h : Fr2 f f1 cap ad aw) {x : Nat} {e : va_E} (hf : f x = e) (hx : Off cap ad aw x) : f1 x = e := (h x hx).trans hf
theorem Fr2.tr {f f1 f2 : Nat → va_E} {cap : Nat} {ad aw : Nat → Nat} (h : Fr2 f f1 cap ad aw) {v : Nat} (hv : v < cap) (h2 : Fr f1 f2 [ad v, aw v]) : Fr2 f f2 cap ad aw := fun x hx => (h2 x (nm_c (hx v hv).1 (nm_c (hx v hv).2 List.not_mem_nil))).trans (h x hx)
theorem Fr2.trans {f f1 f2 : Nat → va_E} {cap : Nat} {ad aw : Nat → Nat} (h : Fr2 f f1 cap ad aw) (h2 : Fr2 f1 f2 cap ad aw) : Fr2 f f2 cap ad aw := fun x hx => (h2 x hx).trans (h x hx)
theorem Vils.ne {g : GG} {L : List Nat} {f : Nat → va_E} {cap : Nat} {ad aw : Nat → Nat} {vs : Nat → VV} (h : Vils g L f cap ad aw vs) {u v : Nat} (hu : u < cap) (hv : v < cap) : ad u ≠ aw v := by
  obtain ⟨_, h1, _, _⟩ := h u hu
  obtain ⟨_, _, _, h2⟩ := h v hv
  exact ne_e h1 h2 (by simp)
theorem Vils.set {g : GG} {L : List Nat} {f f2 : Nat → va_E} {cap : Nat} {ad aw : Nat → Nat} {vs : Nat → VV} (h : Vils g L f cap ad aw vs) (hD : Dst cap ad aw) {v : Nat} (hv : v < cap) (V : VV) (h1 : f2 (ad v) = eO 2 [.ref (aw v), .int V.1, .int V.2.1, .int V.2.2.1, .int V.2.2.2.1]) (h2 : f2 (aw v) = eI g 8 V.2.2.2.2) (hf : ∀ u, u < cap → u ≠ v → f2 (ad u) = f (ad u) ∧ f2 (aw u) = f (aw u)) : Vils g L f2 cap ad aw (fun u => if u = v then V else vs u) := by
  intro u hu
  obtain ⟨a1, a2, a3, a4⟩ := h u hu
  by_cases e : u = v
  · subst e
    simp only [if_true]
    exact ⟨a1, h1, a3, h2⟩
  · simp only [if_neg e]
    obtain ⟨b1, b2⟩ := hf u hu e
    exact ⟨a1, b1.trans a2, a3, b2.trans a4⟩
theorem Vils.set2 {g : GG} {L : List Nat} {f f2 : Nat → va_E} {cap : Nat} {ad aw : Nat → Nat} {vs : Nat → VV} (h : Vils g L f cap ad aw vs) (hD : Dst cap ad aw) {v : Nat} (hv : v < cap) (V : VV) (h1 : f2 (ad v) = eO 2 [.ref (aw v), .int V.1, .int V.2.1, .int V.2.2.1, .int V.2.2.2.1]) (h2 : f2 (aw v) = eI g 8 V.2.2.2.2) (hf : Fr f f2 [ad v, aw v]) : Vils g L f2 cap ad aw (fun u => if u = v then V else vs u) :=
  h.set hD hv V h1 h2 (fun u hu e => ⟨hf _ (nm_c (hD u v hu hv e).1 (nm_c (h.ne hu hv) List.not_mem_nil)), hf _ (nm_c (h.ne hv hu).symm (nm_c (hD u v hu hv e).2 List.not_mem_nil))⟩)
theorem Vils.fr {g : GG} {L : List Nat} {f f2 : Nat → va_E} {cap : Nat} {ad aw : Nat → Nat} {vs : Nat → VV} (h : Vils g L f cap ad aw vs) {as : List Nat} (hf : Fr f f2 as) (hx : ∀ v, v < cap → ad v ∉ as ∧ aw v ∉ as) : Vils g L f2 cap ad aw vs := fun u hu => by
  obtain ⟨a1, a2, a3, a4⟩ := h u hu
  exact ⟨a1, hf.get a2 (hx u hu).1, a3, hf.get a4 (hx u hu).2⟩
theorem Vils.congr {g : GG} {L : List Nat} {f : Nat → va_E} {cap : Nat} {ad aw : Nat → Nat} {vs vs2 : Nat → VV} (h : Vils g L f cap ad aw vs) (e : ∀ v, v < cap → vs v = vs2 v) : Vils g L f cap ad aw vs2 := fun u hu => by rw [← e u hu]; exact h u hu
theorem Off.of {g : GG} {L : List Nat} {f : Nat → va_E} {cap : Nat} {ad aw : Nat → Nat} {vs : Nat → VV} (h : Vils g L f cap ad aw vs) {x : Nat} {e : va_E} (hx : f x = e) (h1 : ∀ fs, e ≠ eO 2 fs) (h2 : ∀ w, e ≠ eI g 8 w) : Off cap ad aw x := fun v hv => by
  obtain ⟨_, a2, _, a4⟩ := h v hv
  exact ⟨ne_e hx a2 (h1 _), ne_e hx a4 (h2 _)⟩
theorem Off.ofI {g : GG} {L : List Nat} {f : Nat → va_E} {cap : Nat} {ad aw : Nat → Nat} {vs : Nat → VV} (h : Vils g L f cap ad aw vs) {x n : Nat} {w : Nat → Int32} (hx : f x = eI g n w) (h2 : ∀ v, v < cap → x ≠ aw v) : Off cap ad aw x := fun v hv => by
  obtain ⟨_, a2, _, a4⟩ := h v hv
  exact ⟨ne_e hx a2 (by simp), h2 v hv⟩
/-- the first n of a row changed -/
def mapV (F : VV → VV) (vs : Nat → VV) (n : Nat) : Nat → VV := fun u => if u < n then F (vs u) else vs u
theorem mapV_0 (F : VV → VV) (vs : Nat → VV) : mapV F vs 0 = vs := funext fun j => if_neg (Nat.not_lt_zero j)
theorem mapV_at (F : VV → VV) (vs : Nat → VV) (n : Nat) : mapV F vs n n = vs n := if_neg (Nat.lt_irrefl n)
theorem mapV_s (F : VV → VV) (vs : Nat → VV) (n : Nat) : (fun u => if u = n then F (vs n) else mapV F vs n u) = mapV F vs (n + 1) := by
  funext j
  unfold mapV
  by_cases h1 : j = n
  · subst h1; simp
  · by_cases h2 : j < n
    · simp [h1, h2, Nat.lt_succ_of_lt h2]
    · have : ¬ j < n + 1 := by omega
      simp [h1, h2, this]
/-- a village's day -/
def leadV (sa : Nat → Int32) (V : VV) : Int32 := leadN sa V.2.2.2.2 8
def hitV (sa : Nat → Int32) (rb : Bool) (V : VV) : Bool := hitB (leadN sa V.2.2.2.2 8) rb
def stepV (sa : Nat → Int32) (rb : Bool) (V : VV) : VV :=
  (V.1, V.2.1 + b2i (hitB (leadN sa V.2.2.2.2 8) rb), sell1 (if hitB (leadN sa V.2.2.2.2 8) rb then V.2.2.2.1 + 1 else 0) V.2.2.1, (if hitB (leadN sa V.2.2.2.2 8) rb then V.2.2.2.1 + 1 else 0), mapN (fun j w => learn1 (truth rb) (sa j) w) V.2.2.2.2 8)
def aheadV (A B : VV) : Bool := aheadB A.2.1 A.2.2.1 A.1 B.2.1 B.2.2.1 B.1
theorem b2z {b : Bool} (h : b2i b = 0) {acc x : Int32} (e : x = acc + 0) : x = acc + b2i b := by rw [h]; exact e
theorem b2o {b : Bool} (h : ¬ b2i b = 0) {acc x : Int32} (e : x = acc + 1) : x = acc + b2i b := by rw [bool1 ⟨b, rfl⟩ h]; exact e
theorem sum1_s {w : Nat → Int32} {n : Nat} {x y : Int32} (h : x = 1 + sumN w n) (e : y = x + w n) : y = 1 + sumN w (n + 1) := by
  rw [e, h, Int32.add_assoc]; rfl
theorem sum1_z {w : Nat → Int32} {n : Nat} {x : Int32} (h : x = 1 + sumN w n) (e : w n = 0) : x = 1 + sumN w (n + 1) := by
  rw [h]
  show 1 + sumN w n = 1 + (sumN w n + w n)
  rw [e, Int32.add_zero]
def copyV (A V : VV) : VV := (A.1, A.2.1, A.2.2.1, A.2.2.2.1, mapN (fun j _ => A.2.2.2.2 j) V.2.2.2.2 8)
def placeV (vs : Nat → VV) (n : Nat) (V : VV) : Int32 := 1 + sumN (fun u => b2i (aheadV (vs u) V)) n
end
section
set_option maxHeartbeats 4000000 in
set_option maxRecDepth 100000 in
theorem m_X2_size (l : Launch) (g : GG) (L : List Nat) (f : Nat → va_E) (rh pa n : Nat) (hL_rh : rh ∈ L) (hf_rh : f rh = eO 3 [.ref pa, .int (nI n)]) : RO l g yX2_size wsX2_size 0 0 L f [.ref rh] (fun r => r = nI n) := by
  refine RO.start (cc := cX2_size) (maxL := 1) (ret := .int) (by decide +kernel) rfl (by simp [lg_sl, Value.category]) ?_
  intro p e s m args below meth c Q ls hx hb hml hts hown hP hK hl hend
  have hl : lv_has ls 1 [(0, .ref rh)] := hl
  have hi_X2 : ∀ w ∈ u_ws RX2 TX2 2, w ∈ wsX2_size := by decide +kernel
  refine lv_aload_n hx hb dX2_size_0 rfl (lv_at hl 0 rfl) ?_
  refine pg_get (C := RX2) (T := TX2) (N := 2) hx hb hts hi_X2 hown hK hP hL_rh hf_rh rfl 1 (by decide) (hts (.fieldLink RX2 18 "BarometerLeague$VillageRow" "size" "I") (by decide +kernel)) (fun _ h9 => h9) rfl dX2_size_1 ?_
  exact hend (nI n) _ _ (rfl) rfl dX2_size_4

set_option maxHeartbeats 4000000 in
set_option maxRecDepth 100000 in
theorem m_X2_isFull (l : Launch) (g : GG) (L : List Nat) (f : Nat → va_E) (rh pa n cap : Nat) (pl : Nat → Option Nat) (hL_rh : rh ∈ L) (hf_rh : f rh = eO 3 [.ref pa, .int (nI n)]) (hL_pa : pa ∈ L) (hf_pa : f pa = eV g cap pl) (hcap : cap ≤ 20) (hn : n ≤ cap) : RO l g yX2_isFull wsX2_isFull 0 0 L f [.ref rh] (fun r => r = b2i (decide (cap ≤ n))) := by
  refine RO.start (cc := cX2_isFull) (maxL := 1) (ret := .boolean) (by decide +kernel) rfl (by simp [lg_sl, Value.category]) ?_
  intro p e s m args below meth c Q ls hx hb hml hts hown hP hK hl hend
  have hl : lv_has ls 1 [(0, .ref rh)] := hl
  have hi_X2 : ∀ w ∈ u_ws RX2 TX2 2, w ∈ wsX2_isFull := by decide +kernel
  have n_rh_pa : rh ≠ pa := ne_e hf_rh hf_pa (by simp)
  refine lv_aload_n hx hb dX2_isFull_0 rfl (lv_at hl 0 rfl) ?_
  refine pg_get (C := RX2) (T := TX2) (N := 2) hx hb hts hi_X2 hown hK hP hL_rh hf_rh rfl 1 (by decide) (hts (.fieldLink RX2 18 "BarometerLeague$VillageRow" "size" "I") (by decide +kernel)) (fun _ h9 => h9) rfl dX2_isFull_1 ?_
  refine lv_aload_n hx hb dX2_isFull_4 rfl (lv_at hl 0 rfl) ?_
  refine pg_get (C := RX2) (T := TX2) (N := 2) hx hb hts hi_X2 hown hK hP hL_rh hf_rh rfl 0 (by decide) (hts (.fieldLink RX2 9 "BarometerLeague$VillageRow" "places" "[LBarometerLeague$Village;") (by decide +kernel)) (fun _ h9 => h9) rfl dX2_isFull_5 ?_
  refine pg_alen hx hb hK hP hL_pa hf_pa 2 rfl (v := nI cap) rfl dX2_isFull_8 ?_
  refine lv_icmp_lt (tgt := 16) hx hb dX2_isFull_9 (by decide) (fun c9 => ?_) (fun c9 => ?_)
  · skip
    have c9 : n < cap := (nI_ltI (a := n) (b := cap) (by omega) (by omega)).mp (show nI n < nI cap from c9)
    refine lv_iconst (v := 0) hx hb dX2_isFull_16 (by decide) ?_
    exact hend (0) _ _ (bf rfl (by omega)) rfl dX2_isFull_17
  · skip
    have c9 : ¬ n < cap := fun h => c9 ((nI_ltI (a := n) (b := cap) (by omega) (by omega)).mpr h)
    refine lv_iconst (v := 1) hx hb dX2_isFull_12 (by decide) ?_
    refine lv_goto (tgt := 17) hx hb dX2_isFull_13 (by decide) ?_
    exact hend (1) _ _ (bt rfl (by omega)) rfl dX2_isFull_17

set_option maxHeartbeats 4000000 in
set_option maxRecDepth 100000 in
theorem m_X2_grow (l : Launch) (g : GG) (L : List Nat) (f : Nat → va_E) (sz : Nat) (hN : L.Nodup) (rh pa n cap : Nat) (pl : Nat → Option Nat) (hL_rh : rh ∈ L) (hf_rh : f rh = eO 3 [.ref pa, .int (nI n)]) (hL_pa : pa ∈ L) (hf_pa : f pa = eV g cap pl) (hcap : cap ≤ 20) (hn : n < cap) : RV l g yX2_grow wsX2_grow 1 20 L f sz [.ref rh] (fun f2 => f2 rh = eO 3 [.ref pa, .int (nI (n + 1))] ∧ Fr f f2 [rh]) := by
  refine RV.start (cc := cX2_grow) (maxL := 1) (by decide +kernel) rfl (by simp [lg_sl, Value.category]) ?_
  intro p e s m args below meth c Q ls A hx hb hml hts hown hA hA2 hS hP hK hl hend
  have hl : lv_has ls 1 [(0, .ref rh)] := hl
  have hi_X2 : ∀ w ∈ u_ws RX2 TX2 2, w ∈ wsX2_grow := by decide +kernel
  have hFr : Fr f f [rh] := Fr.rf
  have n_rh_pa : rh ≠ pa := ne_e hf_rh hf_pa (by simp)
  have h0f_rh := hf_rh
  have h0f_pa := hf_pa
  refine lv_aload_n hx hb dX2_grow_0 rfl (lv_at hl 0 rfl) ?_
  refine ro_V (As := []) (rest := []) ⟨hx, hb, hml, hown, hts⟩ (m_X2_isFull l g L f _ _ _ _ _ hL_rh hf_rh hL_pa hf_pa hcap (by omega)) (cwV 0 hts gX2_grow_X2_isFull rfl rfl rfl (by decide +kernel) ⟨Nat.le_of_ble_eq_true rfl, Nat.le_of_ble_eq_true rfl⟩) hK hP hL_rh hf_rh rfl rfl hl.1 rfl (Nat.le_of_ble_eq_true rfl) dX2_grow_1 ⟨Nat.zero_le _, Nat.zero_le _⟩ (fun r1 hr1 => ?_)
  have hr1 : r1 = b2i (decide (cap ≤ n)) := hr1
  subst hr1
  refine lv_if_ne (tgt := 17) hx hb dX2_grow_4 (by decide) (fun c4 => by exfalso; exact c4 (by rw [decide_eq_false (by omega)]; rfl)) (fun c4 => ?_)
  refine lv_aload_n hx hb dX2_grow_7 rfl (lv_at hl 0 rfl) ?_
  refine lv_dup hx hb dX2_grow_8 rfl ?_
  refine pg_get (C := RX2) (T := TX2) (N := 2) hx hb hts hi_X2 hown hK hP hL_rh hf_rh rfl 1 (by decide) (hts (.fieldLink RX2 18 "BarometerLeague$VillageRow" "size" "I") (by decide +kernel)) (fun _ h9 => h9) rfl dX2_grow_9 ?_
  refine lv_iconst (v := 1) hx hb dX2_grow_12 (by decide) ?_
  refine lv_iadd hx hb dX2_grow_13 ?_
  refine lv_topi (fun v13 ev13 => ?_)
  refine pg_put (ty := .int) (C := RX2) (T := TX2) (N := 2) hx hb hts hi_X2 tyX2 tyX2_ok nmX2 hown hK hP hN hA hS hL_rh hf_rh rfl 1 (by decide) (hts (.fieldLink RX2 18 "BarometerLeague$VillageRow" "size" "I") (by decide +kernel)) (fun _ h9 => h9) rfl (by decide +kernel) rfl rfl (Nat.le_of_ble_eq_true rfl) dX2_grow_14 (fun H locs hP hS => ?_)
  obtain ⟨f14, ef14⟩ : ∃ z, z = va_up f rh (eO 3 [.ref pa, .int v13]) := ⟨_, rfl⟩
  replace hP : PP g L f14 H := by rw [ef14]; exact hP
  have hf_pa : f14 pa = eV g cap pl := by rw [ef14, va_up_ne _ _ n_rh_pa.symm]; exact hf_pa
  have hf_rh : f14 rh = eO 3 [.ref pa, .int v13] := by rw [ef14]; exact va_up_self _ _ _
  replace hFr : Fr f f14 [rh] := by rw [ef14]; exact hFr.up (by simp)
  exact hend f14 _ _ _ _ (⟨by rw [hf_rh, ev13]; exact congrArg (fun z => eO 3 [.ref pa, .int z]) (nI_1 n), hFr⟩) hP hS dX2_grow_17

set_option maxHeartbeats 4000000 in
set_option maxRecDepth 100000 in
theorem m_X2_clear (l : Launch) (g : GG) (L : List Nat) (f : Nat → va_E) (sz : Nat) (hN : L.Nodup) (rh pa n : Nat) (hL_rh : rh ∈ L) (hf_rh : f rh = eO 3 [.ref pa, .int (nI n)]) : RV l g yX2_clear wsX2_clear 0 0 L f sz [.ref rh] (fun f2 => f2 rh = eO 3 [.ref pa, .int (nI 0)] ∧ Fr f f2 [rh]) := by
  refine RV.start (cc := cX2_clear) (maxL := 1) (by decide +kernel) rfl (by simp [lg_sl, Value.category]) ?_
  intro p e s m args below meth c Q ls A hx hb hml hts hown hA hA2 hS hP hK hl hend
  have hl : lv_has ls 1 [(0, .ref rh)] := hl
  have hi_X2 : ∀ w ∈ u_ws RX2 TX2 2, w ∈ wsX2_clear := by decide +kernel
  have hFr : Fr f f [rh] := Fr.rf
  have h0f_rh := hf_rh
  refine lv_aload_n hx hb dX2_clear_0 rfl (lv_at hl 0 rfl) ?_
  refine lv_iconst (v := 0) hx hb dX2_clear_1 (by decide) ?_
  refine pg_put (ty := .int) (C := RX2) (T := TX2) (N := 2) hx hb hts hi_X2 tyX2 tyX2_ok nmX2 hown hK hP hN hA hS hL_rh hf_rh rfl 1 (by decide) (hts (.fieldLink RX2 18 "BarometerLeague$VillageRow" "size" "I") (by decide +kernel)) (fun _ h9 => h9) rfl (by decide +kernel) rfl rfl (Nat.le_of_ble_eq_true rfl) dX2_clear_2 (fun H locs hP hS => ?_)
  obtain ⟨f2, ef2⟩ : ∃ z, z = va_up f rh (eO 3 [.ref pa, .int 0]) := ⟨_, rfl⟩
  replace hP : PP g L f2 H := by rw [ef2]; exact hP
  have hf_rh : f2 rh = eO 3 [.ref pa, .int 0] := by rw [ef2]; exact va_up_self _ _ _
  replace hFr : Fr f f2 [rh] := by rw [ef2]; exact hFr.up (by simp)
  exact hend f2 _ _ _ _ (⟨hf_rh, hFr⟩) hP hS dX2_clear_5

set_option maxHeartbeats 4000000 in
set_option maxRecDepth 100000 in
theorem m_X2_allPoints (l : Launch) (g : GG) (L : List Nat) (f : Nat → va_E) (rh pa n cap : Nat) (pl : Nat → Option Nat) (ad aw : Nat → Nat) (vs : Nat → VV) (hL_rh : rh ∈ L) (hf_rh : f rh = eO 3 [.ref pa, .int (nI n)]) (hL_pa : pa ∈ L) (hf_pa : f pa = eV g cap pl) (hcap : cap ≤ 20) (hn : n ≤ cap) (hpl : ∀ v, v < cap → pl v = some (ad v)) (hV : Vils g L f cap ad aw vs) : RO l g yX2_allPoints wsX2_allPoints 0 0 L f [.ref rh] (fun r => r = sumN (fun v => (vs v).2.1) n) := by
  refine RO.start (cc := cX2_allPoints) (maxL := 3) (ret := .int) (by decide +kernel) rfl (by simp [lg_sl, Value.category]) ?_
  intro p e s m args below meth c Q ls hx hb hml hts hown hP hK hl hend
  have hl : lv_has ls 3 [(0, .ref rh)] := hl
  have hi_X1 : ∀ w ∈ u_ws RX1 TX1 5, w ∈ wsX2_allPoints := by decide +kernel
  have hi_X2 : ∀ w ∈ u_ws RX2 TX2 2, w ∈ wsX2_allPoints := by decide +kernel
  have n_rh_pa : rh ≠ pa := ne_e hf_rh hf_pa (by simp)
  refine lv_iconst (v := 0) hx hb dX2_allPoints_0 (by decide) ?_
  refine lv_istore_n (lv' := [(1, .int 0), (0, .ref rh)]) hx hb dX2_allPoints_1 rfl hl (by decide) rfl (fun ls hl => ?_)
  refine lv_iconst (v := 0) hx hb dX2_allPoints_2 (by decide) ?_
  refine lv_istore_n (lv' := [(2, .int 0), (1, .int 0), (0, .ref rh)]) hx hb dX2_allPoints_3 rfl hl (by decide) rfl (fun ls hl => ?_)
  have K4 : ∀ (n4 : Nat) (i : Nat) (acc : Int32), n - i < n4 → i ≤ n → acc = sumN (fun v => (vs v).2.1) i → ∀ (ls : Array Slot), lv_has ls 3 [(2, .int (nI i)), (1, .int acc), (0, .ref rh)] → W p l e ({ frames := 0, cells := 0, slots := 0, locals := 0 } : Room) s m args below meth c s.heap [] 0 0 Q (F0 m 4 ls []) := by
    intro n4
    induction n4 with
    | zero => intros; omega
    | succ n4 ih4 =>
      intro i acc hm4 hi ha ls hl
      refine lv_iload_n hx hb dX2_allPoints_4 rfl (lv_at hl 0 rfl) ?_
      refine lv_aload_n hx hb dX2_allPoints_5 rfl (lv_at hl 2 rfl) ?_
      refine pg_get (C := RX2) (T := TX2) (N := 2) hx hb hts hi_X2 hown hK hP hL_rh hf_rh rfl 1 (by decide) (hts (.fieldLink RX2 18 "BarometerLeague$VillageRow" "size" "I") (by decide +kernel)) (fun _ h9 => h9) rfl dX2_allPoints_6 ?_
      refine lv_icmp_ge (tgt := 30) hx hb dX2_allPoints_9 (by decide) (fun c9 => ?_) (fun c9 => ?_)
      · skip
        have c9 : n ≤ i := (nI_leI (a := n) (b := i) (by omega) (by omega)).mp (show nI n ≤ nI i from c9)
        refine lv_iload_n hx hb dX2_allPoints_30 rfl (lv_at hl 1 rfl) ?_
        exact hend (acc) _ _ (by rw [ha, show i = n from (by omega)]) rfl dX2_allPoints_31
      · skip
        have c9 : ¬ n ≤ i := fun h => c9 ((nI_leI (a := n) (b := i) (by omega) (by omega)).mpr h)
        refine lv_iload_n hx hb dX2_allPoints_12 rfl (lv_at hl 1 rfl) ?_
        refine lv_aload_n hx hb dX2_allPoints_13 rfl (lv_at hl 2 rfl) ?_
        refine pg_get (C := RX2) (T := TX2) (N := 2) hx hb hts hi_X2 hown hK hP hL_rh hf_rh rfl 0 (by decide) (hts (.fieldLink RX2 9 "BarometerLeague$VillageRow" "places" "[LBarometerLeague$Village;") (by decide +kernel)) (fun _ h9 => h9) rfl dX2_allPoints_14 ?_
        refine lv_iload_n hx hb dX2_allPoints_17 rfl (lv_at hl 0 rfl) ?_
        refine pn_vald (j := i) hx hb hK hP hL_pa hf_pa rfl (by omega) (Nat.lt_of_lt_of_le (m := 100) (by omega) (by omega)) (hpl i (by omega)) dX2_allPoints_18 ?_
        have q18 := hV i (by omega)
        obtain ⟨hL_ad_i, hf_ad_i, hL_aw_i, hf_aw_i⟩ := q18
        refine pg_getN (C := RX1) (T := TX1) (N := 5) hx hb hts hi_X1 hown hK hP hL_ad_i hf_ad_i rfl 2 (by decide) (hK.nest 0 rfl) (fun _ h9 => h9) rfl dX2_allPoints_19 ?_
        refine lv_iadd hx hb dX2_allPoints_22 ?_
        refine lv_topi (fun v22 ev22 => ?_)
        refine lv_istore_n (lv' := [(1, .int v22), (2, .int (nI i)), (0, .ref rh)]) hx hb dX2_allPoints_23 rfl hl (by decide) rfl (fun ls hl => ?_)
        refine lv_iinc (v := nI (i + 1)) (lv' := [(2, .int (nI (i + 1))), (1, .int v22), (0, .ref rh)]) hx hb dX2_allPoints_24 hl (k := 1) rfl (nI_1 _) (by decide) rfl (fun ls hl => ?_)
        refine lv_goto (tgt := 4) hx hb dX2_allPoints_27 (by decide) ?_
        exact ih4 (i + 1) v22 (by omega) (by omega) (sumN_s ha ev22) ls (lv_sub hl [0, 1, 2] rfl)
  exact K4 _ 0 0 (Nat.lt_succ_self _) (Nat.zero_le _) (rfl) ls (lv_sub hl [0, 1, 2] rfl)

set_option maxHeartbeats 4000000 in
set_option maxRecDepth 100000 in
theorem m_X2_allCoins (l : Launch) (g : GG) (L : List Nat) (f : Nat → va_E) (rh pa n cap : Nat) (pl : Nat → Option Nat) (ad aw : Nat → Nat) (vs : Nat → VV) (hL_rh : rh ∈ L) (hf_rh : f rh = eO 3 [.ref pa, .int (nI n)]) (hL_pa : pa ∈ L) (hf_pa : f pa = eV g cap pl) (hcap : cap ≤ 20) (hn : n ≤ cap) (hpl : ∀ v, v < cap → pl v = some (ad v)) (hV : Vils g L f cap ad aw vs) : RO l g yX2_allCoins wsX2_allCoins 0 0 L f [.ref rh] (fun r => r = sumN (fun v => (vs v).2.2.1) n) := by
  refine RO.start (cc := cX2_allCoins) (maxL := 3) (ret := .int) (by decide +kernel) rfl (by simp [lg_sl, Value.category]) ?_
  intro p e s m args below meth c Q ls hx hb hml hts hown hP hK hl hend
  have hl : lv_has ls 3 [(0, .ref rh)] := hl
  have hi_X1 : ∀ w ∈ u_ws RX1 TX1 5, w ∈ wsX2_allCoins := by decide +kernel
  have hi_X2 : ∀ w ∈ u_ws RX2 TX2 2, w ∈ wsX2_allCoins := by decide +kernel
  have n_rh_pa : rh ≠ pa := ne_e hf_rh hf_pa (by simp)
  refine lv_iconst (v := 0) hx hb dX2_allCoins_0 (by decide) ?_
  refine lv_istore_n (lv' := [(1, .int 0), (0, .ref rh)]) hx hb dX2_allCoins_1 rfl hl (by decide) rfl (fun ls hl => ?_)
  refine lv_iconst (v := 0) hx hb dX2_allCoins_2 (by decide) ?_
  refine lv_istore_n (lv' := [(2, .int 0), (1, .int 0), (0, .ref rh)]) hx hb dX2_allCoins_3 rfl hl (by decide) rfl (fun ls hl => ?_)
  have K4 : ∀ (n4 : Nat) (i : Nat) (acc : Int32), n - i < n4 → i ≤ n → acc = sumN (fun v => (vs v).2.2.1) i → ∀ (ls : Array Slot), lv_has ls 3 [(2, .int (nI i)), (1, .int acc), (0, .ref rh)] → W p l e ({ frames := 0, cells := 0, slots := 0, locals := 0 } : Room) s m args below meth c s.heap [] 0 0 Q (F0 m 4 ls []) := by
    intro n4
    induction n4 with
    | zero => intros; omega
    | succ n4 ih4 =>
      intro i acc hm4 hi ha ls hl
      refine lv_iload_n hx hb dX2_allCoins_4 rfl (lv_at hl 0 rfl) ?_
      refine lv_aload_n hx hb dX2_allCoins_5 rfl (lv_at hl 2 rfl) ?_
      refine pg_get (C := RX2) (T := TX2) (N := 2) hx hb hts hi_X2 hown hK hP hL_rh hf_rh rfl 1 (by decide) (hts (.fieldLink RX2 18 "BarometerLeague$VillageRow" "size" "I") (by decide +kernel)) (fun _ h9 => h9) rfl dX2_allCoins_6 ?_
      refine lv_icmp_ge (tgt := 30) hx hb dX2_allCoins_9 (by decide) (fun c9 => ?_) (fun c9 => ?_)
      · skip
        have c9 : n ≤ i := (nI_leI (a := n) (b := i) (by omega) (by omega)).mp (show nI n ≤ nI i from c9)
        refine lv_iload_n hx hb dX2_allCoins_30 rfl (lv_at hl 1 rfl) ?_
        exact hend (acc) _ _ (by rw [ha, show i = n from (by omega)]) rfl dX2_allCoins_31
      · skip
        have c9 : ¬ n ≤ i := fun h => c9 ((nI_leI (a := n) (b := i) (by omega) (by omega)).mpr h)
        refine lv_iload_n hx hb dX2_allCoins_12 rfl (lv_at hl 1 rfl) ?_
        refine lv_aload_n hx hb dX2_allCoins_13 rfl (lv_at hl 2 rfl) ?_
        refine pg_get (C := RX2) (T := TX2) (N := 2) hx hb hts hi_X2 hown hK hP hL_rh hf_rh rfl 0 (by decide) (hts (.fieldLink RX2 9 "BarometerLeague$VillageRow" "places" "[LBarometerLeague$Village;") (by decide +kernel)) (fun _ h9 => h9) rfl dX2_allCoins_14 ?_
        refine lv_iload_n hx hb dX2_allCoins_17 rfl (lv_at hl 0 rfl) ?_
        refine pn_vald (j := i) hx hb hK hP hL_pa hf_pa rfl (by omega) (Nat.lt_of_lt_of_le (m := 100) (by omega) (by omega)) (hpl i (by omega)) dX2_allCoins_18 ?_
        have q18 := hV i (by omega)
        obtain ⟨hL_ad_i, hf_ad_i, hL_aw_i, hf_aw_i⟩ := q18
        refine pg_getN (C := RX1) (T := TX1) (N := 5) hx hb hts hi_X1 hown hK hP hL_ad_i hf_ad_i rfl 3 (by decide) (hK.nest 3 rfl) (fun _ h9 => h9) rfl dX2_allCoins_19 ?_
        refine lv_iadd hx hb dX2_allCoins_22 ?_
        refine lv_topi (fun v22 ev22 => ?_)
        refine lv_istore_n (lv' := [(1, .int v22), (2, .int (nI i)), (0, .ref rh)]) hx hb dX2_allCoins_23 rfl hl (by decide) rfl (fun ls hl => ?_)
        refine lv_iinc (v := nI (i + 1)) (lv' := [(2, .int (nI (i + 1))), (1, .int v22), (0, .ref rh)]) hx hb dX2_allCoins_24 hl (k := 1) rfl (nI_1 _) (by decide) rfl (fun ls hl => ?_)
        refine lv_goto (tgt := 4) hx hb dX2_allCoins_27 (by decide) ?_
        exact ih4 (i + 1) v22 (by omega) (by omega) (sumN_s ha ev22) ls (lv_sub hl [0, 1, 2] rfl)
  exact K4 _ 0 0 (Nat.lt_succ_self _) (Nat.zero_le _) (rfl) ls (lv_sub hl [0, 1, 2] rfl)

set_option maxHeartbeats 4000000 in
set_option maxRecDepth 100000 in
theorem m_X2_allWeightsOf (l : Launch) (g : GG) (L : List Nat) (f : Nat → va_E) (rh pa n cap : Nat) (pl : Nat → Option Nat) (ad aw : Nat → Nat) (vs : Nat → VV) (j : Nat) (hL_rh : rh ∈ L) (hf_rh : f rh = eO 3 [.ref pa, .int (nI n)]) (hL_pa : pa ∈ L) (hf_pa : f pa = eV g cap pl) (hcap : cap ≤ 20) (hn : n ≤ cap) (hpl : ∀ v, v < cap → pl v = some (ad v)) (hV : Vils g L f cap ad aw vs) (hj : j < 8) : RO l g yX2_allWeightsOf wsX2_allWeightsOf 1 21 L f [.ref rh, .int (nI j)] (fun r => r = sumN (fun v => (vs v).2.2.2.2 j) n) := by
  refine RO.start (cc := cX2_allWeightsOf) (maxL := 4) (ret := .int) (by decide +kernel) rfl (by simp [lg_sl, Value.category]) ?_
  intro p e s m args below meth c Q ls hx hb hml hts hown hP hK hl hend
  have hl : lv_has ls 4 [(0, .ref rh), (1, .int (nI j))] := hl
  have hi_X2 : ∀ w ∈ u_ws RX2 TX2 2, w ∈ wsX2_allWeightsOf := by decide +kernel
  have n_rh_pa : rh ≠ pa := ne_e hf_rh hf_pa (by simp)
  refine lv_iconst (v := 0) hx hb dX2_allWeightsOf_0 (by decide) ?_
  refine lv_istore_n (lv' := [(2, .int 0), (0, .ref rh), (1, .int (nI j))]) hx hb dX2_allWeightsOf_1 rfl hl (by decide) rfl (fun ls hl => ?_)
  refine lv_iconst (v := 0) hx hb dX2_allWeightsOf_2 (by decide) ?_
  refine lv_istore_n (lv' := [(3, .int 0), (2, .int 0), (0, .ref rh), (1, .int (nI j))]) hx hb dX2_allWeightsOf_3 rfl hl (by decide) rfl (fun ls hl => ?_)
  have K4 : ∀ (n4 : Nat) (i : Nat) (acc : Int32), n - i < n4 → i ≤ n → acc = sumN (fun v => (vs v).2.2.2.2 j) i → ∀ (ls : Array Slot), lv_has ls 4 [(3, .int (nI i)), (2, .int acc), (1, .int (nI j)), (0, .ref rh)] → W p l e ({ frames := 1, cells := 0, slots := 0, locals := 21 } : Room) s m args below meth c s.heap [] 0 0 Q (F0 m 4 ls []) := by
    intro n4
    induction n4 with
    | zero => intros; omega
    | succ n4 ih4 =>
      intro i acc hm4 hi ha ls hl
      refine lv_iload_n hx hb dX2_allWeightsOf_4 rfl (lv_at hl 0 rfl) ?_
      refine lv_aload_n hx hb dX2_allWeightsOf_5 rfl (lv_at hl 3 rfl) ?_
      refine pg_get (C := RX2) (T := TX2) (N := 2) hx hb hts hi_X2 hown hK hP hL_rh hf_rh rfl 1 (by decide) (hts (.fieldLink RX2 18 "BarometerLeague$VillageRow" "size" "I") (by decide +kernel)) (fun _ h9 => h9) rfl dX2_allWeightsOf_6 ?_
      refine lv_icmp_ge (tgt := 31) hx hb dX2_allWeightsOf_9 (by decide) (fun c9 => ?_) (fun c9 => ?_)
      · skip
        have c9 : n ≤ i := (nI_leI (a := n) (b := i) (by omega) (by omega)).mp (show nI n ≤ nI i from c9)
        refine lv_iload_n hx hb dX2_allWeightsOf_31 rfl (lv_at hl 1 rfl) ?_
        exact hend (acc) _ _ (by rw [ha, show i = n from (by omega)]) rfl dX2_allWeightsOf_32
      · skip
        have c9 : ¬ n ≤ i := fun h => c9 ((nI_leI (a := n) (b := i) (by omega) (by omega)).mpr h)
        refine lv_iload_n hx hb dX2_allWeightsOf_12 rfl (lv_at hl 1 rfl) ?_
        refine lv_aload_n hx hb dX2_allWeightsOf_13 rfl (lv_at hl 3 rfl) ?_
        refine pg_get (C := RX2) (T := TX2) (N := 2) hx hb hts hi_X2 hown hK hP hL_rh hf_rh rfl 0 (by decide) (hts (.fieldLink RX2 9 "BarometerLeague$VillageRow" "places" "[LBarometerLeague$Village;") (by decide +kernel)) (fun _ h9 => h9) rfl dX2_allWeightsOf_14 ?_
        refine lv_iload_n hx hb dX2_allWeightsOf_17 rfl (lv_at hl 0 rfl) ?_
        refine pn_vald (j := i) hx hb hK hP hL_pa hf_pa rfl (by omega) (Nat.lt_of_lt_of_le (m := 100) (by omega) (by omega)) (hpl i (by omega)) dX2_allWeightsOf_18 ?_
        have q18 := hV i (by omega)
        obtain ⟨hL_ad_i, hf_ad_i, hL_aw_i, hf_aw_i⟩ := q18
        refine lv_iload_n hx hb dX2_allWeightsOf_19 rfl (lv_at hl 2 rfl) ?_
        refine ro_V (As := [.int (nI j)]) (rest := [.int acc]) ⟨hx, hb, hml, hown, hts⟩ (m_X1_weightOf l g L f _ _ _ _ _ _ _ j hL_ad_i hf_ad_i hL_aw_i hf_aw_i hj) (cwV 1 hts gX2_allWeightsOf_X1_weightOf rfl rfl rfl (by decide +kernel) ⟨Nat.le_of_ble_eq_true rfl, Nat.le_of_ble_eq_true rfl⟩) hK hP hL_ad_i hf_ad_i rfl rfl hl.1 rfl (Nat.le_of_ble_eq_true rfl) dX2_allWeightsOf_20 ⟨Nat.zero_le _, Nat.zero_le _⟩ (fun r20 hr20 => ?_)
        have hr20 : r20 = (vs i).2.2.2.2 j := hr20
        subst hr20
        refine lv_iadd hx hb dX2_allWeightsOf_23 ?_
        refine lv_topi (fun v23 ev23 => ?_)
        refine lv_istore_n (lv' := [(2, .int v23), (3, .int (nI i)), (1, .int (nI j)), (0, .ref rh)]) hx hb dX2_allWeightsOf_24 rfl hl (by decide) rfl (fun ls hl => ?_)
        refine lv_iinc (v := nI (i + 1)) (lv' := [(3, .int (nI (i + 1))), (2, .int v23), (1, .int (nI j)), (0, .ref rh)]) hx hb dX2_allWeightsOf_25 hl (k := 1) rfl (nI_1 _) (by decide) rfl (fun ls hl => ?_)
        refine lv_goto (tgt := 4) hx hb dX2_allWeightsOf_28 (by decide) ?_
        exact ih4 (i + 1) v23 (by omega) (by omega) (sumN_s ha ev23) ls (lv_sub hl [0, 1, 2, 3] rfl)
  exact K4 _ 0 0 (Nat.lt_succ_self _) (Nat.zero_le _) (rfl) ls (lv_sub hl [0, 1, 3, 2] rfl)

set_option maxHeartbeats 4000000 in
set_option maxRecDepth 100000 in
theorem m_X2_guessingRain (l : Launch) (g : GG) (L : List Nat) (f : Nat → va_E) (rh pa n cap : Nat) (pl : Nat → Option Nat) (ad aw : Nat → Nat) (vs : Nat → VV) (sy : Nat) (sa : Nat → Int32) (hL_rh : rh ∈ L) (hf_rh : f rh = eO 3 [.ref pa, .int (nI n)]) (hL_pa : pa ∈ L) (hf_pa : f pa = eV g cap pl) (hL_sy : sy ∈ L) (hf_sy : f sy = eI g 8 sa) (hcap : cap ≤ 20) (hn : n ≤ cap) (hpl : ∀ v, v < cap → pl v = some (ad v)) (hV : Vils g L f cap ad aw vs) : RO l g yX2_guessingRain wsX2_guessingRain 2 44 L f [.ref rh, .ref sy] (fun r => r = sumN (fun v => b2i (decide (0 < leadV sa (vs v)))) n) := by
  refine RO.start (cc := cX2_guessingRain) (maxL := 4) (ret := .int) (by decide +kernel) rfl (by simp [lg_sl, Value.category]) ?_
  intro p e s m args below meth c Q ls hx hb hml hts hown hP hK hl hend
  have hl : lv_has ls 4 [(0, .ref rh), (1, .ref sy)] := hl
  have hi_X2 : ∀ w ∈ u_ws RX2 TX2 2, w ∈ wsX2_guessingRain := by decide +kernel
  have n_rh_pa : rh ≠ pa := ne_e hf_rh hf_pa (by simp)
  have n_rh_sy : rh ≠ sy := ne_e hf_rh hf_sy (by simp)
  refine lv_iconst (v := 0) hx hb dX2_guessingRain_0 (by decide) ?_
  refine lv_istore_n (lv' := [(2, .int 0), (0, .ref rh), (1, .ref sy)]) hx hb dX2_guessingRain_1 rfl hl (by decide) rfl (fun ls hl => ?_)
  refine lv_iconst (v := 0) hx hb dX2_guessingRain_2 (by decide) ?_
  refine lv_istore_n (lv' := [(3, .int 0), (2, .int 0), (0, .ref rh), (1, .ref sy)]) hx hb dX2_guessingRain_3 rfl hl (by decide) rfl (fun ls hl => ?_)
  have K4 : ∀ (n4 : Nat) (i : Nat) (acc : Int32), n - i < n4 → i ≤ n → acc = sumN (fun v => b2i (decide (0 < leadV sa (vs v)))) i → ∀ (ls : Array Slot), lv_has ls 4 [(3, .int (nI i)), (2, .int acc), (1, .ref sy), (0, .ref rh)] → W p l e ({ frames := 2, cells := 0, slots := 0, locals := 44 } : Room) s m args below meth c s.heap [] 0 0 Q (F0 m 4 ls []) := by
    intro n4
    induction n4 with
    | zero => intros; omega
    | succ n4 ih4 =>
      intro i acc hm4 hi ha ls hl
      refine lv_iload_n hx hb dX2_guessingRain_4 rfl (lv_at hl 0 rfl) ?_
      refine lv_aload_n hx hb dX2_guessingRain_5 rfl (lv_at hl 3 rfl) ?_
      refine pg_get (C := RX2) (T := TX2) (N := 2) hx hb hts hi_X2 hown hK hP hL_rh hf_rh rfl 1 (by decide) (hts (.fieldLink RX2 18 "BarometerLeague$VillageRow" "size" "I") (by decide +kernel)) (fun _ h9 => h9) rfl dX2_guessingRain_6 ?_
      refine lv_icmp_ge (tgt := 39) hx hb dX2_guessingRain_9 (by decide) (fun c9 => ?_) (fun c9 => ?_)
      · skip
        have c9 : n ≤ i := (nI_leI (a := n) (b := i) (by omega) (by omega)).mp (show nI n ≤ nI i from c9)
        refine lv_iload_n hx hb dX2_guessingRain_39 rfl (lv_at hl 1 rfl) ?_
        exact hend (acc) _ _ (by rw [ha, show i = n from (by omega)]) rfl dX2_guessingRain_40
      · skip
        have c9 : ¬ n ≤ i := fun h => c9 ((nI_leI (a := n) (b := i) (by omega) (by omega)).mpr h)
        refine lv_iload_n hx hb dX2_guessingRain_12 rfl (lv_at hl 1 rfl) ?_
        refine lv_aload_n hx hb dX2_guessingRain_13 rfl (lv_at hl 3 rfl) ?_
        refine pg_get (C := RX2) (T := TX2) (N := 2) hx hb hts hi_X2 hown hK hP hL_rh hf_rh rfl 0 (by decide) (hts (.fieldLink RX2 9 "BarometerLeague$VillageRow" "places" "[LBarometerLeague$Village;") (by decide +kernel)) (fun _ h9 => h9) rfl dX2_guessingRain_14 ?_
        refine lv_iload_n hx hb dX2_guessingRain_17 rfl (lv_at hl 0 rfl) ?_
        refine pn_vald (j := i) hx hb hK hP hL_pa hf_pa rfl (by omega) (Nat.lt_of_lt_of_le (m := 100) (by omega) (by omega)) (hpl i (by omega)) dX2_guessingRain_18 ?_
        have q18 := hV i (by omega)
        obtain ⟨hL_ad_i, hf_ad_i, hL_aw_i, hf_aw_i⟩ := q18
        refine lv_aload_n hx hb dX2_guessingRain_19 rfl (lv_at hl 2 rfl) ?_
        refine ro_V (As := [.ref sy]) (rest := [.int acc]) ⟨hx, hb, hml, hown, hts⟩ (m_X1_guessesRain l g L f _ _ _ _ _ _ _ _ _ hL_ad_i hf_ad_i hL_aw_i hf_aw_i hL_sy hf_sy) (cwV 1 hts gX2_guessingRain_X1_guessesRain rfl rfl rfl (by decide +kernel) ⟨Nat.le_of_ble_eq_true rfl, Nat.le_of_ble_eq_true rfl⟩) hK hP hL_ad_i hf_ad_i rfl rfl hl.1 rfl (Nat.le_of_ble_eq_true rfl) dX2_guessingRain_20 ⟨Nat.zero_le _, Nat.zero_le _⟩ (fun r20 hr20 => ?_)
        have hr20 : r20 = b2i (decide (0 < leadV sa (vs i))) := hr20
        subst hr20
        refine lv_if_eq (tgt := 30) hx hb dX2_guessingRain_23 (by decide) (fun c23 => ?_) (fun c23 => ?_)
        · skip
          refine lv_iconst (v := 0) hx hb dX2_guessingRain_30 (by decide) ?_
          refine lv_iadd hx hb dX2_guessingRain_31 ?_
          refine lv_topi (fun v31 ev31 => ?_)
          refine lv_istore_n (lv' := [(2, .int v31), (3, .int (nI i)), (1, .ref sy), (0, .ref rh)]) hx hb dX2_guessingRain_32 rfl hl (by decide) rfl (fun ls hl => ?_)
          refine lv_iinc (v := nI (i + 1)) (lv' := [(3, .int (nI (i + 1))), (2, .int v31), (1, .ref sy), (0, .ref rh)]) hx hb dX2_guessingRain_33 hl (k := 1) rfl (nI_1 _) (by decide) rfl (fun ls hl => ?_)
          refine lv_goto (tgt := 4) hx hb dX2_guessingRain_36 (by decide) ?_
          exact ih4 (i + 1) v31 (by omega) (by omega) (sumN_s ha (b2z c23 ev31)) ls (lv_sub hl [0, 1, 2, 3] rfl)
        · skip
          refine lv_iconst (v := 1) hx hb dX2_guessingRain_26 (by decide) ?_
          refine lv_goto (tgt := 31) hx hb dX2_guessingRain_27 (by decide) ?_
          refine lv_iadd hx hb dX2_guessingRain_31 ?_
          refine lv_topi (fun v31 ev31 => ?_)
          refine lv_istore_n (lv' := [(2, .int v31), (3, .int (nI i)), (1, .ref sy), (0, .ref rh)]) hx hb dX2_guessingRain_32 rfl hl (by decide) rfl (fun ls hl => ?_)
          refine lv_iinc (v := nI (i + 1)) (lv' := [(3, .int (nI (i + 1))), (2, .int v31), (1, .ref sy), (0, .ref rh)]) hx hb dX2_guessingRain_33 hl (k := 1) rfl (nI_1 _) (by decide) rfl (fun ls hl => ?_)
          refine lv_goto (tgt := 4) hx hb dX2_guessingRain_36 (by decide) ?_
          exact ih4 (i + 1) v31 (by omega) (by omega) (sumN_s ha (b2o c23 ev31)) ls (lv_sub hl [0, 1, 2, 3] rfl)
  exact K4 _ 0 0 (Nat.lt_succ_self _) (Nat.zero_le _) (rfl) ls (lv_sub hl [0, 1, 3, 2] rfl)

set_option maxHeartbeats 4000000 in
set_option maxRecDepth 100000 in
theorem m_X2_placeOf (l : Launch) (g : GG) (L : List Nat) (f : Nat → va_E) (rh pa n cap : Nat) (pl : Nat → Option Nat) (ad aw : Nat → Nat) (vs : Nat → VV) (q qw : Nat) (Vq : VV) (hL_rh : rh ∈ L) (hf_rh : f rh = eO 3 [.ref pa, .int (nI n)]) (hL_pa : pa ∈ L) (hf_pa : f pa = eV g cap pl) (hL_q : q ∈ L) (hf_q : f q = eO 2 [.ref qw, .int Vq.1, .int Vq.2.1, .int Vq.2.2.1, .int Vq.2.2.2.1]) (hcap : cap ≤ 20) (hn : n ≤ cap) (hpl : ∀ v, v < cap → pl v = some (ad v)) (hV : Vils g L f cap ad aw vs) : RO l g yX2_placeOf wsX2_placeOf 1 21 L f [.ref rh, .ref q] (fun r => r = placeV vs n Vq) := by
  refine RO.start (cc := cX2_placeOf) (maxL := 4) (ret := .int) (by decide +kernel) rfl (by simp [lg_sl, Value.category]) ?_
  intro p e s m args below meth c Q ls hx hb hml hts hown hP hK hl hend
  have hl : lv_has ls 4 [(0, .ref rh), (1, .ref q)] := hl
  have hi_X2 : ∀ w ∈ u_ws RX2 TX2 2, w ∈ wsX2_placeOf := by decide +kernel
  have n_rh_pa : rh ≠ pa := ne_e hf_rh hf_pa (by simp)
  have n_rh_q : rh ≠ q := ne_e hf_rh hf_q (by simp)
  have n_pa_q : pa ≠ q := ne_e hf_pa hf_q (by simp)
  refine lv_iconst (v := 1) hx hb dX2_placeOf_0 (by decide) ?_
  refine lv_istore_n (lv' := [(2, .int 1), (0, .ref rh), (1, .ref q)]) hx hb dX2_placeOf_1 rfl hl (by decide) rfl (fun ls hl => ?_)
  refine lv_iconst (v := 0) hx hb dX2_placeOf_2 (by decide) ?_
  refine lv_istore_n (lv' := [(3, .int 0), (2, .int 1), (0, .ref rh), (1, .ref q)]) hx hb dX2_placeOf_3 rfl hl (by decide) rfl (fun ls hl => ?_)
  have K4 : ∀ (n4 : Nat) (i : Nat) (acc : Int32), n - i < n4 → i ≤ n → acc = 1 + sumN (fun u => b2i (aheadV (vs u) Vq)) i → ∀ (ls : Array Slot), lv_has ls 4 [(3, .int (nI i)), (2, .int acc), (1, .ref q), (0, .ref rh)] → W p l e ({ frames := 1, cells := 0, slots := 0, locals := 21 } : Room) s m args below meth c s.heap [] 0 0 Q (F0 m 4 ls []) := by
    intro n4
    induction n4 with
    | zero => intros; omega
    | succ n4 ih4 =>
      intro i acc hm4 hi ha ls hl
      refine lv_iload_n hx hb dX2_placeOf_4 rfl (lv_at hl 0 rfl) ?_
      refine lv_aload_n hx hb dX2_placeOf_5 rfl (lv_at hl 3 rfl) ?_
      refine pg_get (C := RX2) (T := TX2) (N := 2) hx hb hts hi_X2 hown hK hP hL_rh hf_rh rfl 1 (by decide) (hts (.fieldLink RX2 18 "BarometerLeague$VillageRow" "size" "I") (by decide +kernel)) (fun _ h9 => h9) rfl dX2_placeOf_6 ?_
      refine lv_icmp_ge (tgt := 34) hx hb dX2_placeOf_9 (by decide) (fun c9 => ?_) (fun c9 => ?_)
      · skip
        have c9 : n ≤ i := (nI_leI (a := n) (b := i) (by omega) (by omega)).mp (show nI n ≤ nI i from c9)
        refine lv_iload_n hx hb dX2_placeOf_34 rfl (lv_at hl 1 rfl) ?_
        exact hend (acc) _ _ (by rw [ha, show i = n from (by omega)]; rfl) rfl dX2_placeOf_35
      · skip
        have c9 : ¬ n ≤ i := fun h => c9 ((nI_leI (a := n) (b := i) (by omega) (by omega)).mpr h)
        refine lv_aload_n hx hb dX2_placeOf_12 rfl (lv_at hl 3 rfl) ?_
        refine pg_get (C := RX2) (T := TX2) (N := 2) hx hb hts hi_X2 hown hK hP hL_rh hf_rh rfl 0 (by decide) (hts (.fieldLink RX2 9 "BarometerLeague$VillageRow" "places" "[LBarometerLeague$Village;") (by decide +kernel)) (fun _ h9 => h9) rfl dX2_placeOf_13 ?_
        refine lv_iload_n hx hb dX2_placeOf_16 rfl (lv_at hl 0 rfl) ?_
        refine pn_vald (j := i) hx hb hK hP hL_pa hf_pa rfl (by omega) (Nat.lt_of_lt_of_le (m := 100) (by omega) (by omega)) (hpl i (by omega)) dX2_placeOf_17 ?_
        have q17 := hV i (by omega)
        obtain ⟨hL_ad_i, hf_ad_i, hL_aw_i, hf_aw_i⟩ := q17
        refine lv_aload_n hx hb dX2_placeOf_18 rfl (lv_at hl 2 rfl) ?_
        refine ro_V (As := [.ref q]) (rest := []) ⟨hx, hb, hml, hown, hts⟩ (m_X1_isAheadOf l g L f _ _ _ _ _ _ _ _ _ _ _ _ hL_ad_i hf_ad_i hL_q hf_q) (cwV 1 hts gX2_placeOf_X1_isAheadOf rfl rfl rfl (by decide +kernel) ⟨Nat.le_of_ble_eq_true rfl, Nat.le_of_ble_eq_true rfl⟩) hK hP hL_ad_i hf_ad_i rfl rfl hl.1 rfl (Nat.le_of_ble_eq_true rfl) dX2_placeOf_19 ⟨Nat.zero_le _, Nat.zero_le _⟩ (fun r19 hr19 => ?_)
        have hr19 : r19 = b2i (aheadV (vs i) Vq) := hr19
        subst hr19
        refine lv_if_eq (tgt := 28) hx hb dX2_placeOf_22 (by decide) (fun c22 => ?_) (fun c22 => ?_)
        · skip
          refine lv_iinc (v := nI (i + 1)) (lv' := [(3, .int (nI (i + 1))), (2, .int acc), (1, .ref q), (0, .ref rh)]) hx hb dX2_placeOf_28 hl (k := 0) rfl (nI_1 _) (by decide) rfl (fun ls hl => ?_)
          refine lv_goto (tgt := 4) hx hb dX2_placeOf_31 (by decide) ?_
          exact ih4 (i + 1) acc (by omega) (by omega) (sum1_z ha c22) ls (lv_sub hl [0, 1, 2, 3] rfl)
        · skip
          obtain ⟨v25, ev25⟩ : ∃ y : Int32, y = acc + 1 := ⟨_, rfl⟩
          refine lv_iinc (v := v25) (lv' := [(2, .int v25), (3, .int (nI i)), (1, .ref q), (0, .ref rh)]) hx hb dX2_placeOf_25 hl (k := 1) rfl (by rw [ev25]; rfl) (by decide) rfl (fun ls hl => ?_)
          refine lv_iinc (v := nI (i + 1)) (lv' := [(3, .int (nI (i + 1))), (2, .int v25), (1, .ref q), (0, .ref rh)]) hx hb dX2_placeOf_28 hl (k := 1) rfl (nI_1 _) (by decide) rfl (fun ls hl => ?_)
          refine lv_goto (tgt := 4) hx hb dX2_placeOf_31 (by decide) ?_
          exact ih4 (i + 1) v25 (by omega) (by omega) (sum1_s ha (ev25.trans (congrArg (acc + ·) (bool1 ⟨_, rfl⟩ c22).symm))) ls (lv_sub hl [0, 1, 2, 3] rfl)
  exact K4 _ 0 1 (Nat.lt_succ_self _) (Nat.zero_le _) (rfl) ls (lv_sub hl [0, 1, 3, 2] rfl)

set_option maxHeartbeats 4000000 in
set_option maxRecDepth 100000 in
theorem m_X2_addCopy (l : Launch) (g : GG) (L : List Nat) (f : Nat → va_E) (sz : Nat) (hN : L.Nodup) (rh pa n cap : Nat) (pl : Nat → Option Nat) (ad aw : Nat → Nat) (vs : Nat → VV) (o ow : Nat) (Vo : VV) (hL_rh : rh ∈ L) (hf_rh : f rh = eO 3 [.ref pa, .int (nI n)]) (hL_pa : pa ∈ L) (hf_pa : f pa = eV g cap pl) (hL_o : o ∈ L) (hf_o : f o = eO 2 [.ref ow, .int Vo.1, .int Vo.2.1, .int Vo.2.2.1, .int Vo.2.2.2.1]) (hL_ow : ow ∈ L) (hf_ow : f ow = eI g 8 Vo.2.2.2.2) (hcap : cap ≤ 20) (hn : n < cap) (hpl : ∀ v, v < cap → pl v = some (ad v)) (hV : Vils g L f cap ad aw vs) (hD : Dst cap ad aw) (off_o : Off cap ad aw o) (off_ow : Off cap ad aw ow) : RV l g yX2_addCopy wsX2_addCopy 1 22 L f sz [.ref rh, .ref o] (fun f2 => f2 rh = eO 3 [.ref pa, .int (nI (n + 1))] ∧ Vils g L f2 cap ad aw (fun u => if u = n then copyV Vo (vs n) else vs u) ∧ Fr f f2 [rh, ad n, aw n]) := by
  refine RV.start (cc := cX2_addCopy) (maxL := 2) (by decide +kernel) rfl (by simp [lg_sl, Value.category]) ?_
  intro p e s m args below meth c Q ls A hx hb hml hts hown hA hA2 hS hP hK hl hend
  have hl : lv_has ls 2 [(0, .ref rh), (1, .ref o)] := hl
  have hi_X2 : ∀ w ∈ u_ws RX2 TX2 2, w ∈ wsX2_addCopy := by decide +kernel
  have hFr : Fr f f [rh, ad n, aw n] := Fr.rf
  have n_rh_pa : rh ≠ pa := ne_e hf_rh hf_pa (by simp)
  have n_rh_o : rh ≠ o := ne_e hf_rh hf_o (by simp)
  have n_rh_ow : rh ≠ ow := ne_e hf_rh hf_ow (by simp)
  have n_pa_o : pa ≠ o := ne_e hf_pa hf_o (by simp)
  have n_o_ow : o ≠ ow := ne_e hf_o hf_ow (by simp)
  have h0f_rh := hf_rh
  have h0f_pa := hf_pa
  have h0f_o := hf_o
  have h0f_ow := hf_ow
  have off_rh : Off cap ad aw rh := Off.of hV hf_rh (by simp) (by simp)
  have off_pa : Off cap ad aw pa := Off.of hV hf_pa (by simp) (by simp)
  refine lv_aload_n hx hb dX2_addCopy_0 rfl (lv_at hl 0 rfl) ?_
  refine ro_V (As := []) (rest := []) ⟨hx, hb, hml, hown, hts⟩ (m_X2_isFull l g L f _ _ _ _ _ hL_rh hf_rh hL_pa hf_pa hcap (by omega)) (cwV 0 hts gX2_addCopy_X2_isFull rfl rfl rfl (by decide +kernel) ⟨Nat.le_of_ble_eq_true rfl, Nat.le_of_ble_eq_true rfl⟩) hK hP hL_rh hf_rh rfl rfl hl.1 rfl (Nat.le_of_ble_eq_true rfl) dX2_addCopy_1 ⟨Nat.zero_le _, Nat.zero_le _⟩ (fun r1 hr1 => ?_)
  have hr1 : r1 = b2i (decide (cap ≤ n)) := hr1
  subst hr1
  refine lv_if_ne (tgt := 30) hx hb dX2_addCopy_4 (by decide) (fun c4 => by exfalso; exact c4 (by rw [decide_eq_false (by omega)]; rfl)) (fun c4 => ?_)
  refine lv_aload_n hx hb dX2_addCopy_7 rfl (lv_at hl 0 rfl) ?_
  refine pg_get (C := RX2) (T := TX2) (N := 2) hx hb hts hi_X2 hown hK hP hL_rh hf_rh rfl 0 (by decide) (hts (.fieldLink RX2 9 "BarometerLeague$VillageRow" "places" "[LBarometerLeague$Village;") (by decide +kernel)) (fun _ h9 => h9) rfl dX2_addCopy_8 ?_
  refine lv_aload_n hx hb dX2_addCopy_11 rfl (lv_at hl 0 rfl) ?_
  refine pg_get (C := RX2) (T := TX2) (N := 2) hx hb hts hi_X2 hown hK hP hL_rh hf_rh rfl 1 (by decide) (hts (.fieldLink RX2 18 "BarometerLeague$VillageRow" "size" "I") (by decide +kernel)) (fun _ h9 => h9) rfl dX2_addCopy_12 ?_
  refine pn_vald (j := n) hx hb hK hP hL_pa hf_pa rfl (by omega) (Nat.lt_of_lt_of_le (m := 100) (by omega) (by omega)) (hpl n (by omega)) dX2_addCopy_15 ?_
  have q15 := hV n (by omega)
  obtain ⟨hL_ad_n, hf_ad_n, hL_aw_n, hf_aw_n⟩ := q15
  refine lv_aload_n hx hb dX2_addCopy_16 rfl (lv_at hl 1 rfl) ?_
  refine rv_V (As := [.ref o]) (rest := []) ⟨hx, hb, hml, hown, hts⟩ (m_X1_becomeLike l g L f _ hN _ _ _ _ _ _ _ _ _ _ _ _ _ _ hL_ad_n hf_ad_n hL_aw_n hf_aw_n hL_o hf_o hL_ow hf_ow (off_o n (by omega)).1.symm (off_ow n (by omega)).2.symm) (cwV 1 hts gX2_addCopy_X1_becomeLike rfl rfl rfl (by decide +kernel) ⟨Nat.le_of_ble_eq_true rfl, Nat.le_of_ble_eq_true rfl⟩) hK hP hA hA2 hS hL_ad_n hf_ad_n rfl rfl hl.1 rfl (Nat.le_of_ble_eq_true rfl) dX2_addCopy_17 ⟨Nat.zero_le _, Nat.zero_le _⟩ (fun f17 H locs hr17 hP hS => ?_)
  obtain ⟨hc17_0, hc17_1, hw17⟩ := hr17
  have hf_rh : f17 rh = eO 3 [.ref pa, .int (nI n)] := hw17.get hf_rh (nm_c (off_rh n (by omega)).1 (nm_c (off_rh n (by omega)).2 (List.not_mem_nil)))
  have hf_pa : f17 pa = eV g cap pl := hw17.get hf_pa (nm_c (off_pa n (by omega)).1 (nm_c (off_pa n (by omega)).2 (List.not_mem_nil)))
  have hf_o : f17 o = eO 2 [.ref ow, .int Vo.1, .int Vo.2.1, .int Vo.2.2.1, .int Vo.2.2.2.1] := hw17.get hf_o (nm_c (off_o n (by omega)).1 (nm_c (off_o n (by omega)).2 (List.not_mem_nil)))
  have hf_ow : f17 ow = eI g 8 Vo.2.2.2.2 := hw17.get hf_ow (nm_c (off_ow n (by omega)).1 (nm_c (off_ow n (by omega)).2 (List.not_mem_nil)))
  have hf_ad_n : f17 (ad n) = eO 2 [.ref (aw n), .int Vo.1, .int Vo.2.1, .int Vo.2.2.1, .int Vo.2.2.2.1] := hc17_0
  have hf_aw_n : f17 (aw n) = eI g 8 (mapN (fun j _ => Vo.2.2.2.2 j) (vs n).2.2.2.2 8) := hc17_1
  replace hFr : Fr f f17 [rh, ad n, aw n] := hFr.tr hw17 (by simp)
  refine lv_aload_n hx hb dX2_addCopy_20 rfl (lv_at hl 0 rfl) ?_
  refine lv_dup hx hb dX2_addCopy_21 rfl ?_
  refine pg_get (C := RX2) (T := TX2) (N := 2) hx hb hts hi_X2 hown hK hP hL_rh hf_rh rfl 1 (by decide) (hts (.fieldLink RX2 18 "BarometerLeague$VillageRow" "size" "I") (by decide +kernel)) (fun _ h9 => h9) rfl dX2_addCopy_22 ?_
  refine lv_iconst (v := 1) hx hb dX2_addCopy_25 (by decide) ?_
  refine lv_iadd hx hb dX2_addCopy_26 ?_
  refine lv_topi (fun v26 ev26 => ?_)
  refine pg_put (ty := .int) (C := RX2) (T := TX2) (N := 2) hx hb hts hi_X2 tyX2 tyX2_ok nmX2 hown hK hP hN hA hS hL_rh hf_rh rfl 1 (by decide) (hts (.fieldLink RX2 18 "BarometerLeague$VillageRow" "size" "I") (by decide +kernel)) (fun _ h9 => h9) rfl (by decide +kernel) rfl rfl (Nat.le_of_ble_eq_true rfl) dX2_addCopy_27 (fun H locs hP hS => ?_)
  obtain ⟨f27, ef27⟩ : ∃ z, z = va_up f17 rh (eO 3 [.ref pa, .int v26]) := ⟨_, rfl⟩
  replace hP : PP g L f27 H := by rw [ef27]; exact hP
  have hf_pa : f27 pa = eV g cap pl := by rw [ef27, va_up_ne _ _ n_rh_pa.symm]; exact hf_pa
  have hf_o : f27 o = eO 2 [.ref ow, .int Vo.1, .int Vo.2.1, .int Vo.2.2.1, .int Vo.2.2.2.1] := by rw [ef27, va_up_ne _ _ n_rh_o.symm]; exact hf_o
  have hf_ow : f27 ow = eI g 8 Vo.2.2.2.2 := by rw [ef27, va_up_ne _ _ n_rh_ow.symm]; exact hf_ow
  have hf_ad_n : f27 (ad n) = eO 2 [.ref (aw n), .int Vo.1, .int Vo.2.1, .int Vo.2.2.1, .int Vo.2.2.2.1] := by rw [ef27, va_up_ne _ _ (off_rh n (by omega)).1.symm]; exact hf_ad_n
  have hf_aw_n : f27 (aw n) = eI g 8 (mapN (fun j _ => Vo.2.2.2.2 j) (vs n).2.2.2.2 8) := by rw [ef27, va_up_ne _ _ (off_rh n (by omega)).2.symm]; exact hf_aw_n
  have hf_rh : f27 rh = eO 3 [.ref pa, .int v26] := by rw [ef27]; exact va_up_self _ _ _
  replace hFr : Fr f f27 [rh, ad n, aw n] := by rw [ef27]; exact hFr.up (by simp)
  exact hend f27 _ _ _ _ (⟨by rw [hf_rh, ev26]; exact congrArg (fun z => eO 3 [.ref pa, .int z]) (nI_1 n), hV.set hD hn (copyV Vo (vs n)) hf_ad_n hf_aw_n (fun u hu hne => ⟨hFr _ (nm_c (off_rh u hu).1.symm (nm_c (hD u n hu hn hne).1 (nm_c (hV.ne hu hn) List.not_mem_nil))), hFr _ (nm_c (off_rh u hu).2.symm (nm_c (hV.ne hn hu).symm (nm_c (hD u n hu hn hne).2 List.not_mem_nil)))⟩), hFr⟩) hP hS dX2_addCopy_30

set_option maxHeartbeats 4000000 in
set_option maxRecDepth 100000 in
theorem m_X2_liveDay (l : Launch) (g : GG) (L : List Nat) (f : Nat → va_E) (sz : Nat) (hN : L.Nodup) (rh pa n cap : Nat) (pl : Nat → Option Nat) (ad aw : Nat → Nat) (vs : Nat → VV) (sy : Nat) (sa : Nat → Int32) (rb : Bool) (hL_rh : rh ∈ L) (hf_rh : f rh = eO 3 [.ref pa, .int (nI n)]) (hL_pa : pa ∈ L) (hf_pa : f pa = eV g cap pl) (hL_sy : sy ∈ L) (hf_sy : f sy = eI g 8 sa) (hcap : cap ≤ 20) (hn : n ≤ cap) (hpl : ∀ v, v < cap → pl v = some (ad v)) (hV : Vils g L f cap ad aw vs) (hD : Dst cap ad aw) (hsy : ∀ v, v < cap → sy ≠ aw v) : RW l g yX2_liveDay wsX2_liveDay 3 67 L f sz [.ref rh, .ref sy, .int (b2i rb)] (fun r f2 => r = sumN (fun v => b2i (hitV sa rb (vs v))) n ∧ Vils g L f2 cap ad aw (mapV (stepV sa rb) vs n) ∧ Fr2 f f2 cap ad aw) := by
  refine RW.start (cc := cX2_liveDay) (maxL := 5) (ret := .int) (by decide +kernel) rfl (by simp [lg_sl, Value.category]) ?_
  intro p e s m args below meth c Q ls A hx hb hml hts hown hA hA2 hS hP hK hl hend
  have hl : lv_has ls 5 [(0, .ref rh), (1, .ref sy), (2, .int (b2i rb))] := hl
  have hi_X2 : ∀ w ∈ u_ws RX2 TX2 2, w ∈ wsX2_liveDay := by decide +kernel
  have hFr : Fr2 f f cap ad aw := Fr2.rf
  have n_rh_pa : rh ≠ pa := ne_e hf_rh hf_pa (by simp)
  have n_rh_sy : rh ≠ sy := ne_e hf_rh hf_sy (by simp)
  have h0f_rh := hf_rh
  have h0f_pa := hf_pa
  have h0f_sy := hf_sy
  have off_rh : Off cap ad aw rh := Off.of hV hf_rh (by simp) (by simp)
  have off_pa : Off cap ad aw pa := Off.of hV hf_pa (by simp) (by simp)
  have off_sy : Off cap ad aw sy := Off.ofI hV hf_sy hsy
  refine lv_iconst (v := 0) hx hb dX2_liveDay_0 (by decide) ?_
  refine lv_istore_n (lv' := [(3, .int 0), (0, .ref rh), (1, .ref sy), (2, .int (b2i rb))]) hx hb dX2_liveDay_1 rfl hl (by decide) rfl (fun ls hl => ?_)
  refine lv_iconst (v := 0) hx hb dX2_liveDay_2 (by decide) ?_
  refine lv_istore (lv' := [(4, .int 0), (3, .int 0), (0, .ref rh), (1, .ref sy), (2, .int (b2i rb))]) hx hb dX2_liveDay_3 hl (by decide) rfl (fun ls hl => ?_)
  have K5 : ∀ (n5 : Nat) (i : Nat) (acc : Int32) (f5 : Nat → va_E) (H : Heap) (locs : List Loc), n - i < n5 → i ≤ n → acc = sumN (fun v => b2i (hitV sa rb (vs v))) i → Vils g L f5 cap ad aw (mapV (stepV sa rb) vs i) → Fr2 f f5 cap ad aw → PP g L f5 H → va_S A s.heap H locs → ∀ (ls : Array Slot), lv_has ls 5 [(4, .int (nI i)), (3, .int acc), (2, .int (b2i rb)), (1, .ref sy), (0, .ref rh)] → W p l e ({ frames := 3, cells := 0, slots := 0, locals := 67 } : Room) s m args below meth c H locs 0 0 Q (F0 m 5 ls []) := by
    intro n5
    induction n5 with
    | zero => intros; omega
    | succ n5 ih5 =>
      intro i acc f5 H locs hm5 hi ha hV hFr hP hS ls hl
      have hf_rh : f5 rh = eO 3 [.ref pa, .int (nI n)] := hFr.get h0f_rh off_rh
      have hf_pa : f5 pa = eV g cap pl := hFr.get h0f_pa off_pa
      have hf_sy : f5 sy = eI g 8 sa := hFr.get h0f_sy off_sy
      refine lv_iload hx hb dX2_liveDay_5 (lv_at hl 0 rfl) ?_
      refine lv_aload_n hx hb dX2_liveDay_7 rfl (lv_at hl 4 rfl) ?_
      refine pg_get (C := RX2) (T := TX2) (N := 2) hx hb hts hi_X2 hown hK hP hL_rh hf_rh rfl 1 (by decide) (hts (.fieldLink RX2 18 "BarometerLeague$VillageRow" "size" "I") (by decide +kernel)) (fun _ h9 => h9) rfl dX2_liveDay_8 ?_
      refine lv_icmp_ge (tgt := 43) hx hb dX2_liveDay_11 (by decide) (fun c11 => ?_) (fun c11 => ?_)
      · skip
        have c11 : n ≤ i := (nI_leI (a := n) (b := i) (by omega) (by omega)).mp (show nI n ≤ nI i from c11)
        refine lv_iload_n hx hb dX2_liveDay_43 rfl (lv_at hl 1 rfl) ?_
        exact hend (acc) f5 _ _ _ _ (⟨by rw [ha, show i = n from (by omega)], by rw [show n = i from (by omega)]; exact hV, hFr⟩) hP hS rfl dX2_liveDay_44
      · skip
        have c11 : ¬ n ≤ i := fun h => c11 ((nI_leI (a := n) (b := i) (by omega) (by omega)).mpr h)
        refine lv_iload_n hx hb dX2_liveDay_14 rfl (lv_at hl 1 rfl) ?_
        refine lv_aload_n hx hb dX2_liveDay_15 rfl (lv_at hl 4 rfl) ?_
        refine pg_get (C := RX2) (T := TX2) (N := 2) hx hb hts hi_X2 hown hK hP hL_rh hf_rh rfl 0 (by decide) (hts (.fieldLink RX2 9 "BarometerLeague$VillageRow" "places" "[LBarometerLeague$Village;") (by decide +kernel)) (fun _ h9 => h9) rfl dX2_liveDay_16 ?_
        refine lv_iload hx hb dX2_liveDay_19 (lv_at hl 0 rfl) ?_
        refine pn_vald (j := i) hx hb hK hP hL_pa hf_pa rfl (by omega) (Nat.lt_of_lt_of_le (m := 100) (by omega) (by omega)) (hpl i (by omega)) dX2_liveDay_21 ?_
        have q21 := hV i (by omega)
        rw [mapV_at] at q21
        obtain ⟨hL_ad_i, hf_ad_i, hL_aw_i, hf_aw_i⟩ := q21
        refine lv_aload_n hx hb dX2_liveDay_22 rfl (lv_at hl 3 rfl) ?_
        refine lv_iload_n hx hb dX2_liveDay_23 rfl (lv_at hl 2 rfl) ?_
        refine rw_V (As := [.ref sy, .int (b2i rb)]) (rest := [.int acc]) ⟨hx, hb, hml, hown, hts⟩ (m_X1_liveDay l g L f5 _ hN _ _ _ _ _ _ _ _ _ rb hL_ad_i hf_ad_i hL_aw_i hf_aw_i hL_sy hf_sy (off_sy i (by omega)).2.symm) (cwV 2 hts gX2_liveDay_X1_liveDay rfl rfl rfl (by decide +kernel) ⟨Nat.le_of_ble_eq_true rfl, Nat.le_of_ble_eq_true rfl⟩) hK hP hA hA2 hS hL_ad_i hf_ad_i rfl rfl hl.1 rfl (Nat.le_of_ble_eq_true rfl) dX2_liveDay_24 ⟨Nat.zero_le _, Nat.zero_le _⟩ (fun r24 f24 H locs hr24 hP hS => ?_)
        obtain ⟨hv24, hc24_0, hc24_1, hw24⟩ := hr24
        have hf_rh : f24 rh = eO 3 [.ref pa, .int (nI n)] := hw24.get hf_rh (nm_c (off_rh i (by omega)).1 (nm_c (off_rh i (by omega)).2 (List.not_mem_nil)))
        have hf_pa : f24 pa = eV g cap pl := hw24.get hf_pa (nm_c (off_pa i (by omega)).1 (nm_c (off_pa i (by omega)).2 (List.not_mem_nil)))
        have hf_sy : f24 sy = eI g 8 sa := hw24.get hf_sy (nm_c (off_sy i (by omega)).1 (nm_c (off_sy i (by omega)).2 (List.not_mem_nil)))
        have hf_ad_i : f24 (ad i) = eO 2 [.ref (aw i), .int ((vs i).1), .int (((vs i).2.1) + b2i (hitB (leadN sa ((vs i).2.2.2.2) 8) rb)), .int (sell1 (if hitB (leadN sa ((vs i).2.2.2.2) 8) rb then ((vs i).2.2.2.1) + 1 else 0) ((vs i).2.2.1)), .int (if hitB (leadN sa ((vs i).2.2.2.2) 8) rb then ((vs i).2.2.2.1) + 1 else 0)] := hc24_0
        have hf_aw_i : f24 (aw i) = eI g 8 (mapN (fun j w => learn1 (truth rb) (sa j) w) ((vs i).2.2.2.2) 8) := hc24_1
        replace hFr : Fr2 f f24 cap ad aw := hFr.tr (v := i) (by omega) hw24
        have hV := (hV.set2 hD (v := i) (by omega) (stepV sa rb (vs i)) hf_ad_i hf_aw_i hw24).congr (vs2 := mapV (stepV sa rb) vs (i + 1)) (fun v _ => congrFun (mapV_s (stepV sa rb) vs i) v)
        subst hv24
        refine lv_if_eq (tgt := 34) hx hb dX2_liveDay_27 (by decide) (fun c27 => ?_) (fun c27 => ?_)
        · skip
          refine lv_iconst (v := 0) hx hb dX2_liveDay_34 (by decide) ?_
          refine lv_iadd hx hb dX2_liveDay_35 ?_
          refine lv_topi (fun v35 ev35 => ?_)
          refine lv_istore_n (lv' := [(3, .int v35), (4, .int (nI i)), (2, .int (b2i rb)), (1, .ref sy), (0, .ref rh)]) hx hb dX2_liveDay_36 rfl hl (by decide) rfl (fun ls hl => ?_)
          refine lv_iinc (v := nI (i + 1)) (lv' := [(4, .int (nI (i + 1))), (3, .int v35), (2, .int (b2i rb)), (1, .ref sy), (0, .ref rh)]) hx hb dX2_liveDay_37 hl (k := 1) rfl (nI_1 _) (by decide) rfl (fun ls hl => ?_)
          refine lv_goto (tgt := 5) hx hb dX2_liveDay_40 (by decide) ?_
          exact ih5 (i + 1) v35 f24 H locs (by omega) (by omega) (sumN_s ha (b2z c27 ev35)) (hV) hFr hP hS ls (lv_sub hl [0, 1, 2, 3, 4] rfl)
        · skip
          refine lv_iconst (v := 1) hx hb dX2_liveDay_30 (by decide) ?_
          refine lv_goto (tgt := 35) hx hb dX2_liveDay_31 (by decide) ?_
          refine lv_iadd hx hb dX2_liveDay_35 ?_
          refine lv_topi (fun v35 ev35 => ?_)
          refine lv_istore_n (lv' := [(3, .int v35), (4, .int (nI i)), (2, .int (b2i rb)), (1, .ref sy), (0, .ref rh)]) hx hb dX2_liveDay_36 rfl hl (by decide) rfl (fun ls hl => ?_)
          refine lv_iinc (v := nI (i + 1)) (lv' := [(4, .int (nI (i + 1))), (3, .int v35), (2, .int (b2i rb)), (1, .ref sy), (0, .ref rh)]) hx hb dX2_liveDay_37 hl (k := 1) rfl (nI_1 _) (by decide) rfl (fun ls hl => ?_)
          refine lv_goto (tgt := 5) hx hb dX2_liveDay_40 (by decide) ?_
          exact ih5 (i + 1) v35 f24 H locs (by omega) (by omega) (sumN_s ha (b2o c27 ev35)) (hV) hFr hP hS ls (lv_sub hl [0, 1, 2, 3, 4] rfl)
  exact K5 _ 0 0 f _ _ (Nat.lt_succ_self _) (Nat.zero_le _) (rfl) (by rw [mapV_0]; exact hV) hFr hP hS ls (lv_sub hl [0, 1, 4, 3, 2] rfl)
end
section
theorem dX5_init_0 : decode cX5_init 0 = .ok (.aload_n 0, 1) := by decide +kernel
theorem dX5_init_1 : decode cX5_init 1 = .ok (.invokespecial 3, 3) := by decide +kernel
theorem dX5_init_4 : decode cX5_init 4 = .ok (.aload_n 0, 1) := by decide +kernel
theorem dX5_init_5 : decode cX5_init 5 = .ok (.bipush 6, 2) := by decide +kernel
theorem dX5_init_7 : decode cX5_init 7 = .ok (.newarray .int, 2) := by decide +kernel
theorem dX5_init_9 : decode cX5_init 9 = .ok (.putfield 9, 3) := by decide +kernel
theorem dX5_init_12 : decode cX5_init 12 = .ok (.aload_n 0, 1) := by decide +kernel
theorem dX5_init_13 : decode cX5_init 13 = .ok (.bipush 6, 2) := by decide +kernel
theorem dX5_init_15 : decode cX5_init 15 = .ok (.newarray .int, 2) := by decide +kernel
theorem dX5_init_17 : decode cX5_init 17 = .ok (.putfield 15, 3) := by decide +kernel
theorem dX5_init_20 : decode cX5_init 20 = .ok (.aload_n 0, 1) := by decide +kernel
theorem dX5_init_21 : decode cX5_init 21 = .ok (.bipush 6, 2) := by decide +kernel
theorem dX5_init_23 : decode cX5_init 23 = .ok (.newarray .int, 2) := by decide +kernel
theorem dX5_init_25 : decode cX5_init 25 = .ok (.putfield 18, 3) := by decide +kernel
theorem dX5_init_28 : decode cX5_init 28 = .ok (.aload_n 0, 1) := by decide +kernel
theorem dX5_init_29 : decode cX5_init 29 = .ok (.bipush 48, 2) := by decide +kernel
theorem dX5_init_31 : decode cX5_init 31 = .ok (.newarray .int, 2) := by decide +kernel
theorem dX5_init_33 : decode cX5_init 33 = .ok (.putfield 21, 3) := by decide +kernel
theorem dX5_init_36 : decode cX5_init 36 = .ok (.return_, 1) := by decide +kernel
theorem dX5_copy_0 : decode cX5_copy 0 = .ok (.aload_n 0, 1) := by decide +kernel
theorem dX5_copy_1 : decode cX5_copy 1 = .ok (.iconst 0, 1) := by decide +kernel
theorem dX5_copy_2 : decode cX5_copy 2 = .ok (.aload_n 1, 1) := by decide +kernel
theorem dX5_copy_3 : decode cX5_copy 3 = .ok (.iconst 0, 1) := by decide +kernel
theorem dX5_copy_4 : decode cX5_copy 4 = .ok (.aload_n 1, 1) := by decide +kernel
theorem dX5_copy_5 : decode cX5_copy 5 = .ok (.arraylength, 1) := by decide +kernel
theorem dX5_copy_6 : decode cX5_copy 6 = .ok (.invokestatic 24, 3) := by decide +kernel
theorem dX5_copy_9 : decode cX5_copy 9 = .ok (.return_, 1) := by decide +kernel
set_option maxRecDepth 20000 in
theorem ggX5_become_X5_copy : GoodIn wsX5_become wsX5_copy := goodIn_r _ [10, 11, 12, 13, 14] (by decide +kernel) (by decide +kernel)
set_option maxRecDepth 20000 in
theorem gX5_become_X5_copy : GoodIn wsX5_become (va_wsS RX5 37 yX5_copy wsX5_copy) := goodIn_app (goodIn_of _ (by decide +kernel)) ggX5_become_X5_copy
theorem dX5_become_0 : decode cX5_become 0 = .ok (.aload_n 0, 1) := by decide +kernel
theorem dX5_become_1 : decode cX5_become 1 = .ok (.aload_n 1, 1) := by decide +kernel
theorem dX5_become_2 : decode cX5_become 2 = .ok (.getfield 30, 3) := by decide +kernel
theorem dX5_become_5 : decode cX5_become 5 = .ok (.putfield 30, 3) := by decide +kernel
theorem dX5_become_8 : decode cX5_become 8 = .ok (.aload_n 0, 1) := by decide +kernel
theorem dX5_become_9 : decode cX5_become 9 = .ok (.aload_n 1, 1) := by decide +kernel
theorem dX5_become_10 : decode cX5_become 10 = .ok (.getfield 34, 3) := by decide +kernel
theorem dX5_become_13 : decode cX5_become 13 = .ok (.putfield 34, 3) := by decide +kernel
theorem dX5_become_16 : decode cX5_become 16 = .ok (.aload_n 1, 1) := by decide +kernel
theorem dX5_become_17 : decode cX5_become 17 = .ok (.getfield 9, 3) := by decide +kernel
theorem dX5_become_20 : decode cX5_become 20 = .ok (.aload_n 0, 1) := by decide +kernel
theorem dX5_become_21 : decode cX5_become 21 = .ok (.getfield 9, 3) := by decide +kernel
theorem dX5_become_24 : decode cX5_become 24 = .ok (.invokestatic 37, 3) := by decide +kernel
theorem dX5_become_27 : decode cX5_become 27 = .ok (.aload_n 1, 1) := by decide +kernel
theorem dX5_become_28 : decode cX5_become 28 = .ok (.getfield 15, 3) := by decide +kernel
theorem dX5_become_31 : decode cX5_become 31 = .ok (.aload_n 0, 1) := by decide +kernel
theorem dX5_become_32 : decode cX5_become 32 = .ok (.getfield 15, 3) := by decide +kernel
theorem dX5_become_35 : decode cX5_become 35 = .ok (.invokestatic 37, 3) := by decide +kernel
theorem dX5_become_38 : decode cX5_become 38 = .ok (.aload_n 1, 1) := by decide +kernel
theorem dX5_become_39 : decode cX5_become 39 = .ok (.getfield 18, 3) := by decide +kernel
theorem dX5_become_42 : decode cX5_become 42 = .ok (.aload_n 0, 1) := by decide +kernel
theorem dX5_become_43 : decode cX5_become 43 = .ok (.getfield 18, 3) := by decide +kernel
theorem dX5_become_46 : decode cX5_become 46 = .ok (.invokestatic 37, 3) := by decide +kernel
theorem dX5_become_49 : decode cX5_become 49 = .ok (.aload_n 1, 1) := by decide +kernel
theorem dX5_become_50 : decode cX5_become 50 = .ok (.getfield 21, 3) := by decide +kernel
theorem dX5_become_53 : decode cX5_become 53 = .ok (.aload_n 0, 1) := by decide +kernel
theorem dX5_become_54 : decode cX5_become 54 = .ok (.getfield 21, 3) := by decide +kernel
theorem dX5_become_57 : decode cX5_become 57 = .ok (.invokestatic 37, 3) := by decide +kernel
theorem dX5_become_60 : decode cX5_become 60 = .ok (.return_, 1) := by decide +kernel
set_option maxRecDepth 20000 in
theorem ggX6_init_X5_init : GoodIn wsX6_init wsX5_init := goodIn_r _ [16, 17, 2, 3, 4, 18, 19, 20, 21, 32, 33, 34, 35, 36, 37] (by decide +kernel) (by decide +kernel)
set_option maxRecDepth 20000 in
theorem gX6_init_X5_init_n27 : GoodIn wsX6_init (wsX5_init) := ggX6_init_X5_init
theorem dX6_init_0 : decode cX6_init 0 = .ok (.aload_n 0, 1) := by decide +kernel
theorem dX6_init_1 : decode cX6_init 1 = .ok (.invokespecial 1, 3) := by decide +kernel
theorem dX6_init_4 : decode cX6_init 4 = .ok (.aload_n 0, 1) := by decide +kernel
theorem dX6_init_5 : decode cX6_init 5 = .ok (.bipush 12, 2) := by decide +kernel
theorem dX6_init_7 : decode cX6_init 7 = .ok (.newarray .int, 2) := by decide +kernel
theorem dX6_init_9 : decode cX6_init 9 = .ok (.putfield 9, 3) := by decide +kernel
theorem dX6_init_12 : decode cX6_init 12 = .ok (.aload_n 0, 1) := by decide +kernel
theorem dX6_init_13 : decode cX6_init 13 = .ok (.bipush 12, 2) := by decide +kernel
theorem dX6_init_15 : decode cX6_init 15 = .ok (.newarray .int, 2) := by decide +kernel
theorem dX6_init_17 : decode cX6_init 17 = .ok (.putfield 13, 3) := by decide +kernel
theorem dX6_init_20 : decode cX6_init 20 = .ok (.aload_n 0, 1) := by decide +kernel
theorem dX6_init_21 : decode cX6_init 21 = .ok (.bipush 8, 2) := by decide +kernel
theorem dX6_init_23 : decode cX6_init 23 = .ok (.newarray .int, 2) := by decide +kernel
theorem dX6_init_25 : decode cX6_init 25 = .ok (.putfield 16, 3) := by decide +kernel
theorem dX6_init_28 : decode cX6_init 28 = .ok (.aload_n 0, 1) := by decide +kernel
theorem dX6_init_29 : decode cX6_init 29 = .ok (.bipush 8, 2) := by decide +kernel
theorem dX6_init_31 : decode cX6_init 31 = .ok (.newarray .int, 2) := by decide +kernel
theorem dX6_init_33 : decode cX6_init 33 = .ok (.putfield 19, 3) := by decide +kernel
theorem dX6_init_36 : decode cX6_init 36 = .ok (.aload_n 0, 1) := by decide +kernel
theorem dX6_init_37 : decode cX6_init 37 = .ok (.bipush 8, 2) := by decide +kernel
theorem dX6_init_39 : decode cX6_init 39 = .ok (.newarray .int, 2) := by decide +kernel
theorem dX6_init_41 : decode cX6_init 41 = .ok (.putfield 22, 3) := by decide +kernel
theorem dX6_init_44 : decode cX6_init 44 = .ok (.aload_n 0, 1) := by decide +kernel
theorem dX6_init_45 : decode cX6_init 45 = .ok (.new 25, 3) := by decide +kernel
theorem dX6_init_48 : decode cX6_init 48 = .ok (.dup, 1) := by decide +kernel
theorem dX6_init_49 : decode cX6_init 49 = .ok (.invokespecial 27, 3) := by decide +kernel
theorem dX6_init_52 : decode cX6_init 52 = .ok (.putfield 28, 3) := by decide +kernel
theorem dX6_init_55 : decode cX6_init 55 = .ok (.aload_n 0, 1) := by decide +kernel
theorem dX6_init_56 : decode cX6_init 56 = .ok (.new 25, 3) := by decide +kernel
theorem dX6_init_59 : decode cX6_init 59 = .ok (.dup, 1) := by decide +kernel
theorem dX6_init_60 : decode cX6_init 60 = .ok (.invokespecial 27, 3) := by decide +kernel
theorem dX6_init_63 : decode cX6_init 63 = .ok (.putfield 32, 3) := by decide +kernel
theorem dX6_init_66 : decode cX6_init 66 = .ok (.iconst 0, 1) := by decide +kernel
theorem dX6_init_67 : decode cX6_init 67 = .ok (.istore_n 1, 1) := by decide +kernel
theorem dX6_init_68 : decode cX6_init 68 = .ok (.iload_n 1, 1) := by decide +kernel
theorem dX6_init_69 : decode cX6_init 69 = .ok (.bipush 12, 2) := by decide +kernel
theorem dX6_init_71 : decode cX6_init 71 = .ok (.if_icmp .ge 17, 3) := by decide +kernel
theorem dX6_init_74 : decode cX6_init 74 = .ok (.aload_n 0, 1) := by decide +kernel
theorem dX6_init_75 : decode cX6_init 75 = .ok (.getfield 9, 3) := by decide +kernel
theorem dX6_init_78 : decode cX6_init 78 = .ok (.iload_n 1, 1) := by decide +kernel
theorem dX6_init_79 : decode cX6_init 79 = .ok (.bipush 30, 2) := by decide +kernel
theorem dX6_init_81 : decode cX6_init 81 = .ok (.iastore, 1) := by decide +kernel
theorem dX6_init_82 : decode cX6_init 82 = .ok (.iinc 1 1, 3) := by decide +kernel
theorem dX6_init_85 : decode cX6_init 85 = .ok (.goto (-17), 3) := by decide +kernel
theorem dX6_init_88 : decode cX6_init 88 = .ok (.iconst 0, 1) := by decide +kernel
theorem dX6_init_89 : decode cX6_init 89 = .ok (.istore_n 1, 1) := by decide +kernel
theorem dX6_init_90 : decode cX6_init 90 = .ok (.iload_n 1, 1) := by decide +kernel
theorem dX6_init_91 : decode cX6_init 91 = .ok (.bipush 48, 2) := by decide +kernel
theorem dX6_init_93 : decode cX6_init 93 = .ok (.if_icmp .ge 20, 3) := by decide +kernel
theorem dX6_init_96 : decode cX6_init 96 = .ok (.aload_n 0, 1) := by decide +kernel
theorem dX6_init_97 : decode cX6_init 97 = .ok (.getfield 28, 3) := by decide +kernel
theorem dX6_init_100 : decode cX6_init 100 = .ok (.getfield 35, 3) := by decide +kernel
theorem dX6_init_103 : decode cX6_init 103 = .ok (.iload_n 1, 1) := by decide +kernel
theorem dX6_init_104 : decode cX6_init 104 = .ok (.bipush 20, 2) := by decide +kernel
theorem dX6_init_106 : decode cX6_init 106 = .ok (.iastore, 1) := by decide +kernel
theorem dX6_init_107 : decode cX6_init 107 = .ok (.iinc 1 1, 3) := by decide +kernel
theorem dX6_init_110 : decode cX6_init 110 = .ok (.goto (-20), 3) := by decide +kernel
theorem dX6_init_113 : decode cX6_init 113 = .ok (.iconst 0, 1) := by decide +kernel
theorem dX6_init_114 : decode cX6_init 114 = .ok (.istore_n 1, 1) := by decide +kernel
theorem dX6_init_115 : decode cX6_init 115 = .ok (.iload_n 1, 1) := by decide +kernel
theorem dX6_init_116 : decode cX6_init 116 = .ok (.bipush 6, 2) := by decide +kernel
theorem dX6_init_118 : decode cX6_init 118 = .ok (.if_icmp .ge 20, 3) := by decide +kernel
theorem dX6_init_121 : decode cX6_init 121 = .ok (.aload_n 0, 1) := by decide +kernel
theorem dX6_init_122 : decode cX6_init 122 = .ok (.getfield 28, 3) := by decide +kernel
theorem dX6_init_125 : decode cX6_init 125 = .ok (.getfield 38, 3) := by decide +kernel
theorem dX6_init_128 : decode cX6_init 128 = .ok (.iload_n 1, 1) := by decide +kernel
theorem dX6_init_129 : decode cX6_init 129 = .ok (.bipush 10, 2) := by decide +kernel
theorem dX6_init_131 : decode cX6_init 131 = .ok (.iastore, 1) := by decide +kernel
theorem dX6_init_132 : decode cX6_init 132 = .ok (.iinc 1 1, 3) := by decide +kernel
theorem dX6_init_135 : decode cX6_init 135 = .ok (.goto (-20), 3) := by decide +kernel
theorem dX6_init_138 : decode cX6_init 138 = .ok (.return_, 1) := by decide +kernel
theorem dX6_thrown_0 : decode cX6_thrown 0 = .ok (.aload_n 0, 1) := by decide +kernel
theorem dX6_thrown_1 : decode cX6_thrown 1 = .ok (.getfield 41, 3) := by decide +kernel
theorem dX6_thrown_4 : decode cX6_thrown 4 = .ok (.ireturn, 1) := by decide +kernel
theorem dX6_no_0 : decode cX6_no 0 = .ok (.aload_n 0, 1) := by decide +kernel
theorem dX6_no_1 : decode cX6_no 1 = .ok (.iload_n 1, 1) := by decide +kernel
theorem dX6_no_2 : decode cX6_no 2 = .ok (.putfield 41, 3) := by decide +kernel
theorem dX6_no_5 : decode cX6_no 5 = .ok (.iconst 0, 1) := by decide +kernel
theorem dX6_no_6 : decode cX6_no 6 = .ok (.ireturn, 1) := by decide +kernel
theorem dX6_isIn_0 : decode cX6_isIn 0 = .ok (.iload_n 0, 1) := by decide +kernel
theorem dX6_isIn_1 : decode cX6_isIn 1 = .ok (.iload_n 1, 1) := by decide +kernel
theorem dX6_isIn_2 : decode cX6_isIn 2 = .ok (.if_icmp .lt 12, 3) := by decide +kernel
theorem dX6_isIn_5 : decode cX6_isIn 5 = .ok (.iload_n 0, 1) := by decide +kernel
theorem dX6_isIn_6 : decode cX6_isIn 6 = .ok (.iload_n 2, 1) := by decide +kernel
theorem dX6_isIn_7 : decode cX6_isIn 7 = .ok (.if_icmp .gt 7, 3) := by decide +kernel
theorem dX6_isIn_10 : decode cX6_isIn 10 = .ok (.iconst 1, 1) := by decide +kernel
theorem dX6_isIn_11 : decode cX6_isIn 11 = .ok (.goto 4, 3) := by decide +kernel
theorem dX6_isIn_14 : decode cX6_isIn 14 = .ok (.iconst 0, 1) := by decide +kernel
theorem dX6_isIn_15 : decode cX6_isIn 15 = .ok (.ireturn, 1) := by decide +kernel
set_option maxRecDepth 20000 in
theorem ggX6_isSign_X6_isIn : GoodIn wsX6_isSign wsX6_isIn := goodIn_r _ [5] (by decide +kernel) (by decide +kernel)
set_option maxRecDepth 20000 in
theorem gX6_isSign_X6_isIn : GoodIn wsX6_isSign (va_wsS RX6 48 yX6_isIn wsX6_isIn) := goodIn_app (goodIn_of _ (by decide +kernel)) ggX6_isSign_X6_isIn
theorem dX6_isSign_0 : decode cX6_isSign 0 = .ok (.iload_n 1, 1) := by decide +kernel
theorem dX6_isSign_1 : decode cX6_isSign 1 = .ok (.iconst 0, 1) := by decide +kernel
theorem dX6_isSign_2 : decode cX6_isSign 2 = .ok (.aload_n 0, 1) := by decide +kernel
theorem dX6_isSign_3 : decode cX6_isSign 3 = .ok (.getfield 45, 3) := by decide +kernel
theorem dX6_isSign_6 : decode cX6_isSign 6 = .ok (.iconst 1, 1) := by decide +kernel
theorem dX6_isSign_7 : decode cX6_isSign 7 = .ok (.isub, 1) := by decide +kernel
theorem dX6_isSign_8 : decode cX6_isSign 8 = .ok (.invokestatic 48, 3) := by decide +kernel
theorem dX6_isSign_11 : decode cX6_isSign 11 = .ok (.ireturn, 1) := by decide +kernel
set_option maxRecDepth 20000 in
theorem ggX6_isVillage_X6_isIn : GoodIn wsX6_isVillage wsX6_isIn := goodIn_r _ [5] (by decide +kernel) (by decide +kernel)
set_option maxRecDepth 20000 in
theorem gX6_isVillage_X6_isIn : GoodIn wsX6_isVillage (va_wsS RX6 48 yX6_isIn wsX6_isIn) := goodIn_app (goodIn_of _ (by decide +kernel)) ggX6_isVillage_X6_isIn
theorem dX6_isVillage_0 : decode cX6_isVillage 0 = .ok (.iload_n 1, 1) := by decide +kernel
theorem dX6_isVillage_1 : decode cX6_isVillage 1 = .ok (.iconst 0, 1) := by decide +kernel
theorem dX6_isVillage_2 : decode cX6_isVillage 2 = .ok (.aload_n 0, 1) := by decide +kernel
theorem dX6_isVillage_3 : decode cX6_isVillage 3 = .ok (.getfield 52, 3) := by decide +kernel
theorem dX6_isVillage_6 : decode cX6_isVillage 6 = .ok (.iconst 1, 1) := by decide +kernel
theorem dX6_isVillage_7 : decode cX6_isVillage 7 = .ok (.isub, 1) := by decide +kernel
theorem dX6_isVillage_8 : decode cX6_isVillage 8 = .ok (.invokestatic 48, 3) := by decide +kernel
theorem dX6_isVillage_11 : decode cX6_isVillage 11 = .ok (.ireturn, 1) := by decide +kernel
theorem dX6_isRain_0 : decode cX6_isRain 0 = .ok (.iload_n 2, 1) := by decide +kernel
theorem dX6_isRain_1 : decode cX6_isRain 1 = .ok (.bipush 12, 2) := by decide +kernel
theorem dX6_isRain_3 : decode cX6_isRain 3 = .ok (.irem, 1) := by decide +kernel
theorem dX6_isRain_4 : decode cX6_isRain 4 = .ok (.istore_n 3, 1) := by decide +kernel
theorem dX6_isRain_5 : decode cX6_isRain 5 = .ok (.iload_n 3, 1) := by decide +kernel
theorem dX6_isRain_6 : decode cX6_isRain 6 = .ok (.bipush 12, 2) := by decide +kernel
theorem dX6_isRain_8 : decode cX6_isRain 8 = .ok (.iadd, 1) := by decide +kernel
theorem dX6_isRain_9 : decode cX6_isRain 9 = .ok (.iconst 1, 1) := by decide +kernel
theorem dX6_isRain_10 : decode cX6_isRain 10 = .ok (.isub, 1) := by decide +kernel
theorem dX6_isRain_11 : decode cX6_isRain 11 = .ok (.bipush 12, 2) := by decide +kernel
theorem dX6_isRain_13 : decode cX6_isRain 13 = .ok (.irem, 1) := by decide +kernel
theorem dX6_isRain_14 : decode cX6_isRain 14 = .ok (.istore 4, 2) := by decide +kernel
theorem dX6_isRain_16 : decode cX6_isRain 16 = .ok (.aload_n 0, 1) := by decide +kernel
theorem dX6_isRain_17 : decode cX6_isRain 17 = .ok (.getfield 16, 3) := by decide +kernel
theorem dX6_isRain_20 : decode cX6_isRain 20 = .ok (.iload_n 1, 1) := by decide +kernel
theorem dX6_isRain_21 : decode cX6_isRain 21 = .ok (.iaload, 1) := by decide +kernel
theorem dX6_isRain_22 : decode cX6_isRain 22 = .ok (.tableswitch 155 0 4 #[34, 63, 84, 101, 123], 34) := by decide +kernel
theorem dX6_isRain_56 : decode cX6_isRain 56 = .ok (.aload_n 0, 1) := by decide +kernel
theorem dX6_isRain_57 : decode cX6_isRain 57 = .ok (.getfield 9, 3) := by decide +kernel
theorem dX6_isRain_60 : decode cX6_isRain 60 = .ok (.iload 4, 2) := by decide +kernel
theorem dX6_isRain_62 : decode cX6_isRain 62 = .ok (.iaload, 1) := by decide +kernel
theorem dX6_isRain_63 : decode cX6_isRain 63 = .ok (.aload_n 0, 1) := by decide +kernel
theorem dX6_isRain_64 : decode cX6_isRain 64 = .ok (.getfield 9, 3) := by decide +kernel
theorem dX6_isRain_67 : decode cX6_isRain 67 = .ok (.iload_n 3, 1) := by decide +kernel
theorem dX6_isRain_68 : decode cX6_isRain 68 = .ok (.iaload, 1) := by decide +kernel
theorem dX6_isRain_69 : decode cX6_isRain 69 = .ok (.isub, 1) := by decide +kernel
theorem dX6_isRain_70 : decode cX6_isRain 70 = .ok (.aload_n 0, 1) := by decide +kernel
theorem dX6_isRain_71 : decode cX6_isRain 71 = .ok (.getfield 19, 3) := by decide +kernel
theorem dX6_isRain_74 : decode cX6_isRain 74 = .ok (.iload_n 1, 1) := by decide +kernel
theorem dX6_isRain_75 : decode cX6_isRain 75 = .ok (.iaload, 1) := by decide +kernel
theorem dX6_isRain_76 : decode cX6_isRain 76 = .ok (.if_icmp .lt 7, 3) := by decide +kernel
theorem dX6_isRain_79 : decode cX6_isRain 79 = .ok (.iconst 1, 1) := by decide +kernel
theorem dX6_isRain_80 : decode cX6_isRain 80 = .ok (.goto 4, 3) := by decide +kernel
theorem dX6_isRain_83 : decode cX6_isRain 83 = .ok (.iconst 0, 1) := by decide +kernel
theorem dX6_isRain_84 : decode cX6_isRain 84 = .ok (.ireturn, 1) := by decide +kernel
theorem dX6_isRain_85 : decode cX6_isRain 85 = .ok (.aload_n 0, 1) := by decide +kernel
theorem dX6_isRain_86 : decode cX6_isRain 86 = .ok (.getfield 9, 3) := by decide +kernel
theorem dX6_isRain_89 : decode cX6_isRain 89 = .ok (.iload_n 3, 1) := by decide +kernel
theorem dX6_isRain_90 : decode cX6_isRain 90 = .ok (.iaload, 1) := by decide +kernel
theorem dX6_isRain_91 : decode cX6_isRain 91 = .ok (.aload_n 0, 1) := by decide +kernel
theorem dX6_isRain_92 : decode cX6_isRain 92 = .ok (.getfield 19, 3) := by decide +kernel
theorem dX6_isRain_95 : decode cX6_isRain 95 = .ok (.iload_n 1, 1) := by decide +kernel
theorem dX6_isRain_96 : decode cX6_isRain 96 = .ok (.iaload, 1) := by decide +kernel
theorem dX6_isRain_97 : decode cX6_isRain 97 = .ok (.if_icmp .ge 7, 3) := by decide +kernel
theorem dX6_isRain_100 : decode cX6_isRain 100 = .ok (.iconst 1, 1) := by decide +kernel
theorem dX6_isRain_101 : decode cX6_isRain 101 = .ok (.goto 4, 3) := by decide +kernel
theorem dX6_isRain_104 : decode cX6_isRain 104 = .ok (.iconst 0, 1) := by decide +kernel
theorem dX6_isRain_105 : decode cX6_isRain 105 = .ok (.ireturn, 1) := by decide +kernel
theorem dX6_isRain_106 : decode cX6_isRain 106 = .ok (.aload_n 0, 1) := by decide +kernel
theorem dX6_isRain_107 : decode cX6_isRain 107 = .ok (.getfield 13, 3) := by decide +kernel
theorem dX6_isRain_110 : decode cX6_isRain 110 = .ok (.iload 4, 2) := by decide +kernel
theorem dX6_isRain_112 : decode cX6_isRain 112 = .ok (.iaload, 1) := by decide +kernel
theorem dX6_isRain_113 : decode cX6_isRain 113 = .ok (.iconst 1, 1) := by decide +kernel
theorem dX6_isRain_114 : decode cX6_isRain 114 = .ok (.if_icmp .ne 7, 3) := by decide +kernel
theorem dX6_isRain_117 : decode cX6_isRain 117 = .ok (.iconst 1, 1) := by decide +kernel
theorem dX6_isRain_118 : decode cX6_isRain 118 = .ok (.goto 4, 3) := by decide +kernel
theorem dX6_isRain_121 : decode cX6_isRain 121 = .ok (.iconst 0, 1) := by decide +kernel
theorem dX6_isRain_122 : decode cX6_isRain 122 = .ok (.ireturn, 1) := by decide +kernel
theorem dX6_isRain_123 : decode cX6_isRain 123 = .ok (.iload_n 2, 1) := by decide +kernel
theorem dX6_isRain_124 : decode cX6_isRain 124 = .ok (.bipush 7, 2) := by decide +kernel
theorem dX6_isRain_126 : decode cX6_isRain 126 = .ok (.irem, 1) := by decide +kernel
theorem dX6_isRain_127 : decode cX6_isRain 127 = .ok (.aload_n 0, 1) := by decide +kernel
theorem dX6_isRain_128 : decode cX6_isRain 128 = .ok (.getfield 19, 3) := by decide +kernel
theorem dX6_isRain_131 : decode cX6_isRain 131 = .ok (.iload_n 1, 1) := by decide +kernel
theorem dX6_isRain_132 : decode cX6_isRain 132 = .ok (.iaload, 1) := by decide +kernel
theorem dX6_isRain_133 : decode cX6_isRain 133 = .ok (.bipush 7, 2) := by decide +kernel
theorem dX6_isRain_135 : decode cX6_isRain 135 = .ok (.irem, 1) := by decide +kernel
theorem dX6_isRain_136 : decode cX6_isRain 136 = .ok (.if_icmp .ne 7, 3) := by decide +kernel
theorem dX6_isRain_139 : decode cX6_isRain 139 = .ok (.iconst 1, 1) := by decide +kernel
theorem dX6_isRain_140 : decode cX6_isRain 140 = .ok (.goto 4, 3) := by decide +kernel
theorem dX6_isRain_143 : decode cX6_isRain 143 = .ok (.iconst 0, 1) := by decide +kernel
theorem dX6_isRain_144 : decode cX6_isRain 144 = .ok (.ireturn, 1) := by decide +kernel
theorem dX6_isRain_145 : decode cX6_isRain 145 = .ok (.aload_n 0, 1) := by decide +kernel
theorem dX6_isRain_146 : decode cX6_isRain 146 = .ok (.getfield 13, 3) := by decide +kernel
theorem dX6_isRain_149 : decode cX6_isRain 149 = .ok (.iload 4, 2) := by decide +kernel
theorem dX6_isRain_151 : decode cX6_isRain 151 = .ok (.iaload, 1) := by decide +kernel
theorem dX6_isRain_152 : decode cX6_isRain 152 = .ok (.ifCond .ne 23, 3) := by decide +kernel
theorem dX6_isRain_155 : decode cX6_isRain 155 = .ok (.aload_n 0, 1) := by decide +kernel
theorem dX6_isRain_156 : decode cX6_isRain 156 = .ok (.getfield 9, 3) := by decide +kernel
theorem dX6_isRain_159 : decode cX6_isRain 159 = .ok (.iload_n 3, 1) := by decide +kernel
theorem dX6_isRain_160 : decode cX6_isRain 160 = .ok (.iaload, 1) := by decide +kernel
theorem dX6_isRain_161 : decode cX6_isRain 161 = .ok (.aload_n 0, 1) := by decide +kernel
theorem dX6_isRain_162 : decode cX6_isRain 162 = .ok (.getfield 9, 3) := by decide +kernel
theorem dX6_isRain_165 : decode cX6_isRain 165 = .ok (.iload 4, 2) := by decide +kernel
theorem dX6_isRain_167 : decode cX6_isRain 167 = .ok (.iaload, 1) := by decide +kernel
theorem dX6_isRain_168 : decode cX6_isRain 168 = .ok (.if_icmp .ge 7, 3) := by decide +kernel
theorem dX6_isRain_171 : decode cX6_isRain 171 = .ok (.iconst 1, 1) := by decide +kernel
theorem dX6_isRain_172 : decode cX6_isRain 172 = .ok (.goto 4, 3) := by decide +kernel
theorem dX6_isRain_175 : decode cX6_isRain 175 = .ok (.iconst 0, 1) := by decide +kernel
theorem dX6_isRain_176 : decode cX6_isRain 176 = .ok (.ireturn, 1) := by decide +kernel
theorem dX6_isRain_177 : decode cX6_isRain 177 = .ok (.iconst 1, 1) := by decide +kernel
theorem dX6_isRain_178 : decode cX6_isRain 178 = .ok (.ireturn, 1) := by decide +kernel
set_option maxRecDepth 20000 in
theorem ggX6_look_X6_isRain : GoodIn wsX6_look wsX6_isRain := goodIn_r _ [7, 8, 9, 10, 11, 12, 13, 14, 15, 16, 17, 18, 19, 20, 21] (by decide +kernel) (by decide +kernel)
set_option maxRecDepth 20000 in
theorem gX6_look_X6_isRain : GoodIn wsX6_look (wsV RX6 55 RX6 yX6_isRain wsX6_isRain) := goodIn_app (goodIn_of _ (by decide +kernel)) ggX6_look_X6_isRain
theorem dX6_look_0 : decode cX6_look 0 = .ok (.iconst 0, 1) := by decide +kernel
theorem dX6_look_1 : decode cX6_look 1 = .ok (.istore_n 2, 1) := by decide +kernel
theorem dX6_look_2 : decode cX6_look 2 = .ok (.iload_n 2, 1) := by decide +kernel
theorem dX6_look_3 : decode cX6_look 3 = .ok (.aload_n 0, 1) := by decide +kernel
theorem dX6_look_4 : decode cX6_look 4 = .ok (.getfield 45, 3) := by decide +kernel
theorem dX6_look_7 : decode cX6_look 7 = .ok (.if_icmp .ge 29, 3) := by decide +kernel
theorem dX6_look_10 : decode cX6_look 10 = .ok (.aload_n 0, 1) := by decide +kernel
theorem dX6_look_11 : decode cX6_look 11 = .ok (.getfield 22, 3) := by decide +kernel
theorem dX6_look_14 : decode cX6_look 14 = .ok (.iload_n 2, 1) := by decide +kernel
theorem dX6_look_15 : decode cX6_look 15 = .ok (.aload_n 0, 1) := by decide +kernel
theorem dX6_look_16 : decode cX6_look 16 = .ok (.iload_n 2, 1) := by decide +kernel
theorem dX6_look_17 : decode cX6_look 17 = .ok (.iload_n 1, 1) := by decide +kernel
theorem dX6_look_18 : decode cX6_look 18 = .ok (.invokevirtual 55, 3) := by decide +kernel
theorem dX6_look_21 : decode cX6_look 21 = .ok (.ifCond .eq 7, 3) := by decide +kernel
theorem dX6_look_24 : decode cX6_look 24 = .ok (.iconst 1, 1) := by decide +kernel
theorem dX6_look_25 : decode cX6_look 25 = .ok (.goto 4, 3) := by decide +kernel
theorem dX6_look_28 : decode cX6_look 28 = .ok (.iconst 0, 1) := by decide +kernel
theorem dX6_look_29 : decode cX6_look 29 = .ok (.iastore, 1) := by decide +kernel
theorem dX6_look_30 : decode cX6_look 30 = .ok (.iinc 2 1, 3) := by decide +kernel
theorem dX6_look_33 : decode cX6_look 33 = .ok (.goto (-31), 3) := by decide +kernel
theorem dX6_look_36 : decode cX6_look 36 = .ok (.return_, 1) := by decide +kernel
set_option maxRecDepth 20000 in
theorem ggX6_isRight_X6_isRain : GoodIn wsX6_isRight wsX6_isRain := goodIn_r _ [6, 7, 8, 9, 1, 10, 11, 12, 13, 14, 15, 16, 17, 18, 19] (by decide +kernel) (by decide +kernel)
set_option maxRecDepth 20000 in
theorem gX6_isRight_X6_isRain : GoodIn wsX6_isRight (wsV RX6 55 RX6 yX6_isRain wsX6_isRain) := goodIn_app (goodIn_of _ (by decide +kernel)) ggX6_isRight_X6_isRain
theorem dX6_isRight_0 : decode cX6_isRight 0 = .ok (.aload_n 0, 1) := by decide +kernel
theorem dX6_isRight_1 : decode cX6_isRight 1 = .ok (.iload_n 1, 1) := by decide +kernel
theorem dX6_isRight_2 : decode cX6_isRight 2 = .ok (.iload_n 2, 1) := by decide +kernel
theorem dX6_isRight_3 : decode cX6_isRight 3 = .ok (.invokevirtual 55, 3) := by decide +kernel
theorem dX6_isRight_6 : decode cX6_isRight 6 = .ok (.aload_n 0, 1) := by decide +kernel
theorem dX6_isRight_7 : decode cX6_isRight 7 = .ok (.getfield 13, 3) := by decide +kernel
theorem dX6_isRight_10 : decode cX6_isRight 10 = .ok (.iload_n 2, 1) := by decide +kernel
theorem dX6_isRight_11 : decode cX6_isRight 11 = .ok (.bipush 12, 2) := by decide +kernel
theorem dX6_isRight_13 : decode cX6_isRight 13 = .ok (.irem, 1) := by decide +kernel
theorem dX6_isRight_14 : decode cX6_isRight 14 = .ok (.iaload, 1) := by decide +kernel
theorem dX6_isRight_15 : decode cX6_isRight 15 = .ok (.iconst 1, 1) := by decide +kernel
theorem dX6_isRight_16 : decode cX6_isRight 16 = .ok (.if_icmp .ne 7, 3) := by decide +kernel
theorem dX6_isRight_19 : decode cX6_isRight 19 = .ok (.iconst 1, 1) := by decide +kernel
theorem dX6_isRight_20 : decode cX6_isRight 20 = .ok (.goto 4, 3) := by decide +kernel
theorem dX6_isRight_23 : decode cX6_isRight 23 = .ok (.iconst 0, 1) := by decide +kernel
theorem dX6_isRight_24 : decode cX6_isRight 24 = .ok (.if_icmp .ne 7, 3) := by decide +kernel
theorem dX6_isRight_27 : decode cX6_isRight 27 = .ok (.iconst 1, 1) := by decide +kernel
theorem dX6_isRight_28 : decode cX6_isRight 28 = .ok (.goto 4, 3) := by decide +kernel
theorem dX6_isRight_31 : decode cX6_isRight 31 = .ok (.iconst 0, 1) := by decide +kernel
theorem dX6_isRight_32 : decode cX6_isRight 32 = .ok (.ireturn, 1) := by decide +kernel
set_option maxRecDepth 20000 in
theorem ggX6_rightDays_X6_isRight : GoodIn wsX6_rightDays wsX6_isRight := goodIn_r _ [5, 6, 7, 8, 9, 4, 10, 11, 12, 13, 14, 15, 16, 17, 18, 19, 20, 21, 22, 23] (by decide +kernel) (by decide +kernel)
set_option maxRecDepth 20000 in
theorem gX6_rightDays_X6_isRight : GoodIn wsX6_rightDays (wsV RX6 59 RX6 yX6_isRight wsX6_isRight) := goodIn_app (goodIn_of _ (by decide +kernel)) ggX6_rightDays_X6_isRight
theorem dX6_rightDays_0 : decode cX6_rightDays 0 = .ok (.iconst 0, 1) := by decide +kernel
theorem dX6_rightDays_1 : decode cX6_rightDays 1 = .ok (.istore_n 2, 1) := by decide +kernel
theorem dX6_rightDays_2 : decode cX6_rightDays 2 = .ok (.iconst 0, 1) := by decide +kernel
theorem dX6_rightDays_3 : decode cX6_rightDays 3 = .ok (.istore_n 3, 1) := by decide +kernel
theorem dX6_rightDays_4 : decode cX6_rightDays 4 = .ok (.iload_n 3, 1) := by decide +kernel
theorem dX6_rightDays_5 : decode cX6_rightDays 5 = .ok (.bipush 12, 2) := by decide +kernel
theorem dX6_rightDays_7 : decode cX6_rightDays 7 = .ok (.if_icmp .ge 26, 3) := by decide +kernel
theorem dX6_rightDays_10 : decode cX6_rightDays 10 = .ok (.iload_n 2, 1) := by decide +kernel
theorem dX6_rightDays_11 : decode cX6_rightDays 11 = .ok (.aload_n 0, 1) := by decide +kernel
theorem dX6_rightDays_12 : decode cX6_rightDays 12 = .ok (.iload_n 1, 1) := by decide +kernel
theorem dX6_rightDays_13 : decode cX6_rightDays 13 = .ok (.iload_n 3, 1) := by decide +kernel
theorem dX6_rightDays_14 : decode cX6_rightDays 14 = .ok (.invokevirtual 59, 3) := by decide +kernel
theorem dX6_rightDays_17 : decode cX6_rightDays 17 = .ok (.ifCond .eq 7, 3) := by decide +kernel
theorem dX6_rightDays_20 : decode cX6_rightDays 20 = .ok (.iconst 1, 1) := by decide +kernel
theorem dX6_rightDays_21 : decode cX6_rightDays 21 = .ok (.goto 4, 3) := by decide +kernel
theorem dX6_rightDays_24 : decode cX6_rightDays 24 = .ok (.iconst 0, 1) := by decide +kernel
theorem dX6_rightDays_25 : decode cX6_rightDays 25 = .ok (.iadd, 1) := by decide +kernel
theorem dX6_rightDays_26 : decode cX6_rightDays 26 = .ok (.istore_n 2, 1) := by decide +kernel
theorem dX6_rightDays_27 : decode cX6_rightDays 27 = .ok (.iinc 3 1, 3) := by decide +kernel
theorem dX6_rightDays_30 : decode cX6_rightDays 30 = .ok (.goto (-26), 3) := by decide +kernel
theorem dX6_rightDays_33 : decode cX6_rightDays 33 = .ok (.iload_n 2, 1) := by decide +kernel
theorem dX6_rightDays_34 : decode cX6_rightDays 34 = .ok (.ireturn, 1) := by decide +kernel
theorem dX6_lean_0 : decode cX6_lean 0 = .ok (.iconst 0, 1) := by decide +kernel
theorem dX6_lean_1 : decode cX6_lean 1 = .ok (.istore_n 3, 1) := by decide +kernel
theorem dX6_lean_2 : decode cX6_lean 2 = .ok (.iconst 0, 1) := by decide +kernel
theorem dX6_lean_3 : decode cX6_lean 3 = .ok (.istore 4, 2) := by decide +kernel
theorem dX6_lean_5 : decode cX6_lean 5 = .ok (.iload 4, 2) := by decide +kernel
theorem dX6_lean_7 : decode cX6_lean 7 = .ok (.aload_n 0, 1) := by decide +kernel
theorem dX6_lean_8 : decode cX6_lean 8 = .ok (.getfield 45, 3) := by decide +kernel
theorem dX6_lean_11 : decode cX6_lean 11 = .ok (.if_icmp .ge 51, 3) := by decide +kernel
theorem dX6_lean_14 : decode cX6_lean 14 = .ok (.iload_n 3, 1) := by decide +kernel
theorem dX6_lean_15 : decode cX6_lean 15 = .ok (.aload_n 0, 1) := by decide +kernel
theorem dX6_lean_16 : decode cX6_lean 16 = .ok (.getfield 22, 3) := by decide +kernel
theorem dX6_lean_19 : decode cX6_lean 19 = .ok (.iload 4, 2) := by decide +kernel
theorem dX6_lean_21 : decode cX6_lean 21 = .ok (.iaload, 1) := by decide +kernel
theorem dX6_lean_22 : decode cX6_lean 22 = .ok (.iconst 1, 1) := by decide +kernel
theorem dX6_lean_23 : decode cX6_lean 23 = .ok (.if_icmp .ne 18, 3) := by decide +kernel
theorem dX6_lean_26 : decode cX6_lean 26 = .ok (.aload_n 1, 1) := by decide +kernel
theorem dX6_lean_27 : decode cX6_lean 27 = .ok (.getfield 35, 3) := by decide +kernel
theorem dX6_lean_30 : decode cX6_lean 30 = .ok (.bipush 8, 2) := by decide +kernel
theorem dX6_lean_32 : decode cX6_lean 32 = .ok (.iload_n 2, 1) := by decide +kernel
theorem dX6_lean_33 : decode cX6_lean 33 = .ok (.imul, 1) := by decide +kernel
theorem dX6_lean_34 : decode cX6_lean 34 = .ok (.iload 4, 2) := by decide +kernel
theorem dX6_lean_36 : decode cX6_lean 36 = .ok (.iadd, 1) := by decide +kernel
theorem dX6_lean_37 : decode cX6_lean 37 = .ok (.iaload, 1) := by decide +kernel
theorem dX6_lean_38 : decode cX6_lean 38 = .ok (.goto 16, 3) := by decide +kernel
theorem dX6_lean_41 : decode cX6_lean 41 = .ok (.aload_n 1, 1) := by decide +kernel
theorem dX6_lean_42 : decode cX6_lean 42 = .ok (.getfield 35, 3) := by decide +kernel
theorem dX6_lean_45 : decode cX6_lean 45 = .ok (.bipush 8, 2) := by decide +kernel
theorem dX6_lean_47 : decode cX6_lean 47 = .ok (.iload_n 2, 1) := by decide +kernel
theorem dX6_lean_48 : decode cX6_lean 48 = .ok (.imul, 1) := by decide +kernel
theorem dX6_lean_49 : decode cX6_lean 49 = .ok (.iload 4, 2) := by decide +kernel
theorem dX6_lean_51 : decode cX6_lean 51 = .ok (.iadd, 1) := by decide +kernel
theorem dX6_lean_52 : decode cX6_lean 52 = .ok (.iaload, 1) := by decide +kernel
theorem dX6_lean_53 : decode cX6_lean 53 = .ok (.ineg, 1) := by decide +kernel
theorem dX6_lean_54 : decode cX6_lean 54 = .ok (.iadd, 1) := by decide +kernel
theorem dX6_lean_55 : decode cX6_lean 55 = .ok (.istore_n 3, 1) := by decide +kernel
theorem dX6_lean_56 : decode cX6_lean 56 = .ok (.iinc 4 1, 3) := by decide +kernel
theorem dX6_lean_59 : decode cX6_lean 59 = .ok (.goto (-54), 3) := by decide +kernel
theorem dX6_lean_62 : decode cX6_lean 62 = .ok (.iload_n 3, 1) := by decide +kernel
theorem dX6_lean_63 : decode cX6_lean 63 = .ok (.ireturn, 1) := by decide +kernel
set_option maxRecDepth 20000 in
theorem ggX6_guess_X6_lean : GoodIn wsX6_guess wsX6_lean := goodIn_r _ [5, 6, 7, 14, 15, 16, 17, 18, 19, 20, 21, 22, 23, 8, 9, 10, 11, 12, 13] (by decide +kernel) (by decide +kernel)
set_option maxRecDepth 20000 in
theorem gX6_guess_X6_lean : GoodIn wsX6_guess (wsV RX6 62 RX6 yX6_lean wsX6_lean) := goodIn_app (goodIn_of _ (by decide +kernel)) ggX6_guess_X6_lean
theorem dX6_guess_0 : decode cX6_guess 0 = .ok (.aload_n 0, 1) := by decide +kernel
theorem dX6_guess_1 : decode cX6_guess 1 = .ok (.aload_n 1, 1) := by decide +kernel
theorem dX6_guess_2 : decode cX6_guess 2 = .ok (.iload_n 2, 1) := by decide +kernel
theorem dX6_guess_3 : decode cX6_guess 3 = .ok (.invokevirtual 62, 3) := by decide +kernel
theorem dX6_guess_6 : decode cX6_guess 6 = .ok (.ifCond .le 7, 3) := by decide +kernel
theorem dX6_guess_9 : decode cX6_guess 9 = .ok (.iconst 1, 1) := by decide +kernel
theorem dX6_guess_10 : decode cX6_guess 10 = .ok (.goto 4, 3) := by decide +kernel
theorem dX6_guess_13 : decode cX6_guess 13 = .ok (.iconst 0, 1) := by decide +kernel
theorem dX6_guess_14 : decode cX6_guess 14 = .ok (.iload_n 3, 1) := by decide +kernel
theorem dX6_guess_15 : decode cX6_guess 15 = .ok (.iconst 1, 1) := by decide +kernel
theorem dX6_guess_16 : decode cX6_guess 16 = .ok (.if_icmp .ne 7, 3) := by decide +kernel
theorem dX6_guess_19 : decode cX6_guess 19 = .ok (.iconst 1, 1) := by decide +kernel
theorem dX6_guess_20 : decode cX6_guess 20 = .ok (.goto 4, 3) := by decide +kernel
theorem dX6_guess_23 : decode cX6_guess 23 = .ok (.iconst 0, 1) := by decide +kernel
theorem dX6_guess_24 : decode cX6_guess 24 = .ok (.if_icmp .ne 7, 3) := by decide +kernel
theorem dX6_guess_27 : decode cX6_guess 27 = .ok (.iconst 1, 1) := by decide +kernel
theorem dX6_guess_28 : decode cX6_guess 28 = .ok (.goto 4, 3) := by decide +kernel
theorem dX6_guess_31 : decode cX6_guess 31 = .ok (.iconst 0, 1) := by decide +kernel
theorem dX6_guess_32 : decode cX6_guess 32 = .ok (.istore 4, 2) := by decide +kernel
theorem dX6_guess_34 : decode cX6_guess 34 = .ok (.aload_n 1, 1) := by decide +kernel
theorem dX6_guess_35 : decode cX6_guess 35 = .ok (.getfield 66, 3) := by decide +kernel
theorem dX6_guess_38 : decode cX6_guess 38 = .ok (.iload_n 2, 1) := by decide +kernel
theorem dX6_guess_39 : decode cX6_guess 39 = .ok (.dup2, 1) := by decide +kernel
theorem dX6_guess_40 : decode cX6_guess 40 = .ok (.iaload, 1) := by decide +kernel
theorem dX6_guess_41 : decode cX6_guess 41 = .ok (.iload 4, 2) := by decide +kernel
theorem dX6_guess_43 : decode cX6_guess 43 = .ok (.ifCond .eq 7, 3) := by decide +kernel
theorem dX6_guess_46 : decode cX6_guess 46 = .ok (.iconst 1, 1) := by decide +kernel
theorem dX6_guess_47 : decode cX6_guess 47 = .ok (.goto 4, 3) := by decide +kernel
theorem dX6_guess_50 : decode cX6_guess 50 = .ok (.iconst 0, 1) := by decide +kernel
theorem dX6_guess_51 : decode cX6_guess 51 = .ok (.iadd, 1) := by decide +kernel
theorem dX6_guess_52 : decode cX6_guess 52 = .ok (.iastore, 1) := by decide +kernel
theorem dX6_guess_53 : decode cX6_guess 53 = .ok (.aload_n 1, 1) := by decide +kernel
theorem dX6_guess_54 : decode cX6_guess 54 = .ok (.dup, 1) := by decide +kernel
theorem dX6_guess_55 : decode cX6_guess 55 = .ok (.getfield 69, 3) := by decide +kernel
theorem dX6_guess_58 : decode cX6_guess 58 = .ok (.iload 4, 2) := by decide +kernel
theorem dX6_guess_60 : decode cX6_guess 60 = .ok (.ifCond .eq 7, 3) := by decide +kernel
theorem dX6_guess_63 : decode cX6_guess 63 = .ok (.iconst 1, 1) := by decide +kernel
theorem dX6_guess_64 : decode cX6_guess 64 = .ok (.goto 4, 3) := by decide +kernel
theorem dX6_guess_67 : decode cX6_guess 67 = .ok (.iconst 0, 1) := by decide +kernel
theorem dX6_guess_68 : decode cX6_guess 68 = .ok (.iadd, 1) := by decide +kernel
theorem dX6_guess_69 : decode cX6_guess 69 = .ok (.putfield 69, 3) := by decide +kernel
theorem dX6_guess_72 : decode cX6_guess 72 = .ok (.aload_n 1, 1) := by decide +kernel
theorem dX6_guess_73 : decode cX6_guess 73 = .ok (.getfield 72, 3) := by decide +kernel
theorem dX6_guess_76 : decode cX6_guess 76 = .ok (.iload_n 2, 1) := by decide +kernel
theorem dX6_guess_77 : decode cX6_guess 77 = .ok (.iload 4, 2) := by decide +kernel
theorem dX6_guess_79 : decode cX6_guess 79 = .ok (.ifCond .eq 14, 3) := by decide +kernel
theorem dX6_guess_82 : decode cX6_guess 82 = .ok (.aload_n 1, 1) := by decide +kernel
theorem dX6_guess_83 : decode cX6_guess 83 = .ok (.getfield 72, 3) := by decide +kernel
theorem dX6_guess_86 : decode cX6_guess 86 = .ok (.iload_n 2, 1) := by decide +kernel
theorem dX6_guess_87 : decode cX6_guess 87 = .ok (.iaload, 1) := by decide +kernel
theorem dX6_guess_88 : decode cX6_guess 88 = .ok (.iconst 1, 1) := by decide +kernel
theorem dX6_guess_89 : decode cX6_guess 89 = .ok (.iadd, 1) := by decide +kernel
theorem dX6_guess_90 : decode cX6_guess 90 = .ok (.goto 4, 3) := by decide +kernel
theorem dX6_guess_93 : decode cX6_guess 93 = .ok (.iconst 0, 1) := by decide +kernel
theorem dX6_guess_94 : decode cX6_guess 94 = .ok (.iastore, 1) := by decide +kernel
theorem dX6_guess_95 : decode cX6_guess 95 = .ok (.return_, 1) := by decide +kernel
theorem dX6_learn_0 : decode cX6_learn 0 = .ok (.iconst 0, 1) := by decide +kernel
theorem dX6_learn_1 : decode cX6_learn 1 = .ok (.istore 4, 2) := by decide +kernel
theorem dX6_learn_3 : decode cX6_learn 3 = .ok (.iload 4, 2) := by decide +kernel
theorem dX6_learn_5 : decode cX6_learn 5 = .ok (.aload_n 0, 1) := by decide +kernel
theorem dX6_learn_6 : decode cX6_learn 6 = .ok (.getfield 45, 3) := by decide +kernel
theorem dX6_learn_9 : decode cX6_learn 9 = .ok (.if_icmp .ge 72, 3) := by decide +kernel
theorem dX6_learn_12 : decode cX6_learn 12 = .ok (.bipush 8, 2) := by decide +kernel
theorem dX6_learn_14 : decode cX6_learn 14 = .ok (.iload_n 2, 1) := by decide +kernel
theorem dX6_learn_15 : decode cX6_learn 15 = .ok (.imul, 1) := by decide +kernel
theorem dX6_learn_16 : decode cX6_learn 16 = .ok (.iload 4, 2) := by decide +kernel
theorem dX6_learn_18 : decode cX6_learn 18 = .ok (.iadd, 1) := by decide +kernel
theorem dX6_learn_19 : decode cX6_learn 19 = .ok (.istore 5, 2) := by decide +kernel
theorem dX6_learn_21 : decode cX6_learn 21 = .ok (.aload_n 1, 1) := by decide +kernel
theorem dX6_learn_22 : decode cX6_learn 22 = .ok (.getfield 35, 3) := by decide +kernel
theorem dX6_learn_25 : decode cX6_learn 25 = .ok (.iload 5, 2) := by decide +kernel
theorem dX6_learn_27 : decode cX6_learn 27 = .ok (.aload_n 0, 1) := by decide +kernel
theorem dX6_learn_28 : decode cX6_learn 28 = .ok (.getfield 22, 3) := by decide +kernel
theorem dX6_learn_31 : decode cX6_learn 31 = .ok (.iload 4, 2) := by decide +kernel
theorem dX6_learn_33 : decode cX6_learn 33 = .ok (.iaload, 1) := by decide +kernel
theorem dX6_learn_34 : decode cX6_learn 34 = .ok (.iload_n 3, 1) := by decide +kernel
theorem dX6_learn_35 : decode cX6_learn 35 = .ok (.if_icmp .ne 20, 3) := by decide +kernel
theorem dX6_learn_38 : decode cX6_learn 38 = .ok (.bipush 100, 2) := by decide +kernel
theorem dX6_learn_40 : decode cX6_learn 40 = .ok (.aload_n 1, 1) := by decide +kernel
theorem dX6_learn_41 : decode cX6_learn 41 = .ok (.getfield 35, 3) := by decide +kernel
theorem dX6_learn_44 : decode cX6_learn 44 = .ok (.iload 5, 2) := by decide +kernel
theorem dX6_learn_46 : decode cX6_learn 46 = .ok (.iaload, 1) := by decide +kernel
theorem dX6_learn_47 : decode cX6_learn 47 = .ok (.iconst 1, 1) := by decide +kernel
theorem dX6_learn_48 : decode cX6_learn 48 = .ok (.iadd, 1) := by decide +kernel
theorem dX6_learn_49 : decode cX6_learn 49 = .ok (.invokestatic 75, 3) := by decide +kernel
theorem dX6_learn_52 : decode cX6_learn 52 = .ok (.goto 22, 3) := by decide +kernel
theorem dX6_learn_55 : decode cX6_learn 55 = .ok (.aload_n 1, 1) := by decide +kernel
theorem dX6_learn_56 : decode cX6_learn 56 = .ok (.getfield 35, 3) := by decide +kernel
theorem dX6_learn_59 : decode cX6_learn 59 = .ok (.iload 5, 2) := by decide +kernel
theorem dX6_learn_61 : decode cX6_learn 61 = .ok (.iaload, 1) := by decide +kernel
theorem dX6_learn_62 : decode cX6_learn 62 = .ok (.aload_n 1, 1) := by decide +kernel
theorem dX6_learn_63 : decode cX6_learn 63 = .ok (.getfield 35, 3) := by decide +kernel
theorem dX6_learn_66 : decode cX6_learn 66 = .ok (.iload 5, 2) := by decide +kernel
theorem dX6_learn_68 : decode cX6_learn 68 = .ok (.iaload, 1) := by decide +kernel
theorem dX6_learn_69 : decode cX6_learn 69 = .ok (.iconst 3, 1) := by decide +kernel
theorem dX6_learn_70 : decode cX6_learn 70 = .ok (.iadd, 1) := by decide +kernel
theorem dX6_learn_71 : decode cX6_learn 71 = .ok (.iconst 4, 1) := by decide +kernel
theorem dX6_learn_72 : decode cX6_learn 72 = .ok (.idiv, 1) := by decide +kernel
theorem dX6_learn_73 : decode cX6_learn 73 = .ok (.isub, 1) := by decide +kernel
theorem dX6_learn_74 : decode cX6_learn 74 = .ok (.iastore, 1) := by decide +kernel
theorem dX6_learn_75 : decode cX6_learn 75 = .ok (.iinc 4 1, 3) := by decide +kernel
theorem dX6_learn_78 : decode cX6_learn 78 = .ok (.goto (-75), 3) := by decide +kernel
theorem dX6_learn_81 : decode cX6_learn 81 = .ok (.return_, 1) := by decide +kernel
theorem dX6_sell_0 : decode cX6_sell 0 = .ok (.aload_n 0, 1) := by decide +kernel
theorem dX6_sell_1 : decode cX6_sell 1 = .ok (.getfield 72, 3) := by decide +kernel
theorem dX6_sell_4 : decode cX6_sell 4 = .ok (.iload_n 1, 1) := by decide +kernel
theorem dX6_sell_5 : decode cX6_sell 5 = .ok (.iaload, 1) := by decide +kernel
theorem dX6_sell_6 : decode cX6_sell 6 = .ok (.ifCond .le 25, 3) := by decide +kernel
theorem dX6_sell_9 : decode cX6_sell 9 = .ok (.aload_n 0, 1) := by decide +kernel
theorem dX6_sell_10 : decode cX6_sell 10 = .ok (.getfield 38, 3) := by decide +kernel
theorem dX6_sell_13 : decode cX6_sell 13 = .ok (.iload_n 1, 1) := by decide +kernel
theorem dX6_sell_14 : decode cX6_sell 14 = .ok (.dup2, 1) := by decide +kernel
theorem dX6_sell_15 : decode cX6_sell 15 = .ok (.iaload, 1) := by decide +kernel
theorem dX6_sell_16 : decode cX6_sell 16 = .ok (.iconst 5, 1) := by decide +kernel
theorem dX6_sell_17 : decode cX6_sell 17 = .ok (.aload_n 0, 1) := by decide +kernel
theorem dX6_sell_18 : decode cX6_sell 18 = .ok (.getfield 72, 3) := by decide +kernel
theorem dX6_sell_21 : decode cX6_sell 21 = .ok (.iload_n 1, 1) := by decide +kernel
theorem dX6_sell_22 : decode cX6_sell 22 = .ok (.iaload, 1) := by decide +kernel
theorem dX6_sell_23 : decode cX6_sell 23 = .ok (.invokestatic 75, 3) := by decide +kernel
theorem dX6_sell_26 : decode cX6_sell 26 = .ok (.iadd, 1) := by decide +kernel
theorem dX6_sell_27 : decode cX6_sell 27 = .ok (.iastore, 1) := by decide +kernel
theorem dX6_sell_28 : decode cX6_sell 28 = .ok (.goto 21, 3) := by decide +kernel
theorem dX6_sell_31 : decode cX6_sell 31 = .ok (.aload_n 0, 1) := by decide +kernel
theorem dX6_sell_32 : decode cX6_sell 32 = .ok (.getfield 38, 3) := by decide +kernel
theorem dX6_sell_35 : decode cX6_sell 35 = .ok (.iload_n 1, 1) := by decide +kernel
theorem dX6_sell_36 : decode cX6_sell 36 = .ok (.iconst 0, 1) := by decide +kernel
theorem dX6_sell_37 : decode cX6_sell 37 = .ok (.aload_n 0, 1) := by decide +kernel
theorem dX6_sell_38 : decode cX6_sell 38 = .ok (.getfield 38, 3) := by decide +kernel
theorem dX6_sell_41 : decode cX6_sell 41 = .ok (.iload_n 1, 1) := by decide +kernel
theorem dX6_sell_42 : decode cX6_sell 42 = .ok (.iaload, 1) := by decide +kernel
theorem dX6_sell_43 : decode cX6_sell 43 = .ok (.iconst 1, 1) := by decide +kernel
theorem dX6_sell_44 : decode cX6_sell 44 = .ok (.isub, 1) := by decide +kernel
theorem dX6_sell_45 : decode cX6_sell 45 = .ok (.invokestatic 81, 3) := by decide +kernel
theorem dX6_sell_48 : decode cX6_sell 48 = .ok (.iastore, 1) := by decide +kernel
theorem dX6_sell_49 : decode cX6_sell 49 = .ok (.return_, 1) := by decide +kernel
set_option maxRecDepth 20000 in
theorem ggX6_pass_X6_look : GoodIn wsX6_pass wsX6_look := goodIn_r _ [7, 8, 9, 10, 11, 12, 6, 13, 14, 15, 16, 1, 39, 40, 41, 42, 43, 44, 45, 46, 47, 48] (by decide +kernel) (by decide +kernel)
set_option maxRecDepth 20000 in
theorem gX6_pass_X6_look : GoodIn wsX6_pass (wsV RX6 87 RX6 yX6_look wsX6_look) := goodIn_app (goodIn_of _ (by decide +kernel)) ggX6_pass_X6_look
set_option maxRecDepth 20000 in
theorem ggX6_pass_X6_guess : GoodIn wsX6_pass wsX6_guess := goodIn_r _ [20, 21, 22, 23, 6, 24, 8, 9, 49, 50, 51, 52, 53, 54, 39, 40, 41, 42, 43, 44, 45, 46, 47, 48] (by decide +kernel) (by decide +kernel)
set_option maxRecDepth 20000 in
theorem gX6_pass_X6_guess : GoodIn wsX6_pass (wsV RX6 91 RX6 yX6_guess wsX6_guess) := goodIn_app (goodIn_of _ (by decide +kernel)) ggX6_pass_X6_guess
set_option maxRecDepth 20000 in
theorem ggX6_pass_X6_learn : GoodIn wsX6_pass wsX6_learn := goodIn_r _ [28, 8, 9, 29, 30, 31, 32, 39, 40, 41, 42, 43, 44, 45, 46, 47, 48, 49, 50, 51, 52, 53, 54] (by decide +kernel) (by decide +kernel)
set_option maxRecDepth 20000 in
theorem gX6_pass_X6_learn : GoodIn wsX6_pass (wsV RX6 95 RX6 yX6_learn wsX6_learn) := goodIn_app (goodIn_of _ (by decide +kernel)) ggX6_pass_X6_learn
set_option maxRecDepth 20000 in
theorem ggX6_pass_X6_sell : GoodIn wsX6_pass wsX6_sell := goodIn_r _ [35, 29, 30, 31, 32, 36, 37, 38, 49, 50, 51, 52, 53, 54] (by decide +kernel) (by decide +kernel)
set_option maxRecDepth 20000 in
theorem gX6_pass_X6_sell : GoodIn wsX6_pass (va_wsS RX6 98 yX6_sell wsX6_sell) := goodIn_app (goodIn_of _ (by decide +kernel)) ggX6_pass_X6_sell
theorem dX6_pass_0 : decode cX6_pass 0 = .ok (.aload_n 0, 1) := by decide +kernel
theorem dX6_pass_1 : decode cX6_pass 1 = .ok (.getfield 13, 3) := by decide +kernel
theorem dX6_pass_4 : decode cX6_pass 4 = .ok (.aload_n 1, 1) := by decide +kernel
theorem dX6_pass_5 : decode cX6_pass 5 = .ok (.getfield 84, 3) := by decide +kernel
theorem dX6_pass_8 : decode cX6_pass 8 = .ok (.bipush 12, 2) := by decide +kernel
theorem dX6_pass_10 : decode cX6_pass 10 = .ok (.irem, 1) := by decide +kernel
theorem dX6_pass_11 : decode cX6_pass 11 = .ok (.iaload, 1) := by decide +kernel
theorem dX6_pass_12 : decode cX6_pass 12 = .ok (.istore_n 2, 1) := by decide +kernel
theorem dX6_pass_13 : decode cX6_pass 13 = .ok (.aload_n 0, 1) := by decide +kernel
theorem dX6_pass_14 : decode cX6_pass 14 = .ok (.aload_n 1, 1) := by decide +kernel
theorem dX6_pass_15 : decode cX6_pass 15 = .ok (.getfield 84, 3) := by decide +kernel
theorem dX6_pass_18 : decode cX6_pass 18 = .ok (.invokevirtual 87, 3) := by decide +kernel
theorem dX6_pass_21 : decode cX6_pass 21 = .ok (.iconst 0, 1) := by decide +kernel
theorem dX6_pass_22 : decode cX6_pass 22 = .ok (.istore_n 3, 1) := by decide +kernel
theorem dX6_pass_23 : decode cX6_pass 23 = .ok (.iload_n 3, 1) := by decide +kernel
theorem dX6_pass_24 : decode cX6_pass 24 = .ok (.aload_n 0, 1) := by decide +kernel
theorem dX6_pass_25 : decode cX6_pass 25 = .ok (.getfield 52, 3) := by decide +kernel
theorem dX6_pass_28 : decode cX6_pass 28 = .ok (.if_icmp .ge 28, 3) := by decide +kernel
theorem dX6_pass_31 : decode cX6_pass 31 = .ok (.aload_n 0, 1) := by decide +kernel
theorem dX6_pass_32 : decode cX6_pass 32 = .ok (.aload_n 1, 1) := by decide +kernel
theorem dX6_pass_33 : decode cX6_pass 33 = .ok (.iload_n 3, 1) := by decide +kernel
theorem dX6_pass_34 : decode cX6_pass 34 = .ok (.iload_n 2, 1) := by decide +kernel
theorem dX6_pass_35 : decode cX6_pass 35 = .ok (.invokevirtual 91, 3) := by decide +kernel
theorem dX6_pass_38 : decode cX6_pass 38 = .ok (.aload_n 0, 1) := by decide +kernel
theorem dX6_pass_39 : decode cX6_pass 39 = .ok (.aload_n 1, 1) := by decide +kernel
theorem dX6_pass_40 : decode cX6_pass 40 = .ok (.iload_n 3, 1) := by decide +kernel
theorem dX6_pass_41 : decode cX6_pass 41 = .ok (.iload_n 2, 1) := by decide +kernel
theorem dX6_pass_42 : decode cX6_pass 42 = .ok (.invokevirtual 95, 3) := by decide +kernel
theorem dX6_pass_45 : decode cX6_pass 45 = .ok (.aload_n 1, 1) := by decide +kernel
theorem dX6_pass_46 : decode cX6_pass 46 = .ok (.iload_n 3, 1) := by decide +kernel
theorem dX6_pass_47 : decode cX6_pass 47 = .ok (.invokestatic 98, 3) := by decide +kernel
theorem dX6_pass_50 : decode cX6_pass 50 = .ok (.iinc 3 1, 3) := by decide +kernel
theorem dX6_pass_53 : decode cX6_pass 53 = .ok (.goto (-30), 3) := by decide +kernel
theorem dX6_pass_56 : decode cX6_pass 56 = .ok (.aload_n 1, 1) := by decide +kernel
theorem dX6_pass_57 : decode cX6_pass 57 = .ok (.dup, 1) := by decide +kernel
theorem dX6_pass_58 : decode cX6_pass 58 = .ok (.getfield 84, 3) := by decide +kernel
theorem dX6_pass_61 : decode cX6_pass 61 = .ok (.iconst 1, 1) := by decide +kernel
theorem dX6_pass_62 : decode cX6_pass 62 = .ok (.iadd, 1) := by decide +kernel
theorem dX6_pass_63 : decode cX6_pass 63 = .ok (.putfield 84, 3) := by decide +kernel
theorem dX6_pass_66 : decode cX6_pass 66 = .ok (.return_, 1) := by decide +kernel
set_option maxRecDepth 20000 in
theorem ggX6_passAll_X6_pass : GoodIn wsX6_passAll wsX6_pass := goodIn_r _ [5, 6, 7, 8, 9, 10, 4, 11, 12, 13, 14, 15, 16, 17, 18, 19, 20, 21, 22, 23, 24, 25, 26, 27, 28, 29, 30, 31, 32, 33, 34, 35, 36, 37, 38, 39, 40, 41, 42, 43, 44, 45, 46, 47, 48, 49, 50, 51, 52, 53, 54, 55, 56, 57, 58] (by decide +kernel) (by decide +kernel)
set_option maxRecDepth 20000 in
theorem gX6_passAll_X6_pass : GoodIn wsX6_passAll (wsV RX6 102 RX6 yX6_pass wsX6_pass) := goodIn_app (goodIn_of _ (by decide +kernel)) ggX6_passAll_X6_pass
theorem dX6_passAll_0 : decode cX6_passAll 0 = .ok (.iconst 0, 1) := by decide +kernel
theorem dX6_passAll_1 : decode cX6_passAll 1 = .ok (.istore_n 3, 1) := by decide +kernel
theorem dX6_passAll_2 : decode cX6_passAll 2 = .ok (.iload_n 3, 1) := by decide +kernel
theorem dX6_passAll_3 : decode cX6_passAll 3 = .ok (.iload_n 2, 1) := by decide +kernel
theorem dX6_passAll_4 : decode cX6_passAll 4 = .ok (.if_icmp .ge 14, 3) := by decide +kernel
theorem dX6_passAll_7 : decode cX6_passAll 7 = .ok (.aload_n 0, 1) := by decide +kernel
theorem dX6_passAll_8 : decode cX6_passAll 8 = .ok (.aload_n 1, 1) := by decide +kernel
theorem dX6_passAll_9 : decode cX6_passAll 9 = .ok (.invokevirtual 102, 3) := by decide +kernel
theorem dX6_passAll_12 : decode cX6_passAll 12 = .ok (.iinc 3 1, 3) := by decide +kernel
theorem dX6_passAll_15 : decode cX6_passAll 15 = .ok (.goto (-13), 3) := by decide +kernel
theorem dX6_passAll_18 : decode cX6_passAll 18 = .ok (.aload_n 1, 1) := by decide +kernel
theorem dX6_passAll_19 : decode cX6_passAll 19 = .ok (.areturn, 1) := by decide +kernel
set_option maxRecDepth 20000 in
theorem ggX6_lookAhead_X5_become : GoodIn wsX6_lookAhead wsX5_become := goodIn_r _ [7, 8, 9, 10, 11, 12, 13, 14, 15, 6, 16, 17, 18, 19, 20, 31, 32, 33, 34, 35, 36] (by decide +kernel) (by decide +kernel)
set_option maxRecDepth 20000 in
theorem gX6_lookAhead_X5_become : GoodIn wsX6_lookAhead (wsV RX6 106 RX5 yX5_become wsX5_become) := goodIn_app (goodIn_of _ (by decide +kernel)) ggX6_lookAhead_X5_become
theorem dX6_lookAhead_0 : decode cX6_lookAhead 0 = .ok (.aload_n 0, 1) := by decide +kernel
theorem dX6_lookAhead_1 : decode cX6_lookAhead 1 = .ok (.getfield 32, 3) := by decide +kernel
theorem dX6_lookAhead_4 : decode cX6_lookAhead 4 = .ok (.aload_n 0, 1) := by decide +kernel
theorem dX6_lookAhead_5 : decode cX6_lookAhead 5 = .ok (.getfield 28, 3) := by decide +kernel
theorem dX6_lookAhead_8 : decode cX6_lookAhead 8 = .ok (.invokevirtual 106, 3) := by decide +kernel
theorem dX6_lookAhead_11 : decode cX6_lookAhead 11 = .ok (.aload_n 0, 1) := by decide +kernel
theorem dX6_lookAhead_12 : decode cX6_lookAhead 12 = .ok (.getfield 32, 3) := by decide +kernel
theorem dX6_lookAhead_15 : decode cX6_lookAhead 15 = .ok (.areturn, 1) := by decide +kernel
theorem dX6_isBetter_0 : decode cX6_isBetter 0 = .ok (.aload_n 0, 1) := by decide +kernel
theorem dX6_isBetter_1 : decode cX6_isBetter 1 = .ok (.getfield 66, 3) := by decide +kernel
theorem dX6_isBetter_4 : decode cX6_isBetter 4 = .ok (.iload_n 1, 1) := by decide +kernel
theorem dX6_isBetter_5 : decode cX6_isBetter 5 = .ok (.iaload, 1) := by decide +kernel
theorem dX6_isBetter_6 : decode cX6_isBetter 6 = .ok (.aload_n 0, 1) := by decide +kernel
theorem dX6_isBetter_7 : decode cX6_isBetter 7 = .ok (.getfield 66, 3) := by decide +kernel
theorem dX6_isBetter_10 : decode cX6_isBetter 10 = .ok (.iload_n 2, 1) := by decide +kernel
theorem dX6_isBetter_11 : decode cX6_isBetter 11 = .ok (.iaload, 1) := by decide +kernel
theorem dX6_isBetter_12 : decode cX6_isBetter 12 = .ok (.if_icmp .eq 24, 3) := by decide +kernel
theorem dX6_isBetter_15 : decode cX6_isBetter 15 = .ok (.aload_n 0, 1) := by decide +kernel
theorem dX6_isBetter_16 : decode cX6_isBetter 16 = .ok (.getfield 66, 3) := by decide +kernel
theorem dX6_isBetter_19 : decode cX6_isBetter 19 = .ok (.iload_n 1, 1) := by decide +kernel
theorem dX6_isBetter_20 : decode cX6_isBetter 20 = .ok (.iaload, 1) := by decide +kernel
theorem dX6_isBetter_21 : decode cX6_isBetter 21 = .ok (.aload_n 0, 1) := by decide +kernel
theorem dX6_isBetter_22 : decode cX6_isBetter 22 = .ok (.getfield 66, 3) := by decide +kernel
theorem dX6_isBetter_25 : decode cX6_isBetter 25 = .ok (.iload_n 2, 1) := by decide +kernel
theorem dX6_isBetter_26 : decode cX6_isBetter 26 = .ok (.iaload, 1) := by decide +kernel
theorem dX6_isBetter_27 : decode cX6_isBetter 27 = .ok (.if_icmp .le 7, 3) := by decide +kernel
theorem dX6_isBetter_30 : decode cX6_isBetter 30 = .ok (.iconst 1, 1) := by decide +kernel
theorem dX6_isBetter_31 : decode cX6_isBetter 31 = .ok (.goto 4, 3) := by decide +kernel
theorem dX6_isBetter_34 : decode cX6_isBetter 34 = .ok (.iconst 0, 1) := by decide +kernel
theorem dX6_isBetter_35 : decode cX6_isBetter 35 = .ok (.ireturn, 1) := by decide +kernel
theorem dX6_isBetter_36 : decode cX6_isBetter 36 = .ok (.aload_n 0, 1) := by decide +kernel
theorem dX6_isBetter_37 : decode cX6_isBetter 37 = .ok (.getfield 38, 3) := by decide +kernel
theorem dX6_isBetter_40 : decode cX6_isBetter 40 = .ok (.iload_n 1, 1) := by decide +kernel
theorem dX6_isBetter_41 : decode cX6_isBetter 41 = .ok (.iaload, 1) := by decide +kernel
theorem dX6_isBetter_42 : decode cX6_isBetter 42 = .ok (.aload_n 0, 1) := by decide +kernel
theorem dX6_isBetter_43 : decode cX6_isBetter 43 = .ok (.getfield 38, 3) := by decide +kernel
theorem dX6_isBetter_46 : decode cX6_isBetter 46 = .ok (.iload_n 2, 1) := by decide +kernel
theorem dX6_isBetter_47 : decode cX6_isBetter 47 = .ok (.iaload, 1) := by decide +kernel
theorem dX6_isBetter_48 : decode cX6_isBetter 48 = .ok (.if_icmp .eq 26, 3) := by decide +kernel
theorem dX6_isBetter_51 : decode cX6_isBetter 51 = .ok (.aload_n 0, 1) := by decide +kernel
theorem dX6_isBetter_52 : decode cX6_isBetter 52 = .ok (.getfield 38, 3) := by decide +kernel
theorem dX6_isBetter_55 : decode cX6_isBetter 55 = .ok (.iload_n 1, 1) := by decide +kernel
theorem dX6_isBetter_56 : decode cX6_isBetter 56 = .ok (.iaload, 1) := by decide +kernel
theorem dX6_isBetter_57 : decode cX6_isBetter 57 = .ok (.aload_n 0, 1) := by decide +kernel
theorem dX6_isBetter_58 : decode cX6_isBetter 58 = .ok (.getfield 38, 3) := by decide +kernel
theorem dX6_isBetter_61 : decode cX6_isBetter 61 = .ok (.iload_n 2, 1) := by decide +kernel
theorem dX6_isBetter_62 : decode cX6_isBetter 62 = .ok (.iaload, 1) := by decide +kernel
theorem dX6_isBetter_63 : decode cX6_isBetter 63 = .ok (.if_icmp .le 7, 3) := by decide +kernel
theorem dX6_isBetter_66 : decode cX6_isBetter 66 = .ok (.iconst 1, 1) := by decide +kernel
theorem dX6_isBetter_67 : decode cX6_isBetter 67 = .ok (.goto 17, 3) := by decide +kernel
theorem dX6_isBetter_70 : decode cX6_isBetter 70 = .ok (.iconst 0, 1) := by decide +kernel
theorem dX6_isBetter_71 : decode cX6_isBetter 71 = .ok (.goto 13, 3) := by decide +kernel
theorem dX6_isBetter_74 : decode cX6_isBetter 74 = .ok (.iload_n 1, 1) := by decide +kernel
theorem dX6_isBetter_75 : decode cX6_isBetter 75 = .ok (.iload_n 2, 1) := by decide +kernel
theorem dX6_isBetter_76 : decode cX6_isBetter 76 = .ok (.if_icmp .ge 7, 3) := by decide +kernel
theorem dX6_isBetter_79 : decode cX6_isBetter 79 = .ok (.iconst 1, 1) := by decide +kernel
theorem dX6_isBetter_80 : decode cX6_isBetter 80 = .ok (.goto 4, 3) := by decide +kernel
theorem dX6_isBetter_83 : decode cX6_isBetter 83 = .ok (.iconst 0, 1) := by decide +kernel
theorem dX6_isBetter_84 : decode cX6_isBetter 84 = .ok (.ireturn, 1) := by decide +kernel
set_option maxRecDepth 20000 in
theorem ggX6_placeOf_X6_isBetter : GoodIn wsX6_placeOf wsX6_isBetter := goodIn_r _ [6, 17, 18, 19, 20, 21, 22] (by decide +kernel) (by decide +kernel)
set_option maxRecDepth 20000 in
theorem gX6_placeOf_X6_isBetter : GoodIn wsX6_placeOf (va_wsS RX6 109 yX6_isBetter wsX6_isBetter) := goodIn_app (goodIn_of _ (by decide +kernel)) ggX6_placeOf_X6_isBetter
theorem dX6_placeOf_0 : decode cX6_placeOf 0 = .ok (.iconst 1, 1) := by decide +kernel
theorem dX6_placeOf_1 : decode cX6_placeOf 1 = .ok (.istore_n 2, 1) := by decide +kernel
theorem dX6_placeOf_2 : decode cX6_placeOf 2 = .ok (.iconst 0, 1) := by decide +kernel
theorem dX6_placeOf_3 : decode cX6_placeOf 3 = .ok (.istore_n 3, 1) := by decide +kernel
theorem dX6_placeOf_4 : decode cX6_placeOf 4 = .ok (.iload_n 3, 1) := by decide +kernel
theorem dX6_placeOf_5 : decode cX6_placeOf 5 = .ok (.aload_n 0, 1) := by decide +kernel
theorem dX6_placeOf_6 : decode cX6_placeOf 6 = .ok (.getfield 52, 3) := by decide +kernel
theorem dX6_placeOf_9 : decode cX6_placeOf 9 = .ok (.if_icmp .ge 34, 3) := by decide +kernel
theorem dX6_placeOf_12 : decode cX6_placeOf 12 = .ok (.iload_n 2, 1) := by decide +kernel
theorem dX6_placeOf_13 : decode cX6_placeOf 13 = .ok (.iload_n 3, 1) := by decide +kernel
theorem dX6_placeOf_14 : decode cX6_placeOf 14 = .ok (.iload_n 1, 1) := by decide +kernel
theorem dX6_placeOf_15 : decode cX6_placeOf 15 = .ok (.if_icmp .eq 19, 3) := by decide +kernel
theorem dX6_placeOf_18 : decode cX6_placeOf 18 = .ok (.aload_n 0, 1) := by decide +kernel
theorem dX6_placeOf_19 : decode cX6_placeOf 19 = .ok (.getfield 28, 3) := by decide +kernel
theorem dX6_placeOf_22 : decode cX6_placeOf 22 = .ok (.iload_n 3, 1) := by decide +kernel
theorem dX6_placeOf_23 : decode cX6_placeOf 23 = .ok (.iload_n 1, 1) := by decide +kernel
theorem dX6_placeOf_24 : decode cX6_placeOf 24 = .ok (.invokestatic 109, 3) := by decide +kernel
theorem dX6_placeOf_27 : decode cX6_placeOf 27 = .ok (.ifCond .eq 7, 3) := by decide +kernel
theorem dX6_placeOf_30 : decode cX6_placeOf 30 = .ok (.iconst 1, 1) := by decide +kernel
theorem dX6_placeOf_31 : decode cX6_placeOf 31 = .ok (.goto 4, 3) := by decide +kernel
theorem dX6_placeOf_34 : decode cX6_placeOf 34 = .ok (.iconst 0, 1) := by decide +kernel
theorem dX6_placeOf_35 : decode cX6_placeOf 35 = .ok (.iadd, 1) := by decide +kernel
theorem dX6_placeOf_36 : decode cX6_placeOf 36 = .ok (.istore_n 2, 1) := by decide +kernel
theorem dX6_placeOf_37 : decode cX6_placeOf 37 = .ok (.iinc 3 1, 3) := by decide +kernel
theorem dX6_placeOf_40 : decode cX6_placeOf 40 = .ok (.goto (-36), 3) := by decide +kernel
theorem dX6_placeOf_43 : decode cX6_placeOf 43 = .ok (.iload_n 2, 1) := by decide +kernel
theorem dX6_placeOf_44 : decode cX6_placeOf 44 = .ok (.ireturn, 1) := by decide +kernel
theorem dX6_sumOf_0 : decode cX6_sumOf 0 = .ok (.iconst 0, 1) := by decide +kernel
theorem dX6_sumOf_1 : decode cX6_sumOf 1 = .ok (.istore_n 2, 1) := by decide +kernel
theorem dX6_sumOf_2 : decode cX6_sumOf 2 = .ok (.iconst 0, 1) := by decide +kernel
theorem dX6_sumOf_3 : decode cX6_sumOf 3 = .ok (.istore_n 3, 1) := by decide +kernel
theorem dX6_sumOf_4 : decode cX6_sumOf 4 = .ok (.iload_n 3, 1) := by decide +kernel
theorem dX6_sumOf_5 : decode cX6_sumOf 5 = .ok (.aload_n 0, 1) := by decide +kernel
theorem dX6_sumOf_6 : decode cX6_sumOf 6 = .ok (.getfield 52, 3) := by decide +kernel
theorem dX6_sumOf_9 : decode cX6_sumOf 9 = .ok (.if_icmp .ge 15, 3) := by decide +kernel
theorem dX6_sumOf_12 : decode cX6_sumOf 12 = .ok (.iload_n 2, 1) := by decide +kernel
theorem dX6_sumOf_13 : decode cX6_sumOf 13 = .ok (.aload_n 1, 1) := by decide +kernel
theorem dX6_sumOf_14 : decode cX6_sumOf 14 = .ok (.iload_n 3, 1) := by decide +kernel
theorem dX6_sumOf_15 : decode cX6_sumOf 15 = .ok (.iaload, 1) := by decide +kernel
theorem dX6_sumOf_16 : decode cX6_sumOf 16 = .ok (.iadd, 1) := by decide +kernel
theorem dX6_sumOf_17 : decode cX6_sumOf 17 = .ok (.istore_n 2, 1) := by decide +kernel
theorem dX6_sumOf_18 : decode cX6_sumOf 18 = .ok (.iinc 3 1, 3) := by decide +kernel
theorem dX6_sumOf_21 : decode cX6_sumOf 21 = .ok (.goto (-17), 3) := by decide +kernel
theorem dX6_sumOf_24 : decode cX6_sumOf 24 = .ok (.iload_n 2, 1) := by decide +kernel
theorem dX6_sumOf_25 : decode cX6_sumOf 25 = .ok (.ireturn, 1) := by decide +kernel
set_option maxRecDepth 20000 in
theorem ggX6_rainGuessed_X6_look : GoodIn wsX6_rainGuessed wsX6_look := goodIn_r _ [6, 7, 8, 9, 10, 11, 5, 12, 13, 14, 15, 16, 27, 28, 29, 30, 31, 32, 33, 34, 35, 36] (by decide +kernel) (by decide +kernel)
set_option maxRecDepth 20000 in
theorem gX6_rainGuessed_X6_look : GoodIn wsX6_rainGuessed (wsV RX6 87 RX6 yX6_look wsX6_look) := goodIn_app (goodIn_of _ (by decide +kernel)) ggX6_rainGuessed_X6_look
set_option maxRecDepth 20000 in
theorem ggX6_rainGuessed_X6_lean : GoodIn wsX6_rainGuessed wsX6_lean := goodIn_r _ [20, 7, 8, 27, 28, 29, 30, 31, 32, 33, 34, 35, 36, 21, 22, 23, 24, 25, 26] (by decide +kernel) (by decide +kernel)
set_option maxRecDepth 20000 in
theorem gX6_rainGuessed_X6_lean : GoodIn wsX6_rainGuessed (wsV RX6 62 RX6 yX6_lean wsX6_lean) := goodIn_app (goodIn_of _ (by decide +kernel)) ggX6_rainGuessed_X6_lean
theorem dX6_rainGuessed_0 : decode cX6_rainGuessed 0 = .ok (.aload_n 0, 1) := by decide +kernel
theorem dX6_rainGuessed_1 : decode cX6_rainGuessed 1 = .ok (.aload_n 1, 1) := by decide +kernel
theorem dX6_rainGuessed_2 : decode cX6_rainGuessed 2 = .ok (.getfield 84, 3) := by decide +kernel
theorem dX6_rainGuessed_5 : decode cX6_rainGuessed 5 = .ok (.invokevirtual 87, 3) := by decide +kernel
theorem dX6_rainGuessed_8 : decode cX6_rainGuessed 8 = .ok (.iconst 0, 1) := by decide +kernel
theorem dX6_rainGuessed_9 : decode cX6_rainGuessed 9 = .ok (.istore_n 2, 1) := by decide +kernel
theorem dX6_rainGuessed_10 : decode cX6_rainGuessed 10 = .ok (.iconst 0, 1) := by decide +kernel
theorem dX6_rainGuessed_11 : decode cX6_rainGuessed 11 = .ok (.istore_n 3, 1) := by decide +kernel
theorem dX6_rainGuessed_12 : decode cX6_rainGuessed 12 = .ok (.iload_n 3, 1) := by decide +kernel
theorem dX6_rainGuessed_13 : decode cX6_rainGuessed 13 = .ok (.aload_n 0, 1) := by decide +kernel
theorem dX6_rainGuessed_14 : decode cX6_rainGuessed 14 = .ok (.getfield 52, 3) := by decide +kernel
theorem dX6_rainGuessed_17 : decode cX6_rainGuessed 17 = .ok (.if_icmp .ge 26, 3) := by decide +kernel
theorem dX6_rainGuessed_20 : decode cX6_rainGuessed 20 = .ok (.iload_n 2, 1) := by decide +kernel
theorem dX6_rainGuessed_21 : decode cX6_rainGuessed 21 = .ok (.aload_n 0, 1) := by decide +kernel
theorem dX6_rainGuessed_22 : decode cX6_rainGuessed 22 = .ok (.aload_n 1, 1) := by decide +kernel
theorem dX6_rainGuessed_23 : decode cX6_rainGuessed 23 = .ok (.iload_n 3, 1) := by decide +kernel
theorem dX6_rainGuessed_24 : decode cX6_rainGuessed 24 = .ok (.invokevirtual 62, 3) := by decide +kernel
theorem dX6_rainGuessed_27 : decode cX6_rainGuessed 27 = .ok (.ifCond .le 7, 3) := by decide +kernel
theorem dX6_rainGuessed_30 : decode cX6_rainGuessed 30 = .ok (.iconst 1, 1) := by decide +kernel
theorem dX6_rainGuessed_31 : decode cX6_rainGuessed 31 = .ok (.goto 4, 3) := by decide +kernel
theorem dX6_rainGuessed_34 : decode cX6_rainGuessed 34 = .ok (.iconst 0, 1) := by decide +kernel
theorem dX6_rainGuessed_35 : decode cX6_rainGuessed 35 = .ok (.iadd, 1) := by decide +kernel
theorem dX6_rainGuessed_36 : decode cX6_rainGuessed 36 = .ok (.istore_n 2, 1) := by decide +kernel
theorem dX6_rainGuessed_37 : decode cX6_rainGuessed 37 = .ok (.iinc 3 1, 3) := by decide +kernel
theorem dX6_rainGuessed_40 : decode cX6_rainGuessed 40 = .ok (.goto (-28), 3) := by decide +kernel
theorem dX6_rainGuessed_43 : decode cX6_rainGuessed 43 = .ok (.iload_n 2, 1) := by decide +kernel
theorem dX6_rainGuessed_44 : decode cX6_rainGuessed 44 = .ok (.ireturn, 1) := by decide +kernel
set_option maxRecDepth 20000 in
theorem ggX6_setGlass_X6_isIn : GoodIn wsX6_setGlass wsX6_isIn := goodIn_r _ [6] (by decide +kernel) (by decide +kernel)
set_option maxRecDepth 20000 in
theorem gX6_setGlass_X6_isIn : GoodIn wsX6_setGlass (va_wsS RX6 48 yX6_isIn wsX6_isIn) := goodIn_app (goodIn_of _ (by decide +kernel)) ggX6_setGlass_X6_isIn
set_option maxRecDepth 20000 in
theorem ggX6_setGlass_X6_no : GoodIn wsX6_setGlass wsX6_no := goodIn_r _ [10, 1, 11, 12, 13, 14, 15, 16, 17, 18, 19, 20] (by decide +kernel) (by decide +kernel)
set_option maxRecDepth 20000 in
theorem gX6_setGlass_X6_no : GoodIn wsX6_setGlass (wsV RX6 113 RX6 yX6_no wsX6_no) := goodIn_app (goodIn_of _ (by decide +kernel)) ggX6_setGlass_X6_no
theorem dX6_setGlass_0 : decode cX6_setGlass 0 = .ok (.aload_n 0, 1) := by decide +kernel
theorem dX6_setGlass_1 : decode cX6_setGlass 1 = .ok (.iconst 0, 1) := by decide +kernel
theorem dX6_setGlass_2 : decode cX6_setGlass 2 = .ok (.putfield 41, 3) := by decide +kernel
theorem dX6_setGlass_5 : decode cX6_setGlass 5 = .ok (.iload_n 1, 1) := by decide +kernel
theorem dX6_setGlass_6 : decode cX6_setGlass 6 = .ok (.iconst 0, 1) := by decide +kernel
theorem dX6_setGlass_7 : decode cX6_setGlass 7 = .ok (.bipush 11, 2) := by decide +kernel
theorem dX6_setGlass_9 : decode cX6_setGlass 9 = .ok (.invokestatic 48, 3) := by decide +kernel
theorem dX6_setGlass_12 : decode cX6_setGlass 12 = .ok (.ifCond .ne 9, 3) := by decide +kernel
theorem dX6_setGlass_15 : decode cX6_setGlass 15 = .ok (.aload_n 0, 1) := by decide +kernel
theorem dX6_setGlass_16 : decode cX6_setGlass 16 = .ok (.iconst 1, 1) := by decide +kernel
theorem dX6_setGlass_17 : decode cX6_setGlass 17 = .ok (.invokevirtual 113, 3) := by decide +kernel
theorem dX6_setGlass_20 : decode cX6_setGlass 20 = .ok (.ireturn, 1) := by decide +kernel
theorem dX6_setGlass_21 : decode cX6_setGlass 21 = .ok (.iload_n 2, 1) := by decide +kernel
theorem dX6_setGlass_22 : decode cX6_setGlass 22 = .ok (.iconst 0, 1) := by decide +kernel
theorem dX6_setGlass_23 : decode cX6_setGlass 23 = .ok (.bipush 60, 2) := by decide +kernel
theorem dX6_setGlass_25 : decode cX6_setGlass 25 = .ok (.invokestatic 48, 3) := by decide +kernel
theorem dX6_setGlass_28 : decode cX6_setGlass 28 = .ok (.ifCond .ne 9, 3) := by decide +kernel
theorem dX6_setGlass_31 : decode cX6_setGlass 31 = .ok (.aload_n 0, 1) := by decide +kernel
theorem dX6_setGlass_32 : decode cX6_setGlass 32 = .ok (.iconst 2, 1) := by decide +kernel
theorem dX6_setGlass_33 : decode cX6_setGlass 33 = .ok (.invokevirtual 113, 3) := by decide +kernel
theorem dX6_setGlass_36 : decode cX6_setGlass 36 = .ok (.ireturn, 1) := by decide +kernel
theorem dX6_setGlass_37 : decode cX6_setGlass 37 = .ok (.aload_n 0, 1) := by decide +kernel
theorem dX6_setGlass_38 : decode cX6_setGlass 38 = .ok (.getfield 9, 3) := by decide +kernel
theorem dX6_setGlass_41 : decode cX6_setGlass 41 = .ok (.iload_n 1, 1) := by decide +kernel
theorem dX6_setGlass_42 : decode cX6_setGlass 42 = .ok (.iaload, 1) := by decide +kernel
theorem dX6_setGlass_43 : decode cX6_setGlass 43 = .ok (.istore_n 3, 1) := by decide +kernel
theorem dX6_setGlass_44 : decode cX6_setGlass 44 = .ok (.aload_n 0, 1) := by decide +kernel
theorem dX6_setGlass_45 : decode cX6_setGlass 45 = .ok (.getfield 9, 3) := by decide +kernel
theorem dX6_setGlass_48 : decode cX6_setGlass 48 = .ok (.iload_n 1, 1) := by decide +kernel
theorem dX6_setGlass_49 : decode cX6_setGlass 49 = .ok (.iload_n 2, 1) := by decide +kernel
theorem dX6_setGlass_50 : decode cX6_setGlass 50 = .ok (.iastore, 1) := by decide +kernel
theorem dX6_setGlass_51 : decode cX6_setGlass 51 = .ok (.iload_n 3, 1) := by decide +kernel
theorem dX6_setGlass_52 : decode cX6_setGlass 52 = .ok (.ireturn, 1) := by decide +kernel
set_option maxRecDepth 20000 in
theorem ggX6_setRain_X6_isIn : GoodIn wsX6_setRain wsX6_isIn := goodIn_r _ [6] (by decide +kernel) (by decide +kernel)
set_option maxRecDepth 20000 in
theorem gX6_setRain_X6_isIn : GoodIn wsX6_setRain (va_wsS RX6 48 yX6_isIn wsX6_isIn) := goodIn_app (goodIn_of _ (by decide +kernel)) ggX6_setRain_X6_isIn
theorem dX6_setRain_0 : decode cX6_setRain 0 = .ok (.aload_n 0, 1) := by decide +kernel
theorem dX6_setRain_1 : decode cX6_setRain 1 = .ok (.iload_n 1, 1) := by decide +kernel
theorem dX6_setRain_2 : decode cX6_setRain 2 = .ok (.iconst 0, 1) := by decide +kernel
theorem dX6_setRain_3 : decode cX6_setRain 3 = .ok (.bipush 11, 2) := by decide +kernel
theorem dX6_setRain_5 : decode cX6_setRain 5 = .ok (.invokestatic 48, 3) := by decide +kernel
theorem dX6_setRain_8 : decode cX6_setRain 8 = .ok (.ifCond .eq 7, 3) := by decide +kernel
theorem dX6_setRain_11 : decode cX6_setRain 11 = .ok (.iconst 0, 1) := by decide +kernel
theorem dX6_setRain_12 : decode cX6_setRain 12 = .ok (.goto 4, 3) := by decide +kernel
theorem dX6_setRain_15 : decode cX6_setRain 15 = .ok (.iconst 1, 1) := by decide +kernel
theorem dX6_setRain_16 : decode cX6_setRain 16 = .ok (.putfield 41, 3) := by decide +kernel
theorem dX6_setRain_19 : decode cX6_setRain 19 = .ok (.aload_n 0, 1) := by decide +kernel
theorem dX6_setRain_20 : decode cX6_setRain 20 = .ok (.getfield 41, 3) := by decide +kernel
theorem dX6_setRain_23 : decode cX6_setRain 23 = .ok (.ifCond .eq 5, 3) := by decide +kernel
theorem dX6_setRain_26 : decode cX6_setRain 26 = .ok (.iconst 0, 1) := by decide +kernel
theorem dX6_setRain_27 : decode cX6_setRain 27 = .ok (.ireturn, 1) := by decide +kernel
theorem dX6_setRain_28 : decode cX6_setRain 28 = .ok (.aload_n 0, 1) := by decide +kernel
theorem dX6_setRain_29 : decode cX6_setRain 29 = .ok (.getfield 13, 3) := by decide +kernel
theorem dX6_setRain_32 : decode cX6_setRain 32 = .ok (.iload_n 1, 1) := by decide +kernel
theorem dX6_setRain_33 : decode cX6_setRain 33 = .ok (.iaload, 1) := by decide +kernel
theorem dX6_setRain_34 : decode cX6_setRain 34 = .ok (.iconst 1, 1) := by decide +kernel
theorem dX6_setRain_35 : decode cX6_setRain 35 = .ok (.if_icmp .ne 7, 3) := by decide +kernel
theorem dX6_setRain_38 : decode cX6_setRain 38 = .ok (.iconst 1, 1) := by decide +kernel
theorem dX6_setRain_39 : decode cX6_setRain 39 = .ok (.goto 4, 3) := by decide +kernel
theorem dX6_setRain_42 : decode cX6_setRain 42 = .ok (.iconst 0, 1) := by decide +kernel
theorem dX6_setRain_43 : decode cX6_setRain 43 = .ok (.istore_n 3, 1) := by decide +kernel
theorem dX6_setRain_44 : decode cX6_setRain 44 = .ok (.aload_n 0, 1) := by decide +kernel
theorem dX6_setRain_45 : decode cX6_setRain 45 = .ok (.getfield 13, 3) := by decide +kernel
theorem dX6_setRain_48 : decode cX6_setRain 48 = .ok (.iload_n 1, 1) := by decide +kernel
theorem dX6_setRain_49 : decode cX6_setRain 49 = .ok (.iload_n 2, 1) := by decide +kernel
theorem dX6_setRain_50 : decode cX6_setRain 50 = .ok (.ifCond .eq 7, 3) := by decide +kernel
theorem dX6_setRain_53 : decode cX6_setRain 53 = .ok (.iconst 1, 1) := by decide +kernel
theorem dX6_setRain_54 : decode cX6_setRain 54 = .ok (.goto 4, 3) := by decide +kernel
theorem dX6_setRain_57 : decode cX6_setRain 57 = .ok (.iconst 0, 1) := by decide +kernel
theorem dX6_setRain_58 : decode cX6_setRain 58 = .ok (.iastore, 1) := by decide +kernel
theorem dX6_setRain_59 : decode cX6_setRain 59 = .ok (.iload_n 3, 1) := by decide +kernel
theorem dX6_setRain_60 : decode cX6_setRain 60 = .ok (.ireturn, 1) := by decide +kernel
set_option maxRecDepth 20000 in
theorem ggX6_sign_X6_isIn : GoodIn wsX6_sign wsX6_isIn := goodIn_r _ [8] (by decide +kernel) (by decide +kernel)
set_option maxRecDepth 20000 in
theorem gX6_sign_X6_isIn : GoodIn wsX6_sign (va_wsS RX6 48 yX6_isIn wsX6_isIn) := goodIn_app (goodIn_of _ (by decide +kernel)) ggX6_sign_X6_isIn
set_option maxRecDepth 20000 in
theorem ggX6_sign_X6_no : GoodIn wsX6_sign wsX6_no := goodIn_r _ [12, 1, 13, 14, 15, 16, 17, 18, 19, 20, 21, 22] (by decide +kernel) (by decide +kernel)
set_option maxRecDepth 20000 in
theorem gX6_sign_X6_no : GoodIn wsX6_sign (wsV RX6 113 RX6 yX6_no wsX6_no) := goodIn_app (goodIn_of _ (by decide +kernel)) ggX6_sign_X6_no
theorem dX6_sign_0 : decode cX6_sign 0 = .ok (.aload_n 0, 1) := by decide +kernel
theorem dX6_sign_1 : decode cX6_sign 1 = .ok (.iconst 0, 1) := by decide +kernel
theorem dX6_sign_2 : decode cX6_sign 2 = .ok (.putfield 41, 3) := by decide +kernel
theorem dX6_sign_5 : decode cX6_sign 5 = .ok (.iload_n 1, 1) := by decide +kernel
theorem dX6_sign_6 : decode cX6_sign 6 = .ok (.iconst 0, 1) := by decide +kernel
theorem dX6_sign_7 : decode cX6_sign 7 = .ok (.iconst 5, 1) := by decide +kernel
theorem dX6_sign_8 : decode cX6_sign 8 = .ok (.invokestatic 48, 3) := by decide +kernel
theorem dX6_sign_11 : decode cX6_sign 11 = .ok (.ifCond .eq 13, 3) := by decide +kernel
theorem dX6_sign_14 : decode cX6_sign 14 = .ok (.iload_n 2, 1) := by decide +kernel
theorem dX6_sign_15 : decode cX6_sign 15 = .ok (.iconst 0, 1) := by decide +kernel
theorem dX6_sign_16 : decode cX6_sign 16 = .ok (.bipush 60, 2) := by decide +kernel
theorem dX6_sign_18 : decode cX6_sign 18 = .ok (.invokestatic 48, 3) := by decide +kernel
theorem dX6_sign_21 : decode cX6_sign 21 = .ok (.ifCond .ne 9, 3) := by decide +kernel
theorem dX6_sign_24 : decode cX6_sign 24 = .ok (.aload_n 0, 1) := by decide +kernel
theorem dX6_sign_25 : decode cX6_sign 25 = .ok (.iconst 1, 1) := by decide +kernel
theorem dX6_sign_26 : decode cX6_sign 26 = .ok (.invokevirtual 113, 3) := by decide +kernel
theorem dX6_sign_29 : decode cX6_sign 29 = .ok (.ireturn, 1) := by decide +kernel
theorem dX6_sign_30 : decode cX6_sign 30 = .ok (.aload_n 0, 1) := by decide +kernel
theorem dX6_sign_31 : decode cX6_sign 31 = .ok (.getfield 45, 3) := by decide +kernel
theorem dX6_sign_34 : decode cX6_sign 34 = .ok (.bipush 8, 2) := by decide +kernel
theorem dX6_sign_36 : decode cX6_sign 36 = .ok (.if_icmp .ne 9, 3) := by decide +kernel
theorem dX6_sign_39 : decode cX6_sign 39 = .ok (.aload_n 0, 1) := by decide +kernel
theorem dX6_sign_40 : decode cX6_sign 40 = .ok (.iconst 2, 1) := by decide +kernel
theorem dX6_sign_41 : decode cX6_sign 41 = .ok (.invokevirtual 113, 3) := by decide +kernel
theorem dX6_sign_44 : decode cX6_sign 44 = .ok (.ireturn, 1) := by decide +kernel
theorem dX6_sign_45 : decode cX6_sign 45 = .ok (.aload_n 0, 1) := by decide +kernel
theorem dX6_sign_46 : decode cX6_sign 46 = .ok (.getfield 16, 3) := by decide +kernel
theorem dX6_sign_49 : decode cX6_sign 49 = .ok (.aload_n 0, 1) := by decide +kernel
theorem dX6_sign_50 : decode cX6_sign 50 = .ok (.getfield 45, 3) := by decide +kernel
theorem dX6_sign_53 : decode cX6_sign 53 = .ok (.iload_n 1, 1) := by decide +kernel
theorem dX6_sign_54 : decode cX6_sign 54 = .ok (.iastore, 1) := by decide +kernel
theorem dX6_sign_55 : decode cX6_sign 55 = .ok (.aload_n 0, 1) := by decide +kernel
theorem dX6_sign_56 : decode cX6_sign 56 = .ok (.getfield 19, 3) := by decide +kernel
theorem dX6_sign_59 : decode cX6_sign 59 = .ok (.aload_n 0, 1) := by decide +kernel
theorem dX6_sign_60 : decode cX6_sign 60 = .ok (.getfield 45, 3) := by decide +kernel
theorem dX6_sign_63 : decode cX6_sign 63 = .ok (.iload_n 2, 1) := by decide +kernel
theorem dX6_sign_64 : decode cX6_sign 64 = .ok (.iastore, 1) := by decide +kernel
theorem dX6_sign_65 : decode cX6_sign 65 = .ok (.aload_n 0, 1) := by decide +kernel
theorem dX6_sign_66 : decode cX6_sign 66 = .ok (.dup, 1) := by decide +kernel
theorem dX6_sign_67 : decode cX6_sign 67 = .ok (.getfield 45, 3) := by decide +kernel
theorem dX6_sign_70 : decode cX6_sign 70 = .ok (.iconst 1, 1) := by decide +kernel
theorem dX6_sign_71 : decode cX6_sign 71 = .ok (.iadd, 1) := by decide +kernel
theorem dX6_sign_72 : decode cX6_sign 72 = .ok (.putfield 45, 3) := by decide +kernel
theorem dX6_sign_75 : decode cX6_sign 75 = .ok (.aload_n 0, 1) := by decide +kernel
theorem dX6_sign_76 : decode cX6_sign 76 = .ok (.getfield 45, 3) := by decide +kernel
theorem dX6_sign_79 : decode cX6_sign 79 = .ok (.iconst 1, 1) := by decide +kernel
theorem dX6_sign_80 : decode cX6_sign 80 = .ok (.isub, 1) := by decide +kernel
theorem dX6_sign_81 : decode cX6_sign 81 = .ok (.ireturn, 1) := by decide +kernel
set_option maxRecDepth 20000 in
theorem ggX6_join_X6_no : GoodIn wsX6_join wsX6_no := goodIn_r _ [7, 1, 8, 9, 10, 11, 12, 13, 14, 15, 16, 17] (by decide +kernel) (by decide +kernel)
set_option maxRecDepth 20000 in
theorem gX6_join_X6_no : GoodIn wsX6_join (wsV RX6 113 RX6 yX6_no wsX6_no) := goodIn_app (goodIn_of _ (by decide +kernel)) ggX6_join_X6_no
theorem dX6_join_0 : decode cX6_join 0 = .ok (.aload_n 0, 1) := by decide +kernel
theorem dX6_join_1 : decode cX6_join 1 = .ok (.iconst 0, 1) := by decide +kernel
theorem dX6_join_2 : decode cX6_join 2 = .ok (.putfield 41, 3) := by decide +kernel
theorem dX6_join_5 : decode cX6_join 5 = .ok (.aload_n 0, 1) := by decide +kernel
theorem dX6_join_6 : decode cX6_join 6 = .ok (.getfield 52, 3) := by decide +kernel
theorem dX6_join_9 : decode cX6_join 9 = .ok (.bipush 6, 2) := by decide +kernel
theorem dX6_join_11 : decode cX6_join 11 = .ok (.if_icmp .ne 9, 3) := by decide +kernel
theorem dX6_join_14 : decode cX6_join 14 = .ok (.aload_n 0, 1) := by decide +kernel
theorem dX6_join_15 : decode cX6_join 15 = .ok (.iconst 1, 1) := by decide +kernel
theorem dX6_join_16 : decode cX6_join 16 = .ok (.invokevirtual 113, 3) := by decide +kernel
theorem dX6_join_19 : decode cX6_join 19 = .ok (.ireturn, 1) := by decide +kernel
theorem dX6_join_20 : decode cX6_join 20 = .ok (.aload_n 0, 1) := by decide +kernel
theorem dX6_join_21 : decode cX6_join 21 = .ok (.dup, 1) := by decide +kernel
theorem dX6_join_22 : decode cX6_join 22 = .ok (.getfield 52, 3) := by decide +kernel
theorem dX6_join_25 : decode cX6_join 25 = .ok (.iconst 1, 1) := by decide +kernel
theorem dX6_join_26 : decode cX6_join 26 = .ok (.iadd, 1) := by decide +kernel
theorem dX6_join_27 : decode cX6_join 27 = .ok (.putfield 52, 3) := by decide +kernel
theorem dX6_join_30 : decode cX6_join 30 = .ok (.aload_n 0, 1) := by decide +kernel
theorem dX6_join_31 : decode cX6_join 31 = .ok (.getfield 52, 3) := by decide +kernel
theorem dX6_join_34 : decode cX6_join 34 = .ok (.iconst 1, 1) := by decide +kernel
theorem dX6_join_35 : decode cX6_join 35 = .ok (.isub, 1) := by decide +kernel
theorem dX6_join_36 : decode cX6_join 36 = .ok (.ireturn, 1) := by decide +kernel
end
section
set_option maxRecDepth 20000 in
theorem ggX6_weigh_X6_isVillage : GoodIn wsX6_weigh wsX6_isVillage := goodIn_r _ [7, 8, 9, 10, 6, 11, 21, 22, 23, 24, 25, 26, 27, 28, 29, 30] (by decide +kernel) (by decide +kernel)
set_option maxRecDepth 20000 in
theorem gX6_weigh_X6_isVillage : GoodIn wsX6_weigh (wsV RX6 117 RX6 yX6_isVillage wsX6_isVillage) := goodIn_app (goodIn_of _ (by decide +kernel)) ggX6_weigh_X6_isVillage
set_option maxRecDepth 20000 in
theorem ggX6_weigh_X6_isSign : GoodIn wsX6_weigh wsX6_isSign := goodIn_r _ [15, 16, 9, 10, 6, 11, 21, 22, 23, 24, 25, 26, 27, 28, 29, 30] (by decide +kernel) (by decide +kernel)
set_option maxRecDepth 20000 in
theorem gX6_weigh_X6_isSign : GoodIn wsX6_weigh (wsV RX6 121 RX6 yX6_isSign wsX6_isSign) := goodIn_app (goodIn_of _ (by decide +kernel)) ggX6_weigh_X6_isSign
set_option maxRecDepth 20000 in
theorem ggX6_weigh_X6_no : GoodIn wsX6_weigh wsX6_no := goodIn_r _ [20, 1, 21, 22, 23, 24, 25, 26, 27, 28, 29, 30] (by decide +kernel) (by decide +kernel)
set_option maxRecDepth 20000 in
theorem gX6_weigh_X6_no : GoodIn wsX6_weigh (wsV RX6 113 RX6 yX6_no wsX6_no) := goodIn_app (goodIn_of _ (by decide +kernel)) ggX6_weigh_X6_no
set_option maxRecDepth 20000 in
theorem ggX6_weigh_X6_isIn : GoodIn wsX6_weigh wsX6_isIn := goodIn_r _ [11] (by decide +kernel) (by decide +kernel)
set_option maxRecDepth 20000 in
theorem gX6_weigh_X6_isIn : GoodIn wsX6_weigh (va_wsS RX6 48 yX6_isIn wsX6_isIn) := goodIn_app (goodIn_of _ (by decide +kernel)) ggX6_weigh_X6_isIn
theorem dX6_weigh_0 : decode cX6_weigh 0 = .ok (.aload_n 0, 1) := by decide +kernel
theorem dX6_weigh_1 : decode cX6_weigh 1 = .ok (.iconst 0, 1) := by decide +kernel
theorem dX6_weigh_2 : decode cX6_weigh 2 = .ok (.putfield 41, 3) := by decide +kernel
theorem dX6_weigh_5 : decode cX6_weigh 5 = .ok (.aload_n 0, 1) := by decide +kernel
theorem dX6_weigh_6 : decode cX6_weigh 6 = .ok (.iload_n 1, 1) := by decide +kernel
theorem dX6_weigh_7 : decode cX6_weigh 7 = .ok (.invokevirtual 117, 3) := by decide +kernel
theorem dX6_weigh_10 : decode cX6_weigh 10 = .ok (.ifCond .eq 11, 3) := by decide +kernel
theorem dX6_weigh_13 : decode cX6_weigh 13 = .ok (.aload_n 0, 1) := by decide +kernel
theorem dX6_weigh_14 : decode cX6_weigh 14 = .ok (.iload_n 2, 1) := by decide +kernel
theorem dX6_weigh_15 : decode cX6_weigh 15 = .ok (.invokevirtual 121, 3) := by decide +kernel
theorem dX6_weigh_18 : decode cX6_weigh 18 = .ok (.ifCond .ne 9, 3) := by decide +kernel
theorem dX6_weigh_21 : decode cX6_weigh 21 = .ok (.aload_n 0, 1) := by decide +kernel
theorem dX6_weigh_22 : decode cX6_weigh 22 = .ok (.iconst 1, 1) := by decide +kernel
theorem dX6_weigh_23 : decode cX6_weigh 23 = .ok (.invokevirtual 113, 3) := by decide +kernel
theorem dX6_weigh_26 : decode cX6_weigh 26 = .ok (.ireturn, 1) := by decide +kernel
theorem dX6_weigh_27 : decode cX6_weigh 27 = .ok (.iload_n 3, 1) := by decide +kernel
theorem dX6_weigh_28 : decode cX6_weigh 28 = .ok (.iconst 0, 1) := by decide +kernel
theorem dX6_weigh_29 : decode cX6_weigh 29 = .ok (.bipush 100, 2) := by decide +kernel
theorem dX6_weigh_31 : decode cX6_weigh 31 = .ok (.invokestatic 48, 3) := by decide +kernel
theorem dX6_weigh_34 : decode cX6_weigh 34 = .ok (.ifCond .ne 9, 3) := by decide +kernel
theorem dX6_weigh_37 : decode cX6_weigh 37 = .ok (.aload_n 0, 1) := by decide +kernel
theorem dX6_weigh_38 : decode cX6_weigh 38 = .ok (.iconst 2, 1) := by decide +kernel
theorem dX6_weigh_39 : decode cX6_weigh 39 = .ok (.invokevirtual 113, 3) := by decide +kernel
theorem dX6_weigh_42 : decode cX6_weigh 42 = .ok (.ireturn, 1) := by decide +kernel
theorem dX6_weigh_43 : decode cX6_weigh 43 = .ok (.aload_n 0, 1) := by decide +kernel
theorem dX6_weigh_44 : decode cX6_weigh 44 = .ok (.getfield 28, 3) := by decide +kernel
theorem dX6_weigh_47 : decode cX6_weigh 47 = .ok (.getfield 35, 3) := by decide +kernel
theorem dX6_weigh_50 : decode cX6_weigh 50 = .ok (.bipush 8, 2) := by decide +kernel
theorem dX6_weigh_52 : decode cX6_weigh 52 = .ok (.iload_n 1, 1) := by decide +kernel
theorem dX6_weigh_53 : decode cX6_weigh 53 = .ok (.imul, 1) := by decide +kernel
theorem dX6_weigh_54 : decode cX6_weigh 54 = .ok (.iload_n 2, 1) := by decide +kernel
theorem dX6_weigh_55 : decode cX6_weigh 55 = .ok (.iadd, 1) := by decide +kernel
theorem dX6_weigh_56 : decode cX6_weigh 56 = .ok (.iaload, 1) := by decide +kernel
theorem dX6_weigh_57 : decode cX6_weigh 57 = .ok (.istore 4, 2) := by decide +kernel
theorem dX6_weigh_59 : decode cX6_weigh 59 = .ok (.aload_n 0, 1) := by decide +kernel
theorem dX6_weigh_60 : decode cX6_weigh 60 = .ok (.getfield 28, 3) := by decide +kernel
theorem dX6_weigh_63 : decode cX6_weigh 63 = .ok (.getfield 35, 3) := by decide +kernel
theorem dX6_weigh_66 : decode cX6_weigh 66 = .ok (.bipush 8, 2) := by decide +kernel
theorem dX6_weigh_68 : decode cX6_weigh 68 = .ok (.iload_n 1, 1) := by decide +kernel
theorem dX6_weigh_69 : decode cX6_weigh 69 = .ok (.imul, 1) := by decide +kernel
theorem dX6_weigh_70 : decode cX6_weigh 70 = .ok (.iload_n 2, 1) := by decide +kernel
theorem dX6_weigh_71 : decode cX6_weigh 71 = .ok (.iadd, 1) := by decide +kernel
theorem dX6_weigh_72 : decode cX6_weigh 72 = .ok (.iload_n 3, 1) := by decide +kernel
theorem dX6_weigh_73 : decode cX6_weigh 73 = .ok (.iastore, 1) := by decide +kernel
theorem dX6_weigh_74 : decode cX6_weigh 74 = .ok (.iload 4, 2) := by decide +kernel
theorem dX6_weigh_76 : decode cX6_weigh 76 = .ok (.ireturn, 1) := by decide +kernel
set_option maxRecDepth 20000 in
theorem ggX6_share_X6_isVillage : GoodIn wsX6_share wsX6_isVillage := goodIn_r _ [8, 9, 10, 11, 7, 12, 17, 18, 19, 20, 21, 22, 23, 24, 25, 26] (by decide +kernel) (by decide +kernel)
set_option maxRecDepth 20000 in
theorem gX6_share_X6_isVillage : GoodIn wsX6_share (wsV RX6 117 RX6 yX6_isVillage wsX6_isVillage) := goodIn_app (goodIn_of _ (by decide +kernel)) ggX6_share_X6_isVillage
set_option maxRecDepth 20000 in
theorem ggX6_share_X6_no : GoodIn wsX6_share wsX6_no := goodIn_r _ [16, 1, 17, 18, 19, 20, 21, 22, 23, 24, 25, 26] (by decide +kernel) (by decide +kernel)
set_option maxRecDepth 20000 in
theorem gX6_share_X6_no : GoodIn wsX6_share (wsV RX6 113 RX6 yX6_no wsX6_no) := goodIn_app (goodIn_of _ (by decide +kernel)) ggX6_share_X6_no
theorem dX6_share_0 : decode cX6_share 0 = .ok (.aload_n 0, 1) := by decide +kernel
theorem dX6_share_1 : decode cX6_share 1 = .ok (.iconst 0, 1) := by decide +kernel
theorem dX6_share_2 : decode cX6_share 2 = .ok (.putfield 41, 3) := by decide +kernel
theorem dX6_share_5 : decode cX6_share 5 = .ok (.aload_n 0, 1) := by decide +kernel
theorem dX6_share_6 : decode cX6_share 6 = .ok (.iload_n 1, 1) := by decide +kernel
theorem dX6_share_7 : decode cX6_share 7 = .ok (.invokevirtual 117, 3) := by decide +kernel
theorem dX6_share_10 : decode cX6_share 10 = .ok (.ifCond .eq 11, 3) := by decide +kernel
theorem dX6_share_13 : decode cX6_share 13 = .ok (.aload_n 0, 1) := by decide +kernel
theorem dX6_share_14 : decode cX6_share 14 = .ok (.iload_n 2, 1) := by decide +kernel
theorem dX6_share_15 : decode cX6_share 15 = .ok (.invokevirtual 117, 3) := by decide +kernel
theorem dX6_share_18 : decode cX6_share 18 = .ok (.ifCond .ne 9, 3) := by decide +kernel
theorem dX6_share_21 : decode cX6_share 21 = .ok (.aload_n 0, 1) := by decide +kernel
theorem dX6_share_22 : decode cX6_share 22 = .ok (.iconst 1, 1) := by decide +kernel
theorem dX6_share_23 : decode cX6_share 23 = .ok (.invokevirtual 113, 3) := by decide +kernel
theorem dX6_share_26 : decode cX6_share 26 = .ok (.ireturn, 1) := by decide +kernel
theorem dX6_share_27 : decode cX6_share 27 = .ok (.iload_n 1, 1) := by decide +kernel
theorem dX6_share_28 : decode cX6_share 28 = .ok (.iload_n 2, 1) := by decide +kernel
theorem dX6_share_29 : decode cX6_share 29 = .ok (.if_icmp .ne 9, 3) := by decide +kernel
theorem dX6_share_32 : decode cX6_share 32 = .ok (.aload_n 0, 1) := by decide +kernel
theorem dX6_share_33 : decode cX6_share 33 = .ok (.iconst 2, 1) := by decide +kernel
theorem dX6_share_34 : decode cX6_share 34 = .ok (.invokevirtual 113, 3) := by decide +kernel
theorem dX6_share_37 : decode cX6_share 37 = .ok (.ireturn, 1) := by decide +kernel
theorem dX6_share_38 : decode cX6_share 38 = .ok (.aload_n 0, 1) := by decide +kernel
theorem dX6_share_39 : decode cX6_share 39 = .ok (.getfield 28, 3) := by decide +kernel
theorem dX6_share_42 : decode cX6_share 42 = .ok (.getfield 38, 3) := by decide +kernel
theorem dX6_share_45 : decode cX6_share 45 = .ok (.iload_n 1, 1) := by decide +kernel
theorem dX6_share_46 : decode cX6_share 46 = .ok (.iaload, 1) := by decide +kernel
theorem dX6_share_47 : decode cX6_share 47 = .ok (.iconst 5, 1) := by decide +kernel
theorem dX6_share_48 : decode cX6_share 48 = .ok (.if_icmp .ge 9, 3) := by decide +kernel
theorem dX6_share_51 : decode cX6_share 51 = .ok (.aload_n 0, 1) := by decide +kernel
theorem dX6_share_52 : decode cX6_share 52 = .ok (.iconst 3, 1) := by decide +kernel
theorem dX6_share_53 : decode cX6_share 53 = .ok (.invokevirtual 113, 3) := by decide +kernel
theorem dX6_share_56 : decode cX6_share 56 = .ok (.ireturn, 1) := by decide +kernel
theorem dX6_share_57 : decode cX6_share 57 = .ok (.aload_n 0, 1) := by decide +kernel
theorem dX6_share_58 : decode cX6_share 58 = .ok (.getfield 28, 3) := by decide +kernel
theorem dX6_share_61 : decode cX6_share 61 = .ok (.getfield 38, 3) := by decide +kernel
theorem dX6_share_64 : decode cX6_share 64 = .ok (.iload_n 1, 1) := by decide +kernel
theorem dX6_share_65 : decode cX6_share 65 = .ok (.dup2, 1) := by decide +kernel
theorem dX6_share_66 : decode cX6_share 66 = .ok (.iaload, 1) := by decide +kernel
theorem dX6_share_67 : decode cX6_share 67 = .ok (.iconst 5, 1) := by decide +kernel
theorem dX6_share_68 : decode cX6_share 68 = .ok (.isub, 1) := by decide +kernel
theorem dX6_share_69 : decode cX6_share 69 = .ok (.iastore, 1) := by decide +kernel
theorem dX6_share_70 : decode cX6_share 70 = .ok (.aload_n 0, 1) := by decide +kernel
theorem dX6_share_71 : decode cX6_share 71 = .ok (.getfield 28, 3) := by decide +kernel
theorem dX6_share_74 : decode cX6_share 74 = .ok (.getfield 38, 3) := by decide +kernel
theorem dX6_share_77 : decode cX6_share 77 = .ok (.iload_n 2, 1) := by decide +kernel
theorem dX6_share_78 : decode cX6_share 78 = .ok (.dup2, 1) := by decide +kernel
theorem dX6_share_79 : decode cX6_share 79 = .ok (.iaload, 1) := by decide +kernel
theorem dX6_share_80 : decode cX6_share 80 = .ok (.iconst 5, 1) := by decide +kernel
theorem dX6_share_81 : decode cX6_share 81 = .ok (.iadd, 1) := by decide +kernel
theorem dX6_share_82 : decode cX6_share 82 = .ok (.iastore, 1) := by decide +kernel
theorem dX6_share_83 : decode cX6_share 83 = .ok (.iconst 0, 1) := by decide +kernel
theorem dX6_share_84 : decode cX6_share 84 = .ok (.istore_n 3, 1) := by decide +kernel
theorem dX6_share_85 : decode cX6_share 85 = .ok (.iload_n 3, 1) := by decide +kernel
theorem dX6_share_86 : decode cX6_share 86 = .ok (.aload_n 0, 1) := by decide +kernel
theorem dX6_share_87 : decode cX6_share 87 = .ok (.getfield 45, 3) := by decide +kernel
theorem dX6_share_90 : decode cX6_share 90 = .ok (.if_icmp .ge 54, 3) := by decide +kernel
theorem dX6_share_93 : decode cX6_share 93 = .ok (.aload_n 0, 1) := by decide +kernel
theorem dX6_share_94 : decode cX6_share 94 = .ok (.getfield 28, 3) := by decide +kernel
theorem dX6_share_97 : decode cX6_share 97 = .ok (.getfield 35, 3) := by decide +kernel
theorem dX6_share_100 : decode cX6_share 100 = .ok (.bipush 8, 2) := by decide +kernel
theorem dX6_share_102 : decode cX6_share 102 = .ok (.iload_n 1, 1) := by decide +kernel
theorem dX6_share_103 : decode cX6_share 103 = .ok (.imul, 1) := by decide +kernel
theorem dX6_share_104 : decode cX6_share 104 = .ok (.iload_n 3, 1) := by decide +kernel
theorem dX6_share_105 : decode cX6_share 105 = .ok (.iadd, 1) := by decide +kernel
theorem dX6_share_106 : decode cX6_share 106 = .ok (.aload_n 0, 1) := by decide +kernel
theorem dX6_share_107 : decode cX6_share 107 = .ok (.getfield 28, 3) := by decide +kernel
theorem dX6_share_110 : decode cX6_share 110 = .ok (.getfield 35, 3) := by decide +kernel
theorem dX6_share_113 : decode cX6_share 113 = .ok (.bipush 8, 2) := by decide +kernel
theorem dX6_share_115 : decode cX6_share 115 = .ok (.iload_n 1, 1) := by decide +kernel
theorem dX6_share_116 : decode cX6_share 116 = .ok (.imul, 1) := by decide +kernel
theorem dX6_share_117 : decode cX6_share 117 = .ok (.iload_n 3, 1) := by decide +kernel
theorem dX6_share_118 : decode cX6_share 118 = .ok (.iadd, 1) := by decide +kernel
theorem dX6_share_119 : decode cX6_share 119 = .ok (.iaload, 1) := by decide +kernel
theorem dX6_share_120 : decode cX6_share 120 = .ok (.aload_n 0, 1) := by decide +kernel
theorem dX6_share_121 : decode cX6_share 121 = .ok (.getfield 28, 3) := by decide +kernel
theorem dX6_share_124 : decode cX6_share 124 = .ok (.getfield 35, 3) := by decide +kernel
theorem dX6_share_127 : decode cX6_share 127 = .ok (.bipush 8, 2) := by decide +kernel
theorem dX6_share_129 : decode cX6_share 129 = .ok (.iload_n 2, 1) := by decide +kernel
theorem dX6_share_130 : decode cX6_share 130 = .ok (.imul, 1) := by decide +kernel
theorem dX6_share_131 : decode cX6_share 131 = .ok (.iload_n 3, 1) := by decide +kernel
theorem dX6_share_132 : decode cX6_share 132 = .ok (.iadd, 1) := by decide +kernel
theorem dX6_share_133 : decode cX6_share 133 = .ok (.iaload, 1) := by decide +kernel
theorem dX6_share_134 : decode cX6_share 134 = .ok (.iadd, 1) := by decide +kernel
theorem dX6_share_135 : decode cX6_share 135 = .ok (.iconst 2, 1) := by decide +kernel
theorem dX6_share_136 : decode cX6_share 136 = .ok (.idiv, 1) := by decide +kernel
theorem dX6_share_137 : decode cX6_share 137 = .ok (.iastore, 1) := by decide +kernel
theorem dX6_share_138 : decode cX6_share 138 = .ok (.iinc 3 1, 3) := by decide +kernel
theorem dX6_share_141 : decode cX6_share 141 = .ok (.goto (-56), 3) := by decide +kernel
theorem dX6_share_144 : decode cX6_share 144 = .ok (.aload_n 0, 1) := by decide +kernel
theorem dX6_share_145 : decode cX6_share 145 = .ok (.getfield 28, 3) := by decide +kernel
theorem dX6_share_148 : decode cX6_share 148 = .ok (.getfield 38, 3) := by decide +kernel
theorem dX6_share_151 : decode cX6_share 151 = .ok (.iload_n 1, 1) := by decide +kernel
theorem dX6_share_152 : decode cX6_share 152 = .ok (.iaload, 1) := by decide +kernel
theorem dX6_share_153 : decode cX6_share 153 = .ok (.ireturn, 1) := by decide +kernel
set_option maxRecDepth 20000 in
theorem ggX6_says_X6_isSign : GoodIn wsX6_says wsX6_isSign := goodIn_r _ [6, 7, 8, 9, 5, 10, 19, 20, 21, 22, 23, 24, 25, 26, 27, 28] (by decide +kernel) (by decide +kernel)
set_option maxRecDepth 20000 in
theorem gX6_says_X6_isSign : GoodIn wsX6_says (wsV RX6 121 RX6 yX6_isSign wsX6_isSign) := goodIn_app (goodIn_of _ (by decide +kernel)) ggX6_says_X6_isSign
set_option maxRecDepth 20000 in
theorem ggX6_says_X6_isIn : GoodIn wsX6_says wsX6_isIn := goodIn_r _ [10] (by decide +kernel) (by decide +kernel)
set_option maxRecDepth 20000 in
theorem gX6_says_X6_isIn : GoodIn wsX6_says (va_wsS RX6 48 yX6_isIn wsX6_isIn) := goodIn_app (goodIn_of _ (by decide +kernel)) ggX6_says_X6_isIn
set_option maxRecDepth 20000 in
theorem ggX6_says_X6_isRain : GoodIn wsX6_says wsX6_isRain := goodIn_r _ [14, 15, 16, 17, 18, 19, 20, 21, 22, 23, 24, 25, 26, 27, 28] (by decide +kernel) (by decide +kernel)
set_option maxRecDepth 20000 in
theorem gX6_says_X6_isRain : GoodIn wsX6_says (wsV RX6 55 RX6 yX6_isRain wsX6_isRain) := goodIn_app (goodIn_of _ (by decide +kernel)) ggX6_says_X6_isRain
theorem dX6_says_0 : decode cX6_says 0 = .ok (.aload_n 0, 1) := by decide +kernel
theorem dX6_says_1 : decode cX6_says 1 = .ok (.aload_n 0, 1) := by decide +kernel
theorem dX6_says_2 : decode cX6_says 2 = .ok (.iload_n 1, 1) := by decide +kernel
theorem dX6_says_3 : decode cX6_says 3 = .ok (.invokevirtual 121, 3) := by decide +kernel
theorem dX6_says_6 : decode cX6_says 6 = .ok (.ifCond .ne 7, 3) := by decide +kernel
theorem dX6_says_9 : decode cX6_says 9 = .ok (.iconst 1, 1) := by decide +kernel
theorem dX6_says_10 : decode cX6_says 10 = .ok (.goto 19, 3) := by decide +kernel
theorem dX6_says_13 : decode cX6_says 13 = .ok (.iload_n 2, 1) := by decide +kernel
theorem dX6_says_14 : decode cX6_says 14 = .ok (.iconst 0, 1) := by decide +kernel
theorem dX6_says_15 : decode cX6_says 15 = .ok (.sipush 999, 3) := by decide +kernel
theorem dX6_says_18 : decode cX6_says 18 = .ok (.invokestatic 48, 3) := by decide +kernel
theorem dX6_says_21 : decode cX6_says 21 = .ok (.ifCond .ne 7, 3) := by decide +kernel
theorem dX6_says_24 : decode cX6_says 24 = .ok (.iconst 2, 1) := by decide +kernel
theorem dX6_says_25 : decode cX6_says 25 = .ok (.goto 4, 3) := by decide +kernel
theorem dX6_says_28 : decode cX6_says 28 = .ok (.iconst 0, 1) := by decide +kernel
theorem dX6_says_29 : decode cX6_says 29 = .ok (.putfield 41, 3) := by decide +kernel
theorem dX6_says_32 : decode cX6_says 32 = .ok (.aload_n 0, 1) := by decide +kernel
theorem dX6_says_33 : decode cX6_says 33 = .ok (.getfield 41, 3) := by decide +kernel
theorem dX6_says_36 : decode cX6_says 36 = .ok (.ifCond .ne 16, 3) := by decide +kernel
theorem dX6_says_39 : decode cX6_says 39 = .ok (.aload_n 0, 1) := by decide +kernel
theorem dX6_says_40 : decode cX6_says 40 = .ok (.iload_n 1, 1) := by decide +kernel
theorem dX6_says_41 : decode cX6_says 41 = .ok (.iload_n 2, 1) := by decide +kernel
theorem dX6_says_42 : decode cX6_says 42 = .ok (.invokevirtual 55, 3) := by decide +kernel
theorem dX6_says_45 : decode cX6_says 45 = .ok (.ifCond .eq 7, 3) := by decide +kernel
theorem dX6_says_48 : decode cX6_says 48 = .ok (.iconst 1, 1) := by decide +kernel
theorem dX6_says_49 : decode cX6_says 49 = .ok (.goto 4, 3) := by decide +kernel
theorem dX6_says_52 : decode cX6_says 52 = .ok (.iconst 0, 1) := by decide +kernel
theorem dX6_says_53 : decode cX6_says 53 = .ok (.ireturn, 1) := by decide +kernel
set_option maxRecDepth 20000 in
theorem ggX6_signTold_X6_rightDays : GoodIn wsX6_signTold wsX6_rightDays := goodIn_r _ [9, 10, 11, 12, 8, 13, 14, 15, 16, 17, 18, 1, 19, 2, 20, 21, 22, 23, 24, 25, 26, 27, 28, 29] (by decide +kernel) (by decide +kernel)
set_option maxRecDepth 20000 in
theorem gX6_signTold_X6_rightDays : GoodIn wsX6_signTold (wsV RX6 124 RX6 yX6_rightDays wsX6_rightDays) := goodIn_app (goodIn_of _ (by decide +kernel)) ggX6_signTold_X6_rightDays
theorem dX6_signTold_0 : decode cX6_signTold 0 = .ok (.iload_n 2, 1) := by decide +kernel
theorem dX6_signTold_1 : decode cX6_signTold 1 = .ok (.iconst 3, 1) := by decide +kernel
theorem dX6_signTold_2 : decode cX6_signTold 2 = .ok (.if_icmp .ge 36, 3) := by decide +kernel
theorem dX6_signTold_5 : decode cX6_signTold 5 = .ok (.iload_n 2, 1) := by decide +kernel
theorem dX6_signTold_6 : decode cX6_signTold 6 = .ok (.ifCond .ne 12, 3) := by decide +kernel
theorem dX6_signTold_9 : decode cX6_signTold 9 = .ok (.aload_n 0, 1) := by decide +kernel
theorem dX6_signTold_10 : decode cX6_signTold 10 = .ok (.getfield 16, 3) := by decide +kernel
theorem dX6_signTold_13 : decode cX6_signTold 13 = .ok (.iload_n 1, 1) := by decide +kernel
theorem dX6_signTold_14 : decode cX6_signTold 14 = .ok (.iaload, 1) := by decide +kernel
theorem dX6_signTold_15 : decode cX6_signTold 15 = .ok (.goto 22, 3) := by decide +kernel
theorem dX6_signTold_18 : decode cX6_signTold 18 = .ok (.iload_n 2, 1) := by decide +kernel
theorem dX6_signTold_19 : decode cX6_signTold 19 = .ok (.iconst 1, 1) := by decide +kernel
theorem dX6_signTold_20 : decode cX6_signTold 20 = .ok (.if_icmp .ne 12, 3) := by decide +kernel
theorem dX6_signTold_23 : decode cX6_signTold 23 = .ok (.aload_n 0, 1) := by decide +kernel
theorem dX6_signTold_24 : decode cX6_signTold 24 = .ok (.getfield 19, 3) := by decide +kernel
theorem dX6_signTold_27 : decode cX6_signTold 27 = .ok (.iload_n 1, 1) := by decide +kernel
theorem dX6_signTold_28 : decode cX6_signTold 28 = .ok (.iaload, 1) := by decide +kernel
theorem dX6_signTold_29 : decode cX6_signTold 29 = .ok (.goto 8, 3) := by decide +kernel
theorem dX6_signTold_32 : decode cX6_signTold 32 = .ok (.aload_n 0, 1) := by decide +kernel
theorem dX6_signTold_33 : decode cX6_signTold 33 = .ok (.iload_n 1, 1) := by decide +kernel
theorem dX6_signTold_34 : decode cX6_signTold 34 = .ok (.invokevirtual 124, 3) := by decide +kernel
theorem dX6_signTold_37 : decode cX6_signTold 37 = .ok (.ireturn, 1) := by decide +kernel
theorem dX6_signTold_38 : decode cX6_signTold 38 = .ok (.iconst 0, 1) := by decide +kernel
theorem dX6_signTold_39 : decode cX6_signTold 39 = .ok (.istore_n 3, 1) := by decide +kernel
theorem dX6_signTold_40 : decode cX6_signTold 40 = .ok (.iconst 0, 1) := by decide +kernel
theorem dX6_signTold_41 : decode cX6_signTold 41 = .ok (.istore 4, 2) := by decide +kernel
theorem dX6_signTold_43 : decode cX6_signTold 43 = .ok (.iload 4, 2) := by decide +kernel
theorem dX6_signTold_45 : decode cX6_signTold 45 = .ok (.aload_n 0, 1) := by decide +kernel
theorem dX6_signTold_46 : decode cX6_signTold 46 = .ok (.getfield 52, 3) := by decide +kernel
theorem dX6_signTold_49 : decode cX6_signTold 49 = .ok (.if_icmp .ge 27, 3) := by decide +kernel
theorem dX6_signTold_52 : decode cX6_signTold 52 = .ok (.iload_n 3, 1) := by decide +kernel
theorem dX6_signTold_53 : decode cX6_signTold 53 = .ok (.aload_n 0, 1) := by decide +kernel
theorem dX6_signTold_54 : decode cX6_signTold 54 = .ok (.getfield 28, 3) := by decide +kernel
theorem dX6_signTold_57 : decode cX6_signTold 57 = .ok (.getfield 35, 3) := by decide +kernel
theorem dX6_signTold_60 : decode cX6_signTold 60 = .ok (.bipush 8, 2) := by decide +kernel
theorem dX6_signTold_62 : decode cX6_signTold 62 = .ok (.iload 4, 2) := by decide +kernel
theorem dX6_signTold_64 : decode cX6_signTold 64 = .ok (.imul, 1) := by decide +kernel
theorem dX6_signTold_65 : decode cX6_signTold 65 = .ok (.iload_n 1, 1) := by decide +kernel
theorem dX6_signTold_66 : decode cX6_signTold 66 = .ok (.iadd, 1) := by decide +kernel
theorem dX6_signTold_67 : decode cX6_signTold 67 = .ok (.iaload, 1) := by decide +kernel
theorem dX6_signTold_68 : decode cX6_signTold 68 = .ok (.iadd, 1) := by decide +kernel
theorem dX6_signTold_69 : decode cX6_signTold 69 = .ok (.istore_n 3, 1) := by decide +kernel
theorem dX6_signTold_70 : decode cX6_signTold 70 = .ok (.iinc 4 1, 3) := by decide +kernel
theorem dX6_signTold_73 : decode cX6_signTold 73 = .ok (.goto (-30), 3) := by decide +kernel
theorem dX6_signTold_76 : decode cX6_signTold 76 = .ok (.iload_n 3, 1) := by decide +kernel
theorem dX6_signTold_77 : decode cX6_signTold 77 = .ok (.ireturn, 1) := by decide +kernel
set_option maxRecDepth 20000 in
theorem ggX6_told_X6_isSign : GoodIn wsX6_told wsX6_isSign := goodIn_r _ [6, 7, 8, 9, 5, 10, 37, 38, 39, 40, 41, 42, 43, 44, 45, 46] (by decide +kernel) (by decide +kernel)
set_option maxRecDepth 20000 in
theorem gX6_told_X6_isSign : GoodIn wsX6_told (wsV RX6 121 RX6 yX6_isSign wsX6_isSign) := goodIn_app (goodIn_of _ (by decide +kernel)) ggX6_told_X6_isSign
set_option maxRecDepth 20000 in
theorem ggX6_told_X6_isIn : GoodIn wsX6_told wsX6_isIn := goodIn_r _ [10] (by decide +kernel) (by decide +kernel)
set_option maxRecDepth 20000 in
theorem gX6_told_X6_isIn : GoodIn wsX6_told (va_wsS RX6 48 yX6_isIn wsX6_isIn) := goodIn_app (goodIn_of _ (by decide +kernel)) ggX6_told_X6_isIn
set_option maxRecDepth 20000 in
theorem ggX6_told_X6_signTold : GoodIn wsX6_told wsX6_signTold := goodIn_r _ [14, 15, 16, 17, 18, 19, 20, 21, 5, 22, 23, 24, 25, 26, 27, 28, 29, 30, 31, 32, 37, 38, 39, 40, 41, 42, 43, 44, 45, 46, 47, 48, 49, 50, 51, 52] (by decide +kernel) (by decide +kernel)
set_option maxRecDepth 20000 in
theorem gX6_told_X6_signTold : GoodIn wsX6_told (wsV RX6 127 RX6 yX6_signTold wsX6_signTold) := goodIn_app (goodIn_of _ (by decide +kernel)) ggX6_told_X6_signTold
set_option maxRecDepth 20000 in
theorem ggX6_told_X6_no : GoodIn wsX6_told wsX6_no := goodIn_r _ [36, 1, 37, 38, 39, 40, 41, 42, 43, 44, 45, 46] (by decide +kernel) (by decide +kernel)
set_option maxRecDepth 20000 in
theorem gX6_told_X6_no : GoodIn wsX6_told (wsV RX6 113 RX6 yX6_no wsX6_no) := goodIn_app (goodIn_of _ (by decide +kernel)) ggX6_told_X6_no
theorem dX6_told_0 : decode cX6_told 0 = .ok (.aload_n 0, 1) := by decide +kernel
theorem dX6_told_1 : decode cX6_told 1 = .ok (.iconst 0, 1) := by decide +kernel
theorem dX6_told_2 : decode cX6_told 2 = .ok (.putfield 41, 3) := by decide +kernel
theorem dX6_told_5 : decode cX6_told 5 = .ok (.aload_n 0, 1) := by decide +kernel
theorem dX6_told_6 : decode cX6_told 6 = .ok (.iload_n 1, 1) := by decide +kernel
theorem dX6_told_7 : decode cX6_told 7 = .ok (.invokevirtual 121, 3) := by decide +kernel
theorem dX6_told_10 : decode cX6_told 10 = .ok (.ifCond .eq 21, 3) := by decide +kernel
theorem dX6_told_13 : decode cX6_told 13 = .ok (.iload_n 2, 1) := by decide +kernel
theorem dX6_told_14 : decode cX6_told 14 = .ok (.iconst 0, 1) := by decide +kernel
theorem dX6_told_15 : decode cX6_told 15 = .ok (.iconst 3, 1) := by decide +kernel
theorem dX6_told_16 : decode cX6_told 16 = .ok (.invokestatic 48, 3) := by decide +kernel
theorem dX6_told_19 : decode cX6_told 19 = .ok (.ifCond .eq 12, 3) := by decide +kernel
theorem dX6_told_22 : decode cX6_told 22 = .ok (.aload_n 0, 1) := by decide +kernel
theorem dX6_told_23 : decode cX6_told 23 = .ok (.iload_n 1, 1) := by decide +kernel
theorem dX6_told_24 : decode cX6_told 24 = .ok (.iload_n 2, 1) := by decide +kernel
theorem dX6_told_25 : decode cX6_told 25 = .ok (.invokevirtual 127, 3) := by decide +kernel
theorem dX6_told_28 : decode cX6_told 28 = .ok (.goto 8, 3) := by decide +kernel
theorem dX6_told_31 : decode cX6_told 31 = .ok (.aload_n 0, 1) := by decide +kernel
theorem dX6_told_32 : decode cX6_told 32 = .ok (.iconst 1, 1) := by decide +kernel
theorem dX6_told_33 : decode cX6_told 33 = .ok (.invokevirtual 113, 3) := by decide +kernel
theorem dX6_told_36 : decode cX6_told 36 = .ok (.ireturn, 1) := by decide +kernel
set_option maxRecDepth 20000 in
theorem ggX6_weight_X6_isVillage : GoodIn wsX6_weight wsX6_isVillage := goodIn_r _ [7, 8, 9, 10, 6, 11, 21, 22, 23, 24, 25, 26, 27, 28, 29, 30] (by decide +kernel) (by decide +kernel)
set_option maxRecDepth 20000 in
theorem gX6_weight_X6_isVillage : GoodIn wsX6_weight (wsV RX6 117 RX6 yX6_isVillage wsX6_isVillage) := goodIn_app (goodIn_of _ (by decide +kernel)) ggX6_weight_X6_isVillage
set_option maxRecDepth 20000 in
theorem ggX6_weight_X6_isSign : GoodIn wsX6_weight wsX6_isSign := goodIn_r _ [15, 16, 9, 10, 6, 11, 21, 22, 23, 24, 25, 26, 27, 28, 29, 30] (by decide +kernel) (by decide +kernel)
set_option maxRecDepth 20000 in
theorem gX6_weight_X6_isSign : GoodIn wsX6_weight (wsV RX6 121 RX6 yX6_isSign wsX6_isSign) := goodIn_app (goodIn_of _ (by decide +kernel)) ggX6_weight_X6_isSign
set_option maxRecDepth 20000 in
theorem ggX6_weight_X6_no : GoodIn wsX6_weight wsX6_no := goodIn_r _ [20, 1, 21, 22, 23, 24, 25, 26, 27, 28, 29, 30] (by decide +kernel) (by decide +kernel)
set_option maxRecDepth 20000 in
theorem gX6_weight_X6_no : GoodIn wsX6_weight (wsV RX6 113 RX6 yX6_no wsX6_no) := goodIn_app (goodIn_of _ (by decide +kernel)) ggX6_weight_X6_no
theorem dX6_weight_0 : decode cX6_weight 0 = .ok (.aload_n 0, 1) := by decide +kernel
theorem dX6_weight_1 : decode cX6_weight 1 = .ok (.iconst 0, 1) := by decide +kernel
theorem dX6_weight_2 : decode cX6_weight 2 = .ok (.putfield 41, 3) := by decide +kernel
theorem dX6_weight_5 : decode cX6_weight 5 = .ok (.aload_n 0, 1) := by decide +kernel
theorem dX6_weight_6 : decode cX6_weight 6 = .ok (.iload_n 1, 1) := by decide +kernel
theorem dX6_weight_7 : decode cX6_weight 7 = .ok (.invokevirtual 117, 3) := by decide +kernel
theorem dX6_weight_10 : decode cX6_weight 10 = .ok (.ifCond .eq 28, 3) := by decide +kernel
theorem dX6_weight_13 : decode cX6_weight 13 = .ok (.aload_n 0, 1) := by decide +kernel
theorem dX6_weight_14 : decode cX6_weight 14 = .ok (.iload_n 2, 1) := by decide +kernel
theorem dX6_weight_15 : decode cX6_weight 15 = .ok (.invokevirtual 121, 3) := by decide +kernel
theorem dX6_weight_18 : decode cX6_weight 18 = .ok (.ifCond .eq 20, 3) := by decide +kernel
theorem dX6_weight_21 : decode cX6_weight 21 = .ok (.aload_n 0, 1) := by decide +kernel
theorem dX6_weight_22 : decode cX6_weight 22 = .ok (.getfield 28, 3) := by decide +kernel
theorem dX6_weight_25 : decode cX6_weight 25 = .ok (.getfield 35, 3) := by decide +kernel
theorem dX6_weight_28 : decode cX6_weight 28 = .ok (.bipush 8, 2) := by decide +kernel
theorem dX6_weight_30 : decode cX6_weight 30 = .ok (.iload_n 1, 1) := by decide +kernel
theorem dX6_weight_31 : decode cX6_weight 31 = .ok (.imul, 1) := by decide +kernel
theorem dX6_weight_32 : decode cX6_weight 32 = .ok (.iload_n 2, 1) := by decide +kernel
theorem dX6_weight_33 : decode cX6_weight 33 = .ok (.iadd, 1) := by decide +kernel
theorem dX6_weight_34 : decode cX6_weight 34 = .ok (.iaload, 1) := by decide +kernel
theorem dX6_weight_35 : decode cX6_weight 35 = .ok (.goto 8, 3) := by decide +kernel
theorem dX6_weight_38 : decode cX6_weight 38 = .ok (.aload_n 0, 1) := by decide +kernel
theorem dX6_weight_39 : decode cX6_weight 39 = .ok (.iconst 1, 1) := by decide +kernel
theorem dX6_weight_40 : decode cX6_weight 40 = .ok (.invokevirtual 113, 3) := by decide +kernel
theorem dX6_weight_43 : decode cX6_weight 43 = .ok (.ireturn, 1) := by decide +kernel
theorem dX6_weightsOf_0 : decode cX6_weightsOf 0 = .ok (.iconst 0, 1) := by decide +kernel
theorem dX6_weightsOf_1 : decode cX6_weightsOf 1 = .ok (.istore_n 2, 1) := by decide +kernel
theorem dX6_weightsOf_2 : decode cX6_weightsOf 2 = .ok (.iconst 0, 1) := by decide +kernel
theorem dX6_weightsOf_3 : decode cX6_weightsOf 3 = .ok (.istore_n 3, 1) := by decide +kernel
theorem dX6_weightsOf_4 : decode cX6_weightsOf 4 = .ok (.iload_n 3, 1) := by decide +kernel
theorem dX6_weightsOf_5 : decode cX6_weightsOf 5 = .ok (.aload_n 0, 1) := by decide +kernel
theorem dX6_weightsOf_6 : decode cX6_weightsOf 6 = .ok (.getfield 45, 3) := by decide +kernel
theorem dX6_weightsOf_9 : decode cX6_weightsOf 9 = .ok (.if_icmp .ge 26, 3) := by decide +kernel
theorem dX6_weightsOf_12 : decode cX6_weightsOf 12 = .ok (.iload_n 2, 1) := by decide +kernel
theorem dX6_weightsOf_13 : decode cX6_weightsOf 13 = .ok (.aload_n 0, 1) := by decide +kernel
theorem dX6_weightsOf_14 : decode cX6_weightsOf 14 = .ok (.getfield 28, 3) := by decide +kernel
theorem dX6_weightsOf_17 : decode cX6_weightsOf 17 = .ok (.getfield 35, 3) := by decide +kernel
theorem dX6_weightsOf_20 : decode cX6_weightsOf 20 = .ok (.bipush 8, 2) := by decide +kernel
theorem dX6_weightsOf_22 : decode cX6_weightsOf 22 = .ok (.iload_n 1, 1) := by decide +kernel
theorem dX6_weightsOf_23 : decode cX6_weightsOf 23 = .ok (.imul, 1) := by decide +kernel
theorem dX6_weightsOf_24 : decode cX6_weightsOf 24 = .ok (.iload_n 3, 1) := by decide +kernel
theorem dX6_weightsOf_25 : decode cX6_weightsOf 25 = .ok (.iadd, 1) := by decide +kernel
theorem dX6_weightsOf_26 : decode cX6_weightsOf 26 = .ok (.iaload, 1) := by decide +kernel
theorem dX6_weightsOf_27 : decode cX6_weightsOf 27 = .ok (.iadd, 1) := by decide +kernel
theorem dX6_weightsOf_28 : decode cX6_weightsOf 28 = .ok (.istore_n 2, 1) := by decide +kernel
theorem dX6_weightsOf_29 : decode cX6_weightsOf 29 = .ok (.iinc 3 1, 3) := by decide +kernel
theorem dX6_weightsOf_32 : decode cX6_weightsOf 32 = .ok (.goto (-28), 3) := by decide +kernel
theorem dX6_weightsOf_35 : decode cX6_weightsOf 35 = .ok (.iload_n 2, 1) := by decide +kernel
theorem dX6_weightsOf_36 : decode cX6_weightsOf 36 = .ok (.ireturn, 1) := by decide +kernel
set_option maxRecDepth 20000 in
theorem ggX6_villageTold_X6_look : GoodIn wsX6_villageTold wsX6_look := goodIn_r _ [6, 7, 8, 9, 10, 11, 5, 12, 13, 14, 15, 16, 33, 34, 35, 36, 37, 38, 39, 40, 41, 42] (by decide +kernel) (by decide +kernel)
set_option maxRecDepth 20000 in
theorem gX6_villageTold_X6_look : GoodIn wsX6_villageTold (wsV RX6 87 RX6 yX6_look wsX6_look) := goodIn_app (goodIn_of _ (by decide +kernel)) ggX6_villageTold_X6_look
set_option maxRecDepth 20000 in
theorem ggX6_villageTold_X6_weightsOf : GoodIn wsX6_villageTold wsX6_weightsOf := goodIn_r _ [20, 7, 1, 33, 34, 35, 36, 37, 38, 39, 40, 41, 42, 43, 44, 45, 46, 47, 48] (by decide +kernel) (by decide +kernel)
set_option maxRecDepth 20000 in
theorem gX6_villageTold_X6_weightsOf : GoodIn wsX6_villageTold (wsV RX6 130 RX6 yX6_weightsOf wsX6_weightsOf) := goodIn_app (goodIn_of _ (by decide +kernel)) ggX6_villageTold_X6_weightsOf
set_option maxRecDepth 20000 in
theorem ggX6_villageTold_X6_placeOf : GoodIn wsX6_villageTold wsX6_placeOf := goodIn_r _ [24, 25, 1, 26, 27, 5, 28, 33, 34, 35, 36, 37, 38, 39, 40, 41, 42, 43, 44, 45, 46, 47, 48] (by decide +kernel) (by decide +kernel)
set_option maxRecDepth 20000 in
theorem gX6_villageTold_X6_placeOf : GoodIn wsX6_villageTold (wsV RX6 133 RX6 yX6_placeOf wsX6_placeOf) := goodIn_app (goodIn_of _ (by decide +kernel)) ggX6_villageTold_X6_placeOf
set_option maxRecDepth 20000 in
theorem ggX6_villageTold_X6_lean : GoodIn wsX6_villageTold wsX6_lean := goodIn_r _ [32, 7, 8, 33, 34, 35, 36, 37, 38, 39, 40, 41, 42, 43, 44, 45, 46, 47, 48] (by decide +kernel) (by decide +kernel)
set_option maxRecDepth 20000 in
theorem gX6_villageTold_X6_lean : GoodIn wsX6_villageTold (wsV RX6 62 RX6 yX6_lean wsX6_lean) := goodIn_app (goodIn_of _ (by decide +kernel)) ggX6_villageTold_X6_lean
theorem dX6_villageTold_0 : decode cX6_villageTold 0 = .ok (.aload_n 0, 1) := by decide +kernel
theorem dX6_villageTold_1 : decode cX6_villageTold 1 = .ok (.aload_n 0, 1) := by decide +kernel
theorem dX6_villageTold_2 : decode cX6_villageTold 2 = .ok (.getfield 28, 3) := by decide +kernel
theorem dX6_villageTold_5 : decode cX6_villageTold 5 = .ok (.getfield 84, 3) := by decide +kernel
theorem dX6_villageTold_8 : decode cX6_villageTold 8 = .ok (.invokevirtual 87, 3) := by decide +kernel
theorem dX6_villageTold_11 : decode cX6_villageTold 11 = .ok (.iload_n 2, 1) := by decide +kernel
theorem dX6_villageTold_12 : decode cX6_villageTold 12 = .ok (.tableswitch 100 0 5 #[40, 50, 60, 70, 76, 82], 40) := by decide +kernel
theorem dX6_villageTold_52 : decode cX6_villageTold 52 = .ok (.aload_n 0, 1) := by decide +kernel
theorem dX6_villageTold_53 : decode cX6_villageTold 53 = .ok (.getfield 28, 3) := by decide +kernel
theorem dX6_villageTold_56 : decode cX6_villageTold 56 = .ok (.getfield 66, 3) := by decide +kernel
theorem dX6_villageTold_59 : decode cX6_villageTold 59 = .ok (.iload_n 1, 1) := by decide +kernel
theorem dX6_villageTold_60 : decode cX6_villageTold 60 = .ok (.iaload, 1) := by decide +kernel
theorem dX6_villageTold_61 : decode cX6_villageTold 61 = .ok (.ireturn, 1) := by decide +kernel
theorem dX6_villageTold_62 : decode cX6_villageTold 62 = .ok (.aload_n 0, 1) := by decide +kernel
theorem dX6_villageTold_63 : decode cX6_villageTold 63 = .ok (.getfield 28, 3) := by decide +kernel
theorem dX6_villageTold_66 : decode cX6_villageTold 66 = .ok (.getfield 38, 3) := by decide +kernel
theorem dX6_villageTold_69 : decode cX6_villageTold 69 = .ok (.iload_n 1, 1) := by decide +kernel
theorem dX6_villageTold_70 : decode cX6_villageTold 70 = .ok (.iaload, 1) := by decide +kernel
theorem dX6_villageTold_71 : decode cX6_villageTold 71 = .ok (.ireturn, 1) := by decide +kernel
theorem dX6_villageTold_72 : decode cX6_villageTold 72 = .ok (.aload_n 0, 1) := by decide +kernel
theorem dX6_villageTold_73 : decode cX6_villageTold 73 = .ok (.getfield 28, 3) := by decide +kernel
theorem dX6_villageTold_76 : decode cX6_villageTold 76 = .ok (.getfield 72, 3) := by decide +kernel
theorem dX6_villageTold_79 : decode cX6_villageTold 79 = .ok (.iload_n 1, 1) := by decide +kernel
theorem dX6_villageTold_80 : decode cX6_villageTold 80 = .ok (.iaload, 1) := by decide +kernel
theorem dX6_villageTold_81 : decode cX6_villageTold 81 = .ok (.ireturn, 1) := by decide +kernel
theorem dX6_villageTold_82 : decode cX6_villageTold 82 = .ok (.aload_n 0, 1) := by decide +kernel
theorem dX6_villageTold_83 : decode cX6_villageTold 83 = .ok (.iload_n 1, 1) := by decide +kernel
theorem dX6_villageTold_84 : decode cX6_villageTold 84 = .ok (.invokevirtual 130, 3) := by decide +kernel
theorem dX6_villageTold_87 : decode cX6_villageTold 87 = .ok (.ireturn, 1) := by decide +kernel
theorem dX6_villageTold_88 : decode cX6_villageTold 88 = .ok (.aload_n 0, 1) := by decide +kernel
theorem dX6_villageTold_89 : decode cX6_villageTold 89 = .ok (.iload_n 1, 1) := by decide +kernel
theorem dX6_villageTold_90 : decode cX6_villageTold 90 = .ok (.invokevirtual 133, 3) := by decide +kernel
theorem dX6_villageTold_93 : decode cX6_villageTold 93 = .ok (.ireturn, 1) := by decide +kernel
theorem dX6_villageTold_94 : decode cX6_villageTold 94 = .ok (.aload_n 0, 1) := by decide +kernel
theorem dX6_villageTold_95 : decode cX6_villageTold 95 = .ok (.aload_n 0, 1) := by decide +kernel
theorem dX6_villageTold_96 : decode cX6_villageTold 96 = .ok (.getfield 28, 3) := by decide +kernel
theorem dX6_villageTold_99 : decode cX6_villageTold 99 = .ok (.iload_n 1, 1) := by decide +kernel
theorem dX6_villageTold_100 : decode cX6_villageTold 100 = .ok (.invokevirtual 62, 3) := by decide +kernel
theorem dX6_villageTold_103 : decode cX6_villageTold 103 = .ok (.ifCond .le 7, 3) := by decide +kernel
theorem dX6_villageTold_106 : decode cX6_villageTold 106 = .ok (.iconst 1, 1) := by decide +kernel
theorem dX6_villageTold_107 : decode cX6_villageTold 107 = .ok (.goto 4, 3) := by decide +kernel
theorem dX6_villageTold_110 : decode cX6_villageTold 110 = .ok (.iconst 0, 1) := by decide +kernel
theorem dX6_villageTold_111 : decode cX6_villageTold 111 = .ok (.ireturn, 1) := by decide +kernel
theorem dX6_villageTold_112 : decode cX6_villageTold 112 = .ok (.aload_n 0, 1) := by decide +kernel
theorem dX6_villageTold_113 : decode cX6_villageTold 113 = .ok (.aload_n 0, 1) := by decide +kernel
theorem dX6_villageTold_114 : decode cX6_villageTold 114 = .ok (.getfield 28, 3) := by decide +kernel
theorem dX6_villageTold_117 : decode cX6_villageTold 117 = .ok (.iload_n 1, 1) := by decide +kernel
theorem dX6_villageTold_118 : decode cX6_villageTold 118 = .ok (.invokevirtual 62, 3) := by decide +kernel
theorem dX6_villageTold_121 : decode cX6_villageTold 121 = .ok (.ireturn, 1) := by decide +kernel
set_option maxRecDepth 20000 in
theorem ggX6_about_X6_isVillage : GoodIn wsX6_about wsX6_isVillage := goodIn_r _ [6, 7, 8, 9, 5, 10, 49, 50, 51, 52, 53, 54, 55, 56, 57, 58] (by decide +kernel) (by decide +kernel)
set_option maxRecDepth 20000 in
theorem gX6_about_X6_isVillage : GoodIn wsX6_about (wsV RX6 117 RX6 yX6_isVillage wsX6_isVillage) := goodIn_app (goodIn_of _ (by decide +kernel)) ggX6_about_X6_isVillage
set_option maxRecDepth 20000 in
theorem ggX6_about_X6_isIn : GoodIn wsX6_about wsX6_isIn := goodIn_r _ [10] (by decide +kernel) (by decide +kernel)
set_option maxRecDepth 20000 in
theorem gX6_about_X6_isIn : GoodIn wsX6_about (va_wsS RX6 48 yX6_isIn wsX6_isIn) := goodIn_app (goodIn_of _ (by decide +kernel)) ggX6_about_X6_isIn
set_option maxRecDepth 20000 in
theorem ggX6_about_X6_villageTold : GoodIn wsX6_about wsX6_villageTold := goodIn_r _ [14, 15, 16, 17, 18, 5, 19, 20, 21, 22, 23, 24, 25, 26, 27, 28, 29, 30, 31, 32, 33, 34, 35, 36, 37, 7, 38, 39, 40, 41, 42, 43, 44, 49, 50, 51, 52, 53, 54, 55, 56, 57, 58, 59, 60, 61, 62, 63, 64] (by decide +kernel) (by decide +kernel)
set_option maxRecDepth 20000 in
theorem gX6_about_X6_villageTold : GoodIn wsX6_about (wsV RX6 136 RX6 yX6_villageTold wsX6_villageTold) := goodIn_app (goodIn_of _ (by decide +kernel)) ggX6_about_X6_villageTold
set_option maxRecDepth 20000 in
theorem ggX6_about_X6_no : GoodIn wsX6_about wsX6_no := goodIn_r _ [48, 1, 49, 50, 51, 52, 53, 54, 55, 56, 57, 58] (by decide +kernel) (by decide +kernel)
set_option maxRecDepth 20000 in
theorem gX6_about_X6_no : GoodIn wsX6_about (wsV RX6 113 RX6 yX6_no wsX6_no) := goodIn_app (goodIn_of _ (by decide +kernel)) ggX6_about_X6_no
theorem dX6_about_0 : decode cX6_about 0 = .ok (.aload_n 0, 1) := by decide +kernel
theorem dX6_about_1 : decode cX6_about 1 = .ok (.iconst 0, 1) := by decide +kernel
theorem dX6_about_2 : decode cX6_about 2 = .ok (.putfield 41, 3) := by decide +kernel
theorem dX6_about_5 : decode cX6_about 5 = .ok (.aload_n 0, 1) := by decide +kernel
theorem dX6_about_6 : decode cX6_about 6 = .ok (.iload_n 1, 1) := by decide +kernel
theorem dX6_about_7 : decode cX6_about 7 = .ok (.invokevirtual 117, 3) := by decide +kernel
theorem dX6_about_10 : decode cX6_about 10 = .ok (.ifCond .eq 22, 3) := by decide +kernel
theorem dX6_about_13 : decode cX6_about 13 = .ok (.iload_n 2, 1) := by decide +kernel
theorem dX6_about_14 : decode cX6_about 14 = .ok (.iconst 0, 1) := by decide +kernel
theorem dX6_about_15 : decode cX6_about 15 = .ok (.bipush 6, 2) := by decide +kernel
theorem dX6_about_17 : decode cX6_about 17 = .ok (.invokestatic 48, 3) := by decide +kernel
theorem dX6_about_20 : decode cX6_about 20 = .ok (.ifCond .eq 12, 3) := by decide +kernel
theorem dX6_about_23 : decode cX6_about 23 = .ok (.aload_n 0, 1) := by decide +kernel
theorem dX6_about_24 : decode cX6_about 24 = .ok (.iload_n 1, 1) := by decide +kernel
theorem dX6_about_25 : decode cX6_about 25 = .ok (.iload_n 2, 1) := by decide +kernel
theorem dX6_about_26 : decode cX6_about 26 = .ok (.invokevirtual 136, 3) := by decide +kernel
theorem dX6_about_29 : decode cX6_about 29 = .ok (.goto 8, 3) := by decide +kernel
theorem dX6_about_32 : decode cX6_about 32 = .ok (.aload_n 0, 1) := by decide +kernel
theorem dX6_about_33 : decode cX6_about 33 = .ok (.iconst 1, 1) := by decide +kernel
theorem dX6_about_34 : decode cX6_about 34 = .ok (.invokevirtual 113, 3) := by decide +kernel
theorem dX6_about_37 : decode cX6_about 37 = .ok (.ireturn, 1) := by decide +kernel
set_option maxRecDepth 20000 in
theorem ggX6_at_X6_placeOf : GoodIn wsX6_at wsX6_placeOf := goodIn_r _ [7, 2, 8, 9, 10, 6, 11, 16, 17, 18, 19, 20, 21, 22, 23, 24, 25, 26, 27, 28, 29, 30, 31] (by decide +kernel) (by decide +kernel)
set_option maxRecDepth 20000 in
theorem gX6_at_X6_placeOf : GoodIn wsX6_at (wsV RX6 133 RX6 yX6_placeOf wsX6_placeOf) := goodIn_app (goodIn_of _ (by decide +kernel)) ggX6_at_X6_placeOf
set_option maxRecDepth 20000 in
theorem ggX6_at_X6_no : GoodIn wsX6_at wsX6_no := goodIn_r _ [15, 1, 16, 17, 18, 19, 20, 21, 22, 23, 24, 25] (by decide +kernel) (by decide +kernel)
set_option maxRecDepth 20000 in
theorem gX6_at_X6_no : GoodIn wsX6_at (wsV RX6 113 RX6 yX6_no wsX6_no) := goodIn_app (goodIn_of _ (by decide +kernel)) ggX6_at_X6_no
theorem dX6_at_0 : decode cX6_at 0 = .ok (.aload_n 0, 1) := by decide +kernel
theorem dX6_at_1 : decode cX6_at 1 = .ok (.iconst 0, 1) := by decide +kernel
theorem dX6_at_2 : decode cX6_at 2 = .ok (.putfield 41, 3) := by decide +kernel
theorem dX6_at_5 : decode cX6_at 5 = .ok (.iconst 0, 1) := by decide +kernel
theorem dX6_at_6 : decode cX6_at 6 = .ok (.istore_n 2, 1) := by decide +kernel
theorem dX6_at_7 : decode cX6_at 7 = .ok (.iload_n 2, 1) := by decide +kernel
theorem dX6_at_8 : decode cX6_at 8 = .ok (.aload_n 0, 1) := by decide +kernel
theorem dX6_at_9 : decode cX6_at 9 = .ok (.getfield 52, 3) := by decide +kernel
theorem dX6_at_12 : decode cX6_at 12 = .ok (.if_icmp .ge 20, 3) := by decide +kernel
theorem dX6_at_15 : decode cX6_at 15 = .ok (.aload_n 0, 1) := by decide +kernel
theorem dX6_at_16 : decode cX6_at 16 = .ok (.iload_n 2, 1) := by decide +kernel
theorem dX6_at_17 : decode cX6_at 17 = .ok (.invokevirtual 133, 3) := by decide +kernel
theorem dX6_at_20 : decode cX6_at 20 = .ok (.iload_n 1, 1) := by decide +kernel
theorem dX6_at_21 : decode cX6_at 21 = .ok (.if_icmp .ne 5, 3) := by decide +kernel
theorem dX6_at_24 : decode cX6_at 24 = .ok (.iload_n 2, 1) := by decide +kernel
theorem dX6_at_25 : decode cX6_at 25 = .ok (.ireturn, 1) := by decide +kernel
theorem dX6_at_26 : decode cX6_at 26 = .ok (.iinc 2 1, 3) := by decide +kernel
theorem dX6_at_29 : decode cX6_at 29 = .ok (.goto (-22), 3) := by decide +kernel
theorem dX6_at_32 : decode cX6_at 32 = .ok (.aload_n 0, 1) := by decide +kernel
theorem dX6_at_33 : decode cX6_at 33 = .ok (.iconst 1, 1) := by decide +kernel
theorem dX6_at_34 : decode cX6_at 34 = .ok (.invokevirtual 113, 3) := by decide +kernel
theorem dX6_at_37 : decode cX6_at 37 = .ok (.ireturn, 1) := by decide +kernel
set_option maxRecDepth 20000 in
theorem ggX6_counted_X6_sumOf : GoodIn wsX6_counted wsX6_sumOf := goodIn_r _ [8, 2, 35, 36, 37, 38, 39, 40, 41, 42, 43, 44] (by decide +kernel) (by decide +kernel)
set_option maxRecDepth 20000 in
theorem gX6_counted_X6_sumOf : GoodIn wsX6_counted (wsV RX6 139 RX6 yX6_sumOf wsX6_sumOf) := goodIn_app (goodIn_of _ (by decide +kernel)) ggX6_counted_X6_sumOf
set_option maxRecDepth 20000 in
theorem ggX6_counted_X6_rainGuessed : GoodIn wsX6_counted wsX6_rainGuessed := goodIn_r _ [12, 2, 13, 14, 15, 7, 16, 1, 17, 18, 19, 20, 21, 22, 23, 24, 3, 25, 26, 27, 28, 29, 30, 31, 32, 33, 34, 35, 36, 37, 38, 39, 40, 41, 42, 43, 44] (by decide +kernel) (by decide +kernel)
set_option maxRecDepth 20000 in
theorem gX6_counted_X6_rainGuessed : GoodIn wsX6_counted (wsV RX6 143 RX6 yX6_rainGuessed wsX6_rainGuessed) := goodIn_app (goodIn_of _ (by decide +kernel)) ggX6_counted_X6_rainGuessed
theorem dX6_counted_0 : decode cX6_counted 0 = .ok (.iconst 0, 1) := by decide +kernel
theorem dX6_counted_1 : decode cX6_counted 1 = .ok (.istore_n 3, 1) := by decide +kernel
theorem dX6_counted_2 : decode cX6_counted 2 = .ok (.iload_n 2, 1) := by decide +kernel
theorem dX6_counted_3 : decode cX6_counted 3 = .ok (.tableswitch 76 0 5 #[37, 42, 47, 52, 61, 70], 37) := by decide +kernel
theorem dX6_counted_40 : decode cX6_counted 40 = .ok (.aload_n 1, 1) := by decide +kernel
theorem dX6_counted_41 : decode cX6_counted 41 = .ok (.getfield 84, 3) := by decide +kernel
theorem dX6_counted_44 : decode cX6_counted 44 = .ok (.ireturn, 1) := by decide +kernel
theorem dX6_counted_45 : decode cX6_counted 45 = .ok (.aload_n 0, 1) := by decide +kernel
theorem dX6_counted_46 : decode cX6_counted 46 = .ok (.getfield 45, 3) := by decide +kernel
theorem dX6_counted_49 : decode cX6_counted 49 = .ok (.ireturn, 1) := by decide +kernel
theorem dX6_counted_50 : decode cX6_counted 50 = .ok (.aload_n 0, 1) := by decide +kernel
theorem dX6_counted_51 : decode cX6_counted 51 = .ok (.getfield 52, 3) := by decide +kernel
theorem dX6_counted_54 : decode cX6_counted 54 = .ok (.ireturn, 1) := by decide +kernel
theorem dX6_counted_55 : decode cX6_counted 55 = .ok (.aload_n 0, 1) := by decide +kernel
theorem dX6_counted_56 : decode cX6_counted 56 = .ok (.aload_n 1, 1) := by decide +kernel
theorem dX6_counted_57 : decode cX6_counted 57 = .ok (.getfield 66, 3) := by decide +kernel
theorem dX6_counted_60 : decode cX6_counted 60 = .ok (.invokevirtual 139, 3) := by decide +kernel
theorem dX6_counted_63 : decode cX6_counted 63 = .ok (.ireturn, 1) := by decide +kernel
theorem dX6_counted_64 : decode cX6_counted 64 = .ok (.aload_n 0, 1) := by decide +kernel
theorem dX6_counted_65 : decode cX6_counted 65 = .ok (.aload_n 1, 1) := by decide +kernel
theorem dX6_counted_66 : decode cX6_counted 66 = .ok (.getfield 38, 3) := by decide +kernel
theorem dX6_counted_69 : decode cX6_counted 69 = .ok (.invokevirtual 139, 3) := by decide +kernel
theorem dX6_counted_72 : decode cX6_counted 72 = .ok (.ireturn, 1) := by decide +kernel
theorem dX6_counted_73 : decode cX6_counted 73 = .ok (.aload_n 0, 1) := by decide +kernel
theorem dX6_counted_74 : decode cX6_counted 74 = .ok (.aload_n 1, 1) := by decide +kernel
theorem dX6_counted_75 : decode cX6_counted 75 = .ok (.invokevirtual 143, 3) := by decide +kernel
theorem dX6_counted_78 : decode cX6_counted 78 = .ok (.ireturn, 1) := by decide +kernel
theorem dX6_counted_79 : decode cX6_counted 79 = .ok (.iconst 0, 1) := by decide +kernel
theorem dX6_counted_80 : decode cX6_counted 80 = .ok (.istore 4, 2) := by decide +kernel
theorem dX6_counted_82 : decode cX6_counted 82 = .ok (.iload 4, 2) := by decide +kernel
theorem dX6_counted_84 : decode cX6_counted 84 = .ok (.bipush 12, 2) := by decide +kernel
theorem dX6_counted_86 : decode cX6_counted 86 = .ok (.if_icmp .ge 19, 3) := by decide +kernel
theorem dX6_counted_89 : decode cX6_counted 89 = .ok (.iload_n 3, 1) := by decide +kernel
theorem dX6_counted_90 : decode cX6_counted 90 = .ok (.aload_n 0, 1) := by decide +kernel
theorem dX6_counted_91 : decode cX6_counted 91 = .ok (.getfield 13, 3) := by decide +kernel
theorem dX6_counted_94 : decode cX6_counted 94 = .ok (.iload 4, 2) := by decide +kernel
theorem dX6_counted_96 : decode cX6_counted 96 = .ok (.iaload, 1) := by decide +kernel
theorem dX6_counted_97 : decode cX6_counted 97 = .ok (.iadd, 1) := by decide +kernel
theorem dX6_counted_98 : decode cX6_counted 98 = .ok (.istore_n 3, 1) := by decide +kernel
theorem dX6_counted_99 : decode cX6_counted 99 = .ok (.iinc 4 1, 3) := by decide +kernel
theorem dX6_counted_102 : decode cX6_counted 102 = .ok (.goto (-20), 3) := by decide +kernel
theorem dX6_counted_105 : decode cX6_counted 105 = .ok (.iload_n 3, 1) := by decide +kernel
theorem dX6_counted_106 : decode cX6_counted 106 = .ok (.ireturn, 1) := by decide +kernel
set_option maxRecDepth 20000 in
theorem ggX6_count_X6_isIn : GoodIn wsX6_count wsX6_isIn := goodIn_r _ [6] (by decide +kernel) (by decide +kernel)
set_option maxRecDepth 20000 in
theorem gX6_count_X6_isIn : GoodIn wsX6_count (va_wsS RX6 48 yX6_isIn wsX6_isIn) := goodIn_app (goodIn_of _ (by decide +kernel)) ggX6_count_X6_isIn
set_option maxRecDepth 20000 in
theorem ggX6_count_X6_counted : GoodIn wsX6_count wsX6_counted := goodIn_r _ [10, 11, 12, 13, 14, 15, 16, 5, 17, 18, 19, 20, 21, 22, 23, 24, 25, 26, 27, 28, 29, 30, 31, 32, 33, 34, 35, 36, 37, 52, 53, 54, 55, 56, 57, 42, 43, 44, 45, 46, 47, 48, 49, 50, 51] (by decide +kernel) (by decide +kernel)
set_option maxRecDepth 20000 in
theorem gX6_count_X6_counted : GoodIn wsX6_count (wsV RX6 147 RX6 yX6_counted wsX6_counted) := goodIn_app (goodIn_of _ (by decide +kernel)) ggX6_count_X6_counted
set_option maxRecDepth 20000 in
theorem ggX6_count_X6_no : GoodIn wsX6_count wsX6_no := goodIn_r _ [41, 1, 42, 43, 44, 45, 46, 47, 48, 49, 50, 51] (by decide +kernel) (by decide +kernel)
set_option maxRecDepth 20000 in
theorem gX6_count_X6_no : GoodIn wsX6_count (wsV RX6 113 RX6 yX6_no wsX6_no) := goodIn_app (goodIn_of _ (by decide +kernel)) ggX6_count_X6_no
theorem dX6_count_0 : decode cX6_count 0 = .ok (.aload_n 0, 1) := by decide +kernel
theorem dX6_count_1 : decode cX6_count 1 = .ok (.iconst 0, 1) := by decide +kernel
theorem dX6_count_2 : decode cX6_count 2 = .ok (.putfield 41, 3) := by decide +kernel
theorem dX6_count_5 : decode cX6_count 5 = .ok (.iload_n 1, 1) := by decide +kernel
theorem dX6_count_6 : decode cX6_count 6 = .ok (.iconst 0, 1) := by decide +kernel
theorem dX6_count_7 : decode cX6_count 7 = .ok (.bipush 6, 2) := by decide +kernel
theorem dX6_count_9 : decode cX6_count 9 = .ok (.invokestatic 48, 3) := by decide +kernel
theorem dX6_count_12 : decode cX6_count 12 = .ok (.ifCond .eq 15, 3) := by decide +kernel
theorem dX6_count_15 : decode cX6_count 15 = .ok (.aload_n 0, 1) := by decide +kernel
theorem dX6_count_16 : decode cX6_count 16 = .ok (.aload_n 0, 1) := by decide +kernel
theorem dX6_count_17 : decode cX6_count 17 = .ok (.getfield 28, 3) := by decide +kernel
theorem dX6_count_20 : decode cX6_count 20 = .ok (.iload_n 1, 1) := by decide +kernel
theorem dX6_count_21 : decode cX6_count 21 = .ok (.invokevirtual 147, 3) := by decide +kernel
theorem dX6_count_24 : decode cX6_count 24 = .ok (.goto 8, 3) := by decide +kernel
theorem dX6_count_27 : decode cX6_count 27 = .ok (.aload_n 0, 1) := by decide +kernel
theorem dX6_count_28 : decode cX6_count 28 = .ok (.iconst 1, 1) := by decide +kernel
theorem dX6_count_29 : decode cX6_count 29 = .ok (.invokevirtual 113, 3) := by decide +kernel
theorem dX6_count_32 : decode cX6_count 32 = .ok (.ireturn, 1) := by decide +kernel
set_option maxRecDepth 20000 in
theorem ggX6_pass__X6_isIn : GoodIn wsX6_pass_ wsX6_isIn := goodIn_r _ [6] (by decide +kernel) (by decide +kernel)
set_option maxRecDepth 20000 in
theorem gX6_pass__X6_isIn : GoodIn wsX6_pass_ (va_wsS RX6 48 yX6_isIn wsX6_isIn) := goodIn_app (goodIn_of _ (by decide +kernel)) ggX6_pass__X6_isIn
set_option maxRecDepth 20000 in
theorem ggX6_pass__X6_no : GoodIn wsX6_pass_ wsX6_no := goodIn_r _ [10, 1, 56, 57, 58, 59, 60, 61, 62, 63, 64, 65] (by decide +kernel) (by decide +kernel)
set_option maxRecDepth 20000 in
theorem gX6_pass__X6_no : GoodIn wsX6_pass_ (wsV RX6 113 RX6 yX6_no wsX6_no) := goodIn_app (goodIn_of _ (by decide +kernel)) ggX6_pass__X6_no
set_option maxRecDepth 20000 in
theorem ggX6_pass__X6_passAll : GoodIn wsX6_pass_ wsX6_passAll := goodIn_r _ [14, 15, 16, 17, 5, 18, 19, 20, 21, 22, 23, 24, 25, 26, 27, 28, 29, 30, 31, 32, 33, 34, 35, 36, 37, 38, 39, 40, 41, 42, 43, 44, 45, 46, 47, 48, 49, 50, 51, 52, 53, 54, 55, 56, 57, 58, 59, 60, 61, 62, 63, 64, 65, 66, 67, 68, 69, 70, 71] (by decide +kernel) (by decide +kernel)
set_option maxRecDepth 20000 in
theorem gX6_pass__X6_passAll : GoodIn wsX6_pass_ (wsV RX6 150 RX6 yX6_passAll wsX6_passAll) := goodIn_app (goodIn_of _ (by decide +kernel)) ggX6_pass__X6_passAll
theorem dX6_pass__0 : decode cX6_pass_ 0 = .ok (.aload_n 0, 1) := by decide +kernel
theorem dX6_pass__1 : decode cX6_pass_ 1 = .ok (.iconst 0, 1) := by decide +kernel
theorem dX6_pass__2 : decode cX6_pass_ 2 = .ok (.putfield 41, 3) := by decide +kernel
theorem dX6_pass__5 : decode cX6_pass_ 5 = .ok (.iload_n 1, 1) := by decide +kernel
theorem dX6_pass__6 : decode cX6_pass_ 6 = .ok (.iconst 1, 1) := by decide +kernel
theorem dX6_pass__7 : decode cX6_pass_ 7 = .ok (.bipush 90, 2) := by decide +kernel
theorem dX6_pass__9 : decode cX6_pass_ 9 = .ok (.invokestatic 48, 3) := by decide +kernel
theorem dX6_pass__12 : decode cX6_pass_ 12 = .ok (.ifCond .ne 9, 3) := by decide +kernel
theorem dX6_pass__15 : decode cX6_pass_ 15 = .ok (.aload_n 0, 1) := by decide +kernel
theorem dX6_pass__16 : decode cX6_pass_ 16 = .ok (.iconst 1, 1) := by decide +kernel
theorem dX6_pass__17 : decode cX6_pass_ 17 = .ok (.invokevirtual 113, 3) := by decide +kernel
theorem dX6_pass__20 : decode cX6_pass_ 20 = .ok (.ireturn, 1) := by decide +kernel
theorem dX6_pass__21 : decode cX6_pass_ 21 = .ok (.aload_n 0, 1) := by decide +kernel
theorem dX6_pass__22 : decode cX6_pass_ 22 = .ok (.getfield 28, 3) := by decide +kernel
theorem dX6_pass__25 : decode cX6_pass_ 25 = .ok (.getfield 69, 3) := by decide +kernel
theorem dX6_pass__28 : decode cX6_pass_ 28 = .ok (.istore_n 2, 1) := by decide +kernel
theorem dX6_pass__29 : decode cX6_pass_ 29 = .ok (.aload_n 0, 1) := by decide +kernel
theorem dX6_pass__30 : decode cX6_pass_ 30 = .ok (.aload_n 0, 1) := by decide +kernel
theorem dX6_pass__31 : decode cX6_pass_ 31 = .ok (.getfield 28, 3) := by decide +kernel
theorem dX6_pass__34 : decode cX6_pass_ 34 = .ok (.iload_n 1, 1) := by decide +kernel
theorem dX6_pass__35 : decode cX6_pass_ 35 = .ok (.invokevirtual 150, 3) := by decide +kernel
theorem dX6_pass__38 : decode cX6_pass_ 38 = .ok (.getfield 69, 3) := by decide +kernel
theorem dX6_pass__41 : decode cX6_pass_ 41 = .ok (.iload_n 2, 1) := by decide +kernel
theorem dX6_pass__42 : decode cX6_pass_ 42 = .ok (.isub, 1) := by decide +kernel
theorem dX6_pass__43 : decode cX6_pass_ 43 = .ok (.ireturn, 1) := by decide +kernel
set_option maxRecDepth 20000 in
theorem ggX6_foresee_X6_isIn : GoodIn wsX6_foresee wsX6_isIn := goodIn_r _ [5] (by decide +kernel) (by decide +kernel)
set_option maxRecDepth 20000 in
theorem gX6_foresee_X6_isIn : GoodIn wsX6_foresee (va_wsS RX6 48 yX6_isIn wsX6_isIn) := goodIn_app (goodIn_of _ (by decide +kernel)) ggX6_foresee_X6_isIn
set_option maxRecDepth 20000 in
theorem ggX6_foresee_X6_no : GoodIn wsX6_foresee wsX6_no := goodIn_r _ [9, 1, 91, 92, 93, 94, 95, 96, 97, 98, 99, 100] (by decide +kernel) (by decide +kernel)
set_option maxRecDepth 20000 in
theorem gX6_foresee_X6_no : GoodIn wsX6_foresee (wsV RX6 113 RX6 yX6_no wsX6_no) := goodIn_app (goodIn_of _ (by decide +kernel)) ggX6_foresee_X6_no
set_option maxRecDepth 20000 in
theorem ggX6_foresee_X6_lookAhead : GoodIn wsX6_foresee wsX6_lookAhead := goodIn_r _ [13, 14, 15, 16, 17, 18, 19, 20, 21, 22, 23, 24, 25, 26, 27, 28, 29, 30, 31, 32, 33, 91, 92, 93, 94, 95, 96, 97, 98, 99, 100, 101, 102, 103, 104, 105, 106] (by decide +kernel) (by decide +kernel)
set_option maxRecDepth 20000 in
theorem gX6_foresee_X6_lookAhead : GoodIn wsX6_foresee (wsV RX6 154 RX6 yX6_lookAhead wsX6_lookAhead) := goodIn_app (goodIn_of _ (by decide +kernel)) ggX6_foresee_X6_lookAhead
set_option maxRecDepth 20000 in
theorem ggX6_foresee_X6_passAll : GoodIn wsX6_foresee wsX6_passAll := goodIn_r _ [37, 38, 39, 40, 4, 41, 42, 43, 44, 45, 46, 47, 48, 49, 50, 51, 52, 53, 54, 55, 56, 57, 58, 59, 60, 61, 62, 63, 64, 65, 66, 67, 68, 69, 70, 71, 72, 73, 74, 75, 76, 77, 78, 91, 92, 93, 94, 95, 96, 97, 98, 99, 100, 101, 102, 103, 104, 105, 106] (by decide +kernel) (by decide +kernel)
set_option maxRecDepth 20000 in
theorem gX6_foresee_X6_passAll : GoodIn wsX6_foresee (wsV RX6 150 RX6 yX6_passAll wsX6_passAll) := goodIn_app (goodIn_of _ (by decide +kernel)) ggX6_foresee_X6_passAll
set_option maxRecDepth 20000 in
theorem ggX6_foresee_X6_counted : GoodIn wsX6_foresee wsX6_counted := goodIn_r _ [82, 48, 43, 42, 83, 84, 85, 4, 86, 87, 88, 89, 90, 44, 45, 46, 47, 49, 50, 51, 52, 53, 54, 55, 56, 61, 62, 63, 64, 101, 102, 103, 104, 105, 106, 91, 92, 93, 94, 95, 96, 97, 98, 99, 100] (by decide +kernel) (by decide +kernel)
set_option maxRecDepth 20000 in
theorem gX6_foresee_X6_counted : GoodIn wsX6_foresee (wsV RX6 147 RX6 yX6_counted wsX6_counted) := goodIn_app (goodIn_of _ (by decide +kernel)) ggX6_foresee_X6_counted
theorem dX6_foresee_0 : decode cX6_foresee 0 = .ok (.aload_n 0, 1) := by decide +kernel
theorem dX6_foresee_1 : decode cX6_foresee 1 = .ok (.iconst 0, 1) := by decide +kernel
theorem dX6_foresee_2 : decode cX6_foresee 2 = .ok (.putfield 41, 3) := by decide +kernel
theorem dX6_foresee_5 : decode cX6_foresee 5 = .ok (.iload_n 1, 1) := by decide +kernel
theorem dX6_foresee_6 : decode cX6_foresee 6 = .ok (.iconst 1, 1) := by decide +kernel
theorem dX6_foresee_7 : decode cX6_foresee 7 = .ok (.bipush 90, 2) := by decide +kernel
theorem dX6_foresee_9 : decode cX6_foresee 9 = .ok (.invokestatic 48, 3) := by decide +kernel
theorem dX6_foresee_12 : decode cX6_foresee 12 = .ok (.ifCond .ne 9, 3) := by decide +kernel
theorem dX6_foresee_15 : decode cX6_foresee 15 = .ok (.aload_n 0, 1) := by decide +kernel
theorem dX6_foresee_16 : decode cX6_foresee 16 = .ok (.iconst 1, 1) := by decide +kernel
theorem dX6_foresee_17 : decode cX6_foresee 17 = .ok (.invokevirtual 113, 3) := by decide +kernel
theorem dX6_foresee_20 : decode cX6_foresee 20 = .ok (.ireturn, 1) := by decide +kernel
theorem dX6_foresee_21 : decode cX6_foresee 21 = .ok (.iload_n 2, 1) := by decide +kernel
theorem dX6_foresee_22 : decode cX6_foresee 22 = .ok (.iconst 3, 1) := by decide +kernel
theorem dX6_foresee_23 : decode cX6_foresee 23 = .ok (.iconst 5, 1) := by decide +kernel
theorem dX6_foresee_24 : decode cX6_foresee 24 = .ok (.invokestatic 48, 3) := by decide +kernel
theorem dX6_foresee_27 : decode cX6_foresee 27 = .ok (.ifCond .ne 9, 3) := by decide +kernel
theorem dX6_foresee_30 : decode cX6_foresee 30 = .ok (.aload_n 0, 1) := by decide +kernel
theorem dX6_foresee_31 : decode cX6_foresee 31 = .ok (.iconst 2, 1) := by decide +kernel
theorem dX6_foresee_32 : decode cX6_foresee 32 = .ok (.invokevirtual 113, 3) := by decide +kernel
theorem dX6_foresee_35 : decode cX6_foresee 35 = .ok (.ireturn, 1) := by decide +kernel
theorem dX6_foresee_36 : decode cX6_foresee 36 = .ok (.aload_n 0, 1) := by decide +kernel
theorem dX6_foresee_37 : decode cX6_foresee 37 = .ok (.aload_n 0, 1) := by decide +kernel
theorem dX6_foresee_38 : decode cX6_foresee 38 = .ok (.aload_n 0, 1) := by decide +kernel
theorem dX6_foresee_39 : decode cX6_foresee 39 = .ok (.invokevirtual 154, 3) := by decide +kernel
theorem dX6_foresee_42 : decode cX6_foresee 42 = .ok (.iload_n 1, 1) := by decide +kernel
theorem dX6_foresee_43 : decode cX6_foresee 43 = .ok (.invokevirtual 150, 3) := by decide +kernel
theorem dX6_foresee_46 : decode cX6_foresee 46 = .ok (.iload_n 2, 1) := by decide +kernel
theorem dX6_foresee_47 : decode cX6_foresee 47 = .ok (.invokevirtual 147, 3) := by decide +kernel
theorem dX6_foresee_50 : decode cX6_foresee 50 = .ok (.ireturn, 1) := by decide +kernel
set_option maxRecDepth 20000 in
theorem ggX6_overtakes_X6_isVillage : GoodIn wsX6_overtakes wsX6_isVillage := goodIn_r _ [7, 8, 9, 10, 6, 11, 82, 83, 84, 85, 86, 87, 88, 89, 90, 91] (by decide +kernel) (by decide +kernel)
set_option maxRecDepth 20000 in
theorem gX6_overtakes_X6_isVillage : GoodIn wsX6_overtakes (wsV RX6 117 RX6 yX6_isVillage wsX6_isVillage) := goodIn_app (goodIn_of _ (by decide +kernel)) ggX6_overtakes_X6_isVillage
set_option maxRecDepth 20000 in
theorem ggX6_overtakes_X6_no : GoodIn wsX6_overtakes wsX6_no := goodIn_r _ [15, 1, 82, 83, 84, 85, 86, 87, 88, 89, 90, 91] (by decide +kernel) (by decide +kernel)
set_option maxRecDepth 20000 in
theorem gX6_overtakes_X6_no : GoodIn wsX6_overtakes (wsV RX6 113 RX6 yX6_no wsX6_no) := goodIn_app (goodIn_of _ (by decide +kernel)) ggX6_overtakes_X6_no
set_option maxRecDepth 20000 in
theorem ggX6_overtakes_X6_lookAhead : GoodIn wsX6_overtakes wsX6_lookAhead := goodIn_r _ [19, 2, 20, 21, 22, 23, 24, 25, 26, 27, 28, 29, 30, 31, 32, 33, 34, 35, 36, 37, 38, 82, 83, 84, 85, 86, 87, 88, 89, 90, 91, 92, 93, 94, 95, 96, 97] (by decide +kernel) (by decide +kernel)
set_option maxRecDepth 20000 in
theorem gX6_overtakes_X6_lookAhead : GoodIn wsX6_overtakes (wsV RX6 154 RX6 yX6_lookAhead wsX6_lookAhead) := goodIn_app (goodIn_of _ (by decide +kernel)) ggX6_overtakes_X6_lookAhead
set_option maxRecDepth 20000 in
theorem ggX6_overtakes_X6_isBetter : GoodIn wsX6_overtakes wsX6_isBetter := goodIn_r _ [41, 92, 93, 94, 95, 96, 97] (by decide +kernel) (by decide +kernel)
set_option maxRecDepth 20000 in
theorem gX6_overtakes_X6_isBetter : GoodIn wsX6_overtakes (va_wsS RX6 109 yX6_isBetter wsX6_isBetter) := goodIn_app (goodIn_of _ (by decide +kernel)) ggX6_overtakes_X6_isBetter
set_option maxRecDepth 20000 in
theorem ggX6_overtakes_X6_pass : GoodIn wsX6_overtakes wsX6_pass := goodIn_r _ [45, 46, 8, 47, 48, 49, 6, 50, 51, 52, 53, 54, 55, 56, 57, 58, 59, 60, 61, 62, 63, 64, 65, 66, 67, 68, 69, 70, 71, 72, 73, 74, 75, 76, 77, 78, 79, 80, 81, 82, 83, 84, 85, 86, 87, 88, 89, 90, 91, 92, 93, 94, 95, 96, 97] (by decide +kernel) (by decide +kernel)
set_option maxRecDepth 20000 in
theorem gX6_overtakes_X6_pass : GoodIn wsX6_overtakes (wsV RX6 102 RX6 yX6_pass wsX6_pass) := goodIn_app (goodIn_of _ (by decide +kernel)) ggX6_overtakes_X6_pass
theorem dX6_overtakes_0 : decode cX6_overtakes 0 = .ok (.aload_n 0, 1) := by decide +kernel
theorem dX6_overtakes_1 : decode cX6_overtakes 1 = .ok (.iconst 0, 1) := by decide +kernel
theorem dX6_overtakes_2 : decode cX6_overtakes 2 = .ok (.putfield 41, 3) := by decide +kernel
theorem dX6_overtakes_5 : decode cX6_overtakes 5 = .ok (.aload_n 0, 1) := by decide +kernel
theorem dX6_overtakes_6 : decode cX6_overtakes 6 = .ok (.iload_n 1, 1) := by decide +kernel
theorem dX6_overtakes_7 : decode cX6_overtakes 7 = .ok (.invokevirtual 117, 3) := by decide +kernel
theorem dX6_overtakes_10 : decode cX6_overtakes 10 = .ok (.ifCond .eq 11, 3) := by decide +kernel
theorem dX6_overtakes_13 : decode cX6_overtakes 13 = .ok (.aload_n 0, 1) := by decide +kernel
theorem dX6_overtakes_14 : decode cX6_overtakes 14 = .ok (.iload_n 2, 1) := by decide +kernel
theorem dX6_overtakes_15 : decode cX6_overtakes 15 = .ok (.invokevirtual 117, 3) := by decide +kernel
theorem dX6_overtakes_18 : decode cX6_overtakes 18 = .ok (.ifCond .ne 9, 3) := by decide +kernel
theorem dX6_overtakes_21 : decode cX6_overtakes 21 = .ok (.aload_n 0, 1) := by decide +kernel
theorem dX6_overtakes_22 : decode cX6_overtakes 22 = .ok (.iconst 1, 1) := by decide +kernel
theorem dX6_overtakes_23 : decode cX6_overtakes 23 = .ok (.invokevirtual 113, 3) := by decide +kernel
theorem dX6_overtakes_26 : decode cX6_overtakes 26 = .ok (.ireturn, 1) := by decide +kernel
theorem dX6_overtakes_27 : decode cX6_overtakes 27 = .ok (.iload_n 1, 1) := by decide +kernel
theorem dX6_overtakes_28 : decode cX6_overtakes 28 = .ok (.iload_n 2, 1) := by decide +kernel
theorem dX6_overtakes_29 : decode cX6_overtakes 29 = .ok (.if_icmp .ne 9, 3) := by decide +kernel
theorem dX6_overtakes_32 : decode cX6_overtakes 32 = .ok (.aload_n 0, 1) := by decide +kernel
theorem dX6_overtakes_33 : decode cX6_overtakes 33 = .ok (.iconst 2, 1) := by decide +kernel
theorem dX6_overtakes_34 : decode cX6_overtakes 34 = .ok (.invokevirtual 113, 3) := by decide +kernel
theorem dX6_overtakes_37 : decode cX6_overtakes 37 = .ok (.ireturn, 1) := by decide +kernel
theorem dX6_overtakes_38 : decode cX6_overtakes 38 = .ok (.aload_n 0, 1) := by decide +kernel
theorem dX6_overtakes_39 : decode cX6_overtakes 39 = .ok (.invokevirtual 154, 3) := by decide +kernel
theorem dX6_overtakes_42 : decode cX6_overtakes 42 = .ok (.pop, 1) := by decide +kernel
theorem dX6_overtakes_43 : decode cX6_overtakes 43 = .ok (.iconst 0, 1) := by decide +kernel
theorem dX6_overtakes_44 : decode cX6_overtakes 44 = .ok (.istore_n 3, 1) := by decide +kernel
theorem dX6_overtakes_45 : decode cX6_overtakes 45 = .ok (.iload_n 3, 1) := by decide +kernel
theorem dX6_overtakes_46 : decode cX6_overtakes 46 = .ok (.bipush 120, 2) := by decide +kernel
theorem dX6_overtakes_48 : decode cX6_overtakes 48 = .ok (.if_icmp .gt 31, 3) := by decide +kernel
theorem dX6_overtakes_51 : decode cX6_overtakes 51 = .ok (.aload_n 0, 1) := by decide +kernel
theorem dX6_overtakes_52 : decode cX6_overtakes 52 = .ok (.getfield 32, 3) := by decide +kernel
theorem dX6_overtakes_55 : decode cX6_overtakes 55 = .ok (.iload_n 1, 1) := by decide +kernel
theorem dX6_overtakes_56 : decode cX6_overtakes 56 = .ok (.iload_n 2, 1) := by decide +kernel
theorem dX6_overtakes_57 : decode cX6_overtakes 57 = .ok (.invokestatic 109, 3) := by decide +kernel
theorem dX6_overtakes_60 : decode cX6_overtakes 60 = .ok (.ifCond .eq 5, 3) := by decide +kernel
theorem dX6_overtakes_63 : decode cX6_overtakes 63 = .ok (.iload_n 3, 1) := by decide +kernel
theorem dX6_overtakes_64 : decode cX6_overtakes 64 = .ok (.ireturn, 1) := by decide +kernel
theorem dX6_overtakes_65 : decode cX6_overtakes 65 = .ok (.aload_n 0, 1) := by decide +kernel
theorem dX6_overtakes_66 : decode cX6_overtakes 66 = .ok (.aload_n 0, 1) := by decide +kernel
theorem dX6_overtakes_67 : decode cX6_overtakes 67 = .ok (.getfield 32, 3) := by decide +kernel
theorem dX6_overtakes_70 : decode cX6_overtakes 70 = .ok (.invokevirtual 102, 3) := by decide +kernel
theorem dX6_overtakes_73 : decode cX6_overtakes 73 = .ok (.iinc 3 1, 3) := by decide +kernel
theorem dX6_overtakes_76 : decode cX6_overtakes 76 = .ok (.goto (-31), 3) := by decide +kernel
theorem dX6_overtakes_79 : decode cX6_overtakes 79 = .ok (.iconst (-1), 1) := by decide +kernel
theorem dX6_overtakes_80 : decode cX6_overtakes 80 = .ok (.ireturn, 1) := by decide +kernel
set_option maxRecDepth 20000 in
theorem ggX6_advise_X6_isVillage : GoodIn wsX6_advise wsX6_isVillage := goodIn_r _ [8, 9, 10, 11, 7, 12, 83, 84, 85, 86, 87, 88, 89, 90, 91, 92] (by decide +kernel) (by decide +kernel)
set_option maxRecDepth 20000 in
theorem gX6_advise_X6_isVillage : GoodIn wsX6_advise (wsV RX6 117 RX6 yX6_isVillage wsX6_isVillage) := goodIn_app (goodIn_of _ (by decide +kernel)) ggX6_advise_X6_isVillage
set_option maxRecDepth 20000 in
theorem ggX6_advise_X6_no : GoodIn wsX6_advise wsX6_no := goodIn_r _ [16, 1, 83, 84, 85, 86, 87, 88, 89, 90, 91, 92] (by decide +kernel) (by decide +kernel)
set_option maxRecDepth 20000 in
theorem gX6_advise_X6_no : GoodIn wsX6_advise (wsV RX6 113 RX6 yX6_no wsX6_no) := goodIn_app (goodIn_of _ (by decide +kernel)) ggX6_advise_X6_no
set_option maxRecDepth 20000 in
theorem ggX6_advise_X6_isIn : GoodIn wsX6_advise wsX6_isIn := goodIn_r _ [12] (by decide +kernel) (by decide +kernel)
set_option maxRecDepth 20000 in
theorem gX6_advise_X6_isIn : GoodIn wsX6_advise (va_wsS RX6 48 yX6_isIn wsX6_isIn) := goodIn_app (goodIn_of _ (by decide +kernel)) ggX6_advise_X6_isIn
set_option maxRecDepth 20000 in
theorem ggX6_advise_X6_lookAhead : GoodIn wsX6_advise wsX6_lookAhead := goodIn_r _ [20, 3, 21, 22, 23, 24, 25, 26, 27, 28, 29, 30, 31, 32, 33, 34, 35, 36, 37, 38, 39, 83, 84, 85, 86, 87, 88, 89, 90, 91, 92, 93, 94, 95, 96, 97, 98] (by decide +kernel) (by decide +kernel)
set_option maxRecDepth 20000 in
theorem gX6_advise_X6_lookAhead : GoodIn wsX6_advise (wsV RX6 154 RX6 yX6_lookAhead wsX6_lookAhead) := goodIn_app (goodIn_of _ (by decide +kernel)) ggX6_advise_X6_lookAhead
set_option maxRecDepth 20000 in
theorem ggX6_advise_X6_passAll : GoodIn wsX6_advise wsX6_passAll := goodIn_r _ [43, 44, 45, 46, 7, 47, 48, 9, 49, 50, 51, 52, 2, 53, 54, 55, 56, 57, 58, 59, 60, 61, 62, 63, 64, 65, 66, 67, 68, 69, 70, 71, 72, 73, 74, 75, 76, 77, 78, 79, 80, 81, 82, 83, 84, 85, 86, 87, 88, 89, 90, 91, 92, 93, 94, 95, 96, 97, 98] (by decide +kernel) (by decide +kernel)
set_option maxRecDepth 20000 in
theorem gX6_advise_X6_passAll : GoodIn wsX6_advise (wsV RX6 150 RX6 yX6_passAll wsX6_passAll) := goodIn_app (goodIn_of _ (by decide +kernel)) ggX6_advise_X6_passAll
theorem dX6_advise_0 : decode cX6_advise 0 = .ok (.aload_n 0, 1) := by decide +kernel
theorem dX6_advise_1 : decode cX6_advise 1 = .ok (.iconst 0, 1) := by decide +kernel
theorem dX6_advise_2 : decode cX6_advise 2 = .ok (.putfield 41, 3) := by decide +kernel
theorem dX6_advise_5 : decode cX6_advise 5 = .ok (.aload_n 0, 1) := by decide +kernel
theorem dX6_advise_6 : decode cX6_advise 6 = .ok (.iload_n 1, 1) := by decide +kernel
theorem dX6_advise_7 : decode cX6_advise 7 = .ok (.invokevirtual 117, 3) := by decide +kernel
theorem dX6_advise_10 : decode cX6_advise 10 = .ok (.ifCond .ne 9, 3) := by decide +kernel
theorem dX6_advise_13 : decode cX6_advise 13 = .ok (.aload_n 0, 1) := by decide +kernel
theorem dX6_advise_14 : decode cX6_advise 14 = .ok (.iconst 1, 1) := by decide +kernel
theorem dX6_advise_15 : decode cX6_advise 15 = .ok (.invokevirtual 113, 3) := by decide +kernel
theorem dX6_advise_18 : decode cX6_advise 18 = .ok (.ireturn, 1) := by decide +kernel
theorem dX6_advise_19 : decode cX6_advise 19 = .ok (.iload_n 2, 1) := by decide +kernel
theorem dX6_advise_20 : decode cX6_advise 20 = .ok (.iconst 1, 1) := by decide +kernel
theorem dX6_advise_21 : decode cX6_advise 21 = .ok (.bipush 60, 2) := by decide +kernel
theorem dX6_advise_23 : decode cX6_advise 23 = .ok (.invokestatic 48, 3) := by decide +kernel
theorem dX6_advise_26 : decode cX6_advise 26 = .ok (.ifCond .ne 9, 3) := by decide +kernel
theorem dX6_advise_29 : decode cX6_advise 29 = .ok (.aload_n 0, 1) := by decide +kernel
theorem dX6_advise_30 : decode cX6_advise 30 = .ok (.iconst 2, 1) := by decide +kernel
theorem dX6_advise_31 : decode cX6_advise 31 = .ok (.invokevirtual 113, 3) := by decide +kernel
theorem dX6_advise_34 : decode cX6_advise 34 = .ok (.ireturn, 1) := by decide +kernel
theorem dX6_advise_35 : decode cX6_advise 35 = .ok (.aload_n 0, 1) := by decide +kernel
theorem dX6_advise_36 : decode cX6_advise 36 = .ok (.aload_n 0, 1) := by decide +kernel
theorem dX6_advise_37 : decode cX6_advise 37 = .ok (.invokevirtual 154, 3) := by decide +kernel
theorem dX6_advise_40 : decode cX6_advise 40 = .ok (.iload_n 2, 1) := by decide +kernel
theorem dX6_advise_41 : decode cX6_advise 41 = .ok (.invokevirtual 150, 3) := by decide +kernel
theorem dX6_advise_44 : decode cX6_advise 44 = .ok (.getfield 66, 3) := by decide +kernel
theorem dX6_advise_47 : decode cX6_advise 47 = .ok (.iload_n 1, 1) := by decide +kernel
theorem dX6_advise_48 : decode cX6_advise 48 = .ok (.iaload, 1) := by decide +kernel
theorem dX6_advise_49 : decode cX6_advise 49 = .ok (.istore_n 3, 1) := by decide +kernel
theorem dX6_advise_50 : decode cX6_advise 50 = .ok (.iconst (-1), 1) := by decide +kernel
theorem dX6_advise_51 : decode cX6_advise 51 = .ok (.istore 4, 2) := by decide +kernel
theorem dX6_advise_53 : decode cX6_advise 53 = .ok (.iconst 0, 1) := by decide +kernel
theorem dX6_advise_54 : decode cX6_advise 54 = .ok (.istore 5, 2) := by decide +kernel
theorem dX6_advise_56 : decode cX6_advise 56 = .ok (.iload 5, 2) := by decide +kernel
theorem dX6_advise_58 : decode cX6_advise 58 = .ok (.aload_n 0, 1) := by decide +kernel
theorem dX6_advise_59 : decode cX6_advise 59 = .ok (.getfield 45, 3) := by decide +kernel
theorem dX6_advise_62 : decode cX6_advise 62 = .ok (.if_icmp .ge 57, 3) := by decide +kernel
theorem dX6_advise_65 : decode cX6_advise 65 = .ok (.aload_n 0, 1) := by decide +kernel
theorem dX6_advise_66 : decode cX6_advise 66 = .ok (.invokevirtual 154, 3) := by decide +kernel
theorem dX6_advise_69 : decode cX6_advise 69 = .ok (.getfield 35, 3) := by decide +kernel
theorem dX6_advise_72 : decode cX6_advise 72 = .ok (.bipush 8, 2) := by decide +kernel
theorem dX6_advise_74 : decode cX6_advise 74 = .ok (.iload_n 1, 1) := by decide +kernel
theorem dX6_advise_75 : decode cX6_advise 75 = .ok (.imul, 1) := by decide +kernel
theorem dX6_advise_76 : decode cX6_advise 76 = .ok (.iload 5, 2) := by decide +kernel
theorem dX6_advise_78 : decode cX6_advise 78 = .ok (.iadd, 1) := by decide +kernel
theorem dX6_advise_79 : decode cX6_advise 79 = .ok (.iconst 0, 1) := by decide +kernel
theorem dX6_advise_80 : decode cX6_advise 80 = .ok (.iastore, 1) := by decide +kernel
theorem dX6_advise_81 : decode cX6_advise 81 = .ok (.aload_n 0, 1) := by decide +kernel
theorem dX6_advise_82 : decode cX6_advise 82 = .ok (.aload_n 0, 1) := by decide +kernel
theorem dX6_advise_83 : decode cX6_advise 83 = .ok (.getfield 32, 3) := by decide +kernel
theorem dX6_advise_86 : decode cX6_advise 86 = .ok (.iload_n 2, 1) := by decide +kernel
theorem dX6_advise_87 : decode cX6_advise 87 = .ok (.invokevirtual 150, 3) := by decide +kernel
theorem dX6_advise_90 : decode cX6_advise 90 = .ok (.getfield 66, 3) := by decide +kernel
theorem dX6_advise_93 : decode cX6_advise 93 = .ok (.iload_n 1, 1) := by decide +kernel
theorem dX6_advise_94 : decode cX6_advise 94 = .ok (.iaload, 1) := by decide +kernel
theorem dX6_advise_95 : decode cX6_advise 95 = .ok (.istore 6, 2) := by decide +kernel
theorem dX6_advise_97 : decode cX6_advise 97 = .ok (.iload 6, 2) := by decide +kernel
theorem dX6_advise_99 : decode cX6_advise 99 = .ok (.iload_n 3, 1) := by decide +kernel
theorem dX6_advise_100 : decode cX6_advise 100 = .ok (.if_icmp .gt 6, 3) := by decide +kernel
theorem dX6_advise_103 : decode cX6_advise 103 = .ok (.goto 10, 3) := by decide +kernel
theorem dX6_advise_106 : decode cX6_advise 106 = .ok (.iload 6, 2) := by decide +kernel
theorem dX6_advise_108 : decode cX6_advise 108 = .ok (.istore_n 3, 1) := by decide +kernel
theorem dX6_advise_109 : decode cX6_advise 109 = .ok (.iload 5, 2) := by decide +kernel
theorem dX6_advise_111 : decode cX6_advise 111 = .ok (.istore 4, 2) := by decide +kernel
theorem dX6_advise_113 : decode cX6_advise 113 = .ok (.iinc 5 1, 3) := by decide +kernel
theorem dX6_advise_116 : decode cX6_advise 116 = .ok (.goto (-60), 3) := by decide +kernel
theorem dX6_advise_119 : decode cX6_advise 119 = .ok (.iload 4, 2) := by decide +kernel
theorem dX6_advise_121 : decode cX6_advise 121 = .ok (.ireturn, 1) := by decide +kernel
set_option maxRecDepth 20000 in
theorem ggX6_best_X6_rightDays : GoodIn wsX6_best wsX6_rightDays := goodIn_r _ [7, 8, 9, 10, 6, 11, 12, 13, 14, 15, 16, 17, 18, 19, 20, 21, 22, 23, 24, 25, 26, 27, 28, 29] (by decide +kernel) (by decide +kernel)
set_option maxRecDepth 20000 in
theorem gX6_best_X6_rightDays : GoodIn wsX6_best (wsV RX6 124 RX6 yX6_rightDays wsX6_rightDays) := goodIn_app (goodIn_of _ (by decide +kernel)) ggX6_best_X6_rightDays
theorem dX6_best_0 : decode cX6_best 0 = .ok (.aload_n 0, 1) := by decide +kernel
theorem dX6_best_1 : decode cX6_best 1 = .ok (.iconst 0, 1) := by decide +kernel
theorem dX6_best_2 : decode cX6_best 2 = .ok (.putfield 41, 3) := by decide +kernel
theorem dX6_best_5 : decode cX6_best 5 = .ok (.iconst (-1), 1) := by decide +kernel
theorem dX6_best_6 : decode cX6_best 6 = .ok (.istore_n 1, 1) := by decide +kernel
theorem dX6_best_7 : decode cX6_best 7 = .ok (.iconst 0, 1) := by decide +kernel
theorem dX6_best_8 : decode cX6_best 8 = .ok (.istore_n 2, 1) := by decide +kernel
theorem dX6_best_9 : decode cX6_best 9 = .ok (.iload_n 2, 1) := by decide +kernel
theorem dX6_best_10 : decode cX6_best 10 = .ok (.aload_n 0, 1) := by decide +kernel
theorem dX6_best_11 : decode cX6_best 11 = .ok (.getfield 45, 3) := by decide +kernel
theorem dX6_best_14 : decode cX6_best 14 = .ok (.if_icmp .ge 29, 3) := by decide +kernel
theorem dX6_best_17 : decode cX6_best 17 = .ok (.iload_n 1, 1) := by decide +kernel
theorem dX6_best_18 : decode cX6_best 18 = .ok (.iconst (-1), 1) := by decide +kernel
theorem dX6_best_19 : decode cX6_best 19 = .ok (.if_icmp .eq 16, 3) := by decide +kernel
theorem dX6_best_22 : decode cX6_best 22 = .ok (.aload_n 0, 1) := by decide +kernel
theorem dX6_best_23 : decode cX6_best 23 = .ok (.iload_n 2, 1) := by decide +kernel
theorem dX6_best_24 : decode cX6_best 24 = .ok (.invokevirtual 124, 3) := by decide +kernel
theorem dX6_best_27 : decode cX6_best 27 = .ok (.aload_n 0, 1) := by decide +kernel
theorem dX6_best_28 : decode cX6_best 28 = .ok (.iload_n 1, 1) := by decide +kernel
theorem dX6_best_29 : decode cX6_best 29 = .ok (.invokevirtual 124, 3) := by decide +kernel
theorem dX6_best_32 : decode cX6_best 32 = .ok (.if_icmp .le 5, 3) := by decide +kernel
theorem dX6_best_35 : decode cX6_best 35 = .ok (.iload_n 2, 1) := by decide +kernel
theorem dX6_best_36 : decode cX6_best 36 = .ok (.istore_n 1, 1) := by decide +kernel
theorem dX6_best_37 : decode cX6_best 37 = .ok (.iinc 2 1, 3) := by decide +kernel
theorem dX6_best_40 : decode cX6_best 40 = .ok (.goto (-31), 3) := by decide +kernel
theorem dX6_best_43 : decode cX6_best 43 = .ok (.iload_n 1, 1) := by decide +kernel
theorem dX6_best_44 : decode cX6_best 44 = .ok (.ireturn, 1) := by decide +kernel
set_option maxRecDepth 20000 in
theorem ggX6_mean_X6_sumOf : GoodIn wsX6_mean wsX6_sumOf := goodIn_r _ [8, 2, 9, 10, 11, 12, 13, 14, 15, 16, 17, 18] (by decide +kernel) (by decide +kernel)
set_option maxRecDepth 20000 in
theorem gX6_mean_X6_sumOf : GoodIn wsX6_mean (wsV RX6 139 RX6 yX6_sumOf wsX6_sumOf) := goodIn_app (goodIn_of _ (by decide +kernel)) ggX6_mean_X6_sumOf
theorem dX6_mean_0 : decode cX6_mean 0 = .ok (.aload_n 0, 1) := by decide +kernel
theorem dX6_mean_1 : decode cX6_mean 1 = .ok (.iconst 0, 1) := by decide +kernel
theorem dX6_mean_2 : decode cX6_mean 2 = .ok (.putfield 41, 3) := by decide +kernel
theorem dX6_mean_5 : decode cX6_mean 5 = .ok (.aload_n 0, 1) := by decide +kernel
theorem dX6_mean_6 : decode cX6_mean 6 = .ok (.getfield 52, 3) := by decide +kernel
theorem dX6_mean_9 : decode cX6_mean 9 = .ok (.ifCond .ne 7, 3) := by decide +kernel
theorem dX6_mean_12 : decode cX6_mean 12 = .ok (.dconst 0, 1) := by decide +kernel
theorem dX6_mean_13 : decode cX6_mean 13 = .ok (.goto 21, 3) := by decide +kernel
theorem dX6_mean_16 : decode cX6_mean 16 = .ok (.aload_n 0, 1) := by decide +kernel
theorem dX6_mean_17 : decode cX6_mean 17 = .ok (.aload_n 0, 1) := by decide +kernel
theorem dX6_mean_18 : decode cX6_mean 18 = .ok (.getfield 28, 3) := by decide +kernel
theorem dX6_mean_21 : decode cX6_mean 21 = .ok (.getfield 66, 3) := by decide +kernel
theorem dX6_mean_24 : decode cX6_mean 24 = .ok (.invokevirtual 139, 3) := by decide +kernel
theorem dX6_mean_27 : decode cX6_mean 27 = .ok (.i2d, 1) := by decide +kernel
theorem dX6_mean_28 : decode cX6_mean 28 = .ok (.aload_n 0, 1) := by decide +kernel
theorem dX6_mean_29 : decode cX6_mean 29 = .ok (.getfield 52, 3) := by decide +kernel
theorem dX6_mean_32 : decode cX6_mean 32 = .ok (.i2d, 1) := by decide +kernel
theorem dX6_mean_33 : decode cX6_mean 33 = .ok (.ddiv, 1) := by decide +kernel
theorem dX6_mean_34 : decode cX6_mean 34 = .ok (.dreturn, 1) := by decide +kernel
set_option maxRecDepth 20000 in
theorem ggX6_digest_X6_counted : GoodIn wsX6_digest wsX6_counted := goodIn_r _ [13, 7, 8, 6, 14, 15, 16, 12, 17, 18, 19, 20, 21, 22, 23, 24, 25, 26, 27, 28, 29, 30, 31, 5, 32, 33, 34, 35, 36, 74, 75, 76, 77, 78, 79, 64, 65, 66, 67, 68, 69, 70, 71, 72, 73] (by decide +kernel) (by decide +kernel)
set_option maxRecDepth 20000 in
theorem gX6_digest_X6_counted : GoodIn wsX6_digest (wsV RX6 147 RX6 yX6_counted wsX6_counted) := goodIn_app (goodIn_of _ (by decide +kernel)) ggX6_digest_X6_counted
set_option maxRecDepth 20000 in
theorem ggX6_digest_X6_signTold : GoodIn wsX6_digest wsX6_signTold := goodIn_r _ [40, 31, 32, 8, 4, 41, 42, 43, 12, 44, 45, 46, 47, 48, 6, 27, 28, 29, 30, 5, 64, 65, 66, 67, 68, 69, 70, 71, 72, 73, 74, 75, 76, 77, 78, 79] (by decide +kernel) (by decide +kernel)
set_option maxRecDepth 20000 in
theorem gX6_digest_X6_signTold : GoodIn wsX6_digest (wsV RX6 127 RX6 yX6_signTold wsX6_signTold) := goodIn_app (goodIn_of _ (by decide +kernel)) ggX6_digest_X6_signTold
set_option maxRecDepth 20000 in
theorem ggX6_digest_X6_villageTold : GoodIn wsX6_digest wsX6_villageTold := goodIn_r _ [52, 4, 22, 23, 24, 12, 25, 7, 26, 27, 28, 29, 30, 31, 5, 32, 6, 53, 54, 55, 56, 57, 58, 59, 60, 8, 61, 62, 63, 33, 34, 35, 36, 64, 65, 66, 67, 68, 69, 70, 71, 72, 73, 74, 75, 76, 77, 78, 79] (by decide +kernel) (by decide +kernel)
set_option maxRecDepth 20000 in
theorem gX6_digest_X6_villageTold : GoodIn wsX6_digest (wsV RX6 136 RX6 yX6_villageTold wsX6_villageTold) := goodIn_app (goodIn_of _ (by decide +kernel)) ggX6_digest_X6_villageTold
theorem dX6_digest_0 : decode cX6_digest 0 = .ok (.aload_n 0, 1) := by decide +kernel
theorem dX6_digest_1 : decode cX6_digest 1 = .ok (.iconst 0, 1) := by decide +kernel
theorem dX6_digest_2 : decode cX6_digest 2 = .ok (.putfield 41, 3) := by decide +kernel
theorem dX6_digest_5 : decode cX6_digest 5 = .ok (.ldc2_w 158, 3) := by decide +kernel
theorem dX6_digest_8 : decode cX6_digest 8 = .ok (.lstore_n 1, 1) := by decide +kernel
theorem dX6_digest_9 : decode cX6_digest 9 = .ok (.iconst 0, 1) := by decide +kernel
theorem dX6_digest_10 : decode cX6_digest 10 = .ok (.istore_n 3, 1) := by decide +kernel
theorem dX6_digest_11 : decode cX6_digest 11 = .ok (.iload_n 3, 1) := by decide +kernel
theorem dX6_digest_12 : decode cX6_digest 12 = .ok (.bipush 7, 2) := by decide +kernel
theorem dX6_digest_14 : decode cX6_digest 14 = .ok (.if_icmp .ge 26, 3) := by decide +kernel
theorem dX6_digest_17 : decode cX6_digest 17 = .ok (.lload_n 1, 1) := by decide +kernel
theorem dX6_digest_18 : decode cX6_digest 18 = .ok (.ldc2_w 160, 3) := by decide +kernel
theorem dX6_digest_21 : decode cX6_digest 21 = .ok (.lmul, 1) := by decide +kernel
theorem dX6_digest_22 : decode cX6_digest 22 = .ok (.aload_n 0, 1) := by decide +kernel
theorem dX6_digest_23 : decode cX6_digest 23 = .ok (.aload_n 0, 1) := by decide +kernel
theorem dX6_digest_24 : decode cX6_digest 24 = .ok (.getfield 28, 3) := by decide +kernel
theorem dX6_digest_27 : decode cX6_digest 27 = .ok (.iload_n 3, 1) := by decide +kernel
theorem dX6_digest_28 : decode cX6_digest 28 = .ok (.invokevirtual 147, 3) := by decide +kernel
theorem dX6_digest_31 : decode cX6_digest 31 = .ok (.i2l, 1) := by decide +kernel
theorem dX6_digest_32 : decode cX6_digest 32 = .ok (.ladd, 1) := by decide +kernel
theorem dX6_digest_33 : decode cX6_digest 33 = .ok (.lstore_n 1, 1) := by decide +kernel
theorem dX6_digest_34 : decode cX6_digest 34 = .ok (.iinc 3 1, 3) := by decide +kernel
theorem dX6_digest_37 : decode cX6_digest 37 = .ok (.goto (-26), 3) := by decide +kernel
theorem dX6_digest_40 : decode cX6_digest 40 = .ok (.iconst 0, 1) := by decide +kernel
theorem dX6_digest_41 : decode cX6_digest 41 = .ok (.istore_n 3, 1) := by decide +kernel
theorem dX6_digest_42 : decode cX6_digest 42 = .ok (.iload_n 3, 1) := by decide +kernel
theorem dX6_digest_43 : decode cX6_digest 43 = .ok (.bipush 12, 2) := by decide +kernel
theorem dX6_digest_45 : decode cX6_digest 45 = .ok (.if_icmp .ge 35, 3) := by decide +kernel
theorem dX6_digest_48 : decode cX6_digest 48 = .ok (.lload_n 1, 1) := by decide +kernel
theorem dX6_digest_49 : decode cX6_digest 49 = .ok (.ldc2_w 160, 3) := by decide +kernel
theorem dX6_digest_52 : decode cX6_digest 52 = .ok (.lmul, 1) := by decide +kernel
theorem dX6_digest_53 : decode cX6_digest 53 = .ok (.aload_n 0, 1) := by decide +kernel
theorem dX6_digest_54 : decode cX6_digest 54 = .ok (.getfield 9, 3) := by decide +kernel
theorem dX6_digest_57 : decode cX6_digest 57 = .ok (.iload_n 3, 1) := by decide +kernel
theorem dX6_digest_58 : decode cX6_digest 58 = .ok (.iaload, 1) := by decide +kernel
theorem dX6_digest_59 : decode cX6_digest 59 = .ok (.i2l, 1) := by decide +kernel
theorem dX6_digest_60 : decode cX6_digest 60 = .ok (.ladd, 1) := by decide +kernel
theorem dX6_digest_61 : decode cX6_digest 61 = .ok (.ldc2_w 160, 3) := by decide +kernel
theorem dX6_digest_64 : decode cX6_digest 64 = .ok (.lmul, 1) := by decide +kernel
theorem dX6_digest_65 : decode cX6_digest 65 = .ok (.aload_n 0, 1) := by decide +kernel
theorem dX6_digest_66 : decode cX6_digest 66 = .ok (.getfield 13, 3) := by decide +kernel
theorem dX6_digest_69 : decode cX6_digest 69 = .ok (.iload_n 3, 1) := by decide +kernel
theorem dX6_digest_70 : decode cX6_digest 70 = .ok (.iaload, 1) := by decide +kernel
theorem dX6_digest_71 : decode cX6_digest 71 = .ok (.i2l, 1) := by decide +kernel
theorem dX6_digest_72 : decode cX6_digest 72 = .ok (.ladd, 1) := by decide +kernel
theorem dX6_digest_73 : decode cX6_digest 73 = .ok (.lstore_n 1, 1) := by decide +kernel
theorem dX6_digest_74 : decode cX6_digest 74 = .ok (.iinc 3 1, 3) := by decide +kernel
theorem dX6_digest_77 : decode cX6_digest 77 = .ok (.goto (-35), 3) := by decide +kernel
theorem dX6_digest_80 : decode cX6_digest 80 = .ok (.iconst 0, 1) := by decide +kernel
theorem dX6_digest_81 : decode cX6_digest 81 = .ok (.istore_n 3, 1) := by decide +kernel
theorem dX6_digest_82 : decode cX6_digest 82 = .ok (.iload_n 3, 1) := by decide +kernel
theorem dX6_digest_83 : decode cX6_digest 83 = .ok (.aload_n 0, 1) := by decide +kernel
theorem dX6_digest_84 : decode cX6_digest 84 = .ok (.getfield 45, 3) := by decide +kernel
theorem dX6_digest_87 : decode cX6_digest 87 = .ok (.if_icmp .ge 39, 3) := by decide +kernel
theorem dX6_digest_90 : decode cX6_digest 90 = .ok (.iconst 0, 1) := by decide +kernel
theorem dX6_digest_91 : decode cX6_digest 91 = .ok (.istore 4, 2) := by decide +kernel
theorem dX6_digest_93 : decode cX6_digest 93 = .ok (.iload 4, 2) := by decide +kernel
theorem dX6_digest_95 : decode cX6_digest 95 = .ok (.iconst 4, 1) := by decide +kernel
theorem dX6_digest_96 : decode cX6_digest 96 = .ok (.if_icmp .ge 24, 3) := by decide +kernel
theorem dX6_digest_99 : decode cX6_digest 99 = .ok (.lload_n 1, 1) := by decide +kernel
theorem dX6_digest_100 : decode cX6_digest 100 = .ok (.ldc2_w 160, 3) := by decide +kernel
theorem dX6_digest_103 : decode cX6_digest 103 = .ok (.lmul, 1) := by decide +kernel
theorem dX6_digest_104 : decode cX6_digest 104 = .ok (.aload_n 0, 1) := by decide +kernel
theorem dX6_digest_105 : decode cX6_digest 105 = .ok (.iload_n 3, 1) := by decide +kernel
theorem dX6_digest_106 : decode cX6_digest 106 = .ok (.iload 4, 2) := by decide +kernel
theorem dX6_digest_108 : decode cX6_digest 108 = .ok (.invokevirtual 127, 3) := by decide +kernel
theorem dX6_digest_111 : decode cX6_digest 111 = .ok (.i2l, 1) := by decide +kernel
theorem dX6_digest_112 : decode cX6_digest 112 = .ok (.ladd, 1) := by decide +kernel
theorem dX6_digest_113 : decode cX6_digest 113 = .ok (.lstore_n 1, 1) := by decide +kernel
theorem dX6_digest_114 : decode cX6_digest 114 = .ok (.iinc 4 1, 3) := by decide +kernel
theorem dX6_digest_117 : decode cX6_digest 117 = .ok (.goto (-24), 3) := by decide +kernel
theorem dX6_digest_120 : decode cX6_digest 120 = .ok (.iinc 3 1, 3) := by decide +kernel
theorem dX6_digest_123 : decode cX6_digest 123 = .ok (.goto (-41), 3) := by decide +kernel
theorem dX6_digest_126 : decode cX6_digest 126 = .ok (.iconst 0, 1) := by decide +kernel
theorem dX6_digest_127 : decode cX6_digest 127 = .ok (.istore_n 3, 1) := by decide +kernel
theorem dX6_digest_128 : decode cX6_digest 128 = .ok (.iload_n 3, 1) := by decide +kernel
theorem dX6_digest_129 : decode cX6_digest 129 = .ok (.aload_n 0, 1) := by decide +kernel
theorem dX6_digest_130 : decode cX6_digest 130 = .ok (.getfield 52, 3) := by decide +kernel
theorem dX6_digest_133 : decode cX6_digest 133 = .ok (.if_icmp .ge 81, 3) := by decide +kernel
theorem dX6_digest_136 : decode cX6_digest 136 = .ok (.iconst 0, 1) := by decide +kernel
theorem dX6_digest_137 : decode cX6_digest 137 = .ok (.istore 4, 2) := by decide +kernel
theorem dX6_digest_139 : decode cX6_digest 139 = .ok (.iload 4, 2) := by decide +kernel
theorem dX6_digest_141 : decode cX6_digest 141 = .ok (.bipush 7, 2) := by decide +kernel
theorem dX6_digest_143 : decode cX6_digest 143 = .ok (.if_icmp .ge 24, 3) := by decide +kernel
theorem dX6_digest_146 : decode cX6_digest 146 = .ok (.lload_n 1, 1) := by decide +kernel
theorem dX6_digest_147 : decode cX6_digest 147 = .ok (.ldc2_w 160, 3) := by decide +kernel
theorem dX6_digest_150 : decode cX6_digest 150 = .ok (.lmul, 1) := by decide +kernel
theorem dX6_digest_151 : decode cX6_digest 151 = .ok (.aload_n 0, 1) := by decide +kernel
theorem dX6_digest_152 : decode cX6_digest 152 = .ok (.iload_n 3, 1) := by decide +kernel
theorem dX6_digest_153 : decode cX6_digest 153 = .ok (.iload 4, 2) := by decide +kernel
theorem dX6_digest_155 : decode cX6_digest 155 = .ok (.invokevirtual 136, 3) := by decide +kernel
theorem dX6_digest_158 : decode cX6_digest 158 = .ok (.i2l, 1) := by decide +kernel
theorem dX6_digest_159 : decode cX6_digest 159 = .ok (.ladd, 1) := by decide +kernel
theorem dX6_digest_160 : decode cX6_digest 160 = .ok (.lstore_n 1, 1) := by decide +kernel
theorem dX6_digest_161 : decode cX6_digest 161 = .ok (.iinc 4 1, 3) := by decide +kernel
theorem dX6_digest_164 : decode cX6_digest 164 = .ok (.goto (-25), 3) := by decide +kernel
theorem dX6_digest_167 : decode cX6_digest 167 = .ok (.iconst 0, 1) := by decide +kernel
theorem dX6_digest_168 : decode cX6_digest 168 = .ok (.istore 4, 2) := by decide +kernel
theorem dX6_digest_170 : decode cX6_digest 170 = .ok (.iload 4, 2) := by decide +kernel
theorem dX6_digest_172 : decode cX6_digest 172 = .ok (.aload_n 0, 1) := by decide +kernel
theorem dX6_digest_173 : decode cX6_digest 173 = .ok (.getfield 45, 3) := by decide +kernel
theorem dX6_digest_176 : decode cX6_digest 176 = .ok (.if_icmp .ge 32, 3) := by decide +kernel
theorem dX6_digest_179 : decode cX6_digest 179 = .ok (.lload_n 1, 1) := by decide +kernel
theorem dX6_digest_180 : decode cX6_digest 180 = .ok (.ldc2_w 160, 3) := by decide +kernel
theorem dX6_digest_183 : decode cX6_digest 183 = .ok (.lmul, 1) := by decide +kernel
theorem dX6_digest_184 : decode cX6_digest 184 = .ok (.aload_n 0, 1) := by decide +kernel
theorem dX6_digest_185 : decode cX6_digest 185 = .ok (.getfield 28, 3) := by decide +kernel
theorem dX6_digest_188 : decode cX6_digest 188 = .ok (.getfield 35, 3) := by decide +kernel
theorem dX6_digest_191 : decode cX6_digest 191 = .ok (.bipush 8, 2) := by decide +kernel
theorem dX6_digest_193 : decode cX6_digest 193 = .ok (.iload_n 3, 1) := by decide +kernel
theorem dX6_digest_194 : decode cX6_digest 194 = .ok (.imul, 1) := by decide +kernel
theorem dX6_digest_195 : decode cX6_digest 195 = .ok (.iload 4, 2) := by decide +kernel
theorem dX6_digest_197 : decode cX6_digest 197 = .ok (.iadd, 1) := by decide +kernel
theorem dX6_digest_198 : decode cX6_digest 198 = .ok (.iaload, 1) := by decide +kernel
theorem dX6_digest_199 : decode cX6_digest 199 = .ok (.i2l, 1) := by decide +kernel
theorem dX6_digest_200 : decode cX6_digest 200 = .ok (.ladd, 1) := by decide +kernel
theorem dX6_digest_201 : decode cX6_digest 201 = .ok (.lstore_n 1, 1) := by decide +kernel
theorem dX6_digest_202 : decode cX6_digest 202 = .ok (.iinc 4 1, 3) := by decide +kernel
theorem dX6_digest_205 : decode cX6_digest 205 = .ok (.goto (-35), 3) := by decide +kernel
theorem dX6_digest_208 : decode cX6_digest 208 = .ok (.iinc 3 1, 3) := by decide +kernel
theorem dX6_digest_211 : decode cX6_digest 211 = .ok (.goto (-83), 3) := by decide +kernel
theorem dX6_digest_214 : decode cX6_digest 214 = .ok (.lload_n 1, 1) := by decide +kernel
theorem dX6_digest_215 : decode cX6_digest 215 = .ok (.lreturn, 1) := by decide +kernel
end
section
/-! ===== the reference: what its methods compute ===== -/
/-- is x a number below n (n small) -/
def inB (x : Int32) (n : Nat) : Bool := decide (0 ≤ x ∧ x < nI n)
theorem inB_p {x : Int32} {n : Nat} (hn : n ≤ 1000) : (0 ≤ x ∧ x ≤ nI n - 1) ↔ (0 ≤ x ∧ x < nI n) := by
  have e : x ≤ nI n - 1 ↔ x < nI n := by
    cases n with
    | zero =>
      rw [Int32.le_iff_toInt_le, Int32.lt_iff_toInt_lt]
      have h1 : (nI 0 - 1).toInt = -1 := by decide
      have h2 : (nI 0).toInt = 0 := by decide
      rw [h1, h2]; omega
    | succ m =>
      rw [nI_pred, Int32.le_iff_toInt_le, Int32.lt_iff_toInt_lt, nI_toInt (by omega), nI_toInt (by omega)]; omega
  rw [e]
theorem inB_of {x : Int32} {n : Nat} (h : inB x n = true) (hn : n < 2 ^ 31) : ∃ j, j < n ∧ x = nI j := by
  have h1 := of_decide_eq_true h
  have h2 : vp_in x n := vp_in_iff.mpr ⟨by have := Int32.le_iff_toInt_le.mp h1.1; simpa using this, by have := Int32.lt_iff_toInt_lt.mp h1.2; rwa [nI_toInt hn] at this⟩
  exact vp_in_of h2 hn
theorem inB_nI {j n : Nat} (h : j < n) (hn : n < 2 ^ 31) : inB (nI j) n = true := decide_eq_true ⟨nI_pos' (by omega), nI_lt h hn⟩
/-- the weights of rain less those of dry, at a village's row of 8 -/
def leanN (sd wt : Nat → Int32) (v : Nat) : Nat → Int32 := sumN (fun j => if sd j = 1 then wt (8 * v + j) else -wt (8 * v + j))
/-- a village's row of weights changed, below n -/
def rowN (F : Nat → Int32 → Int32) (wt : Nat → Int32) (v n : Nat) : Nat → Int32 := fun k => if k / 8 = v ∧ k % 8 < n then F (k % 8) (wt k) else wt k
theorem rowN_0 (F : Nat → Int32 → Int32) (wt : Nat → Int32) (v : Nat) : rowN F wt v 0 = wt := funext fun k => if_neg (fun h => Nat.not_lt_zero _ h.2)
theorem rowN_at (F : Nat → Int32 → Int32) (wt : Nat → Int32) (v n : Nat) (hn : n < 8) : rowN F wt v n (8 * v + n) = wt (8 * v + n) := if_neg (fun h => by omega)
theorem rowN_s {F : Nat → Int32 → Int32} {wt : Nat → Int32} {v n : Nat} {x : Int32} (hn : n < 8) (h : x = F n (wt (8 * v + n))) : upd (rowN F wt v n) (8 * v + n) x = rowN F wt v (n + 1) := by
  funext k
  unfold upd rowN
  by_cases h1 : k = 8 * v + n
  · subst h1
    have e1 : (8 * v + n) / 8 = v := by omega
    have e2 : (8 * v + n) % 8 = n := by omega
    simp [e1, e2, h]
  · have : (k / 8 = v ∧ k % 8 < n) ↔ (k / 8 = v ∧ k % 8 < n + 1) := by omega
    simp [h1, this]
def mlearn1 (t sd w : Int32) : Int32 := if sd = t then (if w + 1 < 100 then w + 1 else 100) else w - (w + 3) / 4
def msell1 (row co : Int32) : Int32 := if row ≤ 0 then (if 0 < co - 1 then co - 1 else 0) else co + (if row < 5 then row else 5)
def mhit (lean w : Int32) : Bool := decide (0 < lean) == decide (w = 1)
theorem mIx {d : Nat} (h : d < 2 ^ 30) : nI d - nI d / 12 * 12 = nI (d % 12) := pk_rem (d := 12) (by omega) (by decide) (by decide)
theorem mIp {x : Int32} {d : Nat} (hx : x = nI d) (h : d < 2 ^ 30) : x - x / 12 * 12 = nI (d % 12) := by rw [hx]; exact mIx h
theorem mBf {x y z : Int32} {d : Nat} (hx : x = nI (d % 12)) (hy : y = x + 12) (hz : z = y - 1) : z - z / 12 * 12 = nI ((d + 11) % 12) := by
  have e : z = nI (d % 12 + 11) := by
    rw [hz, hy, hx]
    show nI (d % 12) + nI 12 - 1 = _
    rw [nI_add, show d % 12 + 12 = (d % 12 + 11) + 1 from rfl, nI_pred]
  rw [mIp e (by omega)]
  congr 1
  omega
theorem nat_add {x y : Int32} {a b : Nat} (hx : x = nI a) (hy : y = nI b) : x + y = nI (a + b) := by rw [hx, hy, nI_add]
theorem nat_mul {x y : Int32} {a b : Nat} (hx : x = nI a) (hy : y = nI b) : x * y = nI (a * b) := by rw [hx, hy, pk_mul]
theorem rgt1 {S : Bool} {r : Int32} (h : r = 1) (c : b2i S = 1) : (1 : Int32) = b2i (S == decide (r = 1)) := by rw [decide_eq_true h, b2i_1.mp c]; rfl
theorem rgt2 {S : Bool} {r : Int32} (h : r = 1) (c : ¬ b2i S = 1) : (0 : Int32) = b2i (S == decide (r = 1)) := by
  rw [decide_eq_true h]; cases S
  · rfl
  · exact absurd rfl c
theorem rgt3 {S : Bool} {r : Int32} (h : ¬ r = 1) (c : b2i S = 0) : (1 : Int32) = b2i (S == decide (r = 1)) := by rw [decide_eq_false h, b2i_0.mp c]; rfl
theorem rgt4 {S : Bool} {r : Int32} (h : ¬ r = 1) (c : ¬ b2i S = 0) : (0 : Int32) = b2i (S == decide (r = 1)) := by
  rw [decide_eq_false h]; cases S
  · exact absurd rfl c
  · rfl
theorem cpy_map (f g : Nat → Int32) (n : Nat) : va_cpy f g 0 0 n = mapN (fun j _ => f j) g n := by
  funext k
  unfold va_cpy mapN
  simp
/-- System.arraycopy of a whole int row onto another one of its length -/
theorem pg_copyi {p : Program} {l : Launch} {e : Env} {R : Room} {s : State} {m : MethodId} {args : Array Value} {below : List Frame} {meth : Method} {c : Code} {H : Heap} {locs : List Loc} {cells slots : Nat} {Q : State → Prop} {cc : ByteArray} {pc : Nat} {ls : Array Slot} {rest : List Value} {g : GG} {L : List Nat} {f : Nat → va_E} {a : Nat} {A : Nat → Prop} {H0 : Heap}
    (hx : p.tables.exec = Jvm.exec) (hb : c.code = cc) (hml : c.maxLocals = ls.size) {own : String} {index : Nat} (hown : s.vm.findClass own = some m.cls) (hlink : (Cond.methodLink own index arraycopyName).before args s = true) (hnat : (Cond.native arraycopyName).before args s = true) (hstat : (Cond.static arraycopyName).before args s = true) (hini : (Cond.initialized "java/lang/System").before args s = true)
    (hK : KK g s) (hP : PP g L f H) (hN : L.Nodup) (hA : ∀ a ∈ L, A a) (hS : va_S A H0 H locs) {a0 k : Nat} {h0 h1 : Nat → Int32} (hL0 : a0 ∈ L) (hf0 : f a0 = eI g k h0) (hL : a ∈ L) (hf : f a = eI g k h1) (hk : k < 2 ^ 31) {z1 z2 n : Int32} (e1 : z1 = nI 0) (e2 : z2 = nI 0) (en : n = nI k)
    (hframes : 1 ≤ R.frames) (hlocals : (rest.map fun v => v.category).sum + (nativeFrameWords "java/lang/System" "arraycopy" 5 + 11) ≤ R.locals) (hdg : decode cc pc = .ok (.invokestatic index, 3))
    (kk : ∀ (H1 : Heap) (locs1 : List Loc), PP g L (va_up f a (eI g k (mapN (fun j _ => h0 j) h1 k))) H1 → va_S A H0 H1 locs1 → W p l e R s m args below meth c H1 locs1 cells slots Q (F0 m (pc + 3) ls rest)) : W p l e R s m args below meth c H locs cells slots Q (F0 m pc ls (.int n :: .int z2 :: .ref a :: .int z1 :: .ref a0 :: rest)) := by
  subst e1; subst e2; subst en
  obtain ⟨q0, h0k⟩ := va_pl_get (X := []) (f := f) hL0
  rw [hf0] at h0k
  obtain ⟨q1, h1k⟩ := va_pl_get (X := []) (f := f) hL
  have h1' := h1k
  rw [hf] at h1'
  have e0 : (nI 0).toNatClampNeg = 0 := rfl
  refine va_copyi hx hb hml hown hlink hnat hstat hini hK.1 hP (DD_of hN hA) hS q0 q1 0 0 (ty := .int) h0k h1' rfl rfl rfl (by decide) (by decide) (nI_pos hk) (by rw [nI_clamp hk, e0]; omega) (by rw [nI_clamp hk, e0]; omega) (fun i hi => rfl) hframes hlocals hdg (fun H1 locs1 hP1 _ hS1 => kk H1 locs1 ?_ hS1)
  rw [nI_clamp hk, e0, cpy_map] at hP1
  exact PP.set hN hL h1k hP1
/-- a contract of a method that writes and hands back a reference that is known -/
abbrev RF (l : Launch) (g : GG) (y : MethodName) (ws : List Cond) (fr lo : Nat) (L : List Nat) (f : Nat → va_E) (sz : Nat) (As : List Value) (x : Nat) (post : (Nat → va_E) → Prop) : Prop := Met l y ws ({ frames := fr, cells := 0, slots := 0, locals := lo }) (va_Pc As (wp_ g L f sz)) (va_Qr post (fun f2 a t => a = x ∧ PP g L f2 t.heap) (AA L sz)) 0 0 (AA L sz)
theorem RF.start {l : Launch} {g : GG} {L : List Nat} {f : Nat → va_E} {y : MethodName} {ws ws' : List Cond} {fr lo : Nat} {As : List Value} {cc : ByteArray} {maxL sz : Nat} {ret : FieldType} {x : Nat} {post : (Nat → va_E) → Prop} (hy : plainFor y = true) (hw : ws = Cond.code y cc maxL (some ret) :: ws') (hn : (lg_sl As).length ≤ maxL) (hrt : (∃ n, ret = .object n) ∨ ∃ t, ret = .array t)
    (body : ∀ (p : Program) (e : Env) (s : State) (m : MethodId) (args : Array Value) (below : List Frame) (meth : Method) (c : Code) (Q : State → Prop) (ls : Array Slot) (A : Nat → Prop), p.tables.exec = Jvm.exec → c.code = cc → c.maxLocals = maxL → (∀ w ∈ ws, w.before args s = true) → s.vm.findClass y.cls = some m.cls → (∀ a ∈ L, A a) → (∀ q, s.heap.size ≤ q → A q) → va_S A s.heap s.heap [] → PP g L f s.heap → KK g s → lv_has ls maxL (lv_args 0 As) →
      (∀ (f2 : Nat → va_E) (H : Heap) (locs : List Loc) (pc : Nat) (ls : Array Slot), post f2 → PP g L f2 H → va_S A s.heap H locs → decode cc pc = .ok (.areturn, 1) → W p l e ({ frames := fr, cells := 0, slots := 0, locals := lo } : Room) s m args below meth c H locs 0 0 Q (F0 m pc ls [.ref x])) →
      W p l e ({ frames := fr, cells := 0, slots := 0, locals := lo } : Room) s m args below meth c s.heap [] 0 0 Q (F0 m 0 ls [])) : RF l g y ws fr lo L f sz As x post := by
  refine ofWF (cc := cc) (maxL := maxL) (ret := some ret) hy hw ?_
  intro p e s m args below meth c s₁ B hml hv
  obtain ⟨rfl, hsz, hP, hK⟩ := hv
  subst hsz
  have hl := lv_entry As (n := maxL) hn
  rw [lg_entry_eq]
  have hlk := B.notSynchronized
  exact body p e s m _ below meth c _ _ (AA L s.heap.size) B.exec B.bytes hml (atoms_spec (ws := ws) B.pre) (findClass_of_methodNamed B.named) (fun _ h => Or.inl h) (fun _ h => Or.inr h) va_S.rf hP hK hl (fun f2 H locs pc ls hp hP2 hS hd => W.aret B.exec B.bytes B.returns hrt (Or.inr ⟨_, rfl⟩) (fun t ht hW => ⟨⟨f2, x, rfl, hp, rfl, by rw [ht]; exact hP2⟩, hS.F ht⟩) hS.2.2 hd hlk)
section PR
variable {p : Program} {l : Launch} {e : Env} {R : Room} {s : State} {m : MethodId} {args : Array Value} {below : List Frame} {meth : Method} {c : Code} {H : Heap} {locs : List Loc} {cells slots : Nat} {Q : State → Prop}
variable {cc : ByteArray} {pc : Nat} {ls : Array Slot} {rest st0 : List Value} {g : GG} {L : List Nat} {f : Nat → va_E} {b : Nat} {A : Nat → Prop} {H0 : Heap} {Ts ws : List Cond} {own C : String} {y : MethodName} {bytes : ByteArray} {maxL nL n index fr lo : Nat} {ret : Option FieldType} {As : List Value}
theorem rf_V (S : CallFix p m c cc nL s args Ts own) {post : (Nat → va_E) → Prop} {x : Nat} (hM : RF l g y ws fr lo L f H.size (.ref b :: As) x post) (cw : CallW R s args own C index y bytes maxL ret ws ({ frames := fr, cells := 0, slots := 0, locals := lo }) 0 0 n) (hK : KK g s) (hP : PP g L f H) (hA : ∀ a ∈ L, A a) (hA2 : ∀ q, H0.size ≤ q → A q) (hS : va_S A H0 H locs) (hL : b ∈ L) {ci : Nat} {fs : List Value} {T : u_T} {N : Nat} (hf : f b = .inr (ci, fs)) (hc : vwCl[ci]? = some (C, T, N))
    (hn : As.length = n) (hsize : ls.size = nL) (hstack : st0 = As.reverse ++ .ref b :: rest) (hW : (rest.map fun v => v.category).sum ≤ 8) (hdg : decode cc pc = .ok (.invokevirtual index, 3)) (hcs : cells ≤ R.cells ∧ slots ≤ R.slots)
    (kk : ∀ (f2 : Nat → va_E) (H1 : Heap) (locs1 : List Loc), post f2 → PP g L f2 H1 → va_S A H0 H1 locs1 → W p l e R s m args below meth c H1 locs1 cells slots Q (F0 m (pc + 3) ls (.ref x :: rest))) : W p l e R s m args below meth c H locs cells slots Q (F0 m pc ls st0) :=
  va_callr (va_runV S hM cw ⟨wp_blind, pg_recv hK hP hL hf hc, fun U hU hW => ⟨rfl, by rw [hU], by rw [hU]; exact hP, KK.warm hW hK⟩⟩ rfl hn hsize hstack (lv_room hW) hdg hcs) hS (AA_old hA) (AA_free hA hA2 hS) (fun f2 ra t H1 locs1 ht _ hw hB _ _ hS1 => by obtain ⟨rfl, hB⟩ := hB; exact kk f2 H1 locs1 hw (by rw [← ht]; exact hB) hS1)
end PR
end
