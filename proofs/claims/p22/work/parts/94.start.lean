/-! ===== how it begins ===== -/
theorem nestW_in : ∀ w ∈ nestW, w ∈ lw_tbl := by decide +kernel
theorem upn {f : Nat → va_E} {x a : Nat} {e : va_E} {L : List Nat} (hx : x ∈ L) (ha : a ∉ L) : va_up f a e x = f x := va_up_ne _ _ (fun z => ha (by rw [← z]; exact hx))
theorem st_arr {args : Array Value} {s : State} {ty : FieldType} (h : (Cond.arrayClass ty).before args s = true) : ∃ c : ClassId, ArrOfT s c ty ∧ s.vm.findClass ("[" ++ ty.toString) = some c := by
  obtain ⟨c, k, comp, h1, h2, h3⟩ := Cond.arrayClass_spec h
  exact ⟨c, fun n z => ⟨fun k h => (by cases h), k, h2, comp, h3⟩, h1⟩
theorem st_ref {args : Array Value} {s : State} {n : String} (h : (Cond.arrayOver (.object n)).before args s = true) : ∃ c : ClassId, ArrOfT s c (.object n) ∧ va_RA s c (.object n) := by
  obtain ⟨comp, c, k, h1, h2, h3, h4, h5⟩ := Cond.arrayOver_spec h
  exact ⟨c, fun m z => ⟨fun k h => (by cases h), k, h3, comp, h4⟩, k, comp, h3, h4, h1, h5⟩
theorem st_rr {args : Array Value} {s : State} (h : (Cond.arrayOver (.array .int)).before args s = true) : ∃ c : ClassId, ArrOfT s c (.array .int) ∧ va_RA s c (.array .int) := by
  obtain ⟨comp, c, k, h1, h2, h3, h4, h5⟩ := arrayOverA_spec h
  exact ⟨c, fun m z => ⟨fun k h => (by cases h), k, h3, comp, h4⟩, h5⟩
set_option maxRecDepth 20000 in
theorem st_K {args : Array Value} {s : State} (hts : ∀ w ∈ lw_tbl, w.before args s = true) : ∃ g : GG, KK g s := by
  obtain ⟨c0, i0, hKn0⟩ := u_known (C := RJx4a65c) (T := TJx4a65c) (N := 3) (n := 3) hts (by decide +kernel) (hts (.instantiable RJx4a65c 3) (by decide +kernel))
  obtain ⟨c1, i1, hKn1⟩ := u_known (C := RX0) (T := TX0) (N := 2) (n := 2) hts (by decide +kernel) (hts (.instantiable RX0 2) (by decide +kernel))
  obtain ⟨c2, i2, hKn2⟩ := u_known (C := RX1) (T := TX1) (N := 5) (n := 5) hts (by decide +kernel) (hts (.instantiable RX1 5) (by decide +kernel))
  obtain ⟨c3, i3, hKn3⟩ := u_known (C := RX2) (T := TX2) (N := 2) (n := 2) hts (by decide +kernel) (hts (.instantiable RX2 2) (by decide +kernel))
  obtain ⟨c4, i4, hKn4⟩ := u_known (C := RX3) (T := TX3) (N := 2) (n := 2) hts (by decide +kernel) (hts (.instantiable RX3 2) (by decide +kernel))
  obtain ⟨c5, i5, hKn5⟩ := u_known (C := RX4) (T := TX4) (N := 6) (n := 6) hts (by decide +kernel) (hts (.instantiable RX4 6) (by decide +kernel))
  obtain ⟨c6, i6, hKn6⟩ := u_known (C := RX5) (T := TX5) (N := 6) (n := 6) hts (by decide +kernel) (hts (.instantiable RX5 6) (by decide +kernel))
  obtain ⟨dC, dI, hKc⟩ : ∃ (dC : Nat → ClassId) (dI : Nat → Nat → Nat), ∀ (k : Nat) (q : vw_C), vwCl[k]? = some q → u_Kn s q.1 q.2.1 q.2.2 (dC k) (dI k) := by
    refine ⟨fun k => match k with | 0 => c0 | 1 => c1 | 2 => c2 | 3 => c3 | 4 => c4 | 5 => c5 | _ => c6, fun k => match k with | 0 => i0 | 1 => i1 | 2 => i2 | 3 => i3 | 4 => i4 | 5 => i5 | _ => i6, ?_⟩
    intro k q hq
    match k, hq with
    | 0, hq => cases hq; exact hKn0
    | 1, hq => cases hq; exact hKn1
    | 2, hq => cases hq; exact hKn2
    | 3, hq => cases hq; exact hKn3
    | 4, hq => cases hq; exact hKn4
    | 5, hq => cases hq; exact hKn5
    | 6, hq => cases hq; exact hKn6
    | k + 7, hq => simp [vwCl] at hq
  obtain ⟨a0, b0, e0⟩ := st_arr (hts (.arrayClass .int) (by decide +kernel))
  obtain ⟨a1, b1, e1⟩ := st_arr (hts (.arrayClass .boolean) (by decide +kernel))
  obtain ⟨a2, b2, e2⟩ := st_ref (hts (.arrayOver (.object "BarometerLeague$Village")) (by decide +kernel))
  obtain ⟨a3, b3, e3⟩ := st_ref (hts (.arrayOver (.object "java/lang/Object")) (by decide +kernel))
  obtain ⟨a4, b4, e4⟩ := st_rr (hts (.arrayOver (.array .int)) (by decide +kernel))
  refine ⟨((dC, dI), (a0, a1, a2, a3, a4)), ⟨hKc, fun k q hq => ?_⟩, fun w hw => nw_of (List.all_eq_true.mp nestW_ok w hw) (hts w (nestW_in w hw)), va_AO.of (hts (.arrayOver (.object "BarometerLeague$Village")) (by decide +kernel)), va_AO.of (hts (.arrayOver (.object "java/lang/Object")) (by decide +kernel)), (show va_AOA .int s from hts (.arrayOver (.array .int)) (by decide +kernel))⟩
  match k, hq with
  | 0, hq => cases hq; exact ⟨b0, e0⟩
  | 1, hq => cases hq; exact ⟨b1, e1⟩
  | 2, hq => cases hq; exact ⟨b2, e2⟩
  | 3, hq => cases hq; exact ⟨b3, e3⟩
  | 4, hq => cases hq; exact ⟨b4, e4⟩
  | k + 5, hq => simp at hq
theorem st_A {s : State} : ∀ a : Nat, a < s.heap.size → ¬ AA [] s.heap.size a := fun a h z => z.elim (fun h9 => absurd h9 List.not_mem_nil) (fun h9 => by omega)
theorem st_S1 {args : Array Value} {s : State} {own tx : String} {k : Nat} (h1 : (Cond.stringRef own k tx).before args s = true) (h2 : (Cond.exactly (Term.string own k) "java/lang/String").before args s = true) : ∃ sa, vk_R own k tx sa s := by
  obtain ⟨a, _, _, _, ha, _⟩ := Cond.exactly_spec h2
  exact ⟨a, vk_R.of h1 ha⟩
set_option maxRecDepth 20000 in
theorem st_S {args : Array Value} {s : State} (hts : ∀ w ∈ lw_tbl, w.before args s = true) (hgv : (Jvm.Cond.and given_1 narrow_1).before args s = true) : SS s := by
  have hs := flat_of_before _ hgv
  have t0 : ∃ sa, vk_R "BarometerLeague" 251 "there is nothing of this number to tell" sa s := st_S1 (hts (.stringRef "BarometerLeague" 251 "there is nothing of this number to tell") (by decide +kernel)) (hs (.exactly (.string "BarometerLeague" 251) "java/lang/String") (by decide +kernel))
  have t1 : ∃ sa, vk_R "BarometerLeague" 247 "there is no such sign" sa s := st_S1 (hts (.stringRef "BarometerLeague" 247 "there is no such sign") (by decide +kernel)) (hs (.exactly (.string "BarometerLeague" 247) "java/lang/String") (by decide +kernel))
  have t2 : ∃ sa, vk_R "BarometerLeague$VillageRow" 30 "there is no such village" sa s := st_S1 (hts (.stringRef "BarometerLeague$VillageRow" 30 "there is no such village") (by decide +kernel)) (hs (.exactly (.string "BarometerLeague$VillageRow" 30) "java/lang/String") (by decide +kernel))
  have t3 : ∃ sa, vk_R "BarometerLeague" 245 "the day of the table is 0 to 11" sa s := st_S1 (hts (.stringRef "BarometerLeague" 245 "the day of the table is 0 to 11") (by decide +kernel)) (hs (.exactly (.string "BarometerLeague" 245) "java/lang/String") (by decide +kernel))
  have t4 : ∃ sa, vk_R "BarometerLeague" 44 "the glass stands at 0 to 60" sa s := st_S1 (hts (.stringRef "BarometerLeague" 44 "the glass stands at 0 to 60") (by decide +kernel)) (hs (.exactly (.string "BarometerLeague" 44) "java/lang/String") (by decide +kernel))
  have t5 : ∃ sa, vk_R "BarometerLeague" 65 "the kinds of signs are 0 to 5" sa s := st_S1 (hts (.stringRef "BarometerLeague" 65 "the kinds of signs are 0 to 5") (by decide +kernel)) (hs (.exactly (.string "BarometerLeague" 65) "java/lang/String") (by decide +kernel))
  have t6 : ∃ sa, vk_R "BarometerLeague" 67 "the number of a sign is 0 to 60" sa s := st_S1 (hts (.stringRef "BarometerLeague" 67 "the number of a sign is 0 to 60") (by decide +kernel)) (hs (.exactly (.string "BarometerLeague" 67) "java/lang/String") (by decide +kernel))
  have t7 : ∃ sa, vk_R "BarometerLeague" 75 "there are 8 signs" sa s := st_S1 (hts (.stringRef "BarometerLeague" 75 "there are 8 signs") (by decide +kernel)) (hs (.exactly (.string "BarometerLeague" 75) "java/lang/String") (by decide +kernel))
  have t8 : ∃ sa, vk_R "BarometerLeague" 90 "there are 6 villages" sa s := st_S1 (hts (.stringRef "BarometerLeague" 90 "there are 6 villages") (by decide +kernel)) (hs (.exactly (.string "BarometerLeague" 90) "java/lang/String") (by decide +kernel))
  have t9 : ∃ sa, vk_R "BarometerLeague" 103 "a weight is 0 to 100" sa s := st_S1 (hts (.stringRef "BarometerLeague" 103 "a weight is 0 to 100") (by decide +kernel)) (hs (.exactly (.string "BarometerLeague" 103) "java/lang/String") (by decide +kernel))
  have t10 : ∃ sa, vk_R "BarometerLeague" 249 "both villages are the same" sa s := st_S1 (hts (.stringRef "BarometerLeague" 249 "both villages are the same") (by decide +kernel)) (hs (.exactly (.string "BarometerLeague" 249) "java/lang/String") (by decide +kernel))
  have t11 : ∃ sa, vk_R "BarometerLeague" 120 "the village has fewer than 5 coins" sa s := st_S1 (hts (.stringRef "BarometerLeague" 120 "the village has fewer than 5 coins") (by decide +kernel)) (hs (.exactly (.string "BarometerLeague" 120) "java/lang/String") (by decide +kernel))
  have t12 : ∃ sa, vk_R "BarometerLeague" 126 "the day is 0 to 999" sa s := st_S1 (hts (.stringRef "BarometerLeague" 126 "the day is 0 to 999") (by decide +kernel)) (hs (.exactly (.string "BarometerLeague" 126) "java/lang/String") (by decide +kernel))
  have t13 : ∃ sa, vk_R "BarometerLeague" 182 "there is no such place" sa s := st_S1 (hts (.stringRef "BarometerLeague" 182 "there is no such place") (by decide +kernel)) (hs (.exactly (.string "BarometerLeague" 182) "java/lang/String") (by decide +kernel))
  have t14 : ∃ sa, vk_R "BarometerLeague" 253 "the number of days is out of range" sa s := st_S1 (hts (.stringRef "BarometerLeague" 253 "the number of days is out of range") (by decide +kernel)) (hs (.exactly (.string "BarometerLeague" 253) "java/lang/String") (by decide +kernel))
  intro q hq
  unfold strW at hq
  simp only [List.mem_cons, List.not_mem_nil, or_false] at hq
  rcases hq with rfl | rfl | rfl | rfl | rfl | rfl | rfl | rfl | rfl | rfl | rfl | rfl | rfl | rfl | rfl
  · exact t0
  · exact t1
  · exact t2
  · exact t3
  · exact t4
  · exact t5
  · exact t6
  · exact t7
  · exact t8
  · exact t9
  · exact t10
  · exact t11
  · exact t12
  · exact t13
  · exact t14
set_option maxRecDepth 20000 in
theorem st_Z {args : Array Value} {s : State} (hts : ∀ w ∈ lw_tbl, w.before args s = true) (hgv : (Jvm.Cond.and given_1 narrow_1).before args s = true) : ZZ [] s.heap.size s := by
  have hs := flat_of_before _ hgv
  exact ⟨vx_Zqof (hts (.laysStatic "java/lang/Throwable" "UNASSIGNED_STACK" "[Ljava/lang/StackTraceElement;") (by decide +kernel)) (hts (.initialized "java/lang/Throwable") (by decide +kernel)) (hs (.isRef (.static "java/lang/Throwable" "UNASSIGNED_STACK" "[Ljava/lang/StackTraceElement;")) (by decide +kernel)) st_A, vx_Zqof (hts (.laysStatic "java/lang/Throwable" "SUPPRESSED_SENTINEL" "Ljava/util/List;") (by decide +kernel)) (hts (.initialized "java/lang/Throwable") (by decide +kernel)) (hs (.isRef (.static "java/lang/Throwable" "SUPPRESSED_SENTINEL" "Ljava/util/List;")) (by decide +kernel)) st_A, st_S hts hgv⟩
theorem st_len {args : Array Value} {s : State} {tm : Term} {z : Int32} (h : (Cond.eq (.length tm) (.int z)).before args s = true) : (Term.length tm).eval args s none [] s = some (.int z) := by
  cases hv : (Term.length tm).eval args s none [] s with
  | none => simp [Cond.before, Cond.holds, Cond.value, hv] at h
  | some w =>
    have hz : (Term.int z).eval args s none [] s = some (.int z) := rfl
    simp only [Cond.before, Cond.holds, Cond.value, hv, hz] at h
    cases w <;> simp_all
set_option maxRecDepth 20000 in
theorem st_D {args : Array Value} {s : State} (hts : ∀ w ∈ lw_tbl, w.before args s = true) (hgv : (Jvm.Cond.and given_1 narrow_1).before args s = true) : ∃ t, DS t [] s.heap.size s := by
  have hs := flat_of_before _ hgv
  obtain ⟨t, h1, h2⟩ := va_Tof (args := args) (s := s) (tm := .static "java/util/ArrayList" "DEFAULTCAPACITY_EMPTY_ELEMENTDATA" "[Ljava/lang/Object;") (ty := .object "java/lang/Object") (N := 0) (f := fun _ => .null) (A := AA [] s.heap.size) (by decide) (hs (.arrayOf (.static "java/util/ArrayList" "DEFAULTCAPACITY_EMPTY_ELEMENTDATA" "[Ljava/lang/Object;") (.object "java/lang/Object")) (by decide +kernel)) (st_len (z := 0) (hs (.eq (.length (.static "java/util/ArrayList" "DEFAULTCAPACITY_EMPTY_ELEMENTDATA" "[Ljava/lang/Object;")) (.int 0)) (by decide +kernel))) (fun j hj => absurd hj (Nat.not_lt_zero j)) st_A
  exact ⟨t, va_Zof (hts (.laysStatic "java/util/ArrayList" "DEFAULTCAPACITY_EMPTY_ELEMENTDATA" "[Ljava/lang/Object;") (by decide +kernel)) (hts (.initialized "java/util/ArrayList") (by decide +kernel)) h1 st_A, h2⟩
