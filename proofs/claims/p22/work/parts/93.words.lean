/-! ===== the law's words are the tables' ===== -/
theorem fa_1 {w : Cond} {L : List Cond} (h : w ∈ L) : ∀ x ∈ [w], x ∈ L := fun x hx => by rw [List.mem_singleton.mp hx]; exact h
set_option maxRecDepth 20000 in
theorem inR_1 : ∀ w ∈ wsL_law0_r1, w ∈ lw_tbl := by decide +kernel
set_option maxRecDepth 20000 in
theorem inR_2 : ∀ w ∈ wsL_law0_r2, w ∈ lw_tbl := by decide +kernel
set_option maxRecDepth 20000 in
theorem inR_3 : ∀ w ∈ wsL_law0_r3, w ∈ lw_tbl := by decide +kernel
set_option maxRecDepth 20000 in
theorem inR_4 : ∀ w ∈ wsL_law0_r4, w ∈ lw_tbl := by decide +kernel
set_option maxRecDepth 20000 in
theorem inR_5_0 : ∀ w ∈ ([Cond.methodLink RL 18 yL_below, Cond.static yL_below, Cond.code yL_below cL_below 2 (some .int), Cond.constant RL 7 (2147483647), Cond.methodLink RL 79 yL_act, Cond.static yL_act] : List Cond), w ∈ lw_tbl := by decide +kernel
set_option maxRecDepth 20000 in
theorem inR_5_1 : ∀ w ∈ ([Cond.codeWith yL_act cL_act 10 (some .boolean) [(600, 634, 635, 67)]] : List Cond), w ∈ lw_tbl := fa_1 (show Cond.codeWith yL_act cL_act 10 (some .boolean) [(600, 634, 635, 67)] ∈ k2_sels lw_privs ++ (tables_1_1 ++ (tables_1_2 ++ tables_1_3)) from List.mem_append_right _ (List.mem_append_right _ (List.mem_append_right _ (List.mem_of_getElem? (i := 26) rfl))))
set_option maxRecDepth 20000 in
theorem inR_5_2 : ∀ w ∈ ([Cond.classLink RL 67 "java/lang/IllegalStateException", Cond.fieldLink RL 24 "BarometerLeagueLaw$Sim" "signs" "[[I", Cond.fieldLink RL 28 "BarometerLeagueLaw$Sim" "villages" "[[I", Cond.fieldLink RL 31 "BarometerLeagueLaw$Sim" "glass" "[I", Cond.fieldLink RL 53 "BarometerLeagueLaw$Sim" "weights" "[[I", Cond.methodLink RL 35 yX4_setGlass, Cond.instanceMethod yX4_setGlass, Cond.selects RX4 yX4_setGlass yX4_setGlass, Cond.code yX4_setGlass cX4_setGlass 4 (some .int), Cond.classLink RX4 42 "java/lang/IllegalArgumentException", Cond.initialized "java/lang/IllegalArgumentException", Cond.methodLink RX4 39 yX4_requireTableDay, Cond.static yX4_requireTableDay, Cond.code yX4_requireTableDay cX4_requireTableDay 1 none, Cond.classLink RX4 180 "java/lang/IndexOutOfBoundsException", Cond.initialized "java/lang/IndexOutOfBoundsException", Cond.methodLink RX4 49 yX3_glassOn] : List Cond), w ∈ lw_tbl := by decide +kernel
set_option maxRecDepth 20000 in
theorem inR_5 : ∀ w ∈ wsL_law0_r5, w ∈ lw_tbl := List.forall_mem_append.mpr ⟨inR_5_0, List.forall_mem_append.mpr ⟨inR_5_1, inR_5_2⟩⟩
set_option maxRecDepth 20000 in
theorem inR_6 : ∀ w ∈ wsL_law0_r6, w ∈ lw_tbl := by decide +kernel
set_option maxRecDepth 20000 in
theorem inR_7 : ∀ w ∈ wsL_law0_r7, w ∈ lw_tbl := by decide +kernel
set_option maxRecDepth 20000 in
theorem inR_8 : ∀ w ∈ wsL_law0_r8, w ∈ lw_tbl := by decide +kernel
set_option maxRecDepth 20000 in
theorem inR_9 : ∀ w ∈ wsL_law0_r9, w ∈ lw_tbl := by decide +kernel
set_option maxRecDepth 20000 in
theorem inR_10 : ∀ w ∈ wsL_law0_r10, w ∈ lw_tbl := by decide +kernel
set_option maxRecDepth 20000 in
theorem inR_11 : ∀ w ∈ wsL_law0_r11, w ∈ lw_tbl := by decide +kernel
set_option maxRecDepth 20000 in
theorem inR_12 : ∀ w ∈ wsL_law0_r12, w ∈ lw_tbl := by decide +kernel
set_option maxRecDepth 20000 in
theorem inR_13 : ∀ w ∈ wsL_law0_r13, w ∈ lw_tbl := by decide +kernel
set_option maxRecDepth 20000 in
theorem inR_14 : ∀ w ∈ wsL_law0_r14, w ∈ lw_tbl := by decide +kernel
set_option maxRecDepth 20000 in
theorem inR_15 : ∀ w ∈ wsL_law0_r15, w ∈ lw_tbl := by decide +kernel
set_option maxRecDepth 20000 in
theorem inR_16 : ∀ w ∈ wsL_law0_r16, w ∈ lw_tbl := by decide +kernel
set_option maxRecDepth 20000 in
theorem inR_17 : ∀ w ∈ wsL_law0_r17, w ∈ lw_tbl := by decide +kernel
set_option maxRecDepth 20000 in
theorem inR_18 : ∀ w ∈ wsL_law0_r18, w ∈ lw_tbl := by decide +kernel
set_option maxRecDepth 20000 in
theorem inR_19 : ∀ w ∈ wsL_law0_r19, w ∈ lw_tbl := by decide +kernel
set_option maxRecDepth 20000 in
theorem inR_20_0 : ∀ w ∈ ([Cond.code yX2_addCopy cX2_addCopy 2 none, Cond.methodLink RX2 39 yX1_becomeLike, Cond.instanceMethod yX1_becomeLike, Cond.selects RX1 yX1_becomeLike yX1_becomeLike, Cond.code yX1_becomeLike cX1_becomeLike 3 none, Cond.methodLink RL 121 yX4_advise, Cond.instanceMethod yX4_advise, Cond.selects RX4 yX4_advise yX4_advise, Cond.code yX4_advise cX4_advise 6 (some .int), Cond.methodLink RL 124 yX4_overtakes, Cond.instanceMethod yX4_overtakes, Cond.selects RX4 yX4_overtakes yX4_overtakes, Cond.code yX4_overtakes cX4_overtakes 6 (some .int), Cond.methodLink RX4 205 yX1_isAheadOf, Cond.methodLink RL 127 yX5_pass, Cond.methodLink RL 134 yX5_isSame, Cond.instanceMethod yX5_isSame, Cond.selects RX5 yX5_isSame yX5_isSame] : List Cond), w ∈ lw_tbl := by decide +kernel
set_option maxRecDepth 20000 in
theorem inR_20_1 : ∀ w ∈ ([Cond.code yX5_isSame cX5_isSame 10 (some .boolean)] : List Cond), w ∈ lw_tbl := fa_1 (show Cond.code yX5_isSame cX5_isSame 10 (some .boolean) ∈ k2_sels lw_privs ++ (tables_1_1 ++ (tables_1_2 ++ tables_1_3)) from List.mem_append_right _ (List.mem_append_right _ (List.mem_append_left _ (List.mem_of_getElem? (i := 231) rfl))))
set_option maxRecDepth 20000 in
theorem inR_20_2 : ∀ w ∈ ([Cond.methodLink RX5 58 yX5_counts, Cond.instanceMethod yX5_counts, Cond.selects RX5 yX5_counts yX5_counts, Cond.code yX5_counts cX5_counts 6 (some (.array .int)), Cond.methodLink RX5 62 yX4_count] : List Cond), w ∈ lw_tbl := by decide +kernel
set_option maxRecDepth 20000 in
theorem inR_20 : ∀ w ∈ wsL_law0_r20, w ∈ lw_tbl := List.forall_mem_append.mpr ⟨inR_20_0, List.forall_mem_append.mpr ⟨inR_20_1, inR_20_2⟩⟩
set_option maxRecDepth 20000 in
theorem inR_21 : ∀ w ∈ wsL_law0_r21, w ∈ lw_tbl := by decide +kernel
set_option maxRecDepth 20000 in
theorem inS_wsX40 : ∀ w ∈ wsX40, w ∈ lw_tbl := by decide +kernel
set_option maxRecDepth 20000 in
theorem inS_wsX50 : ∀ w ∈ wsX50, w ∈ lw_tbl := by decide +kernel
set_option maxRecDepth 20000 in
theorem inS_wsX30 : ∀ w ∈ wsX30, w ∈ lw_tbl := by decide +kernel
set_option maxRecDepth 20000 in
theorem inS_wsJx4a65c0 : ∀ w ∈ wsJx4a65c0, w ∈ lw_tbl := by decide +kernel
set_option maxRecDepth 20000 in
theorem inS_wsX20 : ∀ w ∈ wsX20, w ∈ lw_tbl := by decide +kernel
set_option maxRecDepth 20000 in
theorem inS_wsX10 : ∀ w ∈ wsX10, w ∈ lw_tbl := by decide +kernel
set_option maxRecDepth 20000 in
theorem inS_wsX00 : ∀ w ∈ wsX00, w ∈ lw_tbl := by decide +kernel
theorem wsL_law_in0 : ∀ w ∈ wsL_law0, w ∈ lw_tbl := List.forall_mem_append.mpr ⟨List.forall_mem_append.mpr ⟨List.forall_mem_append.mpr ⟨List.forall_mem_append.mpr ⟨List.forall_mem_append.mpr ⟨List.forall_mem_append.mpr ⟨List.forall_mem_append.mpr ⟨List.forall_mem_append.mpr ⟨List.forall_mem_append.mpr ⟨inR_1, List.forall_mem_append.mpr ⟨inR_2, List.forall_mem_append.mpr ⟨inR_3, List.forall_mem_append.mpr ⟨inR_4, List.forall_mem_append.mpr ⟨inR_5, List.forall_mem_append.mpr ⟨inR_6, List.forall_mem_append.mpr ⟨inR_7, List.forall_mem_append.mpr ⟨inR_8, List.forall_mem_append.mpr ⟨inR_9, List.forall_mem_append.mpr ⟨inR_10, List.forall_mem_append.mpr ⟨inR_11, List.forall_mem_append.mpr ⟨inR_12, List.forall_mem_append.mpr ⟨inR_13, List.forall_mem_append.mpr ⟨inR_14, List.forall_mem_append.mpr ⟨inR_15, List.forall_mem_append.mpr ⟨inR_16, List.forall_mem_append.mpr ⟨inR_17, List.forall_mem_append.mpr ⟨inR_18, List.forall_mem_append.mpr ⟨inR_19, List.forall_mem_append.mpr ⟨inR_20, inR_21⟩⟩⟩⟩⟩⟩⟩⟩⟩⟩⟩⟩⟩⟩⟩⟩⟩⟩⟩⟩, inS_wsX40⟩, inS_wsX50⟩, inS_wsX30⟩, inS_wsJx4a65c0⟩, inS_wsX20⟩, inS_wsX10⟩, inS_wsX00⟩, fun _ h => absurd h List.not_mem_nil⟩
set_option maxRecDepth 20000 in
theorem wsL_law_x0 : ∀ w ∈ (vx_atS RX4 46 "java/lang/IllegalArgumentException" ["java/lang/RuntimeException", "java/lang/Exception"]).filter goodWord, w ∈ lw_tbl := by decide +kernel
set_option maxRecDepth 20000 in
theorem wsL_law_x1 : ∀ w ∈ (vx_atS RX4 184 "java/lang/IndexOutOfBoundsException" ["java/lang/RuntimeException", "java/lang/Exception"]).filter goodWord, w ∈ lw_tbl := by decide +kernel
set_option maxRecDepth 20000 in
theorem wsL_law_x2 : ∀ w ∈ (vx_atS RX4 77 "java/lang/IllegalStateException" ["java/lang/RuntimeException", "java/lang/Exception"]).filter goodWord, w ∈ lw_tbl := by decide +kernel
set_option maxRecDepth 20000 in
theorem wsL_law_x3 : ∀ w ∈ (vx_atS RX2 32 "java/lang/IndexOutOfBoundsException" ["java/lang/RuntimeException", "java/lang/Exception"]).filter goodWord, w ∈ lw_tbl := by decide +kernel
set_option maxRecDepth 20000 in
theorem wsL_law_in : ∀ w ∈ wsL_law, w ∈ lw_tbl := fun w h => (List.mem_append.mp h).elim (fun h => (List.mem_append.mp h).elim (fun h => (List.mem_append.mp h).elim (fun h => (List.mem_append.mp h).elim (fun h => wsL_law_in0 w h) (fun h => wsL_law_x0 w h)) (fun h => wsL_law_x1 w h)) (fun h => wsL_law_x2 w h)) (fun h => wsL_law_x3 w h)
