set_option maxRecDepth 20000 in
theorem gt_1_c : GoodIn wsL_law [.code yL_build cL_build 5 (some (.object "BarometerLeagueLaw$Sim"))] := fun w hw => by
  have e9 := List.mem_singleton.mp hw
  subst e9
  exact ⟨List.mem_of_getElem? (i := 78) rfl, good_of_word rfl⟩
set_option maxRecDepth 20000 in
theorem gt_1_0 : GoodIn wsL_law wsL_build_r1 := goodIn_r _ [79, 80, 81, 82, 83, 84, 85, 14, 15, 4, 86, 35, 87, 88, 89, 90, 91, 92, 93, 77, 94, 95, 96, 97] (by decide +kernel) (by decide +kernel)
set_option maxRecDepth 20000 in
theorem gt_1_1_0 : GoodIn wsL_law ([Cond.code yL_below cL_below 2 (some .int), Cond.constant RL 7 (2147483647), Cond.methodLink RL 79 yL_act, Cond.static yL_act] : List Cond) := goodIn_r _ [98, 99, 100, 101] (by decide +kernel) (by decide +kernel)
set_option maxRecDepth 20000 in
theorem gt_1_1_1 : GoodIn wsL_law [Cond.codeWith yL_act cL_act 10 (some .boolean) [(600, 634, 635, 67)]] := fun w hw => by
  have e9 := List.mem_singleton.mp hw
  subst e9
  exact ⟨List.mem_of_getElem? (i := 102) rfl, good_of_word rfl⟩
set_option maxRecDepth 20000 in
theorem gt_1_1_2 : GoodIn wsL_law ([Cond.classLink RL 67 "java/lang/IllegalStateException", Cond.fieldLink RL 24 "BarometerLeagueLaw$Sim" "signs" "[[I", Cond.fieldLink RL 28 "BarometerLeagueLaw$Sim" "villages" "[[I", Cond.fieldLink RL 31 "BarometerLeagueLaw$Sim" "glass" "[I", Cond.fieldLink RL 38 "BarometerLeagueLaw$Sim" "rain" "[Z", Cond.fieldLink RL 53 "BarometerLeagueLaw$Sim" "weights" "[[I", Cond.methodLink RL 35 yX4_setGlass, Cond.instanceMethod yX4_setGlass, Cond.selects RX4 yX4_setGlass yX4_setGlass, Cond.initialized RX4, Cond.code yX4_setGlass cX4_setGlass 4 (some .int), Cond.classLink RX4 42 "java/lang/IllegalArgumentException", Cond.initialized "java/lang/IllegalArgumentException", Cond.fieldLink RX4 10 "BarometerLeague" "weather" "LBarometerLeague$Weather;", Cond.methodLink RX4 39 yX4_requireTableDay, Cond.static yX4_requireTableDay, Cond.code yX4_requireTableDay cX4_requireTableDay 1 none, Cond.classLink RX4 180 "java/lang/IndexOutOfBoundsException", Cond.initialized "java/lang/IndexOutOfBoundsException"] : List Cond) := goodIn_r _ [103, 104, 105, 106, 5, 107, 108, 109, 110, 2, 111, 112, 113, 19, 114, 115, 116, 117, 118] (by decide +kernel) (by decide +kernel)
set_option maxRecDepth 20000 in
theorem gt_1_1 : GoodIn wsL_law wsL_build_r2 := (goodIn_app gt_1_1_0 (goodIn_app gt_1_1_1 gt_1_1_2))
set_option maxRecDepth 20000 in
theorem gt_1_2 : GoodIn wsL_law wsL_build_r3 := goodIn_r _ [119, 120, 121, 18, 122, 34, 123, 124, 125, 126, 127, 128, 129, 130, 131, 132, 133, 134, 135, 136, 137, 138, 36, 139] (by decide +kernel) (by decide +kernel)
set_option maxRecDepth 20000 in
theorem gt_1_3 : GoodIn wsL_law wsL_build_r4 := goodIn_r _ [140, 141, 142, 143, 144, 145, 146, 147, 148, 149, 150, 151, 23, 152, 153, 154, 155, 156, 157, 22, 158, 159, 160, 161] (by decide +kernel) (by decide +kernel)
set_option maxRecDepth 20000 in
theorem gt_1_4 : GoodIn wsL_law wsL_build_r5 := goodIn_r _ [162, 163, 164, 165, 166, 167, 168, 169, 170, 171, 45, 172, 173, 174, 175, 176, 177, 178, 179, 180, 181, 182, 183, 44] (by decide +kernel) (by decide +kernel)
set_option maxRecDepth 20000 in
theorem gt_1_5 : GoodIn wsL_law wsL_build_r6 := goodIn_r _ [184, 61, 8, 62, 185, 186, 187, 188, 189, 190, 191, 192, 193, 194, 195, 196, 39, 197, 198, 199, 200, 201, 202, 203] (by decide +kernel) (by decide +kernel)
set_option maxRecDepth 20000 in
theorem gt_1_6 : GoodIn wsL_law wsL_build_r7 := goodIn_r _ [204, 205, 206, 207, 7, 9, 208, 209, 210, 211, 212, 213, 214, 215, 27, 216, 217, 218, 26, 219, 220, 64, 221, 222] (by decide +kernel) (by decide +kernel)
set_option maxRecDepth 20000 in
theorem gt_1_7 : GoodIn wsL_law wsL_build_r8 := goodIn_r _ [223, 224, 225, 226, 227, 228, 229, 230, 231, 232, 233, 234, 235, 236, 237, 238, 239, 240, 241, 242, 243, 244, 245, 66] (by decide +kernel) (by decide +kernel)
set_option maxRecDepth 20000 in
theorem gt_1_8 : GoodIn wsL_law wsL_build_r9 := goodIn_r _ [246, 71, 247, 248, 249, 250, 251, 252, 253, 254, 255, 256, 257, 258, 259, 260, 261, 73, 262, 263, 264, 265, 266, 267] (by decide +kernel) (by decide +kernel)
set_option maxRecDepth 20000 in
theorem gt_1_9 : GoodIn wsL_law wsL_build_r10 := goodIn_r _ [268, 269, 270, 271, 272, 273, 274, 275, 276, 277, 278, 279, 280, 281, 282, 283, 284, 28, 285, 286, 287, 288, 289, 290] (by decide +kernel) (by decide +kernel)
set_option maxRecDepth 20000 in
theorem gt_1_10 : GoodIn wsL_law wsL_build_r11 := goodIn_r _ [291, 292, 293, 294, 295, 296, 297, 298, 299, 300, 301, 302, 303, 304, 305, 306, 307, 308, 309, 310, 311, 312, 313, 314] (by decide +kernel) (by decide +kernel)
set_option maxRecDepth 20000 in
theorem gt_1_11 : GoodIn wsL_law wsL_build_r12 := goodIn_r _ [315, 316, 317, 318, 319, 320, 321, 322, 323, 324, 325, 326, 327, 328, 329, 330, 331, 332, 333, 334, 335, 336, 337, 338] (by decide +kernel) (by decide +kernel)
set_option maxRecDepth 20000 in
theorem gt_1_12 : GoodIn wsL_law wsL_build_r13 := goodIn_r _ [339, 340, 341, 342, 343, 344, 345, 346, 347, 348, 349, 350, 351] (by decide +kernel) (by decide +kernel)
set_option maxRecDepth 20000 in
theorem gt_1_wsX50 : GoodIn wsL_law wsX50 := goodIn_r _ [505, 506, 507, 508, 509, 510] (by decide +kernel) (by decide +kernel)
set_option maxRecDepth 20000 in
theorem gt_1_wsX40 : GoodIn wsL_law wsX40 := goodIn_r _ [499, 500, 501, 502, 503, 504] (by decide +kernel) (by decide +kernel)
set_option maxRecDepth 20000 in
theorem gt_1_wsX30 : GoodIn wsL_law wsX30 := goodIn_r _ [511, 512] (by decide +kernel) (by decide +kernel)
set_option maxRecDepth 20000 in
theorem gt_1_wsX00 : GoodIn wsL_law wsX00 := goodIn_r _ [523, 524] (by decide +kernel) (by decide +kernel)
set_option maxRecDepth 20000 in
theorem gt_1_wsJx4a65c0 : GoodIn wsL_law wsJx4a65c0 := goodIn_r _ [513, 514, 515] (by decide +kernel) (by decide +kernel)
set_option maxRecDepth 20000 in
theorem gt_1_wsX20 : GoodIn wsL_law wsX20 := goodIn_r _ [516, 517] (by decide +kernel) (by decide +kernel)
set_option maxRecDepth 20000 in
theorem gt_1_wsX10 : GoodIn wsL_law wsX10 := goodIn_r _ [518, 519, 520, 521, 522] (by decide +kernel) (by decide +kernel)
set_option maxRecDepth 20000 in
theorem ggL_law_L_build : GoodIn wsL_law wsL_build := goodIn_ca (goodIn_ca (goodIn_ca (goodIn_ca (goodIn_ca (goodIn_ca (goodIn_ca (goodIn_ca (goodIn_ca (goodIn_ca (goodIn_ca (goodIn_1 gt_1_c (goodIn_app gt_1_0 (goodIn_app gt_1_1 (goodIn_app gt_1_2 (goodIn_app gt_1_3 (goodIn_app gt_1_4 (goodIn_app gt_1_5 (goodIn_app gt_1_6 (goodIn_app gt_1_7 (goodIn_app gt_1_8 (goodIn_app gt_1_9 (goodIn_app gt_1_10 (goodIn_app gt_1_11 (gt_1_12)))))))))))))) gt_1_wsX50) gt_1_wsX40) gt_1_wsX30) gt_1_wsX00) gt_1_wsJx4a65c0) gt_1_wsX20) gt_1_wsX10) (goodIn_sub (fun _ h => List.mem_append_left _ (List.mem_append_left _ (List.mem_append_left _ (List.mem_append_right _ h)))) (by decide +kernel))) (goodIn_sub (fun _ h => List.mem_append_left _ (List.mem_append_left _ (List.mem_append_right _ h))) (by decide +kernel))) (goodIn_sub (fun _ h => List.mem_append_left _ (List.mem_append_right _ h)) (by decide +kernel))) (goodIn_sub (fun _ h => List.mem_append_right _ h) (by decide +kernel))
set_option maxRecDepth 20000 in
theorem gL_law_L_build : GoodIn wsL_law (va_wsS RL 83 yL_build wsL_build) := goodIn_app (goodIn_of _ (by decide +kernel)) ggL_law_L_build
