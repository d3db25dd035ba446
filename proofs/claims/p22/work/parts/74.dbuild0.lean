theorem goodIn_1 {big a : List Cond} {c : Cond} (hc : GoodIn big [c]) (ha : GoodIn big a) : GoodIn big (c :: a) := fun w h => (List.mem_cons.mp h).elim (fun e => by subst e; exact hc _ List.mem_cons_self) (ha w)
set_option maxRecDepth 20000 in
theorem gs_ba_c : GoodIn wsL_build [.codeWith yL_act cL_act 10 (some .boolean) [(600, 634, 635, 67)]] := fun w hw => by
  have e9 := List.mem_singleton.mp hw
  subst e9
  exact ⟨List.mem_of_getElem? (i := 29) rfl, good_of_word rfl⟩
set_option maxRecDepth 20000 in
theorem gs_ba_0 : GoodIn wsL_build wsL_act_r1 := goodIn_r _ [30, 31, 32, 33, 34, 10, 35, 23, 24, 20, 25, 26, 36, 37, 38, 39, 40, 41, 42, 43, 44, 45, 46, 47] (by decide +kernel) (by decide +kernel)
set_option maxRecDepth 20000 in
theorem gs_ba_1 : GoodIn wsL_build wsL_act_r2 := goodIn_r _ [48, 49, 50, 51, 52, 53, 54, 55, 56, 57, 58, 59, 60, 61, 62, 63, 64, 65, 66, 67, 68, 69, 70, 71] (by decide +kernel) (by decide +kernel)
set_option maxRecDepth 20000 in
theorem gs_ba_2 : GoodIn wsL_build wsL_act_r3 := goodIn_r _ [72, 73, 74, 75, 76, 77, 3, 78, 14, 79, 80, 81, 82, 83, 84, 85, 86, 87, 88, 89, 90, 91, 92, 93] (by decide +kernel) (by decide +kernel)
set_option maxRecDepth 20000 in
theorem gs_ba_3 : GoodIn wsL_build wsL_act_r4 := goodIn_r _ [94, 95, 96, 97, 98, 8, 9, 99, 100, 101, 102, 103, 104, 105, 106, 107, 108, 109, 110, 111, 112, 113, 114, 115] (by decide +kernel) (by decide +kernel)
set_option maxRecDepth 20000 in
theorem gs_ba_4 : GoodIn wsL_build wsL_act_r5 := goodIn_r _ [116, 117, 118, 119, 120, 121, 122, 123, 124, 125, 126, 127, 128, 129, 130, 131, 132, 133, 134, 135, 136, 137, 138, 139] (by decide +kernel) (by decide +kernel)
set_option maxRecDepth 20000 in
theorem gs_ba_5 : GoodIn wsL_build wsL_act_r6 := goodIn_r _ [140, 141, 142, 143, 144, 145, 146, 147, 148, 149, 150, 151, 152, 153, 154, 155, 156, 157, 158, 159, 160, 161, 162, 163] (by decide +kernel) (by decide +kernel)
set_option maxRecDepth 20000 in
theorem gs_ba_6 : GoodIn wsL_build wsL_act_r7 := goodIn_r _ [164, 165, 166, 167, 168, 169, 170, 171, 172, 173, 174, 175, 176, 177, 178, 179, 180, 181, 182, 183, 184, 185, 186, 187] (by decide +kernel) (by decide +kernel)
set_option maxRecDepth 20000 in
theorem gs_ba_7 : GoodIn wsL_build wsL_act_r8 := goodIn_r _ [188, 189, 190, 191, 192, 193, 194, 195, 196, 197, 198, 199, 200, 201, 202, 203, 204, 205, 206, 207, 208, 209, 210, 211] (by decide +kernel) (by decide +kernel)
set_option maxRecDepth 20000 in
theorem gs_ba_8 : GoodIn wsL_build wsL_act_r9 := goodIn_r _ [212, 213, 214, 215, 216, 217, 218, 219, 220, 221, 222, 223, 224, 225, 226, 227, 228, 229, 230, 231, 232, 233, 234, 235] (by decide +kernel) (by decide +kernel)
set_option maxRecDepth 20000 in
theorem gs_ba_9 : GoodIn wsL_build wsL_act_r10 := goodIn_r _ [236, 237, 238, 239, 240, 241, 242, 243, 244, 245, 246, 247, 248, 249, 250, 251, 252, 253, 254, 255, 256, 257, 258, 259] (by decide +kernel) (by decide +kernel)
set_option maxRecDepth 20000 in
theorem gs_ba_10 : GoodIn wsL_build wsL_act_r11 := goodIn_r _ [260, 261, 262, 263, 264, 265, 266, 267, 268, 269, 270, 271, 272, 273, 274, 275, 276, 277, 278, 279, 280, 281, 282, 283] (by decide +kernel) (by decide +kernel)
set_option maxRecDepth 20000 in
theorem gs_ba_11 : GoodIn wsL_build wsL_act_r12 := goodIn_r _ [284, 285, 286, 287, 288, 289, 290, 291, 292, 13, 293, 16, 17, 15, 294, 295, 296, 297, 298, 299, 300, 301, 11] (by decide +kernel) (by decide +kernel)
set_option maxRecDepth 20000 in
theorem gs_ba_wsX50 : GoodIn wsL_build wsX50 := goodIn_r _ [302, 303, 304, 305, 306, 307] (by decide +kernel) (by decide +kernel)
set_option maxRecDepth 20000 in
theorem gs_ba_wsX40 : GoodIn wsL_build wsX40 := goodIn_r _ [308, 309, 310, 311, 312, 313] (by decide +kernel) (by decide +kernel)
set_option maxRecDepth 20000 in
theorem gs_ba_wsX30 : GoodIn wsL_build wsX30 := goodIn_r _ [314, 315] (by decide +kernel) (by decide +kernel)
set_option maxRecDepth 20000 in
theorem gs_ba_wsX00 : GoodIn wsL_build wsX00 := goodIn_r _ [316, 317] (by decide +kernel) (by decide +kernel)
set_option maxRecDepth 20000 in
theorem gs_ba_wsJx4a65c0 : GoodIn wsL_build wsJx4a65c0 := goodIn_r _ [318, 319, 320] (by decide +kernel) (by decide +kernel)
set_option maxRecDepth 20000 in
theorem gs_ba_wsX20 : GoodIn wsL_build wsX20 := goodIn_r _ [321, 322] (by decide +kernel) (by decide +kernel)
set_option maxRecDepth 20000 in
theorem gs_ba_wsX10 : GoodIn wsL_build wsX10 := goodIn_r _ [323, 324, 325, 326, 327] (by decide +kernel) (by decide +kernel)
set_option maxRecDepth 20000 in
theorem ggL_build_L_act : GoodIn wsL_build wsL_act := goodIn_ca (goodIn_ca (goodIn_ca (goodIn_ca (goodIn_ca (goodIn_ca (goodIn_ca (goodIn_ca (goodIn_ca (goodIn_ca (goodIn_ca (goodIn_1 gs_ba_c (goodIn_app gs_ba_0 (goodIn_app gs_ba_1 (goodIn_app gs_ba_2 (goodIn_app gs_ba_3 (goodIn_app gs_ba_4 (goodIn_app gs_ba_5 (goodIn_app gs_ba_6 (goodIn_app gs_ba_7 (goodIn_app gs_ba_8 (goodIn_app gs_ba_9 (goodIn_app gs_ba_10 (gs_ba_11))))))))))))) gs_ba_wsX50) gs_ba_wsX40) gs_ba_wsX30) gs_ba_wsX00) gs_ba_wsJx4a65c0) gs_ba_wsX20) gs_ba_wsX10) (goodIn_sub (fun _ h => List.mem_cons_of_mem _ (List.mem_append_left _ (List.mem_append_left _ (List.mem_append_left _ (List.mem_append_right _ h))))) (by decide +kernel))) (goodIn_sub (fun _ h => List.mem_cons_of_mem _ (List.mem_append_left _ (List.mem_append_left _ (List.mem_append_right _ h)))) (by decide +kernel))) (goodIn_sub (fun _ h => List.mem_cons_of_mem _ (List.mem_append_left _ (List.mem_append_right _ h))) (by decide +kernel))) (goodIn_sub (fun _ h => List.mem_cons_of_mem _ (List.mem_append_right _ h)) (by decide +kernel))
