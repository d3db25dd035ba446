set_option maxRecDepth 20000 in
theorem gt_0_c : GoodIn wsL_law [.codeWith yL_act cL_act 10 (some .boolean) [(600, 634, 635, 67)]] := fun w hw => by
  have e9 := List.mem_singleton.mp hw
  subst e9
  exact ⟨List.mem_of_getElem? (i := 102) rfl, good_of_word rfl⟩
set_option maxRecDepth 20000 in
theorem gt_0_0 : GoodIn wsL_law wsL_act_r1 := goodIn_r _ [103, 104, 105, 106, 5, 4, 107, 96, 97, 77, 98, 99, 108, 109, 110, 2, 111, 112, 113, 19, 114, 115, 116, 117] (by decide +kernel) (by decide +kernel)
set_option maxRecDepth 20000 in
theorem gt_0_1 : GoodIn wsL_law wsL_act_r2 := goodIn_r _ [118, 119, 120, 121, 18, 122, 34, 123, 124, 125, 126, 127, 128, 129, 130, 131, 132, 133, 134, 135, 136, 137, 138, 36] (by decide +kernel) (by decide +kernel)
set_option maxRecDepth 20000 in
theorem gt_0_2 : GoodIn wsL_law wsL_act_r3 := goodIn_r _ [139, 140, 141, 142, 143, 144, 81, 145, 88, 146, 147, 148, 149, 150, 151, 23, 152, 153, 154, 155, 156, 157, 22, 158] (by decide +kernel) (by decide +kernel)
set_option maxRecDepth 20000 in
theorem gt_0_3 : GoodIn wsL_law wsL_act_r4 := goodIn_r _ [159, 160, 161, 162, 163, 14, 15, 164, 165, 166, 167, 168, 169, 170, 171, 45, 172, 173, 174, 175, 176, 177, 178, 179] (by decide +kernel) (by decide +kernel)
set_option maxRecDepth 20000 in
theorem gt_0_4 : GoodIn wsL_law wsL_act_r5 := goodIn_r _ [180, 181, 182, 183, 44, 184, 61, 8, 62, 185, 186, 187, 188, 189, 190, 191, 192, 193, 194, 195, 196, 39, 197, 198] (by decide +kernel) (by decide +kernel)
set_option maxRecDepth 20000 in
theorem gt_0_5 : GoodIn wsL_law wsL_act_r6 := goodIn_r _ [199, 200, 201, 202, 203, 204, 205, 206, 207, 7, 9, 208, 209, 210, 211, 212, 213, 214, 215, 27, 216, 217, 218, 26] (by decide +kernel) (by decide +kernel)
set_option maxRecDepth 20000 in
theorem gt_0_6 : GoodIn wsL_law wsL_act_r7 := goodIn_r _ [219, 220, 64, 221, 222, 223, 224, 225, 226, 227, 228, 229, 230, 231, 232, 233, 234, 235, 236, 237, 238, 239, 240, 241] (by decide +kernel) (by decide +kernel)
set_option maxRecDepth 20000 in
theorem gt_0_7 : GoodIn wsL_law wsL_act_r8 := goodIn_r _ [242, 243, 244, 245, 66, 246, 71, 247, 248, 249, 250, 251, 252, 253, 254, 255, 256, 257, 258, 259, 260, 261, 73, 262] (by decide +kernel) (by decide +kernel)
set_option maxRecDepth 20000 in
theorem gt_0_8 : GoodIn wsL_law wsL_act_r9 := goodIn_r _ [263, 264, 265, 266, 267, 268, 269, 270, 271, 272, 273, 274, 275, 276, 277, 278, 279, 280, 281, 282, 283, 284, 28, 285] (by decide +kernel) (by decide +kernel)
set_option maxRecDepth 20000 in
theorem gt_0_9 : GoodIn wsL_law wsL_act_r10 := goodIn_r _ [286, 287, 288, 289, 290, 291, 292, 293, 294, 295, 296, 297, 298, 299, 300, 301, 302, 303, 304, 305, 306, 307, 308, 309] (by decide +kernel) (by decide +kernel)
set_option maxRecDepth 20000 in
theorem gt_0_10 : GoodIn wsL_law wsL_act_r11 := goodIn_r _ [310, 311, 312, 313, 314, 315, 316, 317, 318, 319, 320, 321, 322, 323, 324, 325, 326, 327, 328, 329, 330, 331, 332, 333] (by decide +kernel) (by decide +kernel)
set_option maxRecDepth 20000 in
theorem gt_0_11 : GoodIn wsL_law wsL_act_r12 := goodIn_r _ [334, 335, 336, 337, 338, 339, 340, 341, 342, 87, 343, 90, 91, 89, 344, 345, 346, 347, 348, 349, 350, 351, 86] (by decide +kernel) (by decide +kernel)
set_option maxRecDepth 20000 in
theorem gt_0_wsX50 : GoodIn wsL_law wsX50 := goodIn_r _ [505, 506, 507, 508, 509, 510] (by decide +kernel) (by decide +kernel)
set_option maxRecDepth 20000 in
theorem gt_0_wsX40 : GoodIn wsL_law wsX40 := goodIn_r _ [499, 500, 501, 502, 503, 504] (by decide +kernel) (by decide +kernel)
set_option maxRecDepth 20000 in
theorem gt_0_wsX30 : GoodIn wsL_law wsX30 := goodIn_r _ [511, 512] (by decide +kernel) (by decide +kernel)
set_option maxRecDepth 20000 in
theorem gt_0_wsX00 : GoodIn wsL_law wsX00 := goodIn_r _ [523, 524] (by decide +kernel) (by decide +kernel)
set_option maxRecDepth 20000 in
theorem gt_0_wsJx4a65c0 : GoodIn wsL_law wsJx4a65c0 := goodIn_r _ [513, 514, 515] (by decide +kernel) (by decide +kernel)
set_option maxRecDepth 20000 in
theorem gt_0_wsX20 : GoodIn wsL_law wsX20 := goodIn_r _ [516, 517] (by decide +kernel) (by decide +kernel)
set_option maxRecDepth 20000 in
theorem gt_0_wsX10 : GoodIn wsL_law wsX10 := goodIn_r _ [518, 519, 520, 521, 522] (by decide +kernel) (by decide +kernel)
set_option maxRecDepth 20000 in
theorem ggL_law_L_act : GoodIn wsL_law wsL_act := goodIn_ca (goodIn_ca (goodIn_ca (goodIn_ca (goodIn_ca (goodIn_ca (goodIn_ca (goodIn_ca (goodIn_ca (goodIn_ca (goodIn_ca (goodIn_1 gt_0_c (goodIn_app gt_0_0 (goodIn_app gt_0_1 (goodIn_app gt_0_2 (goodIn_app gt_0_3 (goodIn_app gt_0_4 (goodIn_app gt_0_5 (goodIn_app gt_0_6 (goodIn_app gt_0_7 (goodIn_app gt_0_8 (goodIn_app gt_0_9 (goodIn_app gt_0_10 (gt_0_11))))))))))))) gt_0_wsX50) gt_0_wsX40) gt_0_wsX30) gt_0_wsX00) gt_0_wsJx4a65c0) gt_0_wsX20) gt_0_wsX10) (goodIn_sub (fun _ h => List.mem_append_left _ (List.mem_append_left _ (List.mem_append_left _ (List.mem_append_right _ h)))) (by decide +kernel))) (goodIn_sub (fun _ h => List.mem_append_left _ (List.mem_append_left _ (List.mem_append_right _ h))) (by decide +kernel))) (goodIn_sub (fun _ h => List.mem_append_left _ (List.mem_append_right _ h)) (by decide +kernel))) (goodIn_sub (fun _ h => List.mem_append_right _ h) (by decide +kernel))
set_option maxRecDepth 20000 in
theorem gL_law_L_act : GoodIn wsL_law (va_wsS RL 79 yL_act wsL_act) := goodIn_app (goodIn_of _ (by decide +kernel)) ggL_law_L_act
