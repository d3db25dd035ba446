set_option maxRecDepth 20000 in
theorem gt_2_c : GoodIn wsL_law [.code yX5_isSame cX5_isSame 10 (some .boolean)] := fun w hw => by
  have e9 := List.mem_singleton.mp hw
  subst e9
  exact ⟨List.mem_of_getElem? (i := 474) rfl, good_of_word rfl⟩
set_option maxRecDepth 20000 in
theorem gt_2_0 : GoodIn wsL_law wsX5_isSame_r1 := goodIn_r _ [89, 91, 4, 343, 90, 475, 476, 477, 81, 478, 87, 344, 345, 346, 347, 348, 349, 350, 351, 86, 479, 353, 354, 2] (by decide +kernel) (by decide +kernel)
set_option maxRecDepth 20000 in
theorem gt_2_1 : GoodIn wsL_law wsX5_isSame_r2 := goodIn_r _ [355, 269, 23, 27, 19, 356, 357, 358, 117, 118, 155, 156, 157, 22, 158, 159, 226, 227, 228, 26, 229, 220, 359, 360] (by decide +kernel) (by decide +kernel)
set_option maxRecDepth 20000 in
theorem gt_2_2 : GoodIn wsL_law wsX5_isSame_r3 := goodIn_r _ [361, 18, 362, 36, 363, 364, 365, 366, 367, 368, 369, 370, 64, 371, 372, 373, 374, 281, 282, 283, 284, 28, 285, 286] (by decide +kernel) (by decide +kernel)
set_option maxRecDepth 20000 in
theorem gt_2_3 : GoodIn wsL_law wsX5_isSame_r4 := goodIn_r _ [287, 288, 289, 290, 291, 292, 293, 294, 295, 296, 297, 298, 299, 300, 301, 45, 302, 303, 304, 154, 305, 164, 165, 306] (by decide +kernel) (by decide +kernel)
set_option maxRecDepth 20000 in
theorem gt_2_4 : GoodIn wsL_law wsX5_isSame_r5 := goodIn_r _ [120, 121, 122, 34, 123, 124, 125, 126, 307, 136, 137, 138, 375, 376, 377, 378, 379, 319, 320, 66, 321, 322, 323, 324] (by decide +kernel) (by decide +kernel)
set_option maxRecDepth 20000 in
theorem gt_2_5 : GoodIn wsL_law wsX5_isSame_r6 := goodIn_r _ [325, 71, 480, 481, 482, 483, 484, 424, 425, 426, 239, 240, 241, 242, 418, 419, 420, 421, 422, 427, 428, 429, 430, 431] (by decide +kernel) (by decide +kernel)
set_option maxRecDepth 20000 in
theorem gt_2_6 : GoodIn wsL_law wsX5_isSame_r7 := goodIn_r _ [244, 245, 246, 485, 403, 404, 405, 112, 113, 486, 399, 400, 401, 234, 235, 236, 237, 238, 243, 487, 488, 489, 490, 491] (by decide +kernel) (by decide +kernel)
set_option maxRecDepth 20000 in
theorem gt_2_7 : GoodIn wsL_law wsX5_isSame_r8 := goodIn_r _ [492, 493, 494, 495, 381, 382, 383, 384, 385, 386, 387, 388, 389, 390, 391, 392, 393, 394, 395, 316, 73, 72, 396, 397] (by decide +kernel) (by decide +kernel)
set_option maxRecDepth 20000 in
theorem gt_2_8 : GoodIn wsL_law wsX5_isSame_r9 := goodIn_r _ [496, 407, 408, 409, 497, 415, 416, 417, 498, 411, 412, 413] (by decide +kernel) (by decide +kernel)
set_option maxRecDepth 20000 in
theorem gt_2_wsX50 : GoodIn wsL_law wsX50 := goodIn_r _ [505, 506, 507, 508, 509, 510] (by decide +kernel) (by decide +kernel)
set_option maxRecDepth 20000 in
theorem gt_2_wsX40 : GoodIn wsL_law wsX40 := goodIn_r _ [499, 500, 501, 502, 503, 504] (by decide +kernel) (by decide +kernel)
set_option maxRecDepth 20000 in
theorem gt_2_wsJx4a65c0 : GoodIn wsL_law wsJx4a65c0 := goodIn_r _ [513, 514, 515] (by decide +kernel) (by decide +kernel)
set_option maxRecDepth 20000 in
theorem gt_2_wsX20 : GoodIn wsL_law wsX20 := goodIn_r _ [516, 517] (by decide +kernel) (by decide +kernel)
set_option maxRecDepth 20000 in
theorem gt_2_wsX30 : GoodIn wsL_law wsX30 := goodIn_r _ [511, 512] (by decide +kernel) (by decide +kernel)
set_option maxRecDepth 20000 in
theorem gt_2_wsX10 : GoodIn wsL_law wsX10 := goodIn_r _ [518, 519, 520, 521, 522] (by decide +kernel) (by decide +kernel)
set_option maxRecDepth 20000 in
theorem gt_2_wsX00 : GoodIn wsL_law wsX00 := goodIn_r _ [523, 524] (by decide +kernel) (by decide +kernel)
set_option maxRecDepth 20000 in
theorem ggL_law_X5_isSame : GoodIn wsL_law wsX5_isSame := goodIn_ca (goodIn_ca (goodIn_ca (goodIn_ca (goodIn_ca (goodIn_ca (goodIn_ca (goodIn_ca (goodIn_ca (goodIn_ca (goodIn_1 gt_2_c (goodIn_app gt_2_0 (goodIn_app gt_2_1 (goodIn_app gt_2_2 (goodIn_app gt_2_3 (goodIn_app gt_2_4 (goodIn_app gt_2_5 (goodIn_app gt_2_6 (goodIn_app gt_2_7 (gt_2_8)))))))))) gt_2_wsX50) gt_2_wsX40) gt_2_wsJx4a65c0) gt_2_wsX20) gt_2_wsX30) gt_2_wsX10) gt_2_wsX00) (goodIn_sub (fun _ h => List.mem_append_left _ (List.mem_append_left _ (List.mem_append_right _ h))) (by decide +kernel))) (goodIn_sub (fun _ h => List.mem_append_left _ (List.mem_append_left _ (List.mem_append_left _ (List.mem_append_right _ h)))) (by decide +kernel))) (goodIn_sub (fun _ h => List.mem_append_right _ h) (by decide +kernel))
set_option maxRecDepth 20000 in
theorem gL_law_X5_isSame : GoodIn wsL_law (wsV RL 134 RX5 yX5_isSame wsX5_isSame) := goodIn_app (goodIn_of _ (by decide +kernel)) ggL_law_X5_isSame
