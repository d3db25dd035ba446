set_option maxRecDepth 20000 in
theorem ggL_law_X4_init : GoodIn wsL_law wsX4_init := goodIn_r _ [9, 10, 11, 12, 13, 14, 15, 16, 17, 18, 19, 20, 21, 22, 23, 24, 25, 26, 27, 28, 29, 30, 31, 32, 33, 34, 35, 36, 37, 38, 39, 40, 41, 42, 43, 44, 45, 46, 47, 48, 49, 50, 51, 52, 53, 54, 55, 56, 57, 58, 59, 60, 61, 62, 63, 64, 65, 66, 67, 68, 69, 689, 690, 673, 674, 675, 676, 677, 678, 691, 692, 693, 694, 695, 696, 697, 698, 699, 700] (by decide +kernel) (by decide +kernel)
set_option maxRecDepth 20000 in
theorem gL_law_X4_init : GoodIn wsL_law (wsX4_init) := ggL_law_X4_init
set_option maxRecDepth 20000 in
theorem ggL_law_X6_init : GoodIn wsL_law wsX6_init := goodIn_r _ [72, 73, 11, 12, 25, 74, 75, 76, 77, 78, 79, 80, 81, 82, 83, 84, 85, 86, 87, 88, 89, 90, 679, 680, 681, 682, 683, 684, 685, 686, 687, 688, 701, 702, 703, 704, 705, 706] (by decide +kernel) (by decide +kernel)
set_option maxRecDepth 20000 in
theorem gL_law_X6_init : GoodIn wsL_law (wsX6_init) := ggL_law_X6_init
set_option maxRecDepth 20000 in
theorem ggL_law_L_setGlass : GoodIn wsL_law wsL_setGlass := goodIn_ca (goodIn_ca (goodIn_r _ [94, 95, 96, 97, 98, 99, 2, 100, 101, 102, 16, 103, 104, 105, 106, 107, 108, 109, 110, 15, 111, 32, 112, 113, 114, 115, 116, 117, 118, 119, 673, 674, 675, 676, 677, 678, 689, 690] (by decide +kernel) (by decide +kernel)) (goodIn_sub (fun _ h => List.mem_append_left _ (List.mem_append_left _ (List.mem_append_left _ (List.mem_append_right _ h)))) (by decide +kernel))) (goodIn_sub (fun _ h => List.mem_append_left _ (List.mem_append_left _ (List.mem_append_right _ h))) (by decide +kernel))
set_option maxRecDepth 20000 in
theorem gL_law_L_setGlass : GoodIn wsL_law (va_wsS RL 73 yL_setGlass wsL_setGlass) := goodIn_app (goodIn_of _ (by decide +kernel)) ggL_law_L_setGlass
set_option maxRecDepth 20000 in
theorem ggL_law_X6_setGlass : GoodIn wsL_law wsX6_setGlass := goodIn_r _ [123, 124, 74, 125, 126, 5, 127, 128, 129, 130, 131, 679, 680, 681, 682, 683, 684, 685, 686, 687, 688] (by decide +kernel) (by decide +kernel)
set_option maxRecDepth 20000 in
theorem gL_law_X6_setGlass : GoodIn wsL_law (wsV RL 78 RX6 yX6_setGlass wsX6_setGlass) := goodIn_app (goodIn_of _ (by decide +kernel)) ggL_law_X6_setGlass
set_option maxRecDepth 20000 in
theorem ggL_law_X6_thrown : GoodIn wsL_law wsX6_thrown := goodIn_r _ [135, 124, 679, 680, 681, 682, 683, 684, 685, 686, 687, 688] (by decide +kernel) (by decide +kernel)
set_option maxRecDepth 20000 in
theorem gL_law_X6_thrown : GoodIn wsL_law (wsV RL 79 RX6 yX6_thrown wsX6_thrown) := goodIn_app (goodIn_of _ (by decide +kernel)) ggL_law_X6_thrown
set_option maxRecDepth 20000 in
theorem ggL_law_L_setRain : GoodIn wsL_law wsL_setRain := goodIn_ca (goodIn_r _ [138, 95, 139, 140, 141, 2, 142, 16, 103, 104, 105, 106, 107, 143, 144, 145, 15, 146, 34, 112, 113, 114, 115, 147, 148, 149, 150, 673, 674, 675, 676, 677, 678, 689, 690] (by decide +kernel) (by decide +kernel)) (goodIn_sub (fun _ h => List.mem_append_left _ (List.mem_append_left _ (List.mem_append_right _ h))) (by decide +kernel))
set_option maxRecDepth 20000 in
theorem gL_law_L_setRain : GoodIn wsL_law (va_wsS RL 82 yL_setRain wsL_setRain) := goodIn_app (goodIn_of _ (by decide +kernel)) ggL_law_L_setRain
set_option maxRecDepth 20000 in
theorem ggL_law_X6_setRain : GoodIn wsL_law wsX6_setRain := goodIn_r _ [154, 124, 75, 125, 126, 5, 127, 679, 680, 681, 682, 683, 684, 685, 686, 687, 688] (by decide +kernel) (by decide +kernel)
set_option maxRecDepth 20000 in
theorem gL_law_X6_setRain : GoodIn wsL_law (wsV RL 85 RX6 yX6_setRain wsX6_setRain) := goodIn_app (goodIn_of _ (by decide +kernel)) ggL_law_X6_setRain
set_option maxRecDepth 20000 in
theorem ggL_law_L_sign : GoodIn wsL_law wsL_sign := goodIn_ca (goodIn_ca (goodIn_r _ [157, 96, 158, 159, 160, 161, 2, 162, 101, 102, 163, 164, 20, 165, 166, 167, 168, 169, 170, 19, 171, 172, 173, 174, 175, 176, 11, 12, 177, 178, 179, 180, 181, 182, 183, 184, 43, 185, 186, 187, 188, 189, 190, 191, 192, 193, 194, 195, 196, 42, 197, 198, 199, 200, 201, 202, 203, 204, 205, 206, 207, 208, 209, 210, 211, 212, 37, 213, 214, 215, 216, 217, 218, 219, 220, 221, 222, 223, 224, 225, 226, 227, 228, 229, 673, 674, 675, 676, 677, 678, 707, 708, 691, 692, 693] (by decide +kernel) (by decide +kernel)) (goodIn_sub (fun _ h => List.mem_append_left _ (List.mem_append_left _ (List.mem_append_left _ (List.mem_append_right _ h)))) (by decide +kernel))) (goodIn_sub (fun _ h => List.mem_append_left _ (List.mem_append_right _ h)) (by decide +kernel))
set_option maxRecDepth 20000 in
theorem gL_law_L_sign : GoodIn wsL_law (va_wsS RL 86 yL_sign wsL_sign) := goodIn_app (goodIn_of _ (by decide +kernel)) ggL_law_L_sign
set_option maxRecDepth 20000 in
theorem ggL_law_X6_sign : GoodIn wsL_law wsX6_sign := goodIn_r _ [233, 124, 234, 76, 77, 125, 126, 5, 127, 128, 129, 130, 131, 679, 680, 681, 682, 683, 684, 685, 686, 687, 688] (by decide +kernel) (by decide +kernel)
set_option maxRecDepth 20000 in
theorem gL_law_X6_sign : GoodIn wsL_law (wsV RL 88 RX6 yX6_sign wsX6_sign) := goodIn_app (goodIn_of _ (by decide +kernel)) ggL_law_X6_sign
set_option maxRecDepth 20000 in
theorem ggL_law_L_join : GoodIn wsL_law wsL_join := goodIn_ca (goodIn_r _ [237, 158, 238, 239, 240, 2, 241, 163, 164, 24, 242, 243, 244, 23, 245, 246, 59, 247, 248, 249, 250, 251, 252, 253, 254, 255, 673, 674, 675, 676, 677, 678, 694, 695] (by decide +kernel) (by decide +kernel)) (goodIn_sub (fun _ h => List.mem_append_left _ (List.mem_append_right _ h)) (by decide +kernel))
set_option maxRecDepth 20000 in
theorem gL_law_L_join : GoodIn wsL_law (va_wsS RL 89 yL_join wsL_join) := goodIn_app (goodIn_of _ (by decide +kernel)) ggL_law_L_join
set_option maxRecDepth 20000 in
theorem ggL_law_X6_join : GoodIn wsL_law wsX6_join := goodIn_r _ [259, 124, 260, 128, 129, 130, 5, 131, 679, 680, 681, 682, 683, 684, 685, 686, 687, 688] (by decide +kernel) (by decide +kernel)
set_option maxRecDepth 20000 in
theorem gL_law_X6_join : GoodIn wsL_law (wsV RL 92 RX6 yX6_join wsX6_join) := goodIn_app (goodIn_of _ (by decide +kernel)) ggL_law_X6_join
set_option maxRecDepth 20000 in
theorem ggL_law_L_weigh : GoodIn wsL_law wsL_weigh := goodIn_ca (goodIn_ca (goodIn_ca (goodIn_r _ [263, 95, 96, 264, 265, 266, 2, 267, 101, 102, 24, 268, 269, 270, 23, 271, 272, 107, 246, 59, 273, 274, 275, 276, 106, 20, 168, 169, 170, 19, 171, 172, 277, 278, 279, 61, 280, 66, 281, 282, 283, 284, 673, 674, 675, 676, 677, 678, 694, 695, 691, 692, 693, 696, 697, 698, 699, 700] (by decide +kernel) (by decide +kernel)) (goodIn_sub (fun _ h => List.mem_append_left _ (List.mem_append_left _ (List.mem_append_left _ (List.mem_append_right _ h)))) (by decide +kernel))) (goodIn_sub (fun _ h => List.mem_append_right _ h) (by decide +kernel))) (goodIn_sub (fun _ h => List.mem_append_left _ (List.mem_append_left _ (List.mem_append_right _ h))) (by decide +kernel))
set_option maxRecDepth 20000 in
theorem gL_law_L_weigh : GoodIn wsL_law (va_wsS RL 93 yL_weigh wsL_weigh) := goodIn_app (goodIn_of _ (by decide +kernel)) ggL_law_L_weigh
set_option maxRecDepth 20000 in
theorem ggL_law_X6_weigh : GoodIn wsL_law wsX6_weigh := goodIn_r _ [288, 124, 82, 289, 290, 291, 5, 292, 260, 125, 126, 127, 293, 294, 295, 296, 234, 128, 129, 130, 131, 679, 680, 681, 682, 683, 684, 685, 686, 687, 688, 701, 702, 703, 704, 705, 706] (by decide +kernel) (by decide +kernel)
set_option maxRecDepth 20000 in
theorem gL_law_X6_weigh : GoodIn wsL_law (wsV RL 96 RX6 yX6_weigh wsX6_weigh) := goodIn_app (goodIn_of _ (by decide +kernel)) ggL_law_X6_weigh
set_option maxRecDepth 20000 in
theorem ggL_law_L_share : GoodIn wsL_law wsL_share := goodIn_ca (goodIn_ca (goodIn_ca (goodIn_r _ [299, 95, 96, 158, 300, 301, 302, 2, 303, 163, 164, 24, 268, 269, 270, 23, 271, 272, 107, 246, 59, 304, 305, 306, 101, 102, 307, 308, 309, 61, 310, 68, 66, 673, 674, 675, 676, 677, 678, 696, 697, 698, 699, 700, 694, 695] (by decide +kernel) (by decide +kernel)) (goodIn_sub (fun _ h => List.mem_append_left _ (List.mem_append_right _ h)) (by decide +kernel))) (goodIn_sub (fun _ h => List.mem_append_right _ h) (by decide +kernel))) (goodIn_sub (fun _ h => List.mem_append_left _ (List.mem_append_left _ (List.mem_append_left _ (List.mem_append_right _ h)))) (by decide +kernel))
set_option maxRecDepth 20000 in
theorem gL_law_L_share : GoodIn wsL_law (va_wsS RL 97 yL_share wsL_share) := goodIn_app (goodIn_of _ (by decide +kernel)) ggL_law_L_share
set_option maxRecDepth 20000 in
theorem ggL_law_X6_share : GoodIn wsL_law wsX6_share := goodIn_r _ [314, 124, 82, 234, 289, 290, 291, 5, 292, 260, 125, 126, 127, 128, 129, 130, 131, 679, 680, 681, 682, 683, 684, 685, 686, 687, 688, 701, 702, 703, 704, 705, 706] (by decide +kernel) (by decide +kernel)
set_option maxRecDepth 20000 in
theorem gL_law_X6_share : GoodIn wsL_law (wsV RL 99 RX6 yX6_share wsX6_share) := goodIn_app (goodIn_of _ (by decide +kernel)) ggL_law_X6_share
set_option maxRecDepth 20000 in
theorem ggL_law_L_says : GoodIn wsL_law wsL_says := goodIn_ca (goodIn_ca (goodIn_r _ [317, 95, 96, 318, 319, 320, 2, 321, 101, 102, 20, 322, 16, 273, 274, 275, 276, 106, 107, 168, 169, 170, 19, 171, 172, 323, 324, 325, 326, 327, 328, 329, 330, 331, 332, 333, 334, 335, 336, 337, 338, 43, 339, 340, 341, 167, 342, 177, 178, 343, 109, 110, 15, 111, 32, 112, 113, 114, 115, 344, 144, 145, 146, 34, 673, 674, 675, 676, 677, 678, 691, 692, 693, 707, 708, 689, 690] (by decide +kernel) (by decide +kernel)) (goodIn_sub (fun _ h => List.mem_append_left _ (List.mem_append_left _ (List.mem_append_left _ (List.mem_append_right _ h)))) (by decide +kernel))) (goodIn_sub (fun _ h => List.mem_append_left _ (List.mem_append_left _ (List.mem_append_right _ h))) (by decide +kernel))
set_option maxRecDepth 20000 in
theorem gL_law_L_says : GoodIn wsL_law (va_wsS RL 100 yL_says wsL_says) := goodIn_app (goodIn_of _ (by decide +kernel)) ggL_law_L_says
set_option maxRecDepth 20000 in
theorem ggL_law_X6_says : GoodIn wsL_law wsX6_says := goodIn_r _ [348, 124, 293, 294, 295, 5, 296, 234, 125, 126, 127, 349, 350, 351, 352, 76, 74, 77, 75, 679, 680, 681, 682, 683, 684, 685, 686, 687, 688] (by decide +kernel) (by decide +kernel)
set_option maxRecDepth 20000 in
theorem gL_law_X6_says : GoodIn wsL_law (wsV RL 102 RX6 yX6_says wsX6_says) := goodIn_app (goodIn_of _ (by decide +kernel)) ggL_law_X6_says
set_option maxRecDepth 20000 in
theorem ggL_law_L_told : GoodIn wsL_law wsL_told := goodIn_ca (goodIn_r _ [355, 95, 356, 357, 358, 2, 359, 20, 322, 16, 24, 273, 274, 275, 276, 106, 107, 168, 169, 170, 19, 171, 172, 360, 361, 362, 323, 324, 325, 326, 327, 328, 329, 330, 331, 332, 333, 334, 335, 336, 337, 338, 43, 363, 364, 365, 167, 366, 367, 340, 341, 342, 177, 178, 343, 109, 110, 15, 111, 32, 112, 113, 114, 115, 344, 144, 145, 146, 34, 368, 369, 370, 23, 371, 246, 59, 372, 278, 279, 61, 280, 66, 673, 674, 675, 676, 677, 678, 707, 708, 691, 692, 693, 689, 690, 694, 695, 696, 697, 698, 699, 700] (by decide +kernel) (by decide +kernel)) (goodIn_sub (fun _ h => List.mem_append_left _ (List.mem_append_left _ (List.mem_append_right _ h))) (by decide +kernel))
set_option maxRecDepth 20000 in
theorem gL_law_L_told : GoodIn wsL_law (va_wsS RL 103 yL_told wsL_told) := goodIn_app (goodIn_of _ (by decide +kernel)) ggL_law_L_told
set_option maxRecDepth 20000 in
theorem ggL_law_X6_told : GoodIn wsL_law wsX6_told := goodIn_r _ [376, 124, 293, 294, 295, 5, 296, 234, 125, 126, 127, 377, 378, 379, 380, 76, 77, 260, 82, 381, 382, 383, 384, 385, 386, 387, 388, 75, 349, 350, 351, 352, 74, 128, 129, 130, 131, 679, 680, 681, 682, 683, 684, 685, 686, 687, 688, 701, 702, 703, 704, 705, 706] (by decide +kernel) (by decide +kernel)
set_option maxRecDepth 20000 in
theorem gL_law_X6_told : GoodIn wsL_law (wsV RL 105 RX6 yX6_told wsX6_told) := goodIn_app (goodIn_of _ (by decide +kernel)) ggL_law_X6_told
set_option maxRecDepth 20000 in
theorem ggL_law_L_weight : GoodIn wsL_law wsL_weight := goodIn_ca (goodIn_ca (goodIn_r _ [391, 95, 392, 393, 394, 2, 395, 24, 268, 269, 270, 23, 271, 272, 107, 246, 59, 273, 274, 275, 276, 106, 20, 168, 169, 170, 19, 171, 172, 277, 278, 279, 61, 280, 66, 673, 674, 675, 676, 677, 678, 694, 695, 691, 692, 693, 696, 697, 698, 699, 700] (by decide +kernel) (by decide +kernel)) (goodIn_sub (fun _ h => List.mem_append_right _ h) (by decide +kernel))) (goodIn_sub (fun _ h => List.mem_append_left _ (List.mem_append_left _ (List.mem_append_right _ h))) (by decide +kernel))
set_option maxRecDepth 20000 in
theorem gL_law_L_weight : GoodIn wsL_law (va_wsS RL 106 yL_weight wsL_weight) := goodIn_app (goodIn_of _ (by decide +kernel)) ggL_law_L_weight
set_option maxRecDepth 20000 in
theorem ggL_law_X6_weight : GoodIn wsL_law wsX6_weight := goodIn_r _ [399, 124, 82, 289, 290, 291, 5, 292, 260, 125, 126, 127, 293, 294, 295, 296, 234, 128, 129, 130, 131, 679, 680, 681, 682, 683, 684, 685, 686, 687, 688, 701, 702, 703, 704, 705, 706] (by decide +kernel) (by decide +kernel)
set_option maxRecDepth 20000 in
theorem gL_law_X6_weight : GoodIn wsL_law (wsV RL 108 RX6 yX6_weight wsX6_weight) := goodIn_app (goodIn_of _ (by decide +kernel)) ggL_law_X6_weight
set_option maxRecDepth 20000 in
theorem ggL_law_L_about : GoodIn wsL_law wsL_about := goodIn_ca (goodIn_ca (goodIn_r _ [402, 95, 403, 404, 405, 2, 406, 24, 20, 407, 268, 269, 270, 23, 271, 272, 107, 246, 59, 360, 361, 362, 106, 168, 169, 170, 19, 171, 172, 408, 409, 410, 61, 411, 66, 412, 413, 414, 415, 416, 417, 418, 419, 420, 68, 67, 421, 422, 423, 424, 26, 322, 16, 323, 324, 325, 326, 327, 328, 329, 330, 331, 332, 333, 334, 335, 336, 337, 338, 43, 339, 340, 341, 167, 342, 177, 178, 343, 109, 110, 15, 111, 32, 112, 113, 114, 115, 344, 144, 145, 146, 34, 425, 426, 427, 428, 429, 430, 431, 432, 433, 673, 674, 675, 676, 677, 678, 696, 697, 698, 699, 700, 694, 695, 691, 692, 693, 707, 708, 689, 690] (by decide +kernel) (by decide +kernel)) (goodIn_sub (fun _ h => List.mem_append_right _ h) (by decide +kernel))) (goodIn_sub (fun _ h => List.mem_append_left _ (List.mem_append_left _ (List.mem_append_right _ h))) (by decide +kernel))
set_option maxRecDepth 20000 in
theorem gL_law_L_about : GoodIn wsL_law (va_wsS RL 109 yL_about wsL_about) := goodIn_app (goodIn_of _ (by decide +kernel)) ggL_law_L_about
set_option maxRecDepth 20000 in
theorem ggL_law_X6_about : GoodIn wsL_law wsX6_about := goodIn_r _ [437, 124, 289, 290, 291, 5, 292, 260, 125, 126, 127, 438, 439, 440, 441, 82, 442, 443, 444, 445, 234, 78, 349, 350, 351, 352, 76, 74, 77, 75, 446, 447, 448, 449, 450, 451, 452, 453, 454, 455, 456, 457, 458, 459, 460, 128, 129, 130, 131, 679, 680, 681, 682, 683, 684, 685, 686, 687, 688, 701, 702, 703, 704, 705, 706] (by decide +kernel) (by decide +kernel)
set_option maxRecDepth 20000 in
theorem gL_law_X6_about : GoodIn wsL_law (wsV RL 111 RX6 yX6_about wsX6_about) := goodIn_app (goodIn_of _ (by decide +kernel)) ggL_law_X6_about
set_option maxRecDepth 20000 in
theorem ggL_law_L_at : GoodIn wsL_law wsL_at := goodIn_ca (goodIn_ca (goodIn_r _ [463, 95, 464, 465, 466, 2, 467, 106, 107, 24, 252, 253, 254, 23, 255, 246, 268, 269, 270, 271, 272, 59, 412, 413, 414, 415, 416, 417, 418, 61, 419, 420, 68, 67, 673, 674, 675, 676, 677, 678, 694, 695, 696, 697, 698, 699, 700] (by decide +kernel) (by decide +kernel)) (goodIn_sub (fun _ h => List.mem_append_left _ (List.mem_append_left _ (List.mem_append_right _ h))) (by decide +kernel))) (goodIn_sub (fun _ h => List.mem_append_right _ h) (by decide +kernel))
set_option maxRecDepth 20000 in
theorem gL_law_L_at : GoodIn wsL_law (va_wsS RL 112 yL_at wsL_at) := goodIn_app (goodIn_of _ (by decide +kernel)) ggL_law_L_at
set_option maxRecDepth 20000 in
theorem ggL_law_X6_at : GoodIn wsL_law wsX6_at := goodIn_r _ [471, 124, 260, 450, 451, 452, 5, 453, 82, 454, 455, 456, 128, 129, 130, 131, 679, 680, 681, 682, 683, 684, 685, 686, 687, 688, 701, 702, 703, 704, 705, 706] (by decide +kernel) (by decide +kernel)
set_option maxRecDepth 20000 in
theorem gL_law_X6_at : GoodIn wsL_law (wsV RL 115 RX6 yX6_at wsX6_at) := goodIn_app (goodIn_of _ (by decide +kernel)) ggL_law_X6_at
set_option maxRecDepth 20000 in
theorem ggL_law_L_count : GoodIn wsL_law wsL_count := goodIn_ca (goodIn_r _ [474, 95, 475, 476, 477, 2, 478, 407, 20, 24, 16, 360, 361, 362, 106, 107, 168, 169, 170, 19, 171, 172, 252, 253, 254, 23, 255, 246, 479, 480, 481, 15, 482, 34, 483, 484, 485, 486, 487, 488, 489, 490, 59, 491, 492, 493, 494, 421, 422, 423, 424, 26, 322, 323, 324, 325, 326, 327, 328, 329, 330, 331, 332, 333, 334, 335, 336, 337, 338, 43, 339, 340, 341, 167, 342, 177, 178, 343, 109, 110, 111, 32, 112, 113, 114, 115, 344, 144, 145, 146, 495, 496, 497, 498, 499, 426, 427, 61, 428, 429, 430, 431, 432, 66, 673, 674, 675, 676, 677, 678, 691, 692, 693, 694, 695, 689, 690, 696, 697, 698, 699, 700, 707, 708] (by decide +kernel) (by decide +kernel)) (goodIn_sub (fun _ h => List.mem_append_left _ (List.mem_append_left _ (List.mem_append_right _ h))) (by decide +kernel))
set_option maxRecDepth 20000 in
theorem gL_law_L_count : GoodIn wsL_law (va_wsS RL 116 yL_count wsL_count) := goodIn_app (goodIn_of _ (by decide +kernel)) ggL_law_L_count
set_option maxRecDepth 20000 in
theorem ggL_law_X6_count : GoodIn wsL_law wsX6_count := goodIn_r _ [503, 124, 82, 125, 126, 5, 127, 504, 505, 506, 507, 234, 260, 75, 508, 509, 510, 511, 512, 513, 514, 515, 442, 443, 444, 445, 78, 349, 350, 351, 352, 76, 74, 77, 457, 458, 459, 460, 128, 129, 130, 131, 679, 680, 681, 682, 683, 684, 685, 686, 687, 688, 701, 702, 703, 704, 705, 706] (by decide +kernel) (by decide +kernel)
set_option maxRecDepth 20000 in
theorem gL_law_X6_count : GoodIn wsL_law (wsV RL 118 RX6 yX6_count wsX6_count) := goodIn_app (goodIn_of _ (by decide +kernel)) ggL_law_X6_count
set_option maxRecDepth 20000 in
theorem ggL_law_L_pass : GoodIn wsL_law wsL_pass := goodIn_ca (goodIn_r _ [518, 96, 519, 520, 521, 2, 522, 24, 407, 523, 524, 525, 101, 102, 526, 527, 528, 529, 530, 531, 532, 533, 16, 421, 422, 423, 424, 26, 20, 322, 168, 169, 170, 19, 171, 172, 323, 324, 325, 326, 327, 328, 329, 330, 331, 332, 333, 334, 335, 336, 337, 338, 43, 339, 340, 341, 167, 342, 177, 178, 343, 109, 110, 15, 111, 32, 112, 113, 114, 115, 344, 144, 145, 146, 34, 143, 534, 535, 536, 23, 537, 246, 59, 538, 539, 540, 61, 541, 420, 542, 543, 426, 427, 428, 429, 430, 431, 432, 66, 544, 545, 546, 547, 548, 224, 199, 225, 549, 550, 551, 552, 68, 673, 674, 675, 676, 677, 678, 691, 692, 693, 707, 708, 689, 690, 694, 695, 696, 697, 698, 699, 700] (by decide +kernel) (by decide +kernel)) (goodIn_sub (fun _ h => List.mem_append_left _ (List.mem_append_left _ (List.mem_append_left _ (List.mem_append_right _ h)))) (by decide +kernel))
set_option maxRecDepth 20000 in
theorem gL_law_L_pass : GoodIn wsL_law (va_wsS RL 119 yL_pass wsL_pass) := goodIn_app (goodIn_of _ (by decide +kernel)) ggL_law_L_pass
set_option maxRecDepth 20000 in
theorem ggL_law_X6_pass_ : GoodIn wsL_law wsX6_pass_ := goodIn_r _ [556, 124, 82, 125, 126, 5, 127, 128, 129, 130, 131, 557, 558, 559, 560, 561, 562, 563, 564, 75, 260, 442, 443, 444, 445, 234, 78, 349, 350, 351, 352, 76, 74, 77, 565, 566, 567, 568, 457, 458, 459, 460, 569, 570, 571, 572, 573, 224, 199, 225, 574, 575, 576, 577, 198, 200, 679, 680, 681, 682, 683, 684, 685, 686, 687, 688, 701, 702, 703, 704, 705, 706] (by decide +kernel) (by decide +kernel)
set_option maxRecDepth 20000 in
theorem gL_law_X6_pass_ : GoodIn wsL_law (wsV RL 121 RX6 yX6_pass_ wsX6_pass_) := goodIn_app (goodIn_of _ (by decide +kernel)) ggL_law_X6_pass_
set_option maxRecDepth 20000 in
theorem ggL_law_L_foresee : GoodIn wsL_law wsL_foresee := goodIn_ca (goodIn_ca (goodIn_ca (goodIn_r _ [580, 96, 95, 581, 582, 583, 2, 584, 27, 24, 407, 523, 524, 525, 101, 102, 360, 361, 362, 106, 107, 585, 586, 587, 23, 588, 246, 252, 253, 254, 255, 268, 269, 270, 271, 272, 59, 589, 590, 591, 592, 251, 243, 244, 245, 593, 594, 595, 61, 596, 67, 420, 68, 542, 66, 526, 527, 528, 529, 530, 531, 532, 533, 16, 421, 422, 423, 424, 26, 20, 322, 168, 169, 170, 19, 171, 172, 323, 324, 325, 326, 327, 328, 329, 330, 331, 332, 333, 334, 335, 336, 337, 338, 43, 339, 340, 341, 167, 342, 177, 178, 343, 109, 110, 15, 111, 32, 112, 113, 114, 115, 344, 144, 145, 146, 34, 143, 534, 535, 536, 537, 538, 539, 540, 541, 543, 426, 427, 428, 429, 430, 431, 432, 544, 545, 546, 547, 548, 224, 199, 225, 549, 550, 551, 552, 483, 484, 485, 486, 487, 488, 489, 490, 491, 492, 493, 494, 495, 496, 497, 498, 499, 673, 674, 675, 676, 677, 678, 694, 695, 696, 697, 698, 699, 700, 691, 692, 693, 707, 708, 689, 690] (by decide +kernel) (by decide +kernel)) (goodIn_sub (fun _ h => List.mem_append_left _ (List.mem_append_left _ (List.mem_append_left _ (List.mem_append_right _ h)))) (by decide +kernel))) (goodIn_sub (fun _ h => List.mem_append_left _ (List.mem_append_left _ (List.mem_append_right _ h))) (by decide +kernel))) (goodIn_sub (fun _ h => List.mem_append_right _ h) (by decide +kernel))
set_option maxRecDepth 20000 in
theorem gL_law_L_foresee : GoodIn wsL_law (va_wsS RL 122 yL_foresee wsL_foresee) := goodIn_app (goodIn_of _ (by decide +kernel)) ggL_law_L_foresee
set_option maxRecDepth 20000 in
theorem ggL_law_X6_foresee : GoodIn wsL_law wsX6_foresee := goodIn_r _ [600, 124, 125, 126, 5, 127, 128, 129, 130, 131, 601, 602, 603, 604, 83, 82, 605, 606, 607, 81, 608, 609, 610, 87, 88, 89, 90, 611, 612, 613, 614, 227, 228, 229, 557, 558, 559, 560, 561, 562, 563, 564, 75, 260, 442, 443, 444, 445, 234, 78, 349, 350, 351, 352, 76, 74, 77, 565, 566, 567, 568, 457, 458, 459, 460, 569, 570, 571, 572, 573, 224, 199, 225, 574, 575, 576, 577, 198, 200, 504, 505, 506, 507, 508, 509, 510, 511, 512, 513, 514, 515, 679, 680, 681, 682, 683, 684, 685, 686, 687, 688, 701, 702, 703, 704, 705, 706] (by decide +kernel) (by decide +kernel)
set_option maxRecDepth 20000 in
theorem gL_law_X6_foresee : GoodIn wsL_law (wsV RL 124 RX6 yX6_foresee wsX6_foresee) := goodIn_app (goodIn_of _ (by decide +kernel)) ggL_law_X6_foresee
set_option maxRecDepth 20000 in
theorem ggL_law_L_overtakes : GoodIn wsL_law wsL_overtakes := goodIn_ca (goodIn_ca (goodIn_r _ [617, 95, 96, 618, 619, 620, 2, 621, 24, 27, 407, 268, 269, 270, 23, 271, 272, 107, 246, 59, 304, 305, 306, 101, 102, 585, 586, 587, 588, 589, 590, 591, 592, 251, 243, 244, 245, 593, 594, 595, 61, 596, 67, 420, 68, 542, 66, 622, 417, 418, 419, 530, 531, 532, 533, 16, 421, 422, 423, 424, 26, 20, 322, 168, 169, 170, 19, 171, 172, 323, 324, 325, 326, 327, 328, 329, 330, 331, 332, 333, 334, 335, 336, 337, 338, 43, 339, 340, 341, 167, 342, 177, 178, 343, 109, 110, 15, 111, 32, 112, 113, 114, 115, 344, 144, 145, 146, 34, 143, 534, 535, 536, 537, 538, 539, 540, 541, 543, 426, 427, 428, 429, 430, 431, 432, 544, 545, 546, 547, 548, 224, 199, 225, 549, 550, 551, 552, 673, 674, 675, 676, 677, 678, 694, 695, 696, 697, 698, 699, 700, 691, 692, 693, 707, 708, 689, 690] (by decide +kernel) (by decide +kernel)) (goodIn_sub (fun _ h => List.mem_append_right _ h) (by decide +kernel))) (goodIn_sub (fun _ h => List.mem_append_left _ (List.mem_append_left _ (List.mem_append_left _ (List.mem_append_right _ h)))) (by decide +kernel))
set_option maxRecDepth 20000 in
theorem gL_law_L_overtakes : GoodIn wsL_law (va_wsS RL 125 yL_overtakes wsL_overtakes) := goodIn_app (goodIn_of _ (by decide +kernel)) ggL_law_L_overtakes
set_option maxRecDepth 20000 in
theorem ggL_law_X6_overtakes : GoodIn wsL_law wsX6_overtakes := goodIn_r _ [626, 124, 83, 289, 290, 291, 5, 292, 260, 125, 126, 127, 128, 129, 130, 131, 601, 602, 603, 604, 82, 605, 606, 607, 81, 608, 609, 610, 87, 88, 89, 90, 611, 612, 613, 614, 227, 228, 229, 454, 455, 456, 561, 562, 563, 564, 75, 442, 443, 444, 445, 234, 78, 349, 350, 351, 352, 76, 74, 77, 565, 566, 567, 568, 457, 458, 459, 460, 569, 570, 571, 572, 573, 224, 199, 225, 574, 575, 576, 577, 198, 200, 679, 680, 681, 682, 683, 684, 685, 686, 687, 688, 701, 702, 703, 704, 705, 706] (by decide +kernel) (by decide +kernel)
set_option maxRecDepth 20000 in
theorem gL_law_X6_overtakes : GoodIn wsL_law (wsV RL 127 RX6 yX6_overtakes wsX6_overtakes) := goodIn_app (goodIn_of _ (by decide +kernel)) ggL_law_X6_overtakes
set_option maxRecDepth 20000 in
theorem ggL_law_L_advise : GoodIn wsL_law wsL_advise := goodIn_ca (goodIn_ca (goodIn_r _ [629, 95, 96, 630, 631, 632, 2, 633, 24, 27, 20, 268, 269, 270, 23, 271, 272, 107, 246, 59, 523, 524, 525, 101, 102, 585, 586, 587, 588, 168, 169, 170, 19, 171, 172, 589, 590, 591, 592, 251, 243, 244, 245, 593, 594, 595, 61, 596, 67, 420, 68, 542, 66, 252, 253, 254, 255, 281, 282, 283, 284, 526, 527, 528, 529, 407, 530, 531, 532, 533, 16, 421, 422, 423, 424, 26, 322, 323, 324, 325, 326, 327, 328, 329, 330, 331, 332, 333, 334, 335, 336, 337, 338, 43, 339, 340, 341, 167, 342, 177, 178, 343, 109, 110, 15, 111, 32, 112, 113, 114, 115, 344, 144, 145, 146, 34, 143, 534, 535, 536, 537, 538, 539, 540, 541, 543, 426, 427, 428, 429, 430, 431, 432, 544, 545, 546, 547, 548, 224, 199, 225, 549, 550, 551, 552, 673, 674, 675, 676, 677, 678, 696, 697, 698, 699, 700, 694, 695, 691, 692, 693, 707, 708, 689, 690] (by decide +kernel) (by decide +kernel)) (goodIn_sub (fun _ h => List.mem_append_right _ h) (by decide +kernel))) (goodIn_sub (fun _ h => List.mem_append_left _ (List.mem_append_left _ (List.mem_append_left _ (List.mem_append_right _ h)))) (by decide +kernel))
set_option maxRecDepth 20000 in
theorem gL_law_L_advise : GoodIn wsL_law (va_wsS RL 128 yL_advise wsL_advise) := goodIn_app (goodIn_of _ (by decide +kernel)) ggL_law_L_advise
set_option maxRecDepth 20000 in
theorem ggL_law_X6_advise : GoodIn wsL_law wsX6_advise := goodIn_r _ [637, 124, 234, 83, 289, 290, 291, 5, 292, 260, 125, 126, 127, 128, 129, 130, 131, 601, 602, 603, 604, 82, 605, 606, 607, 81, 608, 609, 610, 87, 88, 89, 90, 611, 612, 613, 614, 227, 228, 229, 557, 558, 559, 560, 561, 562, 563, 564, 75, 442, 443, 444, 445, 78, 349, 350, 351, 352, 76, 74, 77, 565, 566, 567, 568, 457, 458, 459, 460, 569, 570, 571, 572, 573, 224, 199, 225, 574, 575, 576, 577, 198, 200, 679, 680, 681, 682, 683, 684, 685, 686, 687, 688, 701, 702, 703, 704, 705, 706] (by decide +kernel) (by decide +kernel)
set_option maxRecDepth 20000 in
theorem gL_law_X6_advise : GoodIn wsL_law (wsV RL 130 RX6 yX6_advise wsX6_advise) := goodIn_app (goodIn_of _ (by decide +kernel)) ggL_law_X6_advise
set_option maxRecDepth 20000 in
theorem ggL_law_X4_best : GoodIn wsL_law wsX4_best := goodIn_r _ [641, 20, 322, 16, 168, 169, 170, 19, 171, 172, 323, 324, 325, 326, 327, 328, 329, 330, 331, 332, 333, 334, 335, 336, 337, 338, 43, 363, 364, 365, 167, 366, 367, 340, 341, 342, 177, 178, 343, 109, 110, 15, 111, 32, 112, 113, 114, 115, 344, 144, 145, 146, 34, 673, 674, 675, 676, 677, 678, 691, 692, 693, 707, 708, 689, 690] (by decide +kernel) (by decide +kernel)
set_option maxRecDepth 20000 in
theorem gL_law_X4_best : GoodIn wsL_law (wsV RL 131 RX4 yX4_best wsX4_best) := goodIn_app (goodIn_of _ (by decide +kernel)) ggL_law_X4_best
set_option maxRecDepth 20000 in
theorem ggL_law_X6_best : GoodIn wsL_law wsX6_best := goodIn_r _ [645, 124, 234, 381, 382, 383, 5, 384, 385, 386, 387, 388, 75, 349, 350, 351, 352, 76, 74, 77, 679, 680, 681, 682, 683, 684, 685, 686, 687, 688] (by decide +kernel) (by decide +kernel)
set_option maxRecDepth 20000 in
theorem gL_law_X6_best : GoodIn wsL_law (wsV RL 134 RX6 yX6_best wsX6_best) := goodIn_app (goodIn_of _ (by decide +kernel)) ggL_law_X6_best
set_option maxRecDepth 20000 in
theorem ggL_law_X4_mean : GoodIn wsL_law wsX4_mean := goodIn_r _ [649, 24, 252, 253, 254, 23, 255, 246, 487, 488, 489, 490, 59, 673, 674, 675, 676, 677, 678, 694, 695, 696, 697, 698, 699, 700] (by decide +kernel) (by decide +kernel)
set_option maxRecDepth 20000 in
theorem gL_law_X4_mean : GoodIn wsL_law (wsV RL 135 RX4 yX4_mean wsX4_mean) := goodIn_app (goodIn_of _ (by decide +kernel)) ggL_law_X4_mean
set_option maxRecDepth 20000 in
theorem ggL_law_X6_mean : GoodIn wsL_law wsX6_mean := goodIn_r _ [653, 124, 260, 82, 508, 509, 510, 5, 511, 679, 680, 681, 682, 683, 684, 685, 686, 687, 688, 701, 702, 703, 704, 705, 706] (by decide +kernel) (by decide +kernel)
set_option maxRecDepth 20000 in
theorem gL_law_X6_mean : GoodIn wsL_law (wsV RL 139 RX6 yX6_mean wsX6_mean) := goodIn_app (goodIn_of _ (by decide +kernel)) ggL_law_X6_mean
set_option maxRecDepth 20000 in
theorem ggL_law_X4_digest : GoodIn wsL_law wsX4_digest := goodIn_ca (goodIn_ca (goodIn_r _ [657, 658, 16, 20, 24, 659, 476, 477, 2, 478, 407, 360, 361, 362, 106, 107, 168, 169, 170, 19, 171, 172, 252, 253, 254, 23, 255, 246, 479, 480, 481, 15, 482, 34, 483, 484, 485, 486, 487, 488, 489, 490, 59, 491, 492, 493, 494, 421, 422, 423, 424, 26, 322, 323, 324, 325, 326, 327, 328, 329, 330, 331, 332, 333, 334, 335, 336, 337, 338, 43, 339, 340, 341, 167, 342, 177, 178, 343, 109, 110, 111, 32, 112, 113, 114, 115, 344, 144, 145, 146, 495, 496, 497, 498, 499, 426, 427, 61, 428, 429, 430, 431, 432, 66, 660, 661, 662, 663, 108, 143, 664, 357, 358, 359, 273, 274, 275, 276, 363, 364, 365, 366, 367, 368, 369, 370, 371, 372, 278, 279, 280, 665, 404, 405, 406, 268, 269, 270, 271, 272, 408, 409, 410, 411, 412, 413, 414, 415, 416, 417, 418, 419, 420, 68, 67, 425, 433, 666, 393, 394, 395, 277, 673, 674, 675, 676, 677, 678, 691, 692, 693, 694, 695, 689, 690, 696, 697, 698, 699, 700, 707, 708] (by decide +kernel) (by decide +kernel)) (goodIn_sub (fun _ h => List.mem_append_left _ (List.mem_append_left _ (List.mem_append_right _ h))) (by decide +kernel))) (goodIn_sub (fun _ h => List.mem_append_right _ h) (by decide +kernel))
set_option maxRecDepth 20000 in
theorem gL_law_X4_digest : GoodIn wsL_law (wsV RL 140 RX4 yX4_digest wsX4_digest) := goodIn_app (goodIn_of _ (by decide +kernel)) ggL_law_X4_digest
set_option maxRecDepth 20000 in
theorem ggL_law_X6_digest : GoodIn wsL_law wsX6_digest := goodIn_r _ [670, 124, 671, 672, 82, 74, 75, 234, 260, 504, 505, 506, 5, 507, 508, 509, 510, 511, 512, 513, 514, 515, 442, 443, 444, 445, 78, 349, 350, 351, 352, 76, 77, 457, 458, 459, 460, 377, 378, 379, 380, 381, 382, 383, 384, 385, 386, 387, 388, 438, 439, 440, 441, 446, 447, 448, 449, 450, 451, 452, 453, 454, 455, 456, 679, 680, 681, 682, 683, 684, 685, 686, 687, 688, 701, 702, 703, 704, 705, 706] (by decide +kernel) (by decide +kernel)
set_option maxRecDepth 20000 in
theorem gL_law_X6_digest : GoodIn wsL_law (wsV RL 144 RX6 yX6_digest wsX6_digest) := goodIn_app (goodIn_of _ (by decide +kernel)) ggL_law_X6_digest
