set_option maxRecDepth 20000 in
theorem ggL_law_X4_init : GoodIn wsL_law wsX4_init := goodIn_r _ [9, 10, 11, 12, 13, 14, 15, 16, 17, 18, 19, 20, 21, 22, 23, 24, 25, 26, 27, 28, 29, 30, 31, 32, 33, 34, 35, 36, 37, 38, 39, 40, 41, 42, 43, 44, 45, 46, 47, 48, 49, 50, 51, 52, 53, 54, 55, 56, 57, 58, 59, 60, 61, 62, 63, 64, 65, 66, 67, 68, 69, 70, 71, 72, 73, 690, 691, 674, 675, 676, 677, 678, 679, 692, 693, 694, 695, 696, 697, 698, 699, 700, 701] (by decide +kernel) (by decide +kernel)
set_option maxRecDepth 20000 in
theorem gL_law_X4_init : GoodIn wsL_law (wsX4_init) := ggL_law_X4_init
set_option maxRecDepth 20000 in
theorem ggL_law_X6_init : GoodIn wsL_law wsX6_init := goodIn_r _ [76, 77, 11, 12, 25, 78, 79, 80, 81, 82, 83, 84, 85, 86, 87, 88, 89, 90, 91, 92, 93, 94, 680, 681, 682, 683, 684, 685, 686, 687, 688, 689, 702, 703, 704, 705, 706, 707] (by decide +kernel) (by decide +kernel)
set_option maxRecDepth 20000 in
theorem gL_law_X6_init : GoodIn wsL_law (wsX6_init) := ggL_law_X6_init
set_option maxRecDepth 20000 in
theorem ggL_law_L_setGlass : GoodIn wsL_law wsL_setGlass := goodIn_ca (goodIn_ca (goodIn_r _ [98, 99, 100, 101, 102, 103, 2, 104, 105, 106, 16, 107, 108, 109, 110, 111, 112, 113, 114, 15, 115, 32, 116, 117, 118, 119, 120, 121, 122, 123, 674, 675, 676, 677, 678, 679, 690, 691] (by decide +kernel) (by decide +kernel)) (goodIn_sub (fun _ h => List.mem_append_left _ (List.mem_append_left _ (List.mem_append_left _ (List.mem_append_right _ h)))) (by decide +kernel))) (goodIn_sub (fun _ h => List.mem_append_left _ (List.mem_append_left _ (List.mem_append_right _ h))) (by decide +kernel))
set_option maxRecDepth 20000 in
theorem gL_law_L_setGlass : GoodIn wsL_law (va_wsS RL 73 yL_setGlass wsL_setGlass) := goodIn_app (goodIn_of _ (by decide +kernel)) ggL_law_L_setGlass
set_option maxRecDepth 20000 in
theorem ggL_law_X6_setGlass : GoodIn wsL_law wsX6_setGlass := goodIn_r _ [127, 128, 78, 129, 130, 5, 131, 132, 133, 134, 135, 680, 681, 682, 683, 684, 685, 686, 687, 688, 689] (by decide +kernel) (by decide +kernel)
set_option maxRecDepth 20000 in
theorem gL_law_X6_setGlass : GoodIn wsL_law (wsV RL 78 RX6 yX6_setGlass wsX6_setGlass) := goodIn_app (goodIn_of _ (by decide +kernel)) ggL_law_X6_setGlass
set_option maxRecDepth 20000 in
theorem ggL_law_X6_thrown : GoodIn wsL_law wsX6_thrown := goodIn_r _ [139, 128, 680, 681, 682, 683, 684, 685, 686, 687, 688, 689] (by decide +kernel) (by decide +kernel)
set_option maxRecDepth 20000 in
theorem gL_law_X6_thrown : GoodIn wsL_law (wsV RL 79 RX6 yX6_thrown wsX6_thrown) := goodIn_app (goodIn_of _ (by decide +kernel)) ggL_law_X6_thrown
set_option maxRecDepth 20000 in
theorem ggL_law_L_setRain : GoodIn wsL_law wsL_setRain := goodIn_ca (goodIn_r _ [142, 99, 143, 144, 145, 2, 146, 16, 107, 108, 109, 110, 111, 147, 148, 149, 15, 150, 34, 116, 117, 118, 119, 151, 152, 153, 154, 674, 675, 676, 677, 678, 679, 690, 691] (by decide +kernel) (by decide +kernel)) (goodIn_sub (fun _ h => List.mem_append_left _ (List.mem_append_left _ (List.mem_append_right _ h))) (by decide +kernel))
set_option maxRecDepth 20000 in
theorem gL_law_L_setRain : GoodIn wsL_law (va_wsS RL 82 yL_setRain wsL_setRain) := goodIn_app (goodIn_of _ (by decide +kernel)) ggL_law_L_setRain
set_option maxRecDepth 20000 in
theorem ggL_law_X6_setRain : GoodIn wsL_law wsX6_setRain := goodIn_r _ [158, 128, 79, 129, 130, 5, 131, 680, 681, 682, 683, 684, 685, 686, 687, 688, 689] (by decide +kernel) (by decide +kernel)
set_option maxRecDepth 20000 in
theorem gL_law_X6_setRain : GoodIn wsL_law (wsV RL 85 RX6 yX6_setRain wsX6_setRain) := goodIn_app (goodIn_of _ (by decide +kernel)) ggL_law_X6_setRain
set_option maxRecDepth 20000 in
theorem ggL_law_L_sign : GoodIn wsL_law wsL_sign := goodIn_ca (goodIn_ca (goodIn_r _ [161, 100, 162, 163, 164, 165, 2, 166, 105, 106, 167, 168, 20, 169, 170, 171, 172, 173, 174, 19, 175, 176, 177, 178, 179, 180, 11, 12, 181, 182, 183, 184, 185, 186, 187, 188, 43, 189, 190, 191, 192, 193, 194, 195, 196, 197, 198, 199, 200, 42, 201, 59, 60, 61, 202, 203, 204, 205, 206, 207, 208, 209, 210, 211, 212, 213, 37, 214, 215, 216, 217, 218, 219, 220, 221, 222, 223, 224, 225, 226, 227, 228, 229, 230, 674, 675, 676, 677, 678, 679, 708, 709, 692, 693, 694] (by decide +kernel) (by decide +kernel)) (goodIn_sub (fun _ h => List.mem_append_left _ (List.mem_append_left _ (List.mem_append_left _ (List.mem_append_right _ h)))) (by decide +kernel))) (goodIn_sub (fun _ h => List.mem_append_left _ (List.mem_append_right _ h)) (by decide +kernel))
set_option maxRecDepth 20000 in
theorem gL_law_L_sign : GoodIn wsL_law (va_wsS RL 86 yL_sign wsL_sign) := goodIn_app (goodIn_of _ (by decide +kernel)) ggL_law_L_sign
set_option maxRecDepth 20000 in
theorem ggL_law_X6_sign : GoodIn wsL_law wsX6_sign := goodIn_r _ [234, 128, 235, 80, 81, 129, 130, 5, 131, 132, 133, 134, 135, 680, 681, 682, 683, 684, 685, 686, 687, 688, 689] (by decide +kernel) (by decide +kernel)
set_option maxRecDepth 20000 in
theorem gL_law_X6_sign : GoodIn wsL_law (wsV RL 88 RX6 yX6_sign wsX6_sign) := goodIn_app (goodIn_of _ (by decide +kernel)) ggL_law_X6_sign
set_option maxRecDepth 20000 in
theorem ggL_law_L_join : GoodIn wsL_law wsL_join := goodIn_ca (goodIn_r _ [238, 162, 239, 240, 241, 2, 242, 167, 168, 24, 243, 244, 245, 23, 246, 247, 63, 248, 249, 250, 251, 252, 253, 254, 255, 256, 674, 675, 676, 677, 678, 679, 695, 696] (by decide +kernel) (by decide +kernel)) (goodIn_sub (fun _ h => List.mem_append_left _ (List.mem_append_right _ h)) (by decide +kernel))
set_option maxRecDepth 20000 in
theorem gL_law_L_join : GoodIn wsL_law (va_wsS RL 89 yL_join wsL_join) := goodIn_app (goodIn_of _ (by decide +kernel)) ggL_law_L_join
set_option maxRecDepth 20000 in
theorem ggL_law_X6_join : GoodIn wsL_law wsX6_join := goodIn_r _ [260, 128, 261, 132, 133, 134, 5, 135, 680, 681, 682, 683, 684, 685, 686, 687, 688, 689] (by decide +kernel) (by decide +kernel)
set_option maxRecDepth 20000 in
theorem gL_law_X6_join : GoodIn wsL_law (wsV RL 92 RX6 yX6_join wsX6_join) := goodIn_app (goodIn_of _ (by decide +kernel)) ggL_law_X6_join
set_option maxRecDepth 20000 in
theorem ggL_law_L_weigh : GoodIn wsL_law wsL_weigh := goodIn_ca (goodIn_ca (goodIn_ca (goodIn_r _ [264, 99, 100, 265, 266, 267, 2, 268, 105, 106, 24, 269, 270, 271, 23, 272, 273, 111, 247, 63, 274, 275, 276, 277, 110, 20, 172, 173, 174, 19, 175, 176, 278, 279, 280, 65, 281, 70, 282, 283, 284, 285, 674, 675, 676, 677, 678, 679, 695, 696, 692, 693, 694, 697, 698, 699, 700, 701] (by decide +kernel) (by decide +kernel)) (goodIn_sub (fun _ h => List.mem_append_left _ (List.mem_append_left _ (List.mem_append_left _ (List.mem_append_right _ h)))) (by decide +kernel))) (goodIn_sub (fun _ h => List.mem_append_right _ h) (by decide +kernel))) (goodIn_sub (fun _ h => List.mem_append_left _ (List.mem_append_left _ (List.mem_append_right _ h))) (by decide +kernel))
set_option maxRecDepth 20000 in
theorem gL_law_L_weigh : GoodIn wsL_law (va_wsS RL 93 yL_weigh wsL_weigh) := goodIn_app (goodIn_of _ (by decide +kernel)) ggL_law_L_weigh
set_option maxRecDepth 20000 in
theorem ggL_law_X6_weigh : GoodIn wsL_law wsX6_weigh := goodIn_r _ [289, 128, 86, 290, 291, 292, 5, 293, 261, 129, 130, 131, 294, 295, 296, 297, 235, 132, 133, 134, 135, 680, 681, 682, 683, 684, 685, 686, 687, 688, 689, 702, 703, 704, 705, 706, 707] (by decide +kernel) (by decide +kernel)
set_option maxRecDepth 20000 in
theorem gL_law_X6_weigh : GoodIn wsL_law (wsV RL 96 RX6 yX6_weigh wsX6_weigh) := goodIn_app (goodIn_of _ (by decide +kernel)) ggL_law_X6_weigh
set_option maxRecDepth 20000 in
theorem ggL_law_L_share : GoodIn wsL_law wsL_share := goodIn_ca (goodIn_ca (goodIn_ca (goodIn_r _ [300, 99, 100, 162, 301, 302, 303, 2, 304, 167, 168, 24, 269, 270, 271, 23, 272, 273, 111, 247, 63, 305, 306, 307, 105, 106, 308, 309, 310, 65, 311, 72, 70, 674, 675, 676, 677, 678, 679, 697, 698, 699, 700, 701, 695, 696] (by decide +kernel) (by decide +kernel)) (goodIn_sub (fun _ h => List.mem_append_left _ (List.mem_append_right _ h)) (by decide +kernel))) (goodIn_sub (fun _ h => List.mem_append_right _ h) (by decide +kernel))) (goodIn_sub (fun _ h => List.mem_append_left _ (List.mem_append_left _ (List.mem_append_left _ (List.mem_append_right _ h)))) (by decide +kernel))
set_option maxRecDepth 20000 in
theorem gL_law_L_share : GoodIn wsL_law (va_wsS RL 97 yL_share wsL_share) := goodIn_app (goodIn_of _ (by decide +kernel)) ggL_law_L_share
set_option maxRecDepth 20000 in
theorem ggL_law_X6_share : GoodIn wsL_law wsX6_share := goodIn_r _ [315, 128, 86, 235, 290, 291, 292, 5, 293, 261, 129, 130, 131, 132, 133, 134, 135, 680, 681, 682, 683, 684, 685, 686, 687, 688, 689, 702, 703, 704, 705, 706, 707] (by decide +kernel) (by decide +kernel)
set_option maxRecDepth 20000 in
theorem gL_law_X6_share : GoodIn wsL_law (wsV RL 99 RX6 yX6_share wsX6_share) := goodIn_app (goodIn_of _ (by decide +kernel)) ggL_law_X6_share
set_option maxRecDepth 20000 in
theorem ggL_law_L_says : GoodIn wsL_law wsL_says := goodIn_ca (goodIn_ca (goodIn_r _ [318, 99, 100, 319, 320, 321, 2, 322, 105, 106, 20, 323, 16, 274, 275, 276, 277, 110, 111, 172, 173, 174, 19, 175, 176, 324, 325, 326, 327, 328, 329, 330, 331, 332, 333, 334, 335, 336, 337, 338, 339, 43, 340, 341, 342, 171, 343, 181, 182, 344, 113, 114, 15, 115, 32, 116, 117, 118, 119, 345, 148, 149, 150, 34, 674, 675, 676, 677, 678, 679, 692, 693, 694, 708, 709, 690, 691] (by decide +kernel) (by decide +kernel)) (goodIn_sub (fun _ h => List.mem_append_left _ (List.mem_append_left _ (List.mem_append_left _ (List.mem_append_right _ h)))) (by decide +kernel))) (goodIn_sub (fun _ h => List.mem_append_left _ (List.mem_append_left _ (List.mem_append_right _ h))) (by decide +kernel))
set_option maxRecDepth 20000 in
theorem gL_law_L_says : GoodIn wsL_law (va_wsS RL 100 yL_says wsL_says) := goodIn_app (goodIn_of _ (by decide +kernel)) ggL_law_L_says
set_option maxRecDepth 20000 in
theorem ggL_law_X6_says : GoodIn wsL_law wsX6_says := goodIn_r _ [349, 128, 294, 295, 296, 5, 297, 235, 129, 130, 131, 350, 351, 352, 353, 80, 78, 81, 79, 680, 681, 682, 683, 684, 685, 686, 687, 688, 689] (by decide +kernel) (by decide +kernel)
set_option maxRecDepth 20000 in
theorem gL_law_X6_says : GoodIn wsL_law (wsV RL 102 RX6 yX6_says wsX6_says) := goodIn_app (goodIn_of _ (by decide +kernel)) ggL_law_X6_says
set_option maxRecDepth 20000 in
theorem ggL_law_L_told : GoodIn wsL_law wsL_told := goodIn_ca (goodIn_r _ [356, 99, 357, 358, 359, 2, 360, 20, 323, 16, 24, 274, 275, 276, 277, 110, 111, 172, 173, 174, 19, 175, 176, 361, 362, 363, 324, 325, 326, 327, 328, 329, 330, 331, 332, 333, 334, 335, 336, 337, 338, 339, 43, 364, 365, 366, 171, 367, 368, 341, 342, 343, 181, 182, 344, 113, 114, 15, 115, 32, 116, 117, 118, 119, 345, 148, 149, 150, 34, 369, 370, 371, 23, 372, 247, 63, 373, 279, 280, 65, 281, 70, 674, 675, 676, 677, 678, 679, 708, 709, 692, 693, 694, 690, 691, 695, 696, 697, 698, 699, 700, 701] (by decide +kernel) (by decide +kernel)) (goodIn_sub (fun _ h => List.mem_append_left _ (List.mem_append_left _ (List.mem_append_right _ h))) (by decide +kernel))
set_option maxRecDepth 20000 in
theorem gL_law_L_told : GoodIn wsL_law (va_wsS RL 103 yL_told wsL_told) := goodIn_app (goodIn_of _ (by decide +kernel)) ggL_law_L_told
set_option maxRecDepth 20000 in
theorem ggL_law_X6_told : GoodIn wsL_law wsX6_told := goodIn_r _ [377, 128, 294, 295, 296, 5, 297, 235, 129, 130, 131, 378, 379, 380, 381, 80, 81, 261, 86, 382, 383, 384, 385, 386, 387, 388, 389, 79, 350, 351, 352, 353, 78, 132, 133, 134, 135, 680, 681, 682, 683, 684, 685, 686, 687, 688, 689, 702, 703, 704, 705, 706, 707] (by decide +kernel) (by decide +kernel)
set_option maxRecDepth 20000 in
theorem gL_law_X6_told : GoodIn wsL_law (wsV RL 105 RX6 yX6_told wsX6_told) := goodIn_app (goodIn_of _ (by decide +kernel)) ggL_law_X6_told
set_option maxRecDepth 20000 in
theorem ggL_law_L_weight : GoodIn wsL_law wsL_weight := goodIn_ca (goodIn_ca (goodIn_r _ [392, 99, 393, 394, 395, 2, 396, 24, 269, 270, 271, 23, 272, 273, 111, 247, 63, 274, 275, 276, 277, 110, 20, 172, 173, 174, 19, 175, 176, 278, 279, 280, 65, 281, 70, 674, 675, 676, 677, 678, 679, 695, 696, 692, 693, 694, 697, 698, 699, 700, 701] (by decide +kernel) (by decide +kernel)) (goodIn_sub (fun _ h => List.mem_append_right _ h) (by decide +kernel))) (goodIn_sub (fun _ h => List.mem_append_left _ (List.mem_append_left _ (List.mem_append_right _ h))) (by decide +kernel))
set_option maxRecDepth 20000 in
theorem gL_law_L_weight : GoodIn wsL_law (va_wsS RL 106 yL_weight wsL_weight) := goodIn_app (goodIn_of _ (by decide +kernel)) ggL_law_L_weight
set_option maxRecDepth 20000 in
theorem ggL_law_X6_weight : GoodIn wsL_law wsX6_weight := goodIn_r _ [400, 128, 86, 290, 291, 292, 5, 293, 261, 129, 130, 131, 294, 295, 296, 297, 235, 132, 133, 134, 135, 680, 681, 682, 683, 684, 685, 686, 687, 688, 689, 702, 703, 704, 705, 706, 707] (by decide +kernel) (by decide +kernel)
set_option maxRecDepth 20000 in
theorem gL_law_X6_weight : GoodIn wsL_law (wsV RL 108 RX6 yX6_weight wsX6_weight) := goodIn_app (goodIn_of _ (by decide +kernel)) ggL_law_X6_weight
set_option maxRecDepth 20000 in
theorem ggL_law_L_about : GoodIn wsL_law wsL_about := goodIn_ca (goodIn_ca (goodIn_r _ [403, 99, 404, 405, 406, 2, 407, 24, 20, 408, 269, 270, 271, 23, 272, 273, 111, 247, 63, 361, 362, 363, 110, 172, 173, 174, 19, 175, 176, 409, 410, 411, 65, 412, 70, 413, 414, 415, 416, 417, 418, 419, 420, 421, 72, 71, 422, 423, 424, 425, 26, 323, 16, 324, 325, 326, 327, 328, 329, 330, 331, 332, 333, 334, 335, 336, 337, 338, 339, 43, 340, 341, 342, 171, 343, 181, 182, 344, 113, 114, 15, 115, 32, 116, 117, 118, 119, 345, 148, 149, 150, 34, 426, 427, 428, 429, 430, 431, 432, 433, 434, 674, 675, 676, 677, 678, 679, 697, 698, 699, 700, 701, 695, 696, 692, 693, 694, 708, 709, 690, 691] (by decide +kernel) (by decide +kernel)) (goodIn_sub (fun _ h => List.mem_append_right _ h) (by decide +kernel))) (goodIn_sub (fun _ h => List.mem_append_left _ (List.mem_append_left _ (List.mem_append_right _ h))) (by decide +kernel))
set_option maxRecDepth 20000 in
theorem gL_law_L_about : GoodIn wsL_law (va_wsS RL 109 yL_about wsL_about) := goodIn_app (goodIn_of _ (by decide +kernel)) ggL_law_L_about
set_option maxRecDepth 20000 in
theorem ggL_law_X6_about : GoodIn wsL_law wsX6_about := goodIn_r _ [438, 128, 290, 291, 292, 5, 293, 261, 129, 130, 131, 439, 440, 441, 442, 86, 443, 444, 445, 446, 235, 82, 350, 351, 352, 353, 80, 78, 81, 79, 447, 448, 449, 450, 451, 452, 453, 454, 455, 456, 457, 458, 459, 460, 461, 132, 133, 134, 135, 680, 681, 682, 683, 684, 685, 686, 687, 688, 689, 702, 703, 704, 705, 706, 707] (by decide +kernel) (by decide +kernel)
set_option maxRecDepth 20000 in
theorem gL_law_X6_about : GoodIn wsL_law (wsV RL 111 RX6 yX6_about wsX6_about) := goodIn_app (goodIn_of _ (by decide +kernel)) ggL_law_X6_about
set_option maxRecDepth 20000 in
theorem ggL_law_L_at : GoodIn wsL_law wsL_at := goodIn_ca (goodIn_ca (goodIn_r _ [464, 99, 465, 466, 467, 2, 468, 110, 111, 24, 253, 254, 255, 23, 256, 247, 269, 270, 271, 272, 273, 63, 413, 414, 415, 416, 417, 418, 419, 65, 420, 421, 72, 71, 674, 675, 676, 677, 678, 679, 695, 696, 697, 698, 699, 700, 701] (by decide +kernel) (by decide +kernel)) (goodIn_sub (fun _ h => List.mem_append_left _ (List.mem_append_left _ (List.mem_append_right _ h))) (by decide +kernel))) (goodIn_sub (fun _ h => List.mem_append_right _ h) (by decide +kernel))
set_option maxRecDepth 20000 in
theorem gL_law_L_at : GoodIn wsL_law (va_wsS RL 112 yL_at wsL_at) := goodIn_app (goodIn_of _ (by decide +kernel)) ggL_law_L_at
set_option maxRecDepth 20000 in
theorem ggL_law_X6_at : GoodIn wsL_law wsX6_at := goodIn_r _ [472, 128, 261, 451, 452, 453, 5, 454, 86, 455, 456, 457, 132, 133, 134, 135, 680, 681, 682, 683, 684, 685, 686, 687, 688, 689, 702, 703, 704, 705, 706, 707] (by decide +kernel) (by decide +kernel)
set_option maxRecDepth 20000 in
theorem gL_law_X6_at : GoodIn wsL_law (wsV RL 115 RX6 yX6_at wsX6_at) := goodIn_app (goodIn_of _ (by decide +kernel)) ggL_law_X6_at
set_option maxRecDepth 20000 in
theorem ggL_law_L_count : GoodIn wsL_law wsL_count := goodIn_ca (goodIn_r _ [475, 99, 476, 477, 478, 2, 479, 408, 20, 24, 16, 361, 362, 363, 110, 111, 172, 173, 174, 19, 175, 176, 253, 254, 255, 23, 256, 247, 480, 481, 482, 15, 483, 34, 484, 485, 486, 487, 488, 489, 490, 491, 63, 492, 493, 494, 495, 422, 423, 424, 425, 26, 323, 324, 325, 326, 327, 328, 329, 330, 331, 332, 333, 334, 335, 336, 337, 338, 339, 43, 340, 341, 342, 171, 343, 181, 182, 344, 113, 114, 115, 32, 116, 117, 118, 119, 345, 148, 149, 150, 496, 497, 498, 499, 500, 427, 428, 65, 429, 430, 431, 432, 433, 70, 674, 675, 676, 677, 678, 679, 692, 693, 694, 695, 696, 690, 691, 697, 698, 699, 700, 701, 708, 709] (by decide +kernel) (by decide +kernel)) (goodIn_sub (fun _ h => List.mem_append_left _ (List.mem_append_left _ (List.mem_append_right _ h))) (by decide +kernel))
set_option maxRecDepth 20000 in
theorem gL_law_L_count : GoodIn wsL_law (va_wsS RL 116 yL_count wsL_count) := goodIn_app (goodIn_of _ (by decide +kernel)) ggL_law_L_count
set_option maxRecDepth 20000 in
theorem ggL_law_X6_count : GoodIn wsL_law wsX6_count := goodIn_r _ [504, 128, 86, 129, 130, 5, 131, 505, 506, 507, 508, 235, 261, 79, 509, 510, 511, 512, 513, 514, 515, 516, 443, 444, 445, 446, 82, 350, 351, 352, 353, 80, 78, 81, 458, 459, 460, 461, 132, 133, 134, 135, 680, 681, 682, 683, 684, 685, 686, 687, 688, 689, 702, 703, 704, 705, 706, 707] (by decide +kernel) (by decide +kernel)
set_option maxRecDepth 20000 in
theorem gL_law_X6_count : GoodIn wsL_law (wsV RL 118 RX6 yX6_count wsX6_count) := goodIn_app (goodIn_of _ (by decide +kernel)) ggL_law_X6_count
set_option maxRecDepth 20000 in
theorem ggL_law_L_pass : GoodIn wsL_law wsL_pass := goodIn_ca (goodIn_r _ [519, 100, 520, 521, 522, 2, 523, 24, 408, 524, 525, 526, 105, 106, 527, 528, 529, 530, 531, 532, 533, 534, 16, 422, 423, 424, 425, 26, 20, 323, 172, 173, 174, 19, 175, 176, 324, 325, 326, 327, 328, 329, 330, 331, 332, 333, 334, 335, 336, 337, 338, 339, 43, 340, 341, 342, 171, 343, 181, 182, 344, 113, 114, 15, 115, 32, 116, 117, 118, 119, 345, 148, 149, 150, 34, 147, 535, 536, 537, 23, 538, 247, 63, 539, 540, 541, 65, 542, 421, 543, 544, 427, 428, 429, 430, 431, 432, 433, 70, 545, 546, 547, 548, 549, 225, 60, 226, 550, 551, 552, 553, 72, 674, 675, 676, 677, 678, 679, 692, 693, 694, 708, 709, 690, 691, 695, 696, 697, 698, 699, 700, 701] (by decide +kernel) (by decide +kernel)) (goodIn_sub (fun _ h => List.mem_append_left _ (List.mem_append_left _ (List.mem_append_left _ (List.mem_append_right _ h)))) (by decide +kernel))
set_option maxRecDepth 20000 in
theorem gL_law_L_pass : GoodIn wsL_law (va_wsS RL 119 yL_pass wsL_pass) := goodIn_app (goodIn_of _ (by decide +kernel)) ggL_law_L_pass
set_option maxRecDepth 20000 in
theorem ggL_law_X6_pass_ : GoodIn wsL_law wsX6_pass_ := goodIn_r _ [557, 128, 86, 129, 130, 5, 131, 132, 133, 134, 135, 558, 559, 560, 561, 562, 563, 564, 565, 79, 261, 443, 444, 445, 446, 235, 82, 350, 351, 352, 353, 80, 78, 81, 566, 567, 568, 569, 458, 459, 460, 461, 570, 571, 572, 573, 574, 225, 60, 226, 575, 576, 577, 578, 59, 61, 680, 681, 682, 683, 684, 685, 686, 687, 688, 689, 702, 703, 704, 705, 706, 707] (by decide +kernel) (by decide +kernel)
set_option maxRecDepth 20000 in
theorem gL_law_X6_pass_ : GoodIn wsL_law (wsV RL 121 RX6 yX6_pass_ wsX6_pass_) := goodIn_app (goodIn_of _ (by decide +kernel)) ggL_law_X6_pass_
set_option maxRecDepth 20000 in
theorem ggL_law_L_foresee : GoodIn wsL_law wsL_foresee := goodIn_ca (goodIn_ca (goodIn_ca (goodIn_r _ [581, 100, 99, 582, 583, 584, 2, 585, 27, 24, 408, 524, 525, 526, 105, 106, 361, 362, 363, 110, 111, 586, 587, 588, 23, 589, 247, 253, 254, 255, 256, 269, 270, 271, 272, 273, 63, 590, 591, 592, 593, 252, 244, 245, 246, 594, 595, 596, 65, 597, 71, 421, 72, 543, 70, 527, 528, 529, 530, 531, 532, 533, 534, 16, 422, 423, 424, 425, 26, 20, 323, 172, 173, 174, 19, 175, 176, 324, 325, 326, 327, 328, 329, 330, 331, 332, 333, 334, 335, 336, 337, 338, 339, 43, 340, 341, 342, 171, 343, 181, 182, 344, 113, 114, 15, 115, 32, 116, 117, 118, 119, 345, 148, 149, 150, 34, 147, 535, 536, 537, 538, 539, 540, 541, 542, 544, 427, 428, 429, 430, 431, 432, 433, 545, 546, 547, 548, 549, 225, 60, 226, 550, 551, 552, 553, 484, 485, 486, 487, 488, 489, 490, 491, 492, 493, 494, 495, 496, 497, 498, 499, 500, 674, 675, 676, 677, 678, 679, 695, 696, 697, 698, 699, 700, 701, 692, 693, 694, 708, 709, 690, 691] (by decide +kernel) (by decide +kernel)) (goodIn_sub (fun _ h => List.mem_append_left _ (List.mem_append_left _ (List.mem_append_left _ (List.mem_append_right _ h)))) (by decide +kernel))) (goodIn_sub (fun _ h => List.mem_append_left _ (List.mem_append_left _ (List.mem_append_right _ h))) (by decide +kernel))) (goodIn_sub (fun _ h => List.mem_append_right _ h) (by decide +kernel))
set_option maxRecDepth 20000 in
theorem gL_law_L_foresee : GoodIn wsL_law (va_wsS RL 122 yL_foresee wsL_foresee) := goodIn_app (goodIn_of _ (by decide +kernel)) ggL_law_L_foresee
set_option maxRecDepth 20000 in
theorem ggL_law_X6_foresee : GoodIn wsL_law wsX6_foresee := goodIn_r _ [601, 128, 129, 130, 5, 131, 132, 133, 134, 135, 602, 603, 604, 605, 87, 86, 606, 607, 608, 85, 609, 610, 611, 91, 92, 93, 94, 612, 613, 614, 615, 228, 229, 230, 558, 559, 560, 561, 562, 563, 564, 565, 79, 261, 443, 444, 445, 446, 235, 82, 350, 351, 352, 353, 80, 78, 81, 566, 567, 568, 569, 458, 459, 460, 461, 570, 571, 572, 573, 574, 225, 60, 226, 575, 576, 577, 578, 59, 61, 505, 506, 507, 508, 509, 510, 511, 512, 513, 514, 515, 516, 680, 681, 682, 683, 684, 685, 686, 687, 688, 689, 702, 703, 704, 705, 706, 707] (by decide +kernel) (by decide +kernel)
set_option maxRecDepth 20000 in
theorem gL_law_X6_foresee : GoodIn wsL_law (wsV RL 124 RX6 yX6_foresee wsX6_foresee) := goodIn_app (goodIn_of _ (by decide +kernel)) ggL_law_X6_foresee
set_option maxRecDepth 20000 in
theorem ggL_law_L_overtakes : GoodIn wsL_law wsL_overtakes := goodIn_ca (goodIn_ca (goodIn_r _ [618, 99, 100, 619, 620, 621, 2, 622, 24, 27, 408, 269, 270, 271, 23, 272, 273, 111, 247, 63, 305, 306, 307, 105, 106, 586, 587, 588, 589, 590, 591, 592, 593, 252, 244, 245, 246, 594, 595, 596, 65, 597, 71, 421, 72, 543, 70, 623, 418, 419, 420, 531, 532, 533, 534, 16, 422, 423, 424, 425, 26, 20, 323, 172, 173, 174, 19, 175, 176, 324, 325, 326, 327, 328, 329, 330, 331, 332, 333, 334, 335, 336, 337, 338, 339, 43, 340, 341, 342, 171, 343, 181, 182, 344, 113, 114, 15, 115, 32, 116, 117, 118, 119, 345, 148, 149, 150, 34, 147, 535, 536, 537, 538, 539, 540, 541, 542, 544, 427, 428, 429, 430, 431, 432, 433, 545, 546, 547, 548, 549, 225, 60, 226, 550, 551, 552, 553, 674, 675, 676, 677, 678, 679, 695, 696, 697, 698, 699, 700, 701, 692, 693, 694, 708, 709, 690, 691] (by decide +kernel) (by decide +kernel)) (goodIn_sub (fun _ h => List.mem_append_right _ h) (by decide +kernel))) (goodIn_sub (fun _ h => List.mem_append_left _ (List.mem_append_left _ (List.mem_append_left _ (List.mem_append_right _ h)))) (by decide +kernel))
set_option maxRecDepth 20000 in
theorem gL_law_L_overtakes : GoodIn wsL_law (va_wsS RL 125 yL_overtakes wsL_overtakes) := goodIn_app (goodIn_of _ (by decide +kernel)) ggL_law_L_overtakes
set_option maxRecDepth 20000 in
theorem ggL_law_X6_overtakes : GoodIn wsL_law wsX6_overtakes := goodIn_r _ [627, 128, 87, 290, 291, 292, 5, 293, 261, 129, 130, 131, 132, 133, 134, 135, 602, 603, 604, 605, 86, 606, 607, 608, 85, 609, 610, 611, 91, 92, 93, 94, 612, 613, 614, 615, 228, 229, 230, 455, 456, 457, 562, 563, 564, 565, 79, 443, 444, 445, 446, 235, 82, 350, 351, 352, 353, 80, 78, 81, 566, 567, 568, 569, 458, 459, 460, 461, 570, 571, 572, 573, 574, 225, 60, 226, 575, 576, 577, 578, 59, 61, 680, 681, 682, 683, 684, 685, 686, 687, 688, 689, 702, 703, 704, 705, 706, 707] (by decide +kernel) (by decide +kernel)
set_option maxRecDepth 20000 in
theorem gL_law_X6_overtakes : GoodIn wsL_law (wsV RL 127 RX6 yX6_overtakes wsX6_overtakes) := goodIn_app (goodIn_of _ (by decide +kernel)) ggL_law_X6_overtakes
set_option maxRecDepth 20000 in
theorem ggL_law_L_advise : GoodIn wsL_law wsL_advise := goodIn_ca (goodIn_ca (goodIn_r _ [630, 99, 100, 631, 632, 633, 2, 634, 24, 27, 20, 269, 270, 271, 23, 272, 273, 111, 247, 63, 524, 525, 526, 105, 106, 586, 587, 588, 589, 172, 173, 174, 19, 175, 176, 590, 591, 592, 593, 252, 244, 245, 246, 594, 595, 596, 65, 597, 71, 421, 72, 543, 70, 253, 254, 255, 256, 282, 283, 284, 285, 527, 528, 529, 530, 408, 531, 532, 533, 534, 16, 422, 423, 424, 425, 26, 323, 324, 325, 326, 327, 328, 329, 330, 331, 332, 333, 334, 335, 336, 337, 338, 339, 43, 340, 341, 342, 171, 343, 181, 182, 344, 113, 114, 15, 115, 32, 116, 117, 118, 119, 345, 148, 149, 150, 34, 147, 535, 536, 537, 538, 539, 540, 541, 542, 544, 427, 428, 429, 430, 431, 432, 433, 545, 546, 547, 548, 549, 225, 60, 226, 550, 551, 552, 553, 674, 675, 676, 677, 678, 679, 697, 698, 699, 700, 701, 695, 696, 692, 693, 694, 708, 709, 690, 691] (by decide +kernel) (by decide +kernel)) (goodIn_sub (fun _ h => List.mem_append_right _ h) (by decide +kernel))) (goodIn_sub (fun _ h => List.mem_append_left _ (List.mem_append_left _ (List.mem_append_left _ (List.mem_append_right _ h)))) (by decide +kernel))
set_option maxRecDepth 20000 in
theorem gL_law_L_advise : GoodIn wsL_law (va_wsS RL 128 yL_advise wsL_advise) := goodIn_app (goodIn_of _ (by decide +kernel)) ggL_law_L_advise
set_option maxRecDepth 20000 in
theorem ggL_law_X6_advise : GoodIn wsL_law wsX6_advise := goodIn_r _ [638, 128, 235, 87, 290, 291, 292, 5, 293, 261, 129, 130, 131, 132, 133, 134, 135, 602, 603, 604, 605, 86, 606, 607, 608, 85, 609, 610, 611, 91, 92, 93, 94, 612, 613, 614, 615, 228, 229, 230, 558, 559, 560, 561, 562, 563, 564, 565, 79, 443, 444, 445, 446, 82, 350, 351, 352, 353, 80, 78, 81, 566, 567, 568, 569, 458, 459, 460, 461, 570, 571, 572, 573, 574, 225, 60, 226, 575, 576, 577, 578, 59, 61, 680, 681, 682, 683, 684, 685, 686, 687, 688, 689, 702, 703, 704, 705, 706, 707] (by decide +kernel) (by decide +kernel)
set_option maxRecDepth 20000 in
theorem gL_law_X6_advise : GoodIn wsL_law (wsV RL 130 RX6 yX6_advise wsX6_advise) := goodIn_app (goodIn_of _ (by decide +kernel)) ggL_law_X6_advise
set_option maxRecDepth 20000 in
theorem ggL_law_X4_best : GoodIn wsL_law wsX4_best := goodIn_r _ [642, 20, 323, 16, 172, 173, 174, 19, 175, 176, 324, 325, 326, 327, 328, 329, 330, 331, 332, 333, 334, 335, 336, 337, 338, 339, 43, 364, 365, 366, 171, 367, 368, 341, 342, 343, 181, 182, 344, 113, 114, 15, 115, 32, 116, 117, 118, 119, 345, 148, 149, 150, 34, 674, 675, 676, 677, 678, 679, 692, 693, 694, 708, 709, 690, 691] (by decide +kernel) (by decide +kernel)
set_option maxRecDepth 20000 in
theorem gL_law_X4_best : GoodIn wsL_law (wsV RL 131 RX4 yX4_best wsX4_best) := goodIn_app (goodIn_of _ (by decide +kernel)) ggL_law_X4_best
set_option maxRecDepth 20000 in
theorem ggL_law_X6_best : GoodIn wsL_law wsX6_best := goodIn_r _ [646, 128, 235, 382, 383, 384, 5, 385, 386, 387, 388, 389, 79, 350, 351, 352, 353, 80, 78, 81, 680, 681, 682, 683, 684, 685, 686, 687, 688, 689] (by decide +kernel) (by decide +kernel)
set_option maxRecDepth 20000 in
theorem gL_law_X6_best : GoodIn wsL_law (wsV RL 134 RX6 yX6_best wsX6_best) := goodIn_app (goodIn_of _ (by decide +kernel)) ggL_law_X6_best
set_option maxRecDepth 20000 in
theorem ggL_law_X4_mean : GoodIn wsL_law wsX4_mean := goodIn_r _ [650, 24, 253, 254, 255, 23, 256, 247, 488, 489, 490, 491, 63, 674, 675, 676, 677, 678, 679, 695, 696, 697, 698, 699, 700, 701] (by decide +kernel) (by decide +kernel)
set_option maxRecDepth 20000 in
theorem gL_law_X4_mean : GoodIn wsL_law (wsV RL 135 RX4 yX4_mean wsX4_mean) := goodIn_app (goodIn_of _ (by decide +kernel)) ggL_law_X4_mean
set_option maxRecDepth 20000 in
theorem ggL_law_X6_mean : GoodIn wsL_law wsX6_mean := goodIn_r _ [654, 128, 261, 86, 509, 510, 511, 5, 512, 680, 681, 682, 683, 684, 685, 686, 687, 688, 689, 702, 703, 704, 705, 706, 707] (by decide +kernel) (by decide +kernel)
set_option maxRecDepth 20000 in
theorem gL_law_X6_mean : GoodIn wsL_law (wsV RL 139 RX6 yX6_mean wsX6_mean) := goodIn_app (goodIn_of _ (by decide +kernel)) ggL_law_X6_mean
set_option maxRecDepth 20000 in
theorem ggL_law_X4_digest : GoodIn wsL_law wsX4_digest := goodIn_ca (goodIn_ca (goodIn_r _ [658, 659, 16, 20, 24, 660, 477, 478, 2, 479, 408, 361, 362, 363, 110, 111, 172, 173, 174, 19, 175, 176, 253, 254, 255, 23, 256, 247, 480, 481, 482, 15, 483, 34, 484, 485, 486, 487, 488, 489, 490, 491, 63, 492, 493, 494, 495, 422, 423, 424, 425, 26, 323, 324, 325, 326, 327, 328, 329, 330, 331, 332, 333, 334, 335, 336, 337, 338, 339, 43, 340, 341, 342, 171, 343, 181, 182, 344, 113, 114, 115, 32, 116, 117, 118, 119, 345, 148, 149, 150, 496, 497, 498, 499, 500, 427, 428, 65, 429, 430, 431, 432, 433, 70, 661, 662, 663, 664, 112, 147, 665, 358, 359, 360, 274, 275, 276, 277, 364, 365, 366, 367, 368, 369, 370, 371, 372, 373, 279, 280, 281, 666, 405, 406, 407, 269, 270, 271, 272, 273, 409, 410, 411, 412, 413, 414, 415, 416, 417, 418, 419, 420, 421, 72, 71, 426, 434, 667, 394, 395, 396, 278, 674, 675, 676, 677, 678, 679, 692, 693, 694, 695, 696, 690, 691, 697, 698, 699, 700, 701, 708, 709] (by decide +kernel) (by decide +kernel)) (goodIn_sub (fun _ h => List.mem_append_left _ (List.mem_append_left _ (List.mem_append_right _ h))) (by decide +kernel))) (goodIn_sub (fun _ h => List.mem_append_right _ h) (by decide +kernel))
set_option maxRecDepth 20000 in
theorem gL_law_X4_digest : GoodIn wsL_law (wsV RL 140 RX4 yX4_digest wsX4_digest) := goodIn_app (goodIn_of _ (by decide +kernel)) ggL_law_X4_digest
set_option maxRecDepth 20000 in
theorem ggL_law_X6_digest : GoodIn wsL_law wsX6_digest := goodIn_r _ [671, 128, 672, 673, 86, 78, 79, 235, 261, 505, 506, 507, 5, 508, 509, 510, 511, 512, 513, 514, 515, 516, 443, 444, 445, 446, 82, 350, 351, 352, 353, 80, 81, 458, 459, 460, 461, 378, 379, 380, 381, 382, 383, 384, 385, 386, 387, 388, 389, 439, 440, 441, 442, 447, 448, 449, 450, 451, 452, 453, 454, 455, 456, 457, 680, 681, 682, 683, 684, 685, 686, 687, 688, 689, 702, 703, 704, 705, 706, 707] (by decide +kernel) (by decide +kernel)
set_option maxRecDepth 20000 in
theorem gL_law_X6_digest : GoodIn wsL_law (wsV RL 144 RX6 yX6_digest wsX6_digest) := goodIn_app (goodIn_of _ (by decide +kernel)) ggL_law_X6_digest
