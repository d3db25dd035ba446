set_option maxRecDepth 20000 in
theorem ggL_act_L_below : GoodIn wsL_act wsL_below := goodIn_r _ [11, 12] (by decide +kernel) (by decide +kernel)
set_option maxRecDepth 20000 in
theorem gL_act_L_below : GoodIn wsL_act (va_wsS RL 18 yL_below wsL_below) := goodIn_app (goodIn_of _ (by decide +kernel)) ggL_act_L_below
set_option maxRecDepth 20000 in
theorem ggL_act_X4_setGlass : GoodIn wsL_act wsX4_setGlass := goodIn_ca (goodIn_ca (goodIn_r _ [17, 18, 19, 20, 21, 22, 16, 23, 24, 25, 26, 27, 28, 29, 30, 31, 32, 33, 34, 35, 36, 37, 38, 39, 294, 295, 296, 297, 298, 299, 300, 301] (by decide +kernel) (by decide +kernel)) (goodIn_sub (fun _ h => List.mem_cons_of_mem _ (List.mem_append_left _ (List.mem_append_left _ (List.mem_append_left _ (List.mem_append_right _ h))))) (by decide +kernel))) (goodIn_sub (fun _ h => List.mem_cons_of_mem _ (List.mem_append_left _ (List.mem_append_left _ (List.mem_append_right _ h)))) (by decide +kernel))
set_option maxRecDepth 20000 in
theorem gL_act_X4_setGlass : GoodIn wsL_act (wsV RL 35 RX4 yX4_setGlass wsX4_setGlass) := goodIn_app (goodIn_of _ (by decide +kernel)) ggL_act_X4_setGlass
set_option maxRecDepth 20000 in
theorem ggL_act_X4_setRain : GoodIn wsL_act wsX4_setRain := goodIn_ca (goodIn_r _ [43, 20, 21, 22, 16, 23, 24, 25, 44, 45, 46, 29, 47, 48, 32, 33, 34, 35, 49, 50, 51, 52, 294, 295, 296, 297, 298, 299, 300, 301] (by decide +kernel) (by decide +kernel)) (goodIn_sub (fun _ h => List.mem_cons_of_mem _ (List.mem_append_left _ (List.mem_append_left _ (List.mem_append_right _ h)))) (by decide +kernel))
set_option maxRecDepth 20000 in
theorem gL_act_X4_setRain : GoodIn wsL_act (wsV RL 42 RX4 yX4_setRain wsX4_setRain) := goodIn_app (goodIn_of _ (by decide +kernel)) ggL_act_X4_setRain
set_option maxRecDepth 20000 in
theorem ggL_act_X5_more : GoodIn wsL_act wsX5_more := goodIn_r _ [56, 57] (by decide +kernel) (by decide +kernel)
set_option maxRecDepth 20000 in
theorem gL_act_X5_more : GoodIn wsL_act (va_wsS RL 46 yX5_more wsX5_more) := goodIn_app (goodIn_of _ (by decide +kernel)) ggL_act_X5_more
set_option maxRecDepth 20000 in
theorem ggL_act_X4_sign : GoodIn wsL_act wsX4_sign := goodIn_ca (goodIn_ca (goodIn_r _ [61, 18, 19, 62, 63, 64, 65, 66, 67, 68, 69, 70, 71, 72, 73, 74, 75, 76, 77, 78, 79, 80, 81, 82, 83, 84, 85, 86, 87, 88, 89, 90, 91, 92, 93, 94, 95, 96, 97, 98, 99, 100, 101, 102, 103, 104, 105, 106, 107, 108, 109, 110, 111, 112, 113, 114, 115, 116, 117, 118, 119, 120, 121, 122, 123, 124, 125, 126, 127, 128, 129, 130, 131, 132, 133, 134, 135, 294, 295, 296, 297, 298, 299, 302, 303, 304, 305, 306] (by decide +kernel) (by decide +kernel)) (goodIn_sub (fun _ h => List.mem_cons_of_mem _ (List.mem_append_left _ (List.mem_append_left _ (List.mem_append_left _ (List.mem_append_right _ h))))) (by decide +kernel))) (goodIn_sub (fun _ h => List.mem_cons_of_mem _ (List.mem_append_left _ (List.mem_append_right _ h))) (by decide +kernel))
set_option maxRecDepth 20000 in
theorem gL_act_X4_sign : GoodIn wsL_act (wsV RL 50 RX4 yX4_sign wsX4_sign) := goodIn_app (goodIn_of _ (by decide +kernel)) ggL_act_X4_sign
set_option maxRecDepth 20000 in
theorem ggL_act_X4_join : GoodIn wsL_act wsX4_join := goodIn_ca (goodIn_r _ [139, 62, 63, 140, 141, 142, 143, 144, 145, 146, 147, 148, 149, 150, 151, 152, 153, 154, 155, 156, 294, 295, 296, 297, 298, 299, 307, 308] (by decide +kernel) (by decide +kernel)) (goodIn_sub (fun _ h => List.mem_cons_of_mem _ (List.mem_append_left _ (List.mem_append_right _ h))) (by decide +kernel))
set_option maxRecDepth 20000 in
theorem gL_act_X4_join : GoodIn wsL_act (wsV RL 56 RX4 yX4_join wsX4_join) := goodIn_app (goodIn_of _ (by decide +kernel)) ggL_act_X4_join
set_option maxRecDepth 20000 in
theorem ggL_act_X4_weigh : GoodIn wsL_act wsX4_weigh := goodIn_ca (goodIn_ca (goodIn_ca (goodIn_r _ [160, 18, 19, 140, 161, 162, 163, 144, 164, 165, 25, 146, 147, 166, 167, 168, 16, 169, 24, 64, 68, 69, 70, 71, 72, 73, 170, 171, 172, 173, 174, 175, 176, 177, 178, 179, 294, 295, 296, 297, 298, 299, 307, 308, 304, 305, 306, 309, 310, 311, 312, 313] (by decide +kernel) (by decide +kernel)) (goodIn_sub (fun _ h => List.mem_cons_of_mem _ (List.mem_append_left _ (List.mem_append_left _ (List.mem_append_left _ (List.mem_append_right _ h))))) (by decide +kernel))) (goodIn_sub (fun _ h => List.mem_cons_of_mem _ (List.mem_append_right _ h)) (by decide +kernel))) (goodIn_sub (fun _ h => List.mem_cons_of_mem _ (List.mem_append_left _ (List.mem_append_left _ (List.mem_append_right _ h)))) (by decide +kernel))
set_option maxRecDepth 20000 in
theorem gL_act_X4_weigh : GoodIn wsL_act (wsV RL 60 RX4 yX4_weigh wsX4_weigh) := goodIn_app (goodIn_of _ (by decide +kernel)) ggL_act_X4_weigh
set_option maxRecDepth 20000 in
theorem ggL_act_X4_share : GoodIn wsL_act wsX4_share := goodIn_ca (goodIn_ca (goodIn_ca (goodIn_r _ [183, 62, 63, 140, 161, 162, 163, 144, 164, 165, 25, 146, 147, 184, 185, 16, 186, 18, 19, 187, 188, 189, 173, 190, 191, 175, 294, 295, 296, 297, 298, 299, 309, 310, 311, 312, 313, 307, 308] (by decide +kernel) (by decide +kernel)) (goodIn_sub (fun _ h => List.mem_cons_of_mem _ (List.mem_append_left _ (List.mem_append_right _ h))) (by decide +kernel))) (goodIn_sub (fun _ h => List.mem_cons_of_mem _ (List.mem_append_right _ h)) (by decide +kernel))) (goodIn_sub (fun _ h => List.mem_cons_of_mem _ (List.mem_append_left _ (List.mem_append_left _ (List.mem_append_left _ (List.mem_append_right _ h))))) (by decide +kernel))
set_option maxRecDepth 20000 in
theorem gL_act_X4_share : GoodIn wsL_act (wsV RL 64 RX4 yX4_share wsX4_share) := goodIn_app (goodIn_of _ (by decide +kernel)) ggL_act_X4_share
set_option maxRecDepth 20000 in
theorem ggL_act_L_passed : GoodIn wsL_act wsL_passed := goodIn_ca (goodIn_r _ [194, 195, 196, 197, 16, 198, 140, 199, 200, 201, 202, 18, 19, 203, 204, 205, 206, 207, 208, 209, 210, 20, 211, 212, 213, 214, 215, 64, 216, 68, 69, 70, 71, 72, 73, 217, 218, 219, 220, 221, 222, 223, 224, 225, 226, 227, 228, 229, 230, 231, 232, 88, 233, 234, 235, 67, 236, 80, 81, 237, 27, 28, 29, 30, 31, 32, 33, 34, 35, 238, 45, 46, 47, 48, 44, 239, 240, 241, 144, 242, 146, 147, 243, 244, 245, 173, 246, 247, 248, 249, 250, 251, 252, 253, 254, 255, 256, 175, 257, 258, 259, 260, 261, 130, 104, 131, 262, 263, 264, 265, 191, 266, 267, 268, 55, 269, 270, 271, 272, 273, 274, 275, 276, 277, 278, 279, 280, 281, 282, 283, 284, 285, 286, 287, 294, 295, 296, 297, 298, 299, 304, 305, 306, 302, 303, 300, 301, 307, 308, 309, 310, 311, 312, 313, 288, 289, 290, 291, 292, 293] (by decide +kernel) (by decide +kernel)) (goodIn_sub (fun _ h => List.mem_cons_of_mem _ (List.mem_append_left _ (List.mem_append_left _ (List.mem_append_left _ (List.mem_append_right _ h))))) (by decide +kernel))
set_option maxRecDepth 20000 in
theorem gL_act_L_passed : GoodIn wsL_act (va_wsS RL 69 yL_passed wsL_passed) := goodIn_app (goodIn_of _ (by decide +kernel)) ggL_act_L_passed
theorem dL_act_0 : decode cL_act 0 = .ok (.iload_n 2, 1) := by decide +kernel
theorem dL_act_1 : decode cL_act 1 = .ok (.iconst 3, 1) := by decide +kernel
theorem dL_act_2 : decode cL_act 2 = .ok (.ishr, 1) := by decide +kernel
theorem dL_act_3 : decode cL_act 3 = .ok (.bipush 12, 2) := by decide +kernel
theorem dL_act_5 : decode cL_act 5 = .ok (.invokestatic 18, 3) := by decide +kernel
theorem dL_act_8 : decode cL_act 8 = .ok (.istore_n 3, 1) := by decide +kernel
theorem dL_act_9 : decode cL_act 9 = .ok (.aload_n 1, 1) := by decide +kernel
theorem dL_act_10 : decode cL_act 10 = .ok (.getfield 24, 3) := by decide +kernel
theorem dL_act_13 : decode cL_act 13 = .ok (.arraylength, 1) := by decide +kernel
theorem dL_act_14 : decode cL_act 14 = .ok (.istore 4, 2) := by decide +kernel
theorem dL_act_16 : decode cL_act 16 = .ok (.aload_n 1, 1) := by decide +kernel
theorem dL_act_17 : decode cL_act 17 = .ok (.getfield 28, 3) := by decide +kernel
theorem dL_act_20 : decode cL_act 20 = .ok (.arraylength, 1) := by decide +kernel
theorem dL_act_21 : decode cL_act 21 = .ok (.istore 5, 2) := by decide +kernel
theorem dL_act_23 : decode cL_act 23 = .ok (.iload_n 2, 1) := by decide +kernel
theorem dL_act_24 : decode cL_act 24 = .ok (.bipush 12, 2) := by decide +kernel
theorem dL_act_26 : decode cL_act 26 = .ok (.invokestatic 18, 3) := by decide +kernel
theorem dL_act_29 : decode cL_act 29 = .ok (.tableswitch 619 0 9 #[55, 55, 99, 99, 151, 151, 234, 342, 342, 432], 55) := by decide +kernel
theorem dL_act_84 : decode cL_act 84 = .ok (.aload_n 1, 1) := by decide +kernel
theorem dL_act_85 : decode cL_act 85 = .ok (.getfield 31, 3) := by decide +kernel
theorem dL_act_88 : decode cL_act 88 = .ok (.iload_n 3, 1) := by decide +kernel
theorem dL_act_89 : decode cL_act 89 = .ok (.iaload, 1) := by decide +kernel
theorem dL_act_90 : decode cL_act 90 = .ok (.istore 6, 2) := by decide +kernel
theorem dL_act_92 : decode cL_act 92 = .ok (.aload_n 1, 1) := by decide +kernel
theorem dL_act_93 : decode cL_act 93 = .ok (.getfield 31, 3) := by decide +kernel
theorem dL_act_96 : decode cL_act 96 = .ok (.iload_n 3, 1) := by decide +kernel
theorem dL_act_97 : decode cL_act 97 = .ok (.iload_n 2, 1) := by decide +kernel
theorem dL_act_98 : decode cL_act 98 = .ok (.iconst 5, 1) := by decide +kernel
theorem dL_act_99 : decode cL_act 99 = .ok (.ishr, 1) := by decide +kernel
theorem dL_act_100 : decode cL_act 100 = .ok (.bipush 61, 2) := by decide +kernel
theorem dL_act_102 : decode cL_act 102 = .ok (.invokestatic 18, 3) := by decide +kernel
theorem dL_act_105 : decode cL_act 105 = .ok (.iastore, 1) := by decide +kernel
theorem dL_act_106 : decode cL_act 106 = .ok (.aload_n 0, 1) := by decide +kernel
theorem dL_act_107 : decode cL_act 107 = .ok (.iload_n 3, 1) := by decide +kernel
theorem dL_act_108 : decode cL_act 108 = .ok (.aload_n 1, 1) := by decide +kernel
theorem dL_act_109 : decode cL_act 109 = .ok (.getfield 31, 3) := by decide +kernel
theorem dL_act_112 : decode cL_act 112 = .ok (.iload_n 3, 1) := by decide +kernel
theorem dL_act_113 : decode cL_act 113 = .ok (.iaload, 1) := by decide +kernel
theorem dL_act_114 : decode cL_act 114 = .ok (.invokevirtual 35, 3) := by decide +kernel
theorem dL_act_117 : decode cL_act 117 = .ok (.iload 6, 2) := by decide +kernel
theorem dL_act_119 : decode cL_act 119 = .ok (.if_icmp .ne 7, 3) := by decide +kernel
theorem dL_act_122 : decode cL_act 122 = .ok (.iconst 1, 1) := by decide +kernel
theorem dL_act_123 : decode cL_act 123 = .ok (.goto 4, 3) := by decide +kernel
theorem dL_act_126 : decode cL_act 126 = .ok (.iconst 0, 1) := by decide +kernel
theorem dL_act_127 : decode cL_act 127 = .ok (.ireturn, 1) := by decide +kernel
theorem dL_act_128 : decode cL_act 128 = .ok (.aload_n 1, 1) := by decide +kernel
theorem dL_act_129 : decode cL_act 129 = .ok (.getfield 38, 3) := by decide +kernel
theorem dL_act_132 : decode cL_act 132 = .ok (.iload_n 3, 1) := by decide +kernel
theorem dL_act_133 : decode cL_act 133 = .ok (.baload, 1) := by decide +kernel
theorem dL_act_134 : decode cL_act 134 = .ok (.istore 6, 2) := by decide +kernel
theorem dL_act_136 : decode cL_act 136 = .ok (.aload_n 1, 1) := by decide +kernel
theorem dL_act_137 : decode cL_act 137 = .ok (.getfield 38, 3) := by decide +kernel
theorem dL_act_140 : decode cL_act 140 = .ok (.iload_n 3, 1) := by decide +kernel
theorem dL_act_141 : decode cL_act 141 = .ok (.iload_n 2, 1) := by decide +kernel
theorem dL_act_142 : decode cL_act 142 = .ok (.bipush 6, 2) := by decide +kernel
theorem dL_act_144 : decode cL_act 144 = .ok (.ishr, 1) := by decide +kernel
theorem dL_act_145 : decode cL_act 145 = .ok (.iconst 3, 1) := by decide +kernel
theorem dL_act_146 : decode cL_act 146 = .ok (.invokestatic 18, 3) := by decide +kernel
theorem dL_act_149 : decode cL_act 149 = .ok (.ifCond .le 7, 3) := by decide +kernel
theorem dL_act_152 : decode cL_act 152 = .ok (.iconst 1, 1) := by decide +kernel
theorem dL_act_153 : decode cL_act 153 = .ok (.goto 4, 3) := by decide +kernel
theorem dL_act_156 : decode cL_act 156 = .ok (.iconst 0, 1) := by decide +kernel
theorem dL_act_157 : decode cL_act 157 = .ok (.bastore, 1) := by decide +kernel
theorem dL_act_158 : decode cL_act 158 = .ok (.aload_n 0, 1) := by decide +kernel
theorem dL_act_159 : decode cL_act 159 = .ok (.iload_n 3, 1) := by decide +kernel
theorem dL_act_160 : decode cL_act 160 = .ok (.aload_n 1, 1) := by decide +kernel
theorem dL_act_161 : decode cL_act 161 = .ok (.getfield 38, 3) := by decide +kernel
theorem dL_act_164 : decode cL_act 164 = .ok (.iload_n 3, 1) := by decide +kernel
theorem dL_act_165 : decode cL_act 165 = .ok (.baload, 1) := by decide +kernel
theorem dL_act_166 : decode cL_act 166 = .ok (.invokevirtual 42, 3) := by decide +kernel
theorem dL_act_169 : decode cL_act 169 = .ok (.iload 6, 2) := by decide +kernel
theorem dL_act_171 : decode cL_act 171 = .ok (.if_icmp .ne 7, 3) := by decide +kernel
theorem dL_act_174 : decode cL_act 174 = .ok (.iconst 1, 1) := by decide +kernel
theorem dL_act_175 : decode cL_act 175 = .ok (.goto 4, 3) := by decide +kernel
theorem dL_act_178 : decode cL_act 178 = .ok (.iconst 0, 1) := by decide +kernel
theorem dL_act_179 : decode cL_act 179 = .ok (.ireturn, 1) := by decide +kernel
theorem dL_act_180 : decode cL_act 180 = .ok (.iload 4, 2) := by decide +kernel
theorem dL_act_182 : decode cL_act 182 = .ok (.bipush 8, 2) := by decide +kernel
theorem dL_act_184 : decode cL_act 184 = .ok (.if_icmp .ne 5, 3) := by decide +kernel
theorem dL_act_187 : decode cL_act 187 = .ok (.iconst 1, 1) := by decide +kernel
theorem dL_act_188 : decode cL_act 188 = .ok (.ireturn, 1) := by decide +kernel
theorem dL_act_189 : decode cL_act 189 = .ok (.iload_n 2, 1) := by decide +kernel
