set_option maxRecDepth 20000 in
theorem ggX5_isSame_X5_counts : GoodIn wsX5_isSame wsX5_counts := goodIn_r _ [10, 3, 4, 1, 5, 11, 12, 13, 14, 9, 15, 2, 16, 17, 18, 19, 20, 205, 206, 207, 208, 209, 210] (by decide +kernel) (by decide +kernel)
set_option maxRecDepth 20000 in
theorem gX5_isSame_X5_counts : GoodIn wsX5_isSame (wsV RX5 58 RX5 yX5_counts wsX5_counts) := goodIn_app (goodIn_of _ (by decide +kernel)) ggX5_isSame_X5_counts
set_option maxRecDepth 20000 in
theorem ggX5_isSame_X4_count : GoodIn wsX5_isSame wsX4_count := goodIn_ca (goodIn_r _ [25, 26, 27, 28, 29, 30, 31, 24, 32, 33, 34, 35, 36, 37, 38, 39, 40, 41, 42, 43, 44, 45, 46, 47, 48, 49, 50, 51, 52, 53, 54, 55, 56, 57, 58, 59, 60, 61, 62, 63, 64, 65, 66, 67, 68, 69, 70, 71, 72, 73, 74, 75, 76, 77, 78, 79, 80, 81, 82, 83, 84, 85, 86, 87, 88, 89, 90, 91, 92, 93, 94, 95, 96, 97, 98, 99, 100, 101, 102, 103, 104, 105, 106, 107, 108, 109, 110, 111, 112, 113, 114, 115, 116, 117, 118, 119, 120, 121, 122, 211, 212, 213, 214, 215, 216, 217, 218, 219, 220, 221, 222, 223, 224, 225, 226, 227, 228, 229, 230] (by decide +kernel) (by decide +kernel)) (goodIn_sub (fun _ h => List.mem_cons_of_mem _ (List.mem_append_left _ (List.mem_append_left _ (List.mem_append_right _ h)))) (by decide +kernel))
set_option maxRecDepth 20000 in
theorem gX5_isSame_X4_count : GoodIn wsX5_isSame (wsV RX5 62 RX4 yX4_count wsX4_count) := goodIn_app (goodIn_of _ (by decide +kernel)) ggX5_isSame_X4_count
set_option maxRecDepth 20000 in
theorem ggX5_isSame_X5_right : GoodIn wsX5_isSame wsX5_right := goodIn_r _ [126, 11, 16, 17, 18, 9, 19, 1, 20, 205, 206, 207, 208, 209, 210] (by decide +kernel) (by decide +kernel)
set_option maxRecDepth 20000 in
theorem gX5_isSame_X5_right : GoodIn wsX5_isSame (wsV RX5 67 RX5 yX5_right wsX5_right) := goodIn_app (goodIn_of _ (by decide +kernel)) ggX5_isSame_X5_right
set_option maxRecDepth 20000 in
theorem ggX5_isSame_X4_told : GoodIn wsX5_isSame wsX4_told := goodIn_ca (goodIn_r _ [130, 27, 71, 29, 28, 131, 132, 133, 24, 134, 33, 34, 35, 36, 37, 38, 39, 40, 30, 31, 32, 72, 73, 74, 75, 76, 77, 78, 79, 80, 81, 82, 83, 84, 85, 86, 87, 88, 135, 136, 137, 92, 138, 139, 90, 91, 93, 94, 95, 96, 97, 98, 50, 99, 100, 101, 102, 103, 104, 105, 106, 107, 108, 52, 140, 141, 142, 44, 143, 46, 61, 144, 145, 146, 116, 147, 122, 211, 212, 213, 214, 215, 216, 229, 230, 217, 218, 219, 222, 223, 220, 221, 224, 225, 226, 227, 228] (by decide +kernel) (by decide +kernel)) (goodIn_sub (fun _ h => List.mem_cons_of_mem _ (List.mem_append_left _ (List.mem_append_left _ (List.mem_append_right _ h)))) (by decide +kernel))
set_option maxRecDepth 20000 in
theorem gX5_isSame_X4_told : GoodIn wsX5_isSame (wsV RX5 70 RX4 yX4_told wsX4_told) := goodIn_app (goodIn_of _ (by decide +kernel)) ggX5_isSame_X4_told
set_option maxRecDepth 20000 in
theorem ggX5_isSame_X4_says : GoodIn wsX5_isSame wsX4_says := goodIn_ca (goodIn_ca (goodIn_r _ [151, 152, 153, 27, 71, 29, 131, 132, 133, 24, 134, 33, 34, 35, 36, 37, 38, 39, 40, 72, 73, 74, 75, 76, 77, 78, 79, 80, 81, 82, 83, 84, 85, 86, 87, 88, 89, 90, 91, 92, 93, 94, 95, 96, 97, 98, 50, 99, 100, 101, 102, 103, 104, 105, 106, 107, 108, 52, 211, 212, 213, 214, 215, 216, 217, 218, 219, 229, 230, 222, 223] (by decide +kernel) (by decide +kernel)) (goodIn_sub (fun _ h => List.mem_cons_of_mem _ (List.mem_append_left _ (List.mem_append_right _ h))) (by decide +kernel))) (goodIn_sub (fun _ h => List.mem_cons_of_mem _ (List.mem_append_left _ (List.mem_append_left _ (List.mem_append_right _ h)))) (by decide +kernel))
set_option maxRecDepth 20000 in
theorem gX5_isSame_X4_says : GoodIn wsX5_isSame (wsV RX5 74 RX4 yX4_says wsX4_says) := goodIn_app (goodIn_of _ (by decide +kernel)) ggX5_isSame_X4_says
set_option maxRecDepth 20000 in
theorem ggX5_isSame_X5_says : GoodIn wsX5_isSame wsX5_says := goodIn_r _ [19, 1, 20, 11, 205, 206, 207, 208, 209, 210] (by decide +kernel) (by decide +kernel)
set_option maxRecDepth 20000 in
theorem gX5_isSame_X5_says : GoodIn wsX5_isSame (wsV RX5 32 RX5 yX5_says wsX5_says) := goodIn_app (goodIn_of _ (by decide +kernel)) ggX5_isSame_X5_says
set_option maxRecDepth 20000 in
theorem ggX5_isSame_X4_weight : GoodIn wsX5_isSame wsX4_weight := goodIn_ca (goodIn_ca (goodIn_r _ [157, 28, 158, 159, 160, 44, 161, 162, 34, 46, 61, 131, 132, 133, 24, 134, 33, 27, 35, 36, 37, 38, 39, 40, 163, 145, 146, 116, 147, 122, 211, 212, 213, 214, 215, 216, 220, 221, 217, 218, 219, 224, 225, 226, 227, 228] (by decide +kernel) (by decide +kernel)) (goodIn_sub (fun _ h => List.mem_cons_of_mem _ (List.mem_append_right _ h)) (by decide +kernel))) (goodIn_sub (fun _ h => List.mem_cons_of_mem _ (List.mem_append_left _ (List.mem_append_left _ (List.mem_append_right _ h)))) (by decide +kernel))
set_option maxRecDepth 20000 in
theorem gX5_isSame_X4_weight : GoodIn wsX5_isSame (wsV RX5 75 RX4 yX4_weight wsX4_weight) := goodIn_app (goodIn_of _ (by decide +kernel)) ggX5_isSame_X4_weight
set_option maxRecDepth 20000 in
theorem ggX5_isSame_X5_place : GoodIn wsX5_isSame wsX5_place := goodIn_r _ [167, 5, 168, 169, 170, 9, 171, 205, 206, 207, 208, 209, 210] (by decide +kernel) (by decide +kernel)
set_option maxRecDepth 20000 in
theorem gX5_isSame_X5_place : GoodIn wsX5_isSame (wsV RX5 78 RX5 yX5_place wsX5_place) := goodIn_app (goodIn_of _ (by decide +kernel)) ggX5_isSame_X5_place
set_option maxRecDepth 20000 in
theorem ggX5_isSame_X5_lean : GoodIn wsX5_isSame wsX5_lean := goodIn_r _ [15, 1, 4, 2, 16, 17, 18, 9, 19, 20, 11, 205, 206, 207, 208, 209, 210] (by decide +kernel) (by decide +kernel)
set_option maxRecDepth 20000 in
theorem gX5_isSame_X5_lean : GoodIn wsX5_isSame (wsV RX5 36 RX5 yX5_lean wsX5_lean) := goodIn_app (goodIn_of _ (by decide +kernel)) ggX5_isSame_X5_lean
set_option maxRecDepth 20000 in
theorem ggX5_isSame_X4_about : GoodIn wsX5_isSame wsX4_about := goodIn_ca (goodIn_ca (goodIn_r _ [175, 28, 27, 26, 158, 159, 160, 44, 161, 162, 34, 46, 61, 30, 31, 24, 32, 33, 35, 36, 37, 38, 39, 40, 176, 177, 178, 116, 179, 122, 180, 181, 182, 183, 184, 185, 186, 187, 188, 189, 190, 66, 67, 68, 69, 70, 71, 29, 72, 73, 74, 75, 76, 77, 78, 79, 80, 81, 82, 83, 84, 85, 86, 87, 88, 89, 90, 91, 92, 93, 94, 95, 96, 97, 98, 50, 99, 100, 101, 102, 103, 104, 105, 106, 107, 108, 52, 191, 114, 115, 117, 118, 119, 120, 121, 192, 211, 212, 213, 214, 215, 216, 224, 225, 226, 227, 228, 220, 221, 217, 218, 219, 229, 230, 222, 223] (by decide +kernel) (by decide +kernel)) (goodIn_sub (fun _ h => List.mem_cons_of_mem _ (List.mem_append_right _ h)) (by decide +kernel))) (goodIn_sub (fun _ h => List.mem_cons_of_mem _ (List.mem_append_left _ (List.mem_append_left _ (List.mem_append_right _ h)))) (by decide +kernel))
set_option maxRecDepth 20000 in
theorem gX5_isSame_X4_about : GoodIn wsX5_isSame (wsV RX5 81 RX4 yX4_about wsX4_about) := goodIn_app (goodIn_of _ (by decide +kernel)) ggX5_isSame_X4_about
set_option maxRecDepth 20000 in
theorem ggX5_isSame_X4_at : GoodIn wsX5_isSame wsX4_at := goodIn_ca (goodIn_ca (goodIn_r _ [196, 33, 34, 28, 41, 42, 43, 44, 45, 46, 158, 159, 160, 161, 162, 61, 180, 181, 182, 183, 184, 185, 186, 116, 187, 188, 189, 190, 211, 212, 213, 214, 215, 216, 220, 221, 224, 225, 226, 227, 228] (by decide +kernel) (by decide +kernel)) (goodIn_sub (fun _ h => List.mem_cons_of_mem _ (List.mem_append_left _ (List.mem_append_left _ (List.mem_append_right _ h)))) (by decide +kernel))) (goodIn_sub (fun _ h => List.mem_cons_of_mem _ (List.mem_append_right _ h)) (by decide +kernel))
set_option maxRecDepth 20000 in
theorem gX5_isSame_X4_at : GoodIn wsX5_isSame (wsV RX5 84 RX4 yX4_at wsX4_at) := goodIn_app (goodIn_of _ (by decide +kernel)) ggX5_isSame_X4_at
set_option maxRecDepth 20000 in
theorem ggX5_isSame_X4_best : GoodIn wsX5_isSame wsX4_best := goodIn_r _ [200, 27, 71, 29, 35, 36, 37, 38, 39, 40, 72, 73, 74, 75, 76, 77, 78, 79, 80, 81, 82, 83, 84, 85, 86, 87, 88, 135, 136, 137, 92, 138, 139, 90, 91, 93, 94, 95, 96, 97, 98, 50, 99, 100, 101, 102, 103, 104, 105, 106, 107, 108, 52, 211, 212, 213, 214, 215, 216, 217, 218, 219, 229, 230, 222, 223] (by decide +kernel) (by decide +kernel)
set_option maxRecDepth 20000 in
theorem gX5_isSame_X4_best : GoodIn wsX5_isSame (wsV RX5 87 RX4 yX4_best wsX4_best) := goodIn_app (goodIn_of _ (by decide +kernel)) ggX5_isSame_X4_best
set_option maxRecDepth 20000 in
theorem ggX5_isSame_X4_mean : GoodIn wsX5_isSame wsX4_mean := goodIn_r _ [204, 28, 41, 42, 43, 44, 45, 46, 57, 58, 59, 60, 61, 211, 212, 213, 214, 215, 216, 220, 221, 224, 225, 226, 227, 228] (by decide +kernel) (by decide +kernel)
set_option maxRecDepth 20000 in
theorem gX5_isSame_X4_mean : GoodIn wsX5_isSame (wsV RX5 90 RX4 yX4_mean wsX4_mean) := goodIn_app (goodIn_of _ (by decide +kernel)) ggX5_isSame_X4_mean
theorem dX5_isSame_0 : decode cX5_isSame 0 = .ok (.aload_n 0, 1) := by decide +kernel
theorem dX5_isSame_1 : decode cX5_isSame 1 = .ok (.invokevirtual 58, 3) := by decide +kernel
theorem dX5_isSame_4 : decode cX5_isSame 4 = .ok (.astore_n 2, 1) := by decide +kernel
theorem dX5_isSame_5 : decode cX5_isSame 5 = .ok (.iconst 0, 1) := by decide +kernel
theorem dX5_isSame_6 : decode cX5_isSame 6 = .ok (.istore_n 3, 1) := by decide +kernel
theorem dX5_isSame_7 : decode cX5_isSame 7 = .ok (.iload_n 3, 1) := by decide +kernel
theorem dX5_isSame_8 : decode cX5_isSame 8 = .ok (.bipush 7, 2) := by decide +kernel
theorem dX5_isSame_10 : decode cX5_isSame 10 = .ok (.if_icmp .ge 22, 3) := by decide +kernel
theorem dX5_isSame_13 : decode cX5_isSame 13 = .ok (.aload_n 1, 1) := by decide +kernel
theorem dX5_isSame_14 : decode cX5_isSame 14 = .ok (.iload_n 3, 1) := by decide +kernel
theorem dX5_isSame_15 : decode cX5_isSame 15 = .ok (.invokevirtual 62, 3) := by decide +kernel
theorem dX5_isSame_18 : decode cX5_isSame 18 = .ok (.aload_n 2, 1) := by decide +kernel
theorem dX5_isSame_19 : decode cX5_isSame 19 = .ok (.iload_n 3, 1) := by decide +kernel
theorem dX5_isSame_20 : decode cX5_isSame 20 = .ok (.iaload, 1) := by decide +kernel
theorem dX5_isSame_21 : decode cX5_isSame 21 = .ok (.if_icmp .eq 5, 3) := by decide +kernel
theorem dX5_isSame_24 : decode cX5_isSame 24 = .ok (.iconst 0, 1) := by decide +kernel
theorem dX5_isSame_25 : decode cX5_isSame 25 = .ok (.ireturn, 1) := by decide +kernel
theorem dX5_isSame_26 : decode cX5_isSame 26 = .ok (.iinc 3 1, 3) := by decide +kernel
theorem dX5_isSame_29 : decode cX5_isSame 29 = .ok (.goto (-22), 3) := by decide +kernel
theorem dX5_isSame_32 : decode cX5_isSame 32 = .ok (.iconst (-1), 1) := by decide +kernel
theorem dX5_isSame_33 : decode cX5_isSame 33 = .ok (.istore_n 3, 1) := by decide +kernel
theorem dX5_isSame_34 : decode cX5_isSame 34 = .ok (.aload_n 0, 1) := by decide +kernel
theorem dX5_isSame_35 : decode cX5_isSame 35 = .ok (.getfield 18, 3) := by decide +kernel
theorem dX5_isSame_38 : decode cX5_isSame 38 = .ok (.arraylength, 1) := by decide +kernel
theorem dX5_isSame_39 : decode cX5_isSame 39 = .ok (.iconst 1, 1) := by decide +kernel
theorem dX5_isSame_40 : decode cX5_isSame 40 = .ok (.isub, 1) := by decide +kernel
theorem dX5_isSame_41 : decode cX5_isSame 41 = .ok (.istore 4, 2) := by decide +kernel
theorem dX5_isSame_43 : decode cX5_isSame 43 = .ok (.iload 4, 2) := by decide +kernel
theorem dX5_isSame_45 : decode cX5_isSame 45 = .ok (.ifCond .lt 186, 3) := by decide +kernel
theorem dX5_isSame_48 : decode cX5_isSame 48 = .ok (.iconst 0, 1) := by decide +kernel
theorem dX5_isSame_49 : decode cX5_isSame 49 = .ok (.istore 5, 2) := by decide +kernel
theorem dX5_isSame_51 : decode cX5_isSame 51 = .ok (.aload_n 0, 1) := by decide +kernel
theorem dX5_isSame_52 : decode cX5_isSame 52 = .ok (.getfield 25, 3) := by decide +kernel
theorem dX5_isSame_55 : decode cX5_isSame 55 = .ok (.astore 6, 2) := by decide +kernel
theorem dX5_isSame_57 : decode cX5_isSame 57 = .ok (.aload 6, 2) := by decide +kernel
theorem dX5_isSame_59 : decode cX5_isSame 59 = .ok (.arraylength, 1) := by decide +kernel
theorem dX5_isSame_60 : decode cX5_isSame 60 = .ok (.istore 7, 2) := by decide +kernel
theorem dX5_isSame_62 : decode cX5_isSame 62 = .ok (.iconst 0, 1) := by decide +kernel
theorem dX5_isSame_63 : decode cX5_isSame 63 = .ok (.istore 8, 2) := by decide +kernel
theorem dX5_isSame_65 : decode cX5_isSame 65 = .ok (.iload 8, 2) := by decide +kernel
theorem dX5_isSame_67 : decode cX5_isSame 67 = .ok (.iload 7, 2) := by decide +kernel
theorem dX5_isSame_69 : decode cX5_isSame 69 = .ok (.if_icmp .ge 26, 3) := by decide +kernel
theorem dX5_isSame_72 : decode cX5_isSame 72 = .ok (.aload 6, 2) := by decide +kernel
theorem dX5_isSame_74 : decode cX5_isSame 74 = .ok (.iload 8, 2) := by decide +kernel
theorem dX5_isSame_76 : decode cX5_isSame 76 = .ok (.aaload, 1) := by decide +kernel
theorem dX5_isSame_77 : decode cX5_isSame 77 = .ok (.astore 9, 2) := by decide +kernel
theorem dX5_isSame_79 : decode cX5_isSame 79 = .ok (.iload 5, 2) := by decide +kernel
theorem dX5_isSame_81 : decode cX5_isSame 81 = .ok (.aload 9, 2) := by decide +kernel
theorem dX5_isSame_83 : decode cX5_isSame 83 = .ok (.iload 4, 2) := by decide +kernel
theorem dX5_isSame_85 : decode cX5_isSame 85 = .ok (.iaload, 1) := by decide +kernel
theorem dX5_isSame_86 : decode cX5_isSame 86 = .ok (.iadd, 1) := by decide +kernel
theorem dX5_isSame_87 : decode cX5_isSame 87 = .ok (.istore 5, 2) := by decide +kernel
theorem dX5_isSame_89 : decode cX5_isSame 89 = .ok (.iinc 8 1, 3) := by decide +kernel
theorem dX5_isSame_92 : decode cX5_isSame 92 = .ok (.goto (-27), 3) := by decide +kernel
theorem dX5_isSame_95 : decode cX5_isSame 95 = .ok (.iconst 4, 1) := by decide +kernel
theorem dX5_isSame_96 : decode cX5_isSame 96 = .ok (.newarray .int, 2) := by decide +kernel
theorem dX5_isSame_98 : decode cX5_isSame 98 = .ok (.dup, 1) := by decide +kernel
theorem dX5_isSame_99 : decode cX5_isSame 99 = .ok (.iconst 0, 1) := by decide +kernel
theorem dX5_isSame_100 : decode cX5_isSame 100 = .ok (.aload_n 0, 1) := by decide +kernel
theorem dX5_isSame_101 : decode cX5_isSame 101 = .ok (.getfield 18, 3) := by decide +kernel
theorem dX5_isSame_104 : decode cX5_isSame 104 = .ok (.iload 4, 2) := by decide +kernel
theorem dX5_isSame_106 : decode cX5_isSame 106 = .ok (.aaload, 1) := by decide +kernel
theorem dX5_isSame_107 : decode cX5_isSame 107 = .ok (.iconst 0, 1) := by decide +kernel
theorem dX5_isSame_108 : decode cX5_isSame 108 = .ok (.iaload, 1) := by decide +kernel
theorem dX5_isSame_109 : decode cX5_isSame 109 = .ok (.iastore, 1) := by decide +kernel
theorem dX5_isSame_110 : decode cX5_isSame 110 = .ok (.dup, 1) := by decide +kernel
theorem dX5_isSame_111 : decode cX5_isSame 111 = .ok (.iconst 1, 1) := by decide +kernel
theorem dX5_isSame_112 : decode cX5_isSame 112 = .ok (.aload_n 0, 1) := by decide +kernel
theorem dX5_isSame_113 : decode cX5_isSame 113 = .ok (.getfield 18, 3) := by decide +kernel
theorem dX5_isSame_116 : decode cX5_isSame 116 = .ok (.iload 4, 2) := by decide +kernel
theorem dX5_isSame_118 : decode cX5_isSame 118 = .ok (.aaload, 1) := by decide +kernel
theorem dX5_isSame_119 : decode cX5_isSame 119 = .ok (.iconst 1, 1) := by decide +kernel
theorem dX5_isSame_120 : decode cX5_isSame 120 = .ok (.iaload, 1) := by decide +kernel
theorem dX5_isSame_121 : decode cX5_isSame 121 = .ok (.iastore, 1) := by decide +kernel
