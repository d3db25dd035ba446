theorem dX4_foresee_16 : decode cX4_foresee 16 = .ok (.invokevirtual 199, 3) := by decide +kernel
theorem dX4_foresee_19 : decode cX4_foresee 19 = .ok (.iconst 0, 1) := by decide +kernel
theorem dX4_foresee_20 : decode cX4_foresee 20 = .ok (.istore_n 3, 1) := by decide +kernel
theorem dX4_foresee_21 : decode cX4_foresee 21 = .ok (.iload_n 3, 1) := by decide +kernel
theorem dX4_foresee_22 : decode cX4_foresee 22 = .ok (.aload_n 0, 1) := by decide +kernel
theorem dX4_foresee_23 : decode cX4_foresee 23 = .ok (.getfield 28, 3) := by decide +kernel
theorem dX4_foresee_26 : decode cX4_foresee 26 = .ok (.invokevirtual 95, 3) := by decide +kernel
theorem dX4_foresee_29 : decode cX4_foresee 29 = .ok (.if_icmp .ge 24, 3) := by decide +kernel
theorem dX4_foresee_32 : decode cX4_foresee 32 = .ok (.aload_n 0, 1) := by decide +kernel
theorem dX4_foresee_33 : decode cX4_foresee 33 = .ok (.getfield 36, 3) := by decide +kernel
theorem dX4_foresee_36 : decode cX4_foresee 36 = .ok (.aload_n 0, 1) := by decide +kernel
theorem dX4_foresee_37 : decode cX4_foresee 37 = .ok (.getfield 28, 3) := by decide +kernel
theorem dX4_foresee_40 : decode cX4_foresee 40 = .ok (.iload_n 3, 1) := by decide +kernel
theorem dX4_foresee_41 : decode cX4_foresee 41 = .ok (.invokevirtual 96, 3) := by decide +kernel
theorem dX4_foresee_44 : decode cX4_foresee 44 = .ok (.invokevirtual 202, 3) := by decide +kernel
theorem dX4_foresee_47 : decode cX4_foresee 47 = .ok (.iinc 3 1, 3) := by decide +kernel
theorem dX4_foresee_50 : decode cX4_foresee 50 = .ok (.goto (-29), 3) := by decide +kernel
theorem dX4_foresee_53 : decode cX4_foresee 53 = .ok (.aload_n 0, 1) := by decide +kernel
theorem dX4_foresee_54 : decode cX4_foresee 54 = .ok (.aload_n 0, 1) := by decide +kernel
theorem dX4_foresee_55 : decode cX4_foresee 55 = .ok (.getfield 36, 3) := by decide +kernel
theorem dX4_foresee_58 : decode cX4_foresee 58 = .ok (.iload_n 1, 1) := by decide +kernel
theorem dX4_foresee_59 : decode cX4_foresee 59 = .ok (.invokevirtual 195, 3) := by decide +kernel
theorem dX4_foresee_62 : decode cX4_foresee 62 = .ok (.pop, 1) := by decide +kernel
theorem dX4_foresee_63 : decode cX4_foresee 63 = .ok (.aload_n 0, 1) := by decide +kernel
theorem dX4_foresee_64 : decode cX4_foresee 64 = .ok (.aload_n 0, 1) := by decide +kernel
theorem dX4_foresee_65 : decode cX4_foresee 65 = .ok (.getfield 36, 3) := by decide +kernel
theorem dX4_foresee_68 : decode cX4_foresee 68 = .ok (.iload_n 2, 1) := by decide +kernel
theorem dX4_foresee_69 : decode cX4_foresee 69 = .ok (.aload_n 0, 1) := by decide +kernel
theorem dX4_foresee_70 : decode cX4_foresee 70 = .ok (.getfield 165, 3) := by decide +kernel
theorem dX4_foresee_73 : decode cX4_foresee 73 = .ok (.iload_n 1, 1) := by decide +kernel
theorem dX4_foresee_74 : decode cX4_foresee 74 = .ok (.iadd, 1) := by decide +kernel
theorem dX4_foresee_75 : decode cX4_foresee 75 = .ok (.invokevirtual 188, 3) := by decide +kernel
theorem dX4_foresee_78 : decode cX4_foresee 78 = .ok (.ireturn, 1) := by decide +kernel
set_option maxRecDepth 20000 in
theorem ggX4_overtakes_X2_get : GoodIn wsX4_overtakes wsX2_get := goodIn_ca (goodIn_r _ [8, 9, 10, 11, 12, 137, 138] (by decide +kernel) (by decide +kernel)) (goodIn_sub (fun _ h => List.mem_cons_of_mem _ (List.mem_append_left _ (List.mem_append_right _ h))) (by decide +kernel))
set_option maxRecDepth 20000 in
theorem gX4_overtakes_X2_get : GoodIn wsX4_overtakes (wsV RX4 96 RX2 yX2_get wsX2_get) := goodIn_app (goodIn_of _ (by decide +kernel)) ggX4_overtakes_X2_get
set_option maxRecDepth 20000 in
theorem ggX4_overtakes_X4_requireTwo : GoodIn wsX4_overtakes wsX4_requireTwo := goodIn_ca (goodIn_r _ [16, 17, 18] (by decide +kernel) (by decide +kernel)) (goodIn_sub (fun _ h => List.mem_cons_of_mem _ (List.mem_append_right _ h)) (by decide +kernel))
set_option maxRecDepth 20000 in
theorem gX4_overtakes_X4_requireTwo : GoodIn wsX4_overtakes (va_wsS RX4 113 yX4_requireTwo wsX4_requireTwo) := goodIn_app (goodIn_of _ (by decide +kernel)) ggX4_overtakes_X4_requireTwo
set_option maxRecDepth 20000 in
theorem ggX4_overtakes_X2_clear : GoodIn wsX4_overtakes wsX2_clear := goodIn_r _ [22, 11, 137, 138] (by decide +kernel) (by decide +kernel)
set_option maxRecDepth 20000 in
theorem gX4_overtakes_X2_clear : GoodIn wsX4_overtakes (wsV RX4 199 RX2 yX2_clear wsX2_clear) := goodIn_app (goodIn_of _ (by decide +kernel)) ggX4_overtakes_X2_clear
set_option maxRecDepth 20000 in
theorem ggX4_overtakes_X2_addCopy : GoodIn wsX4_overtakes wsX2_addCopy := goodIn_r _ [26, 12, 11, 27, 28, 29, 7, 30, 31, 32, 33, 34, 35, 36, 37, 38, 39, 40, 137, 138, 139, 140, 141, 142, 143] (by decide +kernel) (by decide +kernel)
set_option maxRecDepth 20000 in
theorem gX4_overtakes_X2_addCopy : GoodIn wsX4_overtakes (wsV RX4 202 RX2 yX2_addCopy wsX2_addCopy) := goodIn_app (goodIn_of _ (by decide +kernel)) ggX4_overtakes_X2_addCopy
set_option maxRecDepth 20000 in
theorem ggX4_overtakes_X1_isAheadOf : GoodIn wsX4_overtakes wsX1_isAheadOf := goodIn_r _ [44, 37, 38, 36, 139, 140, 141, 142, 143] (by decide +kernel) (by decide +kernel)
set_option maxRecDepth 20000 in
theorem gX4_overtakes_X1_isAheadOf : GoodIn wsX4_overtakes (wsV RX4 205 RX1 yX1_isAheadOf wsX1_isAheadOf) := goodIn_app (goodIn_of _ (by decide +kernel)) ggX4_overtakes_X1_isAheadOf
set_option maxRecDepth 20000 in
theorem ggX4_overtakes_X4_liveDay : GoodIn wsX4_overtakes wsX4_liveDay := goodIn_r _ [48, 49, 50, 51, 52, 15, 53, 54, 55, 56, 57, 58, 59, 60, 61, 62, 63, 64, 65, 66, 67, 68, 69, 70, 71, 72, 73, 74, 75, 76, 77, 78, 79, 80, 81, 82, 83, 84, 85, 86, 87, 88, 89, 90, 91, 92, 93, 94, 95, 96, 97, 98, 99, 100, 101, 102, 103, 104, 105, 7, 106, 11, 12, 107, 108, 109, 34, 110, 37, 39, 111, 112, 113, 114, 115, 116, 117, 118, 40, 119, 120, 121, 122, 123, 124, 125, 126, 127, 128, 129, 130, 38, 131, 132, 133, 134, 135, 136, 144, 145, 146, 147, 148, 149, 150, 137, 138, 139, 140, 141, 142, 143] (by decide +kernel) (by decide +kernel)
set_option maxRecDepth 20000 in
theorem gX4_overtakes_X4_liveDay : GoodIn wsX4_overtakes (wsV RX4 209 RX4 yX4_liveDay wsX4_liveDay) := goodIn_app (goodIn_of _ (by decide +kernel)) ggX4_overtakes_X4_liveDay
theorem dX4_overtakes_0 : decode cX4_overtakes 0 = .ok (.aload_n 0, 1) := by decide +kernel
theorem dX4_overtakes_1 : decode cX4_overtakes 1 = .ok (.getfield 28, 3) := by decide +kernel
theorem dX4_overtakes_4 : decode cX4_overtakes 4 = .ok (.iload_n 1, 1) := by decide +kernel
theorem dX4_overtakes_5 : decode cX4_overtakes 5 = .ok (.invokevirtual 96, 3) := by decide +kernel
theorem dX4_overtakes_8 : decode cX4_overtakes 8 = .ok (.astore_n 3, 1) := by decide +kernel
theorem dX4_overtakes_9 : decode cX4_overtakes 9 = .ok (.aload_n 0, 1) := by decide +kernel
theorem dX4_overtakes_10 : decode cX4_overtakes 10 = .ok (.getfield 28, 3) := by decide +kernel
theorem dX4_overtakes_13 : decode cX4_overtakes 13 = .ok (.iload_n 2, 1) := by decide +kernel
theorem dX4_overtakes_14 : decode cX4_overtakes 14 = .ok (.invokevirtual 96, 3) := by decide +kernel
theorem dX4_overtakes_17 : decode cX4_overtakes 17 = .ok (.astore 4, 2) := by decide +kernel
theorem dX4_overtakes_19 : decode cX4_overtakes 19 = .ok (.iload_n 1, 1) := by decide +kernel
theorem dX4_overtakes_20 : decode cX4_overtakes 20 = .ok (.iload_n 2, 1) := by decide +kernel
theorem dX4_overtakes_21 : decode cX4_overtakes 21 = .ok (.invokestatic 113, 3) := by decide +kernel
theorem dX4_overtakes_24 : decode cX4_overtakes 24 = .ok (.aload_n 0, 1) := by decide +kernel
theorem dX4_overtakes_25 : decode cX4_overtakes 25 = .ok (.getfield 36, 3) := by decide +kernel
theorem dX4_overtakes_28 : decode cX4_overtakes 28 = .ok (.invokevirtual 199, 3) := by decide +kernel
theorem dX4_overtakes_31 : decode cX4_overtakes 31 = .ok (.aload_n 0, 1) := by decide +kernel
theorem dX4_overtakes_32 : decode cX4_overtakes 32 = .ok (.getfield 36, 3) := by decide +kernel
theorem dX4_overtakes_35 : decode cX4_overtakes 35 = .ok (.aload_n 3, 1) := by decide +kernel
theorem dX4_overtakes_36 : decode cX4_overtakes 36 = .ok (.invokevirtual 202, 3) := by decide +kernel
theorem dX4_overtakes_39 : decode cX4_overtakes 39 = .ok (.aload_n 0, 1) := by decide +kernel
theorem dX4_overtakes_40 : decode cX4_overtakes 40 = .ok (.getfield 36, 3) := by decide +kernel
theorem dX4_overtakes_43 : decode cX4_overtakes 43 = .ok (.aload 4, 2) := by decide +kernel
theorem dX4_overtakes_45 : decode cX4_overtakes 45 = .ok (.invokevirtual 202, 3) := by decide +kernel
theorem dX4_overtakes_48 : decode cX4_overtakes 48 = .ok (.iconst 0, 1) := by decide +kernel
theorem dX4_overtakes_49 : decode cX4_overtakes 49 = .ok (.istore 5, 2) := by decide +kernel
theorem dX4_overtakes_51 : decode cX4_overtakes 51 = .ok (.iload 5, 2) := by decide +kernel
theorem dX4_overtakes_53 : decode cX4_overtakes 53 = .ok (.bipush 120, 2) := by decide +kernel
theorem dX4_overtakes_55 : decode cX4_overtakes 55 = .ok (.if_icmp .gt 50, 3) := by decide +kernel
theorem dX4_overtakes_58 : decode cX4_overtakes 58 = .ok (.aload_n 0, 1) := by decide +kernel
theorem dX4_overtakes_59 : decode cX4_overtakes 59 = .ok (.getfield 36, 3) := by decide +kernel
theorem dX4_overtakes_62 : decode cX4_overtakes 62 = .ok (.iconst 0, 1) := by decide +kernel
theorem dX4_overtakes_63 : decode cX4_overtakes 63 = .ok (.invokevirtual 96, 3) := by decide +kernel
theorem dX4_overtakes_66 : decode cX4_overtakes 66 = .ok (.aload_n 0, 1) := by decide +kernel
theorem dX4_overtakes_67 : decode cX4_overtakes 67 = .ok (.getfield 36, 3) := by decide +kernel
theorem dX4_overtakes_70 : decode cX4_overtakes 70 = .ok (.iconst 1, 1) := by decide +kernel
theorem dX4_overtakes_71 : decode cX4_overtakes 71 = .ok (.invokevirtual 96, 3) := by decide +kernel
theorem dX4_overtakes_74 : decode cX4_overtakes 74 = .ok (.invokevirtual 205, 3) := by decide +kernel
theorem dX4_overtakes_77 : decode cX4_overtakes 77 = .ok (.ifCond .eq 6, 3) := by decide +kernel
theorem dX4_overtakes_80 : decode cX4_overtakes 80 = .ok (.iload 5, 2) := by decide +kernel
theorem dX4_overtakes_82 : decode cX4_overtakes 82 = .ok (.ireturn, 1) := by decide +kernel
theorem dX4_overtakes_83 : decode cX4_overtakes 83 = .ok (.aload_n 0, 1) := by decide +kernel
theorem dX4_overtakes_84 : decode cX4_overtakes 84 = .ok (.aload_n 0, 1) := by decide +kernel
theorem dX4_overtakes_85 : decode cX4_overtakes 85 = .ok (.getfield 36, 3) := by decide +kernel
theorem dX4_overtakes_88 : decode cX4_overtakes 88 = .ok (.aload_n 0, 1) := by decide +kernel
theorem dX4_overtakes_89 : decode cX4_overtakes 89 = .ok (.getfield 165, 3) := by decide +kernel
theorem dX4_overtakes_92 : decode cX4_overtakes 92 = .ok (.iload 5, 2) := by decide +kernel
theorem dX4_overtakes_94 : decode cX4_overtakes 94 = .ok (.iadd, 1) := by decide +kernel
theorem dX4_overtakes_95 : decode cX4_overtakes 95 = .ok (.invokevirtual 209, 3) := by decide +kernel
theorem dX4_overtakes_98 : decode cX4_overtakes 98 = .ok (.pop, 1) := by decide +kernel
theorem dX4_overtakes_99 : decode cX4_overtakes 99 = .ok (.iinc 5 1, 3) := by decide +kernel
theorem dX4_overtakes_102 : decode cX4_overtakes 102 = .ok (.goto (-51), 3) := by decide +kernel
theorem dX4_overtakes_105 : decode cX4_overtakes 105 = .ok (.iconst (-1), 1) := by decide +kernel
theorem dX4_overtakes_106 : decode cX4_overtakes 106 = .ok (.ireturn, 1) := by decide +kernel
set_option maxRecDepth 20000 in
theorem ggX4_advise_X2_get : GoodIn wsX4_advise wsX2_get := goodIn_ca (goodIn_r _ [8, 9, 10, 11, 12, 150, 151] (by decide +kernel) (by decide +kernel)) (goodIn_sub (fun _ h => List.mem_cons_of_mem _ (List.mem_append_left _ (List.mem_append_right _ h))) (by decide +kernel))
set_option maxRecDepth 20000 in
theorem gX4_advise_X2_get : GoodIn wsX4_advise (wsV RX4 96 RX2 yX2_get wsX2_get) := goodIn_app (goodIn_of _ (by decide +kernel)) ggX4_advise_X2_get
set_option maxRecDepth 20000 in
theorem ggX4_advise_X4_requireDays : GoodIn wsX4_advise wsX4_requireDays := goodIn_ca (goodIn_r _ [16, 17, 18] (by decide +kernel) (by decide +kernel)) (goodIn_sub (fun _ h => List.mem_cons_of_mem _ (List.mem_append_right _ h)) (by decide +kernel))
set_option maxRecDepth 20000 in
theorem gX4_advise_X4_requireDays : GoodIn wsX4_advise (va_wsS RX4 192 yX4_requireDays wsX4_requireDays) := goodIn_app (goodIn_of _ (by decide +kernel)) ggX4_advise_X4_requireDays
set_option maxRecDepth 20000 in
theorem ggX4_advise_X2_clear : GoodIn wsX4_advise wsX2_clear := goodIn_r _ [22, 11, 150, 151] (by decide +kernel) (by decide +kernel)
set_option maxRecDepth 20000 in
theorem gX4_advise_X2_clear : GoodIn wsX4_advise (wsV RX4 199 RX2 yX2_clear wsX2_clear) := goodIn_app (goodIn_of _ (by decide +kernel)) ggX4_advise_X2_clear
set_option maxRecDepth 20000 in
theorem ggX4_advise_Jx4a65c_size_8abf5 : GoodIn wsX4_advise wsJx4a65c_size_8abf5 := goodIn_r _ [27, 28, 152, 153, 154] (by decide +kernel) (by decide +kernel)
set_option maxRecDepth 20000 in
theorem gX4_advise_Jx4a65c_size_8abf5 : GoodIn wsX4_advise (wsV RX4 69 RJx4a65c yJx4a65c_size_8abf5 wsJx4a65c_size_8abf5) := goodIn_app (goodIn_of _ (by decide +kernel)) ggX4_advise_Jx4a65c_size_8abf5
set_option maxRecDepth 20000 in
theorem ggX4_advise_X2_addCopy : GoodIn wsX4_advise wsX2_addCopy := goodIn_r _ [32, 12, 11, 33, 34, 35, 7, 36, 37, 38, 39, 40, 41, 42, 43, 44, 45, 46, 150, 151, 145, 146, 147, 148, 149] (by decide +kernel) (by decide +kernel)
set_option maxRecDepth 20000 in
theorem gX4_advise_X2_addCopy : GoodIn wsX4_advise (wsV RX4 202 RX2 yX2_addCopy wsX2_addCopy) := goodIn_app (goodIn_of _ (by decide +kernel)) ggX4_advise_X2_addCopy
set_option maxRecDepth 20000 in
theorem ggX4_advise_X2_size : GoodIn wsX4_advise wsX2_size := goodIn_r _ [50, 11, 150, 151] (by decide +kernel) (by decide +kernel)
set_option maxRecDepth 20000 in
theorem gX4_advise_X2_size : GoodIn wsX4_advise (wsV RX4 95 RX2 yX2_size wsX2_size) := goodIn_app (goodIn_of _ (by decide +kernel)) ggX4_advise_X2_size
set_option maxRecDepth 20000 in
theorem ggX4_advise_X1_putWeight : GoodIn wsX4_advise wsX1_putWeight := goodIn_r _ [54, 46, 145, 146, 147, 148, 149] (by decide +kernel) (by decide +kernel)
set_option maxRecDepth 20000 in
theorem gX4_advise_X1_putWeight : GoodIn wsX4_advise (wsV RX4 110 RX1 yX1_putWeight wsX1_putWeight) := goodIn_app (goodIn_of _ (by decide +kernel)) ggX4_advise_X1_putWeight
set_option maxRecDepth 20000 in
theorem ggX4_advise_X4_liveDays : GoodIn wsX4_advise wsX4_liveDays := goodIn_r _ [58, 59, 60, 61, 62, 15, 63, 64, 65, 66, 67, 68, 69, 3, 70, 23, 24, 25, 26, 27, 28, 71, 72, 73, 74, 75, 76, 77, 78, 79, 80, 81, 82, 83, 84, 85, 86, 87, 88, 89, 90, 91, 92, 93, 94, 95, 96, 97, 98, 99, 100, 101, 102, 103, 104, 105, 106, 107, 108, 109, 110, 111, 112, 113, 7, 114, 11, 12, 115, 116, 117, 40, 118, 43, 45, 119, 120, 121, 122, 123, 124, 125, 126, 46, 127, 128, 129, 130, 131, 132, 133, 134, 135, 136, 137, 138, 44, 139, 140, 141, 142, 143, 144, 152, 153, 154, 155, 156, 157, 158, 150, 151, 145, 146, 147, 148, 149] (by decide +kernel) (by decide +kernel)
set_option maxRecDepth 20000 in
theorem gX4_advise_X4_liveDays : GoodIn wsX4_advise (wsV RX4 195 RX4 yX4_liveDays wsX4_liveDays) := goodIn_app (goodIn_of _ (by decide +kernel)) ggX4_advise_X4_liveDays
theorem dX4_advise_0 : decode cX4_advise 0 = .ok (.aload_n 0, 1) := by decide +kernel
theorem dX4_advise_1 : decode cX4_advise 1 = .ok (.getfield 28, 3) := by decide +kernel
theorem dX4_advise_4 : decode cX4_advise 4 = .ok (.iload_n 1, 1) := by decide +kernel
theorem dX4_advise_5 : decode cX4_advise 5 = .ok (.invokevirtual 96, 3) := by decide +kernel
theorem dX4_advise_8 : decode cX4_advise 8 = .ok (.astore_n 3, 1) := by decide +kernel
theorem dX4_advise_9 : decode cX4_advise 9 = .ok (.iload_n 2, 1) := by decide +kernel
theorem dX4_advise_10 : decode cX4_advise 10 = .ok (.bipush 60, 2) := by decide +kernel
theorem dX4_advise_12 : decode cX4_advise 12 = .ok (.invokestatic 192, 3) := by decide +kernel
theorem dX4_advise_15 : decode cX4_advise 15 = .ok (.aload_n 0, 1) := by decide +kernel
theorem dX4_advise_16 : decode cX4_advise 16 = .ok (.getfield 36, 3) := by decide +kernel
theorem dX4_advise_19 : decode cX4_advise 19 = .ok (.invokevirtual 199, 3) := by decide +kernel
theorem dX4_advise_22 : decode cX4_advise 22 = .ok (.iconst 0, 1) := by decide +kernel
theorem dX4_advise_23 : decode cX4_advise 23 = .ok (.istore 4, 2) := by decide +kernel
theorem dX4_advise_25 : decode cX4_advise 25 = .ok (.iload 4, 2) := by decide +kernel
theorem dX4_advise_27 : decode cX4_advise 27 = .ok (.aload_n 0, 1) := by decide +kernel
theorem dX4_advise_28 : decode cX4_advise 28 = .ok (.getfield 19, 3) := by decide +kernel
theorem dX4_advise_31 : decode cX4_advise 31 = .ok (.invokevirtual 69, 3) := by decide +kernel
theorem dX4_advise_34 : decode cX4_advise 34 = .ok (.if_icmp .gt 17, 3) := by decide +kernel
theorem dX4_advise_37 : decode cX4_advise 37 = .ok (.aload_n 0, 1) := by decide +kernel
theorem dX4_advise_38 : decode cX4_advise 38 = .ok (.getfield 36, 3) := by decide +kernel
theorem dX4_advise_41 : decode cX4_advise 41 = .ok (.aload_n 3, 1) := by decide +kernel
theorem dX4_advise_42 : decode cX4_advise 42 = .ok (.invokevirtual 202, 3) := by decide +kernel
theorem dX4_advise_45 : decode cX4_advise 45 = .ok (.iinc 4 1, 3) := by decide +kernel
theorem dX4_advise_48 : decode cX4_advise 48 = .ok (.goto (-23), 3) := by decide +kernel
theorem dX4_advise_51 : decode cX4_advise 51 = .ok (.iconst 1, 1) := by decide +kernel
theorem dX4_advise_52 : decode cX4_advise 52 = .ok (.istore 4, 2) := by decide +kernel
theorem dX4_advise_54 : decode cX4_advise 54 = .ok (.iload 4, 2) := by decide +kernel
theorem dX4_advise_56 : decode cX4_advise 56 = .ok (.aload_n 0, 1) := by decide +kernel
theorem dX4_advise_57 : decode cX4_advise 57 = .ok (.getfield 36, 3) := by decide +kernel
theorem dX4_advise_60 : decode cX4_advise 60 = .ok (.invokevirtual 95, 3) := by decide +kernel
theorem dX4_advise_63 : decode cX4_advise 63 = .ok (.if_icmp .ge 26, 3) := by decide +kernel
theorem dX4_advise_66 : decode cX4_advise 66 = .ok (.aload_n 0, 1) := by decide +kernel
theorem dX4_advise_67 : decode cX4_advise 67 = .ok (.getfield 36, 3) := by decide +kernel
theorem dX4_advise_70 : decode cX4_advise 70 = .ok (.iload 4, 2) := by decide +kernel
theorem dX4_advise_72 : decode cX4_advise 72 = .ok (.invokevirtual 96, 3) := by decide +kernel
theorem dX4_advise_75 : decode cX4_advise 75 = .ok (.iload 4, 2) := by decide +kernel
theorem dX4_advise_77 : decode cX4_advise 77 = .ok (.iconst 1, 1) := by decide +kernel
theorem dX4_advise_78 : decode cX4_advise 78 = .ok (.isub, 1) := by decide +kernel
theorem dX4_advise_79 : decode cX4_advise 79 = .ok (.iconst 0, 1) := by decide +kernel
theorem dX4_advise_80 : decode cX4_advise 80 = .ok (.invokevirtual 110, 3) := by decide +kernel
theorem dX4_advise_83 : decode cX4_advise 83 = .ok (.iinc 4 1, 3) := by decide +kernel
theorem dX4_advise_86 : decode cX4_advise 86 = .ok (.goto (-32), 3) := by decide +kernel
theorem dX4_advise_89 : decode cX4_advise 89 = .ok (.aload_n 0, 1) := by decide +kernel
theorem dX4_advise_90 : decode cX4_advise 90 = .ok (.aload_n 0, 1) := by decide +kernel
theorem dX4_advise_91 : decode cX4_advise 91 = .ok (.getfield 36, 3) := by decide +kernel
theorem dX4_advise_94 : decode cX4_advise 94 = .ok (.iload_n 2, 1) := by decide +kernel
theorem dX4_advise_95 : decode cX4_advise 95 = .ok (.invokevirtual 195, 3) := by decide +kernel
theorem dX4_advise_98 : decode cX4_advise 98 = .ok (.pop, 1) := by decide +kernel
theorem dX4_advise_99 : decode cX4_advise 99 = .ok (.iconst 0, 1) := by decide +kernel
theorem dX4_advise_100 : decode cX4_advise 100 = .ok (.istore 4, 2) := by decide +kernel
theorem dX4_advise_102 : decode cX4_advise 102 = .ok (.iconst 1, 1) := by decide +kernel
theorem dX4_advise_103 : decode cX4_advise 103 = .ok (.istore 5, 2) := by decide +kernel
theorem dX4_advise_105 : decode cX4_advise 105 = .ok (.iload 5, 2) := by decide +kernel
theorem dX4_advise_107 : decode cX4_advise 107 = .ok (.aload_n 0, 1) := by decide +kernel
theorem dX4_advise_108 : decode cX4_advise 108 = .ok (.getfield 36, 3) := by decide +kernel
theorem dX4_advise_111 : decode cX4_advise 111 = .ok (.invokevirtual 95, 3) := by decide +kernel
theorem dX4_advise_114 : decode cX4_advise 114 = .ok (.if_icmp .ge 40, 3) := by decide +kernel
theorem dX4_advise_117 : decode cX4_advise 117 = .ok (.aload_n 0, 1) := by decide +kernel
theorem dX4_advise_118 : decode cX4_advise 118 = .ok (.getfield 36, 3) := by decide +kernel
theorem dX4_advise_121 : decode cX4_advise 121 = .ok (.iload 5, 2) := by decide +kernel
theorem dX4_advise_123 : decode cX4_advise 123 = .ok (.invokevirtual 96, 3) := by decide +kernel
theorem dX4_advise_126 : decode cX4_advise 126 = .ok (.getfield 152, 3) := by decide +kernel
theorem dX4_advise_129 : decode cX4_advise 129 = .ok (.aload_n 0, 1) := by decide +kernel
theorem dX4_advise_130 : decode cX4_advise 130 = .ok (.getfield 36, 3) := by decide +kernel
theorem dX4_advise_133 : decode cX4_advise 133 = .ok (.iload 4, 2) := by decide +kernel
theorem dX4_advise_135 : decode cX4_advise 135 = .ok (.invokevirtual 96, 3) := by decide +kernel
theorem dX4_advise_138 : decode cX4_advise 138 = .ok (.getfield 152, 3) := by decide +kernel
theorem dX4_advise_141 : decode cX4_advise 141 = .ok (.if_icmp .le 7, 3) := by decide +kernel
theorem dX4_advise_144 : decode cX4_advise 144 = .ok (.iload 5, 2) := by decide +kernel
theorem dX4_advise_146 : decode cX4_advise 146 = .ok (.istore 4, 2) := by decide +kernel
theorem dX4_advise_148 : decode cX4_advise 148 = .ok (.iinc 5 1, 3) := by decide +kernel
theorem dX4_advise_151 : decode cX4_advise 151 = .ok (.goto (-46), 3) := by decide +kernel
theorem dX4_advise_154 : decode cX4_advise 154 = .ok (.iload 4, 2) := by decide +kernel
theorem dX4_advise_156 : decode cX4_advise 156 = .ok (.iconst 1, 1) := by decide +kernel
theorem dX4_advise_157 : decode cX4_advise 157 = .ok (.isub, 1) := by decide +kernel
theorem dX4_advise_158 : decode cX4_advise 158 = .ok (.ireturn, 1) := by decide +kernel
set_option maxRecDepth 20000 in
theorem ggX4_best_Jx4a65c_size_8abf5 : GoodIn wsX4_best wsJx4a65c_size_8abf5 := goodIn_r _ [8, 9, 59, 60, 61] (by decide +kernel) (by decide +kernel)
set_option maxRecDepth 20000 in
theorem gX4_best_Jx4a65c_size_8abf5 : GoodIn wsX4_best (wsV RX4 69 RJx4a65c yJx4a65c_size_8abf5 wsJx4a65c_size_8abf5) := goodIn_app (goodIn_of _ (by decide +kernel)) ggX4_best_Jx4a65c_size_8abf5
set_option maxRecDepth 20000 in
theorem ggX4_best_Jx4a65c_get_915e3 : GoodIn wsX4_best wsJx4a65c_get_915e3 := goodIn_r _ [13, 9, 14, 15, 16, 17, 18, 19, 20, 21, 22, 23, 24, 7, 25, 26, 59, 60, 61] (by decide +kernel) (by decide +kernel)
set_option maxRecDepth 20000 in
theorem gX4_best_Jx4a65c_get_915e3 : GoodIn wsX4_best (wsV RX4 128 RJx4a65c yJx4a65c_get_915e3 wsJx4a65c_get_915e3) := goodIn_app (goodIn_of _ (by decide +kernel)) ggX4_best_Jx4a65c_get_915e3
set_option maxRecDepth 20000 in
theorem ggX4_best_X0_daysRight : GoodIn wsX4_best wsX0_daysRight := goodIn_r _ [31, 32, 33, 34, 30, 35, 36, 37, 38, 39, 40, 41, 42, 43, 44, 45, 46, 47, 48, 49, 50, 51, 52, 62, 63, 64, 65] (by decide +kernel) (by decide +kernel)
set_option maxRecDepth 20000 in
theorem gX4_best_X0_daysRight : GoodIn wsX4_best (wsV RX4 145 RX0 yX0_daysRight wsX0_daysRight) := goodIn_app (goodIn_of _ (by decide +kernel)) ggX4_best_X0_daysRight
theorem dX4_best_0 : decode cX4_best 0 = .ok (.iconst (-1), 1) := by decide +kernel
theorem dX4_best_1 : decode cX4_best 1 = .ok (.istore_n 1, 1) := by decide +kernel
theorem dX4_best_2 : decode cX4_best 2 = .ok (.iconst (-1), 1) := by decide +kernel
theorem dX4_best_3 : decode cX4_best 3 = .ok (.istore_n 2, 1) := by decide +kernel
theorem dX4_best_4 : decode cX4_best 4 = .ok (.iconst 0, 1) := by decide +kernel
theorem dX4_best_5 : decode cX4_best 5 = .ok (.istore_n 3, 1) := by decide +kernel
theorem dX4_best_6 : decode cX4_best 6 = .ok (.iload_n 3, 1) := by decide +kernel
theorem dX4_best_7 : decode cX4_best 7 = .ok (.aload_n 0, 1) := by decide +kernel
theorem dX4_best_8 : decode cX4_best 8 = .ok (.getfield 19, 3) := by decide +kernel
theorem dX4_best_11 : decode cX4_best 11 = .ok (.invokevirtual 69, 3) := by decide +kernel
theorem dX4_best_14 : decode cX4_best 14 = .ok (.if_icmp .ge 40, 3) := by decide +kernel
theorem dX4_best_17 : decode cX4_best 17 = .ok (.aload_n 0, 1) := by decide +kernel
theorem dX4_best_18 : decode cX4_best 18 = .ok (.getfield 19, 3) := by decide +kernel
theorem dX4_best_21 : decode cX4_best 21 = .ok (.iload_n 3, 1) := by decide +kernel
theorem dX4_best_22 : decode cX4_best 22 = .ok (.invokevirtual 128, 3) := by decide +kernel
theorem dX4_best_25 : decode cX4_best 25 = .ok (.checkcast 78, 3) := by decide +kernel
theorem dX4_best_28 : decode cX4_best 28 = .ok (.aload_n 0, 1) := by decide +kernel
theorem dX4_best_29 : decode cX4_best 29 = .ok (.getfield 10, 3) := by decide +kernel
theorem dX4_best_32 : decode cX4_best 32 = .ok (.invokevirtual 145, 3) := by decide +kernel
theorem dX4_best_35 : decode cX4_best 35 = .ok (.istore 4, 2) := by decide +kernel
theorem dX4_best_37 : decode cX4_best 37 = .ok (.iload 4, 2) := by decide +kernel
theorem dX4_best_39 : decode cX4_best 39 = .ok (.iload_n 1, 1) := by decide +kernel
theorem dX4_best_40 : decode cX4_best 40 = .ok (.if_icmp .le 8, 3) := by decide +kernel
theorem dX4_best_43 : decode cX4_best 43 = .ok (.iload 4, 2) := by decide +kernel
theorem dX4_best_45 : decode cX4_best 45 = .ok (.istore_n 1, 1) := by decide +kernel
theorem dX4_best_46 : decode cX4_best 46 = .ok (.iload_n 3, 1) := by decide +kernel
theorem dX4_best_47 : decode cX4_best 47 = .ok (.istore_n 2, 1) := by decide +kernel
theorem dX4_best_48 : decode cX4_best 48 = .ok (.iinc 3 1, 3) := by decide +kernel
theorem dX4_best_51 : decode cX4_best 51 = .ok (.goto (-45), 3) := by decide +kernel
theorem dX4_best_54 : decode cX4_best 54 = .ok (.iload_n 2, 1) := by decide +kernel
theorem dX4_best_55 : decode cX4_best 55 = .ok (.ireturn, 1) := by decide +kernel
set_option maxRecDepth 20000 in
theorem ggX4_mean_X2_size : GoodIn wsX4_mean wsX2_size := goodIn_r _ [6, 7, 19, 20] (by decide +kernel) (by decide +kernel)
set_option maxRecDepth 20000 in
theorem gX4_mean_X2_size : GoodIn wsX4_mean (wsV RX4 95 RX2 yX2_size wsX2_size) := goodIn_app (goodIn_of _ (by decide +kernel)) ggX4_mean_X2_size
set_option maxRecDepth 20000 in
theorem ggX4_mean_X2_allPoints : GoodIn wsX4_mean wsX2_allPoints := goodIn_r _ [11, 7, 12, 19, 20, 21, 22, 23, 24, 25] (by decide +kernel) (by decide +kernel)
set_option maxRecDepth 20000 in
theorem gX4_mean_X2_allPoints : GoodIn wsX4_mean (wsV RX4 212 RX2 yX2_allPoints wsX2_allPoints) := goodIn_app (goodIn_of _ (by decide +kernel)) ggX4_mean_X2_allPoints
theorem dX4_mean_0 : decode cX4_mean 0 = .ok (.aload_n 0, 1) := by decide +kernel
theorem dX4_mean_1 : decode cX4_mean 1 = .ok (.getfield 28, 3) := by decide +kernel
theorem dX4_mean_4 : decode cX4_mean 4 = .ok (.invokevirtual 95, 3) := by decide +kernel
theorem dX4_mean_7 : decode cX4_mean 7 = .ok (.ifCond .ne 5, 3) := by decide +kernel
theorem dX4_mean_10 : decode cX4_mean 10 = .ok (.dconst 0, 1) := by decide +kernel
theorem dX4_mean_11 : decode cX4_mean 11 = .ok (.dreturn, 1) := by decide +kernel
theorem dX4_mean_12 : decode cX4_mean 12 = .ok (.aload_n 0, 1) := by decide +kernel
theorem dX4_mean_13 : decode cX4_mean 13 = .ok (.getfield 28, 3) := by decide +kernel
theorem dX4_mean_16 : decode cX4_mean 16 = .ok (.invokevirtual 212, 3) := by decide +kernel
theorem dX4_mean_19 : decode cX4_mean 19 = .ok (.i2d, 1) := by decide +kernel
theorem dX4_mean_20 : decode cX4_mean 20 = .ok (.aload_n 0, 1) := by decide +kernel
theorem dX4_mean_21 : decode cX4_mean 21 = .ok (.getfield 28, 3) := by decide +kernel
theorem dX4_mean_24 : decode cX4_mean 24 = .ok (.invokevirtual 95, 3) := by decide +kernel
theorem dX4_mean_27 : decode cX4_mean 27 = .ok (.i2d, 1) := by decide +kernel
theorem dX4_mean_28 : decode cX4_mean 28 = .ok (.ddiv, 1) := by decide +kernel
theorem dX4_mean_29 : decode cX4_mean 29 = .ok (.dreturn, 1) := by decide +kernel
set_option maxRecDepth 20000 in
theorem ggX4_digest_X4_count : GoodIn wsX4_digest wsX4_count := goodIn_ca (goodIn_r _ [9, 10, 3, 4, 2, 11, 12, 8, 13, 14, 15, 16, 17, 18, 19, 20, 21, 22, 23, 24, 25, 26, 27, 28, 29, 30, 31, 32, 33, 34, 35, 36, 37, 38, 39, 40, 41, 42, 43, 44, 45, 46, 47, 48, 49, 50, 51, 52, 53, 54, 55, 56, 57, 58, 59, 60, 61, 62, 63, 64, 65, 66, 67, 68, 69, 70, 71, 72, 73, 74, 75, 76, 77, 78, 79, 80, 81, 82, 83, 84, 85, 86, 87, 88, 89, 90, 91, 92, 93, 94, 95, 96, 97, 98, 99, 100, 101, 102, 103, 162, 163, 164, 165, 166, 167, 168, 169, 170, 171, 172, 173, 174, 175, 176, 177, 178, 179, 180, 181] (by decide +kernel) (by decide +kernel)) (goodIn_sub (fun _ h => List.mem_cons_of_mem _ (List.mem_append_left _ (List.mem_append_right _ h))) (by decide +kernel))
set_option maxRecDepth 20000 in
theorem gX4_digest_X4_count : GoodIn wsX4_digest (wsV RX4 217 RX4 yX4_count wsX4_count) := goodIn_app (goodIn_of _ (by decide +kernel)) ggX4_digest_X4_count
set_option maxRecDepth 20000 in
theorem ggX4_digest_X4_digestWith : GoodIn wsX4_digest wsX4_digestWith := goodIn_r _ [106, 107] (by decide +kernel) (by decide +kernel)
set_option maxRecDepth 20000 in
theorem gX4_digest_X4_digestWith : GoodIn wsX4_digest (va_wsS RX4 220 yX4_digestWith wsX4_digestWith) := goodIn_app (goodIn_of _ (by decide +kernel)) ggX4_digest_X4_digestWith
set_option maxRecDepth 20000 in
theorem ggX4_digest_X3_glassOn : GoodIn wsX4_digest wsX3_glassOn := goodIn_r _ [80, 81, 82, 83, 84, 85, 173, 174] (by decide +kernel) (by decide +kernel)
set_option maxRecDepth 20000 in
theorem gX4_digest_X3_glassOn : GoodIn wsX4_digest (wsV RX4 49 RX3 yX3_glassOn wsX3_glassOn) := goodIn_app (goodIn_of _ (by decide +kernel)) ggX4_digest_X3_glassOn
set_option maxRecDepth 20000 in
theorem ggX4_digest_X3_rainsOn : GoodIn wsX4_digest wsX3_rainsOn := goodIn_r _ [89, 33, 82, 83, 84, 85, 173, 174] (by decide +kernel) (by decide +kernel)
set_option maxRecDepth 20000 in
theorem gX4_digest_X3_rainsOn : GoodIn wsX4_digest (wsV RX4 57 RX3 yX3_rainsOn wsX3_rainsOn) := goodIn_app (goodIn_of _ (by decide +kernel)) ggX4_digest_X3_rainsOn
set_option maxRecDepth 20000 in
theorem ggX4_digest_Jx4a65c_size_8abf5 : GoodIn wsX4_digest wsJx4a65c_size_8abf5 := goodIn_r _ [20, 21, 168, 169, 170] (by decide +kernel) (by decide +kernel)
set_option maxRecDepth 20000 in
theorem gX4_digest_Jx4a65c_size_8abf5 : GoodIn wsX4_digest (wsV RX4 69 RJx4a65c yJx4a65c_size_8abf5 wsJx4a65c_size_8abf5) := goodIn_app (goodIn_of _ (by decide +kernel)) ggX4_digest_Jx4a65c_size_8abf5
set_option maxRecDepth 20000 in
theorem ggX4_digest_X4_told : GoodIn wsX4_digest wsX4_told := goodIn_ca (goodIn_r _ [113, 3, 52, 2, 4, 114, 115, 116, 8, 117, 14, 15, 16, 17, 18, 19, 20, 21, 11, 12, 13, 53, 54, 55, 56, 57, 58, 59, 60, 61, 62, 63, 64, 65, 66, 67, 68, 69, 118, 119, 120, 73, 121, 122, 71, 72, 74, 75, 76, 77, 78, 79, 31, 80, 81, 82, 83, 84, 85, 86, 87, 88, 89, 33, 123, 124, 125, 25, 126, 27, 42, 127, 128, 129, 97, 130, 103, 162, 163, 164, 165, 166, 167, 180, 181, 168, 169, 170, 173, 174, 171, 172, 175, 176, 177, 178, 179] (by decide +kernel) (by decide +kernel)) (goodIn_sub (fun _ h => List.mem_cons_of_mem _ (List.mem_append_left _ (List.mem_append_right _ h))) (by decide +kernel))
set_option maxRecDepth 20000 in
theorem gX4_digest_X4_told : GoodIn wsX4_digest (wsV RX4 224 RX4 yX4_told wsX4_told) := goodIn_app (goodIn_of _ (by decide +kernel)) ggX4_digest_X4_told
set_option maxRecDepth 20000 in
theorem ggX4_digest_X2_size : GoodIn wsX4_digest wsX2_size := goodIn_r _ [26, 27, 171, 172] (by decide +kernel) (by decide +kernel)
set_option maxRecDepth 20000 in
theorem gX4_digest_X2_size : GoodIn wsX4_digest (wsV RX4 95 RX2 yX2_size wsX2_size) := goodIn_app (goodIn_of _ (by decide +kernel)) ggX4_digest_X2_size
set_option maxRecDepth 20000 in
theorem ggX4_digest_X4_about : GoodIn wsX4_digest wsX4_about := goodIn_ca (goodIn_ca (goodIn_r _ [134, 4, 3, 10, 135, 136, 137, 25, 138, 139, 15, 27, 42, 11, 12, 8, 13, 14, 16, 17, 18, 19, 20, 21, 140, 141, 142, 97, 143, 103, 144, 145, 146, 147, 148, 149, 150, 151, 152, 153, 154, 47, 48, 49, 50, 51, 52, 2, 53, 54, 55, 56, 57, 58, 59, 60, 61, 62, 63, 64, 65, 66, 67, 68, 69, 70, 71, 72, 73, 74, 75, 76, 77, 78, 79, 31, 80, 81, 82, 83, 84, 85, 86, 87, 88, 89, 33, 155, 95, 96, 98, 99, 100, 101, 102, 156, 162, 163, 164, 165, 166, 167, 175, 176, 177, 178, 179, 171, 172, 168, 169, 170, 180, 181, 173, 174] (by decide +kernel) (by decide +kernel)) (goodIn_sub (fun _ h => List.mem_cons_of_mem _ (List.mem_append_right _ h)) (by decide +kernel))) (goodIn_sub (fun _ h => List.mem_cons_of_mem _ (List.mem_append_left _ (List.mem_append_right _ h))) (by decide +kernel))
set_option maxRecDepth 20000 in
theorem gX4_digest_X4_about : GoodIn wsX4_digest (wsV RX4 228 RX4 yX4_about wsX4_about) := goodIn_app (goodIn_of _ (by decide +kernel)) ggX4_digest_X4_about
set_option maxRecDepth 20000 in
theorem ggX4_digest_X4_weight : GoodIn wsX4_digest wsX4_weight := goodIn_ca (goodIn_ca (goodIn_r _ [160, 4, 135, 136, 137, 25, 138, 139, 15, 27, 42, 114, 115, 116, 8, 117, 14, 3, 16, 17, 18, 19, 20, 21, 161, 128, 129, 97, 130, 103, 162, 163, 164, 165, 166, 167, 171, 172, 168, 169, 170, 175, 176, 177, 178, 179] (by decide +kernel) (by decide +kernel)) (goodIn_sub (fun _ h => List.mem_cons_of_mem _ (List.mem_append_right _ h)) (by decide +kernel))) (goodIn_sub (fun _ h => List.mem_cons_of_mem _ (List.mem_append_left _ (List.mem_append_right _ h))) (by decide +kernel))
set_option maxRecDepth 20000 in
theorem gX4_digest_X4_weight : GoodIn wsX4_digest (wsV RX4 231 RX4 yX4_weight wsX4_weight) := goodIn_app (goodIn_of _ (by decide +kernel)) ggX4_digest_X4_weight
theorem dX4_digest_0 : decode cX4_digest 0 = .ok (.ldc2_w 215, 3) := by decide +kernel
theorem dX4_digest_3 : decode cX4_digest 3 = .ok (.lstore_n 1, 1) := by decide +kernel
theorem dX4_digest_4 : decode cX4_digest 4 = .ok (.iconst 0, 1) := by decide +kernel
theorem dX4_digest_5 : decode cX4_digest 5 = .ok (.istore_n 3, 1) := by decide +kernel
theorem dX4_digest_6 : decode cX4_digest 6 = .ok (.iload_n 3, 1) := by decide +kernel
theorem dX4_digest_7 : decode cX4_digest 7 = .ok (.bipush 6, 2) := by decide +kernel
theorem dX4_digest_9 : decode cX4_digest 9 = .ok (.if_icmp .gt 19, 3) := by decide +kernel
theorem dX4_digest_12 : decode cX4_digest 12 = .ok (.lload_n 1, 1) := by decide +kernel
theorem dX4_digest_13 : decode cX4_digest 13 = .ok (.aload_n 0, 1) := by decide +kernel
theorem dX4_digest_14 : decode cX4_digest 14 = .ok (.iload_n 3, 1) := by decide +kernel
theorem dX4_digest_15 : decode cX4_digest 15 = .ok (.invokevirtual 217, 3) := by decide +kernel
theorem dX4_digest_18 : decode cX4_digest 18 = .ok (.invokestatic 220, 3) := by decide +kernel
theorem dX4_digest_21 : decode cX4_digest 21 = .ok (.lstore_n 1, 1) := by decide +kernel
theorem dX4_digest_22 : decode cX4_digest 22 = .ok (.iinc 3 1, 3) := by decide +kernel
theorem dX4_digest_25 : decode cX4_digest 25 = .ok (.goto (-19), 3) := by decide +kernel
theorem dX4_digest_28 : decode cX4_digest 28 = .ok (.iconst 0, 1) := by decide +kernel
theorem dX4_digest_29 : decode cX4_digest 29 = .ok (.istore_n 3, 1) := by decide +kernel
theorem dX4_digest_30 : decode cX4_digest 30 = .ok (.iload_n 3, 1) := by decide +kernel
theorem dX4_digest_31 : decode cX4_digest 31 = .ok (.bipush 12, 2) := by decide +kernel
theorem dX4_digest_33 : decode cX4_digest 33 = .ok (.if_icmp .ge 43, 3) := by decide +kernel
theorem dX4_digest_36 : decode cX4_digest 36 = .ok (.lload_n 1, 1) := by decide +kernel
theorem dX4_digest_37 : decode cX4_digest 37 = .ok (.aload_n 0, 1) := by decide +kernel
theorem dX4_digest_38 : decode cX4_digest 38 = .ok (.getfield 10, 3) := by decide +kernel
theorem dX4_digest_41 : decode cX4_digest 41 = .ok (.iload_n 3, 1) := by decide +kernel
theorem dX4_digest_42 : decode cX4_digest 42 = .ok (.invokevirtual 49, 3) := by decide +kernel
theorem dX4_digest_45 : decode cX4_digest 45 = .ok (.invokestatic 220, 3) := by decide +kernel
theorem dX4_digest_48 : decode cX4_digest 48 = .ok (.lstore_n 1, 1) := by decide +kernel
theorem dX4_digest_49 : decode cX4_digest 49 = .ok (.lload_n 1, 1) := by decide +kernel
theorem dX4_digest_50 : decode cX4_digest 50 = .ok (.aload_n 0, 1) := by decide +kernel
theorem dX4_digest_51 : decode cX4_digest 51 = .ok (.getfield 10, 3) := by decide +kernel
theorem dX4_digest_54 : decode cX4_digest 54 = .ok (.iload_n 3, 1) := by decide +kernel
theorem dX4_digest_55 : decode cX4_digest 55 = .ok (.invokevirtual 57, 3) := by decide +kernel
theorem dX4_digest_58 : decode cX4_digest 58 = .ok (.ifCond .eq 7, 3) := by decide +kernel
theorem dX4_digest_61 : decode cX4_digest 61 = .ok (.iconst 1, 1) := by decide +kernel
theorem dX4_digest_62 : decode cX4_digest 62 = .ok (.goto 4, 3) := by decide +kernel
theorem dX4_digest_65 : decode cX4_digest 65 = .ok (.iconst 0, 1) := by decide +kernel
theorem dX4_digest_66 : decode cX4_digest 66 = .ok (.invokestatic 220, 3) := by decide +kernel
theorem dX4_digest_69 : decode cX4_digest 69 = .ok (.lstore_n 1, 1) := by decide +kernel
theorem dX4_digest_70 : decode cX4_digest 70 = .ok (.iinc 3 1, 3) := by decide +kernel
theorem dX4_digest_73 : decode cX4_digest 73 = .ok (.goto (-43), 3) := by decide +kernel
theorem dX4_digest_76 : decode cX4_digest 76 = .ok (.iconst 0, 1) := by decide +kernel
theorem dX4_digest_77 : decode cX4_digest 77 = .ok (.istore_n 3, 1) := by decide +kernel
theorem dX4_digest_78 : decode cX4_digest 78 = .ok (.iload_n 3, 1) := by decide +kernel
theorem dX4_digest_79 : decode cX4_digest 79 = .ok (.aload_n 0, 1) := by decide +kernel
theorem dX4_digest_80 : decode cX4_digest 80 = .ok (.getfield 19, 3) := by decide +kernel
theorem dX4_digest_83 : decode cX4_digest 83 = .ok (.invokevirtual 69, 3) := by decide +kernel
theorem dX4_digest_86 : decode cX4_digest 86 = .ok (.if_icmp .ge 36, 3) := by decide +kernel
theorem dX4_digest_89 : decode cX4_digest 89 = .ok (.iconst 0, 1) := by decide +kernel
theorem dX4_digest_90 : decode cX4_digest 90 = .ok (.istore 4, 2) := by decide +kernel
theorem dX4_digest_92 : decode cX4_digest 92 = .ok (.iload 4, 2) := by decide +kernel
theorem dX4_digest_94 : decode cX4_digest 94 = .ok (.iconst 3, 1) := by decide +kernel
theorem dX4_digest_95 : decode cX4_digest 95 = .ok (.if_icmp .gt 21, 3) := by decide +kernel
theorem dX4_digest_98 : decode cX4_digest 98 = .ok (.lload_n 1, 1) := by decide +kernel
theorem dX4_digest_99 : decode cX4_digest 99 = .ok (.aload_n 0, 1) := by decide +kernel
theorem dX4_digest_100 : decode cX4_digest 100 = .ok (.iload_n 3, 1) := by decide +kernel
theorem dX4_digest_101 : decode cX4_digest 101 = .ok (.iload 4, 2) := by decide +kernel
theorem dX4_digest_103 : decode cX4_digest 103 = .ok (.invokevirtual 224, 3) := by decide +kernel
theorem dX4_digest_106 : decode cX4_digest 106 = .ok (.invokestatic 220, 3) := by decide +kernel
theorem dX4_digest_109 : decode cX4_digest 109 = .ok (.lstore_n 1, 1) := by decide +kernel
theorem dX4_digest_110 : decode cX4_digest 110 = .ok (.iinc 4 1, 3) := by decide +kernel
theorem dX4_digest_113 : decode cX4_digest 113 = .ok (.goto (-21), 3) := by decide +kernel
theorem dX4_digest_116 : decode cX4_digest 116 = .ok (.iinc 3 1, 3) := by decide +kernel
theorem dX4_digest_119 : decode cX4_digest 119 = .ok (.goto (-41), 3) := by decide +kernel
theorem dX4_digest_122 : decode cX4_digest 122 = .ok (.iconst 0, 1) := by decide +kernel
theorem dX4_digest_123 : decode cX4_digest 123 = .ok (.istore_n 3, 1) := by decide +kernel
theorem dX4_digest_124 : decode cX4_digest 124 = .ok (.iload_n 3, 1) := by decide +kernel
theorem dX4_digest_125 : decode cX4_digest 125 = .ok (.aload_n 0, 1) := by decide +kernel
theorem dX4_digest_126 : decode cX4_digest 126 = .ok (.getfield 28, 3) := by decide +kernel
theorem dX4_digest_129 : decode cX4_digest 129 = .ok (.invokevirtual 95, 3) := by decide +kernel
theorem dX4_digest_132 : decode cX4_digest 132 = .ok (.if_icmp .ge 70, 3) := by decide +kernel
theorem dX4_digest_135 : decode cX4_digest 135 = .ok (.iconst 0, 1) := by decide +kernel
theorem dX4_digest_136 : decode cX4_digest 136 = .ok (.istore 4, 2) := by decide +kernel
theorem dX4_digest_138 : decode cX4_digest 138 = .ok (.iload 4, 2) := by decide +kernel
theorem dX4_digest_140 : decode cX4_digest 140 = .ok (.bipush 6, 2) := by decide +kernel
theorem dX4_digest_142 : decode cX4_digest 142 = .ok (.if_icmp .gt 21, 3) := by decide +kernel
theorem dX4_digest_145 : decode cX4_digest 145 = .ok (.lload_n 1, 1) := by decide +kernel
theorem dX4_digest_146 : decode cX4_digest 146 = .ok (.aload_n 0, 1) := by decide +kernel
theorem dX4_digest_147 : decode cX4_digest 147 = .ok (.iload_n 3, 1) := by decide +kernel
theorem dX4_digest_148 : decode cX4_digest 148 = .ok (.iload 4, 2) := by decide +kernel
theorem dX4_digest_150 : decode cX4_digest 150 = .ok (.invokevirtual 228, 3) := by decide +kernel
theorem dX4_digest_153 : decode cX4_digest 153 = .ok (.invokestatic 220, 3) := by decide +kernel
theorem dX4_digest_156 : decode cX4_digest 156 = .ok (.lstore_n 1, 1) := by decide +kernel
theorem dX4_digest_157 : decode cX4_digest 157 = .ok (.iinc 4 1, 3) := by decide +kernel
theorem dX4_digest_160 : decode cX4_digest 160 = .ok (.goto (-22), 3) := by decide +kernel
theorem dX4_digest_163 : decode cX4_digest 163 = .ok (.iconst 0, 1) := by decide +kernel
theorem dX4_digest_164 : decode cX4_digest 164 = .ok (.istore 4, 2) := by decide +kernel
theorem dX4_digest_166 : decode cX4_digest 166 = .ok (.iload 4, 2) := by decide +kernel
theorem dX4_digest_168 : decode cX4_digest 168 = .ok (.aload_n 0, 1) := by decide +kernel
theorem dX4_digest_169 : decode cX4_digest 169 = .ok (.getfield 19, 3) := by decide +kernel
theorem dX4_digest_172 : decode cX4_digest 172 = .ok (.invokevirtual 69, 3) := by decide +kernel
theorem dX4_digest_175 : decode cX4_digest 175 = .ok (.if_icmp .ge 21, 3) := by decide +kernel
theorem dX4_digest_178 : decode cX4_digest 178 = .ok (.lload_n 1, 1) := by decide +kernel
theorem dX4_digest_179 : decode cX4_digest 179 = .ok (.aload_n 0, 1) := by decide +kernel
theorem dX4_digest_180 : decode cX4_digest 180 = .ok (.iload_n 3, 1) := by decide +kernel
theorem dX4_digest_181 : decode cX4_digest 181 = .ok (.iload 4, 2) := by decide +kernel
theorem dX4_digest_183 : decode cX4_digest 183 = .ok (.invokevirtual 231, 3) := by decide +kernel
theorem dX4_digest_186 : decode cX4_digest 186 = .ok (.invokestatic 220, 3) := by decide +kernel
theorem dX4_digest_189 : decode cX4_digest 189 = .ok (.lstore_n 1, 1) := by decide +kernel
theorem dX4_digest_190 : decode cX4_digest 190 = .ok (.iinc 4 1, 3) := by decide +kernel
theorem dX4_digest_193 : decode cX4_digest 193 = .ok (.goto (-27), 3) := by decide +kernel
theorem dX4_digest_196 : decode cX4_digest 196 = .ok (.iinc 3 1, 3) := by decide +kernel
theorem dX4_digest_199 : decode cX4_digest 199 = .ok (.goto (-75), 3) := by decide +kernel
theorem dX4_digest_202 : decode cX4_digest 202 = .ok (.lload_n 1, 1) := by decide +kernel
theorem dX4_digest_203 : decode cX4_digest 203 = .ok (.lreturn, 1) := by decide +kernel
theorem dX4_digestWith_0 : decode cX4_digestWith 0 = .ok (.lload_n 0, 1) := by decide +kernel
theorem dX4_digestWith_1 : decode cX4_digestWith 1 = .ok (.ldc2_w 234, 3) := by decide +kernel
theorem dX4_digestWith_4 : decode cX4_digestWith 4 = .ok (.lmul, 1) := by decide +kernel
theorem dX4_digestWith_5 : decode cX4_digestWith 5 = .ok (.iload_n 2, 1) := by decide +kernel
theorem dX4_digestWith_6 : decode cX4_digestWith 6 = .ok (.i2l, 1) := by decide +kernel
theorem dX4_digestWith_7 : decode cX4_digestWith 7 = .ok (.ladd, 1) := by decide +kernel
theorem dX4_digestWith_8 : decode cX4_digestWith 8 = .ok (.lreturn, 1) := by decide +kernel
set_option maxRecDepth 20000 in
theorem ggX4_liveDays_X4_liveDay : GoodIn wsX4_liveDays wsX4_liveDay := goodIn_r _ [6, 7, 8, 9, 10, 5, 11, 12, 13, 14, 15, 16, 17, 18, 19, 20, 21, 22, 23, 24, 25, 26, 27, 28, 29, 30, 31, 32, 33, 34, 35, 36, 37, 38, 39, 40, 41, 42, 43, 44, 45, 46, 47, 48, 49, 50, 51, 52, 53, 54, 55, 56, 57, 58, 59, 60, 61, 62, 63, 64, 65, 66, 67, 68, 69, 70, 71, 72, 73, 74, 75, 76, 77, 78, 79, 80, 81, 82, 83, 84, 85, 86, 87, 88, 89, 90, 91, 92, 93, 94, 95, 96, 97, 98, 99, 100, 101, 102, 103, 104, 105, 106, 107, 108, 109, 110, 111, 112, 113, 114, 115, 116] (by decide +kernel) (by decide +kernel)
set_option maxRecDepth 20000 in
theorem gX4_liveDays_X4_liveDay : GoodIn wsX4_liveDays (wsV RX4 209 RX4 yX4_liveDay wsX4_liveDay) := goodIn_app (goodIn_of _ (by decide +kernel)) ggX4_liveDays_X4_liveDay
theorem dX4_liveDays_0 : decode cX4_liveDays 0 = .ok (.iconst 0, 1) := by decide +kernel
theorem dX4_liveDays_1 : decode cX4_liveDays 1 = .ok (.istore_n 3, 1) := by decide +kernel
theorem dX4_liveDays_2 : decode cX4_liveDays 2 = .ok (.iconst 0, 1) := by decide +kernel
theorem dX4_liveDays_3 : decode cX4_liveDays 3 = .ok (.istore 4, 2) := by decide +kernel
theorem dX4_liveDays_5 : decode cX4_liveDays 5 = .ok (.iload 4, 2) := by decide +kernel
theorem dX4_liveDays_7 : decode cX4_liveDays 7 = .ok (.iload_n 2, 1) := by decide +kernel
theorem dX4_liveDays_8 : decode cX4_liveDays 8 = .ok (.if_icmp .ge 24, 3) := by decide +kernel
theorem dX4_liveDays_11 : decode cX4_liveDays 11 = .ok (.iload_n 3, 1) := by decide +kernel
theorem dX4_liveDays_12 : decode cX4_liveDays 12 = .ok (.aload_n 0, 1) := by decide +kernel
theorem dX4_liveDays_13 : decode cX4_liveDays 13 = .ok (.aload_n 1, 1) := by decide +kernel
theorem dX4_liveDays_14 : decode cX4_liveDays 14 = .ok (.aload_n 0, 1) := by decide +kernel
theorem dX4_liveDays_15 : decode cX4_liveDays 15 = .ok (.getfield 165, 3) := by decide +kernel
theorem dX4_liveDays_18 : decode cX4_liveDays 18 = .ok (.iload 4, 2) := by decide +kernel
theorem dX4_liveDays_20 : decode cX4_liveDays 20 = .ok (.iadd, 1) := by decide +kernel
theorem dX4_liveDays_21 : decode cX4_liveDays 21 = .ok (.invokevirtual 209, 3) := by decide +kernel
theorem dX4_liveDays_24 : decode cX4_liveDays 24 = .ok (.iadd, 1) := by decide +kernel
theorem dX4_liveDays_25 : decode cX4_liveDays 25 = .ok (.istore_n 3, 1) := by decide +kernel
theorem dX4_liveDays_26 : decode cX4_liveDays 26 = .ok (.iinc 4 1, 3) := by decide +kernel
theorem dX4_liveDays_29 : decode cX4_liveDays 29 = .ok (.goto (-24), 3) := by decide +kernel
theorem dX4_liveDays_32 : decode cX4_liveDays 32 = .ok (.iload_n 3, 1) := by decide +kernel
theorem dX4_liveDays_33 : decode cX4_liveDays 33 = .ok (.ireturn, 1) := by decide +kernel
set_option maxRecDepth 20000 in
theorem ggX4_liveDay_X4_sayingsOn : GoodIn wsX4_liveDay wsX4_sayingsOn := goodIn_r _ [6, 7, 8, 9, 1, 10, 11, 12, 13, 14, 15, 16, 17, 18, 19, 20, 21, 22, 23, 24, 25, 26, 27, 28, 29, 30, 31, 32, 33, 34, 35, 36, 37, 38, 39, 40, 41, 42, 43, 44, 45, 46, 47, 48, 49, 50, 51, 52, 53, 54, 92, 93, 94, 95, 96, 97, 98, 99, 100, 101, 102, 103, 104] (by decide +kernel) (by decide +kernel)
set_option maxRecDepth 20000 in
theorem gX4_liveDay_X4_sayingsOn : GoodIn wsX4_liveDay (wsV RX4 168 RX4 yX4_sayingsOn wsX4_sayingsOn) := goodIn_app (goodIn_of _ (by decide +kernel)) ggX4_liveDay_X4_sayingsOn
set_option maxRecDepth 20000 in
theorem ggX4_liveDay_X3_rainsOn : GoodIn wsX4_liveDay wsX3_rainsOn := goodIn_r _ [53, 54, 46, 47, 48, 49, 103, 104] (by decide +kernel) (by decide +kernel)
set_option maxRecDepth 20000 in
theorem gX4_liveDay_X3_rainsOn : GoodIn wsX4_liveDay (wsV RX4 57 RX3 yX3_rainsOn wsX3_rainsOn) := goodIn_app (goodIn_of _ (by decide +kernel)) ggX4_liveDay_X3_rainsOn
set_option maxRecDepth 20000 in
theorem ggX4_liveDay_X2_liveDay : GoodIn wsX4_liveDay wsX2_liveDay := goodIn_r _ [60, 61, 62, 63, 64, 65, 66, 67, 68, 69, 70, 71, 72, 73, 74, 75, 76, 77, 78, 79, 80, 81, 82, 83, 84, 85, 86, 87, 88, 89, 90, 91, 105, 106, 107, 108, 109, 110, 111] (by decide +kernel) (by decide +kernel)
set_option maxRecDepth 20000 in
theorem gX4_liveDay_X2_liveDay : GoodIn wsX4_liveDay (wsV RX4 236 RX2 yX2_liveDay wsX2_liveDay) := goodIn_app (goodIn_of _ (by decide +kernel)) ggX4_liveDay_X2_liveDay
theorem dX4_liveDay_0 : decode cX4_liveDay 0 = .ok (.aload_n 1, 1) := by decide +kernel
theorem dX4_liveDay_1 : decode cX4_liveDay 1 = .ok (.aload_n 0, 1) := by decide +kernel
theorem dX4_liveDay_2 : decode cX4_liveDay 2 = .ok (.iload_n 2, 1) := by decide +kernel
theorem dX4_liveDay_3 : decode cX4_liveDay 3 = .ok (.invokevirtual 168, 3) := by decide +kernel
theorem dX4_liveDay_6 : decode cX4_liveDay 6 = .ok (.aload_n 0, 1) := by decide +kernel
theorem dX4_liveDay_7 : decode cX4_liveDay 7 = .ok (.getfield 10, 3) := by decide +kernel
theorem dX4_liveDay_10 : decode cX4_liveDay 10 = .ok (.iload_n 2, 1) := by decide +kernel
theorem dX4_liveDay_11 : decode cX4_liveDay 11 = .ok (.invokevirtual 57, 3) := by decide +kernel
theorem dX4_liveDay_14 : decode cX4_liveDay 14 = .ok (.invokevirtual 236, 3) := by decide +kernel
theorem dX4_liveDay_17 : decode cX4_liveDay 17 = .ok (.ireturn, 1) := by decide +kernel
set_option maxRecDepth 20000 in
theorem ggX4_sayingsOn_Jx4a65c_size_8abf5 : GoodIn wsX4_sayingsOn wsJx4a65c_size_8abf5 := goodIn_r _ [9, 10, 56, 57, 58] (by decide +kernel) (by decide +kernel)
set_option maxRecDepth 20000 in
theorem gX4_sayingsOn_Jx4a65c_size_8abf5 : GoodIn wsX4_sayingsOn (wsV RX4 69 RJx4a65c yJx4a65c_size_8abf5 wsJx4a65c_size_8abf5) := goodIn_app (goodIn_of _ (by decide +kernel)) ggX4_sayingsOn_Jx4a65c_size_8abf5
set_option maxRecDepth 20000 in
theorem ggX4_sayingsOn_Jx4a65c_get_915e3 : GoodIn wsX4_sayingsOn wsJx4a65c_get_915e3 := goodIn_r _ [14, 10, 15, 16, 17, 18, 19, 20, 21, 22, 23, 24, 25, 8, 26, 27, 56, 57, 58] (by decide +kernel) (by decide +kernel)
set_option maxRecDepth 20000 in
theorem gX4_sayingsOn_Jx4a65c_get_915e3 : GoodIn wsX4_sayingsOn (wsV RX4 128 RJx4a65c yJx4a65c_get_915e3 wsJx4a65c_get_915e3) := goodIn_app (goodIn_of _ (by decide +kernel)) ggX4_sayingsOn_Jx4a65c_get_915e3
set_option maxRecDepth 20000 in
theorem ggX4_sayingsOn_X0_saysRain : GoodIn wsX4_sayingsOn wsX0_saysRain := goodIn_r _ [32, 33, 34, 35, 36, 37, 38, 39, 40, 41, 42, 43, 44, 45, 46, 47, 48, 49, 59, 60, 61, 62] (by decide +kernel) (by decide +kernel)
set_option maxRecDepth 20000 in
theorem gX4_sayingsOn_X0_saysRain : GoodIn wsX4_sayingsOn (wsV RX4 131 RX0 yX0_saysRain wsX0_saysRain) := goodIn_app (goodIn_of _ (by decide +kernel)) ggX4_sayingsOn_X0_saysRain
theorem dX4_sayingsOn_0 : decode cX4_sayingsOn 0 = .ok (.iconst 0, 1) := by decide +kernel
theorem dX4_sayingsOn_1 : decode cX4_sayingsOn 1 = .ok (.istore_n 2, 1) := by decide +kernel
theorem dX4_sayingsOn_2 : decode cX4_sayingsOn 2 = .ok (.iload_n 2, 1) := by decide +kernel
theorem dX4_sayingsOn_3 : decode cX4_sayingsOn 3 = .ok (.aload_n 0, 1) := by decide +kernel
theorem dX4_sayingsOn_4 : decode cX4_sayingsOn 4 = .ok (.getfield 32, 3) := by decide +kernel
theorem dX4_sayingsOn_7 : decode cX4_sayingsOn 7 = .ok (.arraylength, 1) := by decide +kernel
theorem dX4_sayingsOn_8 : decode cX4_sayingsOn 8 = .ok (.if_icmp .ge 53, 3) := by decide +kernel
theorem dX4_sayingsOn_11 : decode cX4_sayingsOn 11 = .ok (.iload_n 2, 1) := by decide +kernel
theorem dX4_sayingsOn_12 : decode cX4_sayingsOn 12 = .ok (.aload_n 0, 1) := by decide +kernel
theorem dX4_sayingsOn_13 : decode cX4_sayingsOn 13 = .ok (.getfield 19, 3) := by decide +kernel
theorem dX4_sayingsOn_16 : decode cX4_sayingsOn 16 = .ok (.invokevirtual 69, 3) := by decide +kernel
theorem dX4_sayingsOn_19 : decode cX4_sayingsOn 19 = .ok (.if_icmp .ge 42, 3) := by decide +kernel
theorem dX4_sayingsOn_22 : decode cX4_sayingsOn 22 = .ok (.aload_n 0, 1) := by decide +kernel
theorem dX4_sayingsOn_23 : decode cX4_sayingsOn 23 = .ok (.getfield 32, 3) := by decide +kernel
theorem dX4_sayingsOn_26 : decode cX4_sayingsOn 26 = .ok (.iload_n 2, 1) := by decide +kernel
theorem dX4_sayingsOn_27 : decode cX4_sayingsOn 27 = .ok (.aload_n 0, 1) := by decide +kernel
theorem dX4_sayingsOn_28 : decode cX4_sayingsOn 28 = .ok (.getfield 19, 3) := by decide +kernel
theorem dX4_sayingsOn_31 : decode cX4_sayingsOn 31 = .ok (.iload_n 2, 1) := by decide +kernel
theorem dX4_sayingsOn_32 : decode cX4_sayingsOn 32 = .ok (.invokevirtual 128, 3) := by decide +kernel
theorem dX4_sayingsOn_35 : decode cX4_sayingsOn 35 = .ok (.checkcast 78, 3) := by decide +kernel
theorem dX4_sayingsOn_38 : decode cX4_sayingsOn 38 = .ok (.aload_n 0, 1) := by decide +kernel
theorem dX4_sayingsOn_39 : decode cX4_sayingsOn 39 = .ok (.getfield 10, 3) := by decide +kernel
theorem dX4_sayingsOn_42 : decode cX4_sayingsOn 42 = .ok (.iload_n 1, 1) := by decide +kernel
theorem dX4_sayingsOn_43 : decode cX4_sayingsOn 43 = .ok (.invokevirtual 131, 3) := by decide +kernel
theorem dX4_sayingsOn_46 : decode cX4_sayingsOn 46 = .ok (.ifCond .eq 7, 3) := by decide +kernel
theorem dX4_sayingsOn_49 : decode cX4_sayingsOn 49 = .ok (.iconst 1, 1) := by decide +kernel
theorem dX4_sayingsOn_50 : decode cX4_sayingsOn 50 = .ok (.goto 4, 3) := by decide +kernel
theorem dX4_sayingsOn_53 : decode cX4_sayingsOn 53 = .ok (.iconst (-1), 1) := by decide +kernel
theorem dX4_sayingsOn_54 : decode cX4_sayingsOn 54 = .ok (.iastore, 1) := by decide +kernel
theorem dX4_sayingsOn_55 : decode cX4_sayingsOn 55 = .ok (.iinc 2 1, 3) := by decide +kernel
theorem dX4_sayingsOn_58 : decode cX4_sayingsOn 58 = .ok (.goto (-56), 3) := by decide +kernel
theorem dX4_sayingsOn_61 : decode cX4_sayingsOn 61 = .ok (.aload_n 0, 1) := by decide +kernel
theorem dX4_sayingsOn_62 : decode cX4_sayingsOn 62 = .ok (.getfield 32, 3) := by decide +kernel
theorem dX4_sayingsOn_65 : decode cX4_sayingsOn 65 = .ok (.areturn, 1) := by decide +kernel
set_option maxRecDepth 20000 in
theorem ggX4_countOver_X2_allPoints : GoodIn wsX4_countOver wsX2_allPoints := goodIn_r _ [5, 6, 7, 80, 81, 82, 83, 84, 85, 86] (by decide +kernel) (by decide +kernel)
set_option maxRecDepth 20000 in
theorem gX4_countOver_X2_allPoints : GoodIn wsX4_countOver (wsV RX4 212 RX2 yX2_allPoints wsX2_allPoints) := goodIn_app (goodIn_of _ (by decide +kernel)) ggX4_countOver_X2_allPoints
set_option maxRecDepth 20000 in
theorem ggX4_countOver_X2_allCoins : GoodIn wsX4_countOver wsX2_allCoins := goodIn_r _ [11, 6, 7, 80, 81, 82, 83, 84, 85, 86] (by decide +kernel) (by decide +kernel)
set_option maxRecDepth 20000 in
theorem gX4_countOver_X2_allCoins : GoodIn wsX4_countOver (wsV RX4 239 RX2 yX2_allCoins wsX2_allCoins) := goodIn_app (goodIn_of _ (by decide +kernel)) ggX4_countOver_X2_allCoins
set_option maxRecDepth 20000 in
theorem ggX4_countOver_X4_sayingsOn : GoodIn wsX4_countOver wsX4_sayingsOn := goodIn_r _ [16, 17, 18, 19, 20, 21, 22, 23, 24, 25, 26, 27, 28, 29, 30, 31, 32, 33, 34, 35, 36, 37, 38, 39, 40, 41, 42, 43, 44, 45, 46, 47, 48, 49, 50, 51, 52, 53, 54, 55, 56, 57, 58, 59, 60, 61, 62, 63, 64, 65, 87, 88, 89, 90, 91, 92, 93, 94, 95, 96, 97, 98, 99] (by decide +kernel) (by decide +kernel)
set_option maxRecDepth 20000 in
theorem gX4_countOver_X4_sayingsOn : GoodIn wsX4_countOver (wsV RX4 168 RX4 yX4_sayingsOn wsX4_sayingsOn) := goodIn_app (goodIn_of _ (by decide +kernel)) ggX4_countOver_X4_sayingsOn
set_option maxRecDepth 20000 in
theorem ggX4_countOver_X2_guessingRain : GoodIn wsX4_countOver wsX2_guessingRain := goodIn_r _ [69, 6, 7, 70, 71, 72, 73, 74, 75, 76, 77, 78, 79, 80, 81, 82, 83, 84, 85, 86] (by decide +kernel) (by decide +kernel)
set_option maxRecDepth 20000 in
theorem gX4_countOver_X2_guessingRain : GoodIn wsX4_countOver (wsV RX4 242 RX2 yX2_guessingRain wsX2_guessingRain) := goodIn_app (goodIn_of _ (by decide +kernel)) ggX4_countOver_X2_guessingRain
theorem dX4_countOver_0 : decode cX4_countOver 0 = .ok (.iload_n 2, 1) := by decide +kernel
theorem dX4_countOver_1 : decode cX4_countOver 1 = .ok (.lookupswitch 37 #[(3, 27), (4, 32)], 27) := by decide +kernel
theorem dX4_countOver_28 : decode cX4_countOver 28 = .ok (.aload_n 1, 1) := by decide +kernel
theorem dX4_countOver_29 : decode cX4_countOver 29 = .ok (.invokevirtual 212, 3) := by decide +kernel
theorem dX4_countOver_32 : decode cX4_countOver 32 = .ok (.ireturn, 1) := by decide +kernel
theorem dX4_countOver_33 : decode cX4_countOver 33 = .ok (.aload_n 1, 1) := by decide +kernel
theorem dX4_countOver_34 : decode cX4_countOver 34 = .ok (.invokevirtual 239, 3) := by decide +kernel
theorem dX4_countOver_37 : decode cX4_countOver 37 = .ok (.ireturn, 1) := by decide +kernel
theorem dX4_countOver_38 : decode cX4_countOver 38 = .ok (.aload_n 1, 1) := by decide +kernel
theorem dX4_countOver_39 : decode cX4_countOver 39 = .ok (.aload_n 0, 1) := by decide +kernel
theorem dX4_countOver_40 : decode cX4_countOver 40 = .ok (.iload_n 3, 1) := by decide +kernel
theorem dX4_countOver_41 : decode cX4_countOver 41 = .ok (.invokevirtual 168, 3) := by decide +kernel
theorem dX4_countOver_44 : decode cX4_countOver 44 = .ok (.invokevirtual 242, 3) := by decide +kernel
theorem dX4_countOver_47 : decode cX4_countOver 47 = .ok (.ireturn, 1) := by decide +kernel
theorem dX4_requireTableDay_0 : decode cX4_requireTableDay 0 = .ok (.iload_n 0, 1) := by decide +kernel
theorem dX4_requireTableDay_1 : decode cX4_requireTableDay 1 = .ok (.ifCond .lt 9, 3) := by decide +kernel
theorem dX4_requireTableDay_4 : decode cX4_requireTableDay 4 = .ok (.iload_n 0, 1) := by decide +kernel
theorem dX4_requireTableDay_5 : decode cX4_requireTableDay 5 = .ok (.bipush 12, 2) := by decide +kernel
theorem dX4_requireTableDay_7 : decode cX4_requireTableDay 7 = .ok (.if_icmp .lt 13, 3) := by decide +kernel
theorem dX4_requireTableDay_10 : decode cX4_requireTableDay 10 = .ok (.new 180, 3) := by decide +kernel
theorem dX4_requireTableDay_13 : decode cX4_requireTableDay 13 = .ok (.dup, 1) := by decide +kernel
theorem dX4_requireTableDay_14 : decode cX4_requireTableDay 14 = .ok (.ldc 245, 2) := by decide +kernel
theorem dX4_requireTableDay_16 : decode cX4_requireTableDay 16 = .ok (.invokespecial 184, 3) := by decide +kernel
theorem dX4_requireTableDay_19 : decode cX4_requireTableDay 19 = .ok (.athrow, 1) := by decide +kernel
theorem dX4_requireTableDay_20 : decode cX4_requireTableDay 20 = .ok (.return_, 1) := by decide +kernel
set_option maxRecDepth 20000 in
theorem ggX4_requireSign_Jx4a65c_size_8abf5 : GoodIn wsX4_requireSign wsJx4a65c_size_8abf5 := goodIn_r _ [8, 9, 16, 17, 18] (by decide +kernel) (by decide +kernel)
set_option maxRecDepth 20000 in
theorem gX4_requireSign_Jx4a65c_size_8abf5 : GoodIn wsX4_requireSign (wsV RX4 69 RJx4a65c yJx4a65c_size_8abf5 wsJx4a65c_size_8abf5) := goodIn_app (goodIn_of _ (by decide +kernel)) ggX4_requireSign_Jx4a65c_size_8abf5
theorem dX4_requireSign_0 : decode cX4_requireSign 0 = .ok (.iload_n 1, 1) := by decide +kernel
theorem dX4_requireSign_1 : decode cX4_requireSign 1 = .ok (.ifCond .lt 14, 3) := by decide +kernel
theorem dX4_requireSign_4 : decode cX4_requireSign 4 = .ok (.iload_n 1, 1) := by decide +kernel
theorem dX4_requireSign_5 : decode cX4_requireSign 5 = .ok (.aload_n 0, 1) := by decide +kernel
theorem dX4_requireSign_6 : decode cX4_requireSign 6 = .ok (.getfield 19, 3) := by decide +kernel
theorem dX4_requireSign_9 : decode cX4_requireSign 9 = .ok (.invokevirtual 69, 3) := by decide +kernel
theorem dX4_requireSign_12 : decode cX4_requireSign 12 = .ok (.if_icmp .lt 13, 3) := by decide +kernel
theorem dX4_requireSign_15 : decode cX4_requireSign 15 = .ok (.new 180, 3) := by decide +kernel
theorem dX4_requireSign_18 : decode cX4_requireSign 18 = .ok (.dup, 1) := by decide +kernel
theorem dX4_requireSign_19 : decode cX4_requireSign 19 = .ok (.ldc 247, 2) := by decide +kernel
theorem dX4_requireSign_21 : decode cX4_requireSign 21 = .ok (.invokespecial 184, 3) := by decide +kernel
theorem dX4_requireSign_24 : decode cX4_requireSign 24 = .ok (.athrow, 1) := by decide +kernel
theorem dX4_requireSign_25 : decode cX4_requireSign 25 = .ok (.return_, 1) := by decide +kernel
theorem dX4_requireTwo_0 : decode cX4_requireTwo 0 = .ok (.iload_n 0, 1) := by decide +kernel
theorem dX4_requireTwo_1 : decode cX4_requireTwo 1 = .ok (.iload_n 1, 1) := by decide +kernel
theorem dX4_requireTwo_2 : decode cX4_requireTwo 2 = .ok (.if_icmp .ne 13, 3) := by decide +kernel
theorem dX4_requireTwo_5 : decode cX4_requireTwo 5 = .ok (.new 42, 3) := by decide +kernel
theorem dX4_requireTwo_8 : decode cX4_requireTwo 8 = .ok (.dup, 1) := by decide +kernel
theorem dX4_requireTwo_9 : decode cX4_requireTwo 9 = .ok (.ldc 249, 2) := by decide +kernel
theorem dX4_requireTwo_11 : decode cX4_requireTwo 11 = .ok (.invokespecial 46, 3) := by decide +kernel
theorem dX4_requireTwo_14 : decode cX4_requireTwo 14 = .ok (.athrow, 1) := by decide +kernel
theorem dX4_requireTwo_15 : decode cX4_requireTwo 15 = .ok (.return_, 1) := by decide +kernel
theorem dX4_requireWhat_0 : decode cX4_requireWhat 0 = .ok (.iload_n 0, 1) := by decide +kernel
theorem dX4_requireWhat_1 : decode cX4_requireWhat 1 = .ok (.iload_n 1, 1) := by decide +kernel
theorem dX4_requireWhat_2 : decode cX4_requireWhat 2 = .ok (.if_icmp .lt 8, 3) := by decide +kernel
theorem dX4_requireWhat_5 : decode cX4_requireWhat 5 = .ok (.iload_n 0, 1) := by decide +kernel
theorem dX4_requireWhat_6 : decode cX4_requireWhat 6 = .ok (.iload_n 2, 1) := by decide +kernel
theorem dX4_requireWhat_7 : decode cX4_requireWhat 7 = .ok (.if_icmp .le 13, 3) := by decide +kernel
theorem dX4_requireWhat_10 : decode cX4_requireWhat 10 = .ok (.new 180, 3) := by decide +kernel
theorem dX4_requireWhat_13 : decode cX4_requireWhat 13 = .ok (.dup, 1) := by decide +kernel
theorem dX4_requireWhat_14 : decode cX4_requireWhat 14 = .ok (.ldc 251, 2) := by decide +kernel
theorem dX4_requireWhat_16 : decode cX4_requireWhat 16 = .ok (.invokespecial 184, 3) := by decide +kernel
theorem dX4_requireWhat_19 : decode cX4_requireWhat 19 = .ok (.athrow, 1) := by decide +kernel
theorem dX4_requireWhat_20 : decode cX4_requireWhat 20 = .ok (.return_, 1) := by decide +kernel
theorem dX4_requireDays_0 : decode cX4_requireDays 0 = .ok (.iload_n 0, 1) := by decide +kernel
theorem dX4_requireDays_1 : decode cX4_requireDays 1 = .ok (.iconst 1, 1) := by decide +kernel
theorem dX4_requireDays_2 : decode cX4_requireDays 2 = .ok (.if_icmp .lt 8, 3) := by decide +kernel
theorem dX4_requireDays_5 : decode cX4_requireDays 5 = .ok (.iload_n 0, 1) := by decide +kernel
theorem dX4_requireDays_6 : decode cX4_requireDays 6 = .ok (.iload_n 1, 1) := by decide +kernel
theorem dX4_requireDays_7 : decode cX4_requireDays 7 = .ok (.if_icmp .le 13, 3) := by decide +kernel
theorem dX4_requireDays_10 : decode cX4_requireDays 10 = .ok (.new 42, 3) := by decide +kernel
theorem dX4_requireDays_13 : decode cX4_requireDays 13 = .ok (.dup, 1) := by decide +kernel
theorem dX4_requireDays_14 : decode cX4_requireDays 14 = .ok (.ldc 253, 2) := by decide +kernel
theorem dX4_requireDays_16 : decode cX4_requireDays 16 = .ok (.invokespecial 46, 3) := by decide +kernel
theorem dX4_requireDays_19 : decode cX4_requireDays 19 = .ok (.athrow, 1) := by decide +kernel
theorem dX4_requireDays_20 : decode cX4_requireDays 20 = .ok (.return_, 1) := by decide +kernel
