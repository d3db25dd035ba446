set_option maxRecDepth 20000 in
theorem ggX4_init_X3_init : GoodIn wsX4_init wsX3_init := goodIn_r _ [21, 22, 2, 3, 16, 23, 24, 25, 26, 27, 28, 29, 65, 66] (by decide +kernel) (by decide +kernel)
set_option maxRecDepth 20000 in
theorem gX4_init_X3_init : GoodIn wsX4_init (wsX3_init) := ggX4_init_X3_init
set_option maxRecDepth 20000 in
theorem ggX4_init_Jx4a65c_init_da8c8 : GoodIn wsX4_init wsJx4a65c_init_da8c8 := goodIn_r _ [32, 33, 34, 35, 36, 37, 38, 39, 40, 41, 42, 43, 44, 2, 3, 73, 74, 75] (by decide +kernel) (by decide +kernel)
set_option maxRecDepth 20000 in
theorem gX4_init_Jx4a65c_init_da8c8 : GoodIn wsX4_init (wsJx4a65c_init_da8c8) := ggX4_init_Jx4a65c_init_da8c8
set_option maxRecDepth 20000 in
theorem ggX4_init_X2_init : GoodIn wsX4_init wsX2_init := goodIn_r _ [47, 48, 2, 3, 49, 50, 51, 52, 53, 54, 55, 56, 57, 58, 59, 60, 16, 61, 62, 63, 64, 27, 28, 29, 76, 77, 78, 79, 80, 81, 82] (by decide +kernel) (by decide +kernel)
set_option maxRecDepth 20000 in
theorem gX4_init_X2_init : GoodIn wsX4_init (wsX2_init) := ggX4_init_X2_init
theorem dX4_init_0 : decode cX4_init 0 = .ok (.aload_n 0, 1) := by decide +kernel
theorem dX4_init_1 : decode cX4_init 1 = .ok (.invokespecial 1, 3) := by decide +kernel
theorem dX4_init_4 : decode cX4_init 4 = .ok (.aload_n 0, 1) := by decide +kernel
theorem dX4_init_5 : decode cX4_init 5 = .ok (.new 7, 3) := by decide +kernel
theorem dX4_init_8 : decode cX4_init 8 = .ok (.dup, 1) := by decide +kernel
theorem dX4_init_9 : decode cX4_init 9 = .ok (.invokespecial 9, 3) := by decide +kernel
theorem dX4_init_12 : decode cX4_init 12 = .ok (.putfield 10, 3) := by decide +kernel
theorem dX4_init_15 : decode cX4_init 15 = .ok (.aload_n 0, 1) := by decide +kernel
theorem dX4_init_16 : decode cX4_init 16 = .ok (.new 16, 3) := by decide +kernel
theorem dX4_init_19 : decode cX4_init 19 = .ok (.dup, 1) := by decide +kernel
theorem dX4_init_20 : decode cX4_init 20 = .ok (.invokespecial 18, 3) := by decide +kernel
theorem dX4_init_23 : decode cX4_init 23 = .ok (.putfield 19, 3) := by decide +kernel
theorem dX4_init_26 : decode cX4_init 26 = .ok (.aload_n 0, 1) := by decide +kernel
theorem dX4_init_27 : decode cX4_init 27 = .ok (.new 23, 3) := by decide +kernel
theorem dX4_init_30 : decode cX4_init 30 = .ok (.dup, 1) := by decide +kernel
theorem dX4_init_31 : decode cX4_init 31 = .ok (.bipush 6, 2) := by decide +kernel
theorem dX4_init_33 : decode cX4_init 33 = .ok (.invokespecial 25, 3) := by decide +kernel
theorem dX4_init_36 : decode cX4_init 36 = .ok (.putfield 28, 3) := by decide +kernel
theorem dX4_init_39 : decode cX4_init 39 = .ok (.aload_n 0, 1) := by decide +kernel
theorem dX4_init_40 : decode cX4_init 40 = .ok (.bipush 8, 2) := by decide +kernel
theorem dX4_init_42 : decode cX4_init 42 = .ok (.newarray .int, 2) := by decide +kernel
theorem dX4_init_44 : decode cX4_init 44 = .ok (.putfield 32, 3) := by decide +kernel
theorem dX4_init_47 : decode cX4_init 47 = .ok (.aload_n 0, 1) := by decide +kernel
theorem dX4_init_48 : decode cX4_init 48 = .ok (.new 23, 3) := by decide +kernel
theorem dX4_init_51 : decode cX4_init 51 = .ok (.dup, 1) := by decide +kernel
theorem dX4_init_52 : decode cX4_init 52 = .ok (.bipush 9, 2) := by decide +kernel
theorem dX4_init_54 : decode cX4_init 54 = .ok (.invokespecial 25, 3) := by decide +kernel
theorem dX4_init_57 : decode cX4_init 57 = .ok (.putfield 36, 3) := by decide +kernel
theorem dX4_init_60 : decode cX4_init 60 = .ok (.return_, 1) := by decide +kernel
set_option maxRecDepth 20000 in
theorem ggX4_setGlass_X4_requireTableDay : GoodIn wsX4_setGlass wsX4_requireTableDay := goodIn_ca (goodIn_r _ [7, 8, 9] (by decide +kernel) (by decide +kernel)) (goodIn_sub (fun _ h => List.mem_cons_of_mem _ (List.mem_append_right _ h)) (by decide +kernel))
set_option maxRecDepth 20000 in
theorem gX4_setGlass_X4_requireTableDay : GoodIn wsX4_setGlass (va_wsS RX4 39 yX4_requireTableDay wsX4_requireTableDay) := goodIn_app (goodIn_of _ (by decide +kernel)) ggX4_setGlass_X4_requireTableDay
set_option maxRecDepth 20000 in
theorem ggX4_setGlass_X3_glassOn : GoodIn wsX4_setGlass wsX3_glassOn := goodIn_r _ [14, 15, 16, 17, 18, 19, 30, 31] (by decide +kernel) (by decide +kernel)
set_option maxRecDepth 20000 in
theorem gX4_setGlass_X3_glassOn : GoodIn wsX4_setGlass (wsV RX4 49 RX3 yX3_glassOn wsX3_glassOn) := goodIn_app (goodIn_of _ (by decide +kernel)) ggX4_setGlass_X3_glassOn
set_option maxRecDepth 20000 in
theorem ggX4_setGlass_X3_putGlass : GoodIn wsX4_setGlass wsX3_putGlass := goodIn_r _ [23, 15, 16, 17, 18, 19, 30, 31] (by decide +kernel) (by decide +kernel)
set_option maxRecDepth 20000 in
theorem gX4_setGlass_X3_putGlass : GoodIn wsX4_setGlass (wsV RX4 53 RX3 yX3_putGlass wsX3_putGlass) := goodIn_app (goodIn_of _ (by decide +kernel)) ggX4_setGlass_X3_putGlass
theorem dX4_setGlass_0 : decode cX4_setGlass 0 = .ok (.iload_n 1, 1) := by decide +kernel
theorem dX4_setGlass_1 : decode cX4_setGlass 1 = .ok (.invokestatic 39, 3) := by decide +kernel
theorem dX4_setGlass_4 : decode cX4_setGlass 4 = .ok (.iload_n 2, 1) := by decide +kernel
theorem dX4_setGlass_5 : decode cX4_setGlass 5 = .ok (.ifCond .lt 9, 3) := by decide +kernel
theorem dX4_setGlass_8 : decode cX4_setGlass 8 = .ok (.iload_n 2, 1) := by decide +kernel
theorem dX4_setGlass_9 : decode cX4_setGlass 9 = .ok (.bipush 60, 2) := by decide +kernel
theorem dX4_setGlass_11 : decode cX4_setGlass 11 = .ok (.if_icmp .le 13, 3) := by decide +kernel
theorem dX4_setGlass_14 : decode cX4_setGlass 14 = .ok (.new 42, 3) := by decide +kernel
theorem dX4_setGlass_17 : decode cX4_setGlass 17 = .ok (.dup, 1) := by decide +kernel
theorem dX4_setGlass_18 : decode cX4_setGlass 18 = .ok (.ldc 44, 2) := by decide +kernel
theorem dX4_setGlass_20 : decode cX4_setGlass 20 = .ok (.invokespecial 46, 3) := by decide +kernel
theorem dX4_setGlass_23 : decode cX4_setGlass 23 = .ok (.athrow, 1) := by decide +kernel
theorem dX4_setGlass_24 : decode cX4_setGlass 24 = .ok (.aload_n 0, 1) := by decide +kernel
theorem dX4_setGlass_25 : decode cX4_setGlass 25 = .ok (.getfield 10, 3) := by decide +kernel
theorem dX4_setGlass_28 : decode cX4_setGlass 28 = .ok (.iload_n 1, 1) := by decide +kernel
theorem dX4_setGlass_29 : decode cX4_setGlass 29 = .ok (.invokevirtual 49, 3) := by decide +kernel
theorem dX4_setGlass_32 : decode cX4_setGlass 32 = .ok (.istore_n 3, 1) := by decide +kernel
theorem dX4_setGlass_33 : decode cX4_setGlass 33 = .ok (.aload_n 0, 1) := by decide +kernel
theorem dX4_setGlass_34 : decode cX4_setGlass 34 = .ok (.getfield 10, 3) := by decide +kernel
theorem dX4_setGlass_37 : decode cX4_setGlass 37 = .ok (.iload_n 1, 1) := by decide +kernel
theorem dX4_setGlass_38 : decode cX4_setGlass 38 = .ok (.iload_n 2, 1) := by decide +kernel
theorem dX4_setGlass_39 : decode cX4_setGlass 39 = .ok (.invokevirtual 53, 3) := by decide +kernel
theorem dX4_setGlass_42 : decode cX4_setGlass 42 = .ok (.iload_n 3, 1) := by decide +kernel
theorem dX4_setGlass_43 : decode cX4_setGlass 43 = .ok (.ireturn, 1) := by decide +kernel
set_option maxRecDepth 20000 in
theorem ggX4_setRain_X4_requireTableDay : GoodIn wsX4_setRain wsX4_requireTableDay := goodIn_ca (goodIn_r _ [5, 6, 7] (by decide +kernel) (by decide +kernel)) (goodIn_sub (fun _ h => List.mem_cons_of_mem _ (List.mem_append_right _ h)) (by decide +kernel))
set_option maxRecDepth 20000 in
theorem gX4_setRain_X4_requireTableDay : GoodIn wsX4_setRain (va_wsS RX4 39 yX4_requireTableDay wsX4_requireTableDay) := goodIn_app (goodIn_of _ (by decide +kernel)) ggX4_setRain_X4_requireTableDay
set_option maxRecDepth 20000 in
theorem ggX4_setRain_X3_rainsOn : GoodIn wsX4_setRain wsX3_rainsOn := goodIn_r _ [12, 13, 14, 15, 16, 17, 28, 29] (by decide +kernel) (by decide +kernel)
set_option maxRecDepth 20000 in
theorem gX4_setRain_X3_rainsOn : GoodIn wsX4_setRain (wsV RX4 57 RX3 yX3_rainsOn wsX3_rainsOn) := goodIn_app (goodIn_of _ (by decide +kernel)) ggX4_setRain_X3_rainsOn
set_option maxRecDepth 20000 in
theorem ggX4_setRain_X3_putRain : GoodIn wsX4_setRain wsX3_putRain := goodIn_r _ [21, 13, 14, 15, 16, 17, 28, 29] (by decide +kernel) (by decide +kernel)
set_option maxRecDepth 20000 in
theorem gX4_setRain_X3_putRain : GoodIn wsX4_setRain (wsV RX4 61 RX3 yX3_putRain wsX3_putRain) := goodIn_app (goodIn_of _ (by decide +kernel)) ggX4_setRain_X3_putRain
theorem dX4_setRain_0 : decode cX4_setRain 0 = .ok (.iload_n 1, 1) := by decide +kernel
theorem dX4_setRain_1 : decode cX4_setRain 1 = .ok (.invokestatic 39, 3) := by decide +kernel
theorem dX4_setRain_4 : decode cX4_setRain 4 = .ok (.aload_n 0, 1) := by decide +kernel
theorem dX4_setRain_5 : decode cX4_setRain 5 = .ok (.getfield 10, 3) := by decide +kernel
theorem dX4_setRain_8 : decode cX4_setRain 8 = .ok (.iload_n 1, 1) := by decide +kernel
theorem dX4_setRain_9 : decode cX4_setRain 9 = .ok (.invokevirtual 57, 3) := by decide +kernel
theorem dX4_setRain_12 : decode cX4_setRain 12 = .ok (.istore_n 3, 1) := by decide +kernel
theorem dX4_setRain_13 : decode cX4_setRain 13 = .ok (.aload_n 0, 1) := by decide +kernel
theorem dX4_setRain_14 : decode cX4_setRain 14 = .ok (.getfield 10, 3) := by decide +kernel
theorem dX4_setRain_17 : decode cX4_setRain 17 = .ok (.iload_n 1, 1) := by decide +kernel
theorem dX4_setRain_18 : decode cX4_setRain 18 = .ok (.iload_n 2, 1) := by decide +kernel
theorem dX4_setRain_19 : decode cX4_setRain 19 = .ok (.invokevirtual 61, 3) := by decide +kernel
theorem dX4_setRain_22 : decode cX4_setRain 22 = .ok (.iload_n 3, 1) := by decide +kernel
theorem dX4_setRain_23 : decode cX4_setRain 23 = .ok (.ireturn, 1) := by decide +kernel
set_option maxRecDepth 20000 in
theorem ggX4_sign_Jx4a65c_size_8abf5 : GoodIn wsX4_sign wsJx4a65c_size_8abf5 := goodIn_r _ [13, 14, 85, 86, 87] (by decide +kernel) (by decide +kernel)
set_option maxRecDepth 20000 in
theorem gX4_sign_Jx4a65c_size_8abf5 : GoodIn wsX4_sign (wsV RX4 69 RJx4a65c yJx4a65c_size_8abf5 wsJx4a65c_size_8abf5) := goodIn_app (goodIn_of _ (by decide +kernel)) ggX4_sign_Jx4a65c_size_8abf5
set_option maxRecDepth 20000 in
theorem ggX4_sign_X0_init : GoodIn wsX4_sign wsX0_init := goodIn_r _ [17, 18, 19, 20, 21, 22, 83, 84] (by decide +kernel) (by decide +kernel)
set_option maxRecDepth 20000 in
theorem gX4_sign_X0_init : GoodIn wsX4_sign (wsX0_init) := ggX4_sign_X0_init
set_option maxRecDepth 20000 in
theorem ggX4_sign_Jx4a65c_add_9ea2d : GoodIn wsX4_sign wsJx4a65c_add_9ea2d := goodIn_r _ [26, 27, 28, 29, 14, 30, 31, 32, 12, 33, 34, 35, 36, 37, 38, 39, 40, 41, 42, 43, 44, 45, 46, 47, 48, 49, 50, 51, 52, 53, 54, 55, 56, 57, 58, 59, 60, 61, 62, 63, 64, 65, 66, 67, 68, 69, 70, 71, 72, 73, 74, 75, 76, 85, 86, 87] (by decide +kernel) (by decide +kernel)
set_option maxRecDepth 20000 in
theorem gX4_sign_Jx4a65c_add_9ea2d : GoodIn wsX4_sign (wsV RX4 82 RJx4a65c yJx4a65c_add_9ea2d wsJx4a65c_add_9ea2d) := goodIn_app (goodIn_of _ (by decide +kernel)) ggX4_sign_Jx4a65c_add_9ea2d
theorem dX4_sign_0 : decode cX4_sign 0 = .ok (.iload_n 1, 1) := by decide +kernel
theorem dX4_sign_1 : decode cX4_sign 1 = .ok (.ifCond .lt 8, 3) := by decide +kernel
theorem dX4_sign_4 : decode cX4_sign 4 = .ok (.iload_n 1, 1) := by decide +kernel
theorem dX4_sign_5 : decode cX4_sign 5 = .ok (.iconst 5, 1) := by decide +kernel
theorem dX4_sign_6 : decode cX4_sign 6 = .ok (.if_icmp .le 13, 3) := by decide +kernel
theorem dX4_sign_9 : decode cX4_sign 9 = .ok (.new 42, 3) := by decide +kernel
theorem dX4_sign_12 : decode cX4_sign 12 = .ok (.dup, 1) := by decide +kernel
theorem dX4_sign_13 : decode cX4_sign 13 = .ok (.ldc 65, 2) := by decide +kernel
theorem dX4_sign_15 : decode cX4_sign 15 = .ok (.invokespecial 46, 3) := by decide +kernel
theorem dX4_sign_18 : decode cX4_sign 18 = .ok (.athrow, 1) := by decide +kernel
theorem dX4_sign_19 : decode cX4_sign 19 = .ok (.iload_n 2, 1) := by decide +kernel
theorem dX4_sign_20 : decode cX4_sign 20 = .ok (.ifCond .lt 9, 3) := by decide +kernel
theorem dX4_sign_23 : decode cX4_sign 23 = .ok (.iload_n 2, 1) := by decide +kernel
theorem dX4_sign_24 : decode cX4_sign 24 = .ok (.bipush 60, 2) := by decide +kernel
theorem dX4_sign_26 : decode cX4_sign 26 = .ok (.if_icmp .le 13, 3) := by decide +kernel
theorem dX4_sign_29 : decode cX4_sign 29 = .ok (.new 42, 3) := by decide +kernel
theorem dX4_sign_32 : decode cX4_sign 32 = .ok (.dup, 1) := by decide +kernel
theorem dX4_sign_33 : decode cX4_sign 33 = .ok (.ldc 67, 2) := by decide +kernel
theorem dX4_sign_35 : decode cX4_sign 35 = .ok (.invokespecial 46, 3) := by decide +kernel
theorem dX4_sign_38 : decode cX4_sign 38 = .ok (.athrow, 1) := by decide +kernel
theorem dX4_sign_39 : decode cX4_sign 39 = .ok (.aload_n 0, 1) := by decide +kernel
theorem dX4_sign_40 : decode cX4_sign 40 = .ok (.getfield 19, 3) := by decide +kernel
theorem dX4_sign_43 : decode cX4_sign 43 = .ok (.invokevirtual 69, 3) := by decide +kernel
theorem dX4_sign_46 : decode cX4_sign 46 = .ok (.bipush 8, 2) := by decide +kernel
theorem dX4_sign_48 : decode cX4_sign 48 = .ok (.if_icmp .lt 13, 3) := by decide +kernel
theorem dX4_sign_51 : decode cX4_sign 51 = .ok (.new 73, 3) := by decide +kernel
theorem dX4_sign_54 : decode cX4_sign 54 = .ok (.dup, 1) := by decide +kernel
theorem dX4_sign_55 : decode cX4_sign 55 = .ok (.ldc 75, 2) := by decide +kernel
theorem dX4_sign_57 : decode cX4_sign 57 = .ok (.invokespecial 77, 3) := by decide +kernel
theorem dX4_sign_60 : decode cX4_sign 60 = .ok (.athrow, 1) := by decide +kernel
theorem dX4_sign_61 : decode cX4_sign 61 = .ok (.aload_n 0, 1) := by decide +kernel
theorem dX4_sign_62 : decode cX4_sign 62 = .ok (.getfield 19, 3) := by decide +kernel
theorem dX4_sign_65 : decode cX4_sign 65 = .ok (.new 78, 3) := by decide +kernel
theorem dX4_sign_68 : decode cX4_sign 68 = .ok (.dup, 1) := by decide +kernel
theorem dX4_sign_69 : decode cX4_sign 69 = .ok (.iload_n 1, 1) := by decide +kernel
theorem dX4_sign_70 : decode cX4_sign 70 = .ok (.iload_n 2, 1) := by decide +kernel
theorem dX4_sign_71 : decode cX4_sign 71 = .ok (.invokespecial 80, 3) := by decide +kernel
theorem dX4_sign_74 : decode cX4_sign 74 = .ok (.invokevirtual 82, 3) := by decide +kernel
theorem dX4_sign_77 : decode cX4_sign 77 = .ok (.pop, 1) := by decide +kernel
theorem dX4_sign_78 : decode cX4_sign 78 = .ok (.aload_n 0, 1) := by decide +kernel
theorem dX4_sign_79 : decode cX4_sign 79 = .ok (.getfield 19, 3) := by decide +kernel
theorem dX4_sign_82 : decode cX4_sign 82 = .ok (.invokevirtual 69, 3) := by decide +kernel
theorem dX4_sign_85 : decode cX4_sign 85 = .ok (.iconst 1, 1) := by decide +kernel
theorem dX4_sign_86 : decode cX4_sign 86 = .ok (.isub, 1) := by decide +kernel
theorem dX4_sign_87 : decode cX4_sign 87 = .ok (.ireturn, 1) := by decide +kernel
set_option maxRecDepth 20000 in
theorem ggX4_join_X2_isFull : GoodIn wsX4_join wsX2_isFull := goodIn_r _ [8, 9, 10, 26, 27] (by decide +kernel) (by decide +kernel)
set_option maxRecDepth 20000 in
theorem gX4_join_X2_isFull : GoodIn wsX4_join (wsV RX4 86 RX2 yX2_isFull wsX2_isFull) := goodIn_app (goodIn_of _ (by decide +kernel)) ggX4_join_X2_isFull
set_option maxRecDepth 20000 in
theorem ggX4_join_X2_grow : GoodIn wsX4_join wsX2_grow := goodIn_r _ [14, 9, 15, 5, 6, 7, 8, 10, 26, 27] (by decide +kernel) (by decide +kernel)
set_option maxRecDepth 20000 in
theorem gX4_join_X2_grow : GoodIn wsX4_join (wsV RX4 92 RX2 yX2_grow wsX2_grow) := goodIn_app (goodIn_of _ (by decide +kernel)) ggX4_join_X2_grow
set_option maxRecDepth 20000 in
theorem ggX4_join_X2_size : GoodIn wsX4_join wsX2_size := goodIn_r _ [19, 9, 26, 27] (by decide +kernel) (by decide +kernel)
set_option maxRecDepth 20000 in
theorem gX4_join_X2_size : GoodIn wsX4_join (wsV RX4 95 RX2 yX2_size wsX2_size) := goodIn_app (goodIn_of _ (by decide +kernel)) ggX4_join_X2_size
theorem dX4_join_0 : decode cX4_join 0 = .ok (.aload_n 0, 1) := by decide +kernel
theorem dX4_join_1 : decode cX4_join 1 = .ok (.getfield 28, 3) := by decide +kernel
theorem dX4_join_4 : decode cX4_join 4 = .ok (.invokevirtual 86, 3) := by decide +kernel
theorem dX4_join_7 : decode cX4_join 7 = .ok (.ifCond .eq 13, 3) := by decide +kernel
theorem dX4_join_10 : decode cX4_join 10 = .ok (.new 73, 3) := by decide +kernel
theorem dX4_join_13 : decode cX4_join 13 = .ok (.dup, 1) := by decide +kernel
theorem dX4_join_14 : decode cX4_join 14 = .ok (.ldc 90, 2) := by decide +kernel
theorem dX4_join_16 : decode cX4_join 16 = .ok (.invokespecial 77, 3) := by decide +kernel
theorem dX4_join_19 : decode cX4_join 19 = .ok (.athrow, 1) := by decide +kernel
theorem dX4_join_20 : decode cX4_join 20 = .ok (.aload_n 0, 1) := by decide +kernel
theorem dX4_join_21 : decode cX4_join 21 = .ok (.getfield 28, 3) := by decide +kernel
theorem dX4_join_24 : decode cX4_join 24 = .ok (.invokevirtual 92, 3) := by decide +kernel
theorem dX4_join_27 : decode cX4_join 27 = .ok (.aload_n 0, 1) := by decide +kernel
theorem dX4_join_28 : decode cX4_join 28 = .ok (.getfield 28, 3) := by decide +kernel
theorem dX4_join_31 : decode cX4_join 31 = .ok (.invokevirtual 95, 3) := by decide +kernel
theorem dX4_join_34 : decode cX4_join 34 = .ok (.iconst 1, 1) := by decide +kernel
theorem dX4_join_35 : decode cX4_join 35 = .ok (.isub, 1) := by decide +kernel
theorem dX4_join_36 : decode cX4_join 36 = .ok (.ireturn, 1) := by decide +kernel
set_option maxRecDepth 20000 in
theorem ggX4_weigh_X2_get : GoodIn wsX4_weigh wsX2_get := goodIn_ca (goodIn_r _ [8, 9, 10, 11, 12, 42, 43] (by decide +kernel) (by decide +kernel)) (goodIn_sub (fun _ h => List.mem_cons_of_mem _ (List.mem_append_left _ (List.mem_append_right _ h))) (by decide +kernel))
set_option maxRecDepth 20000 in
theorem gX4_weigh_X2_get : GoodIn wsX4_weigh (wsV RX4 96 RX2 yX2_get wsX2_get) := goodIn_app (goodIn_of _ (by decide +kernel)) ggX4_weigh_X2_get
set_option maxRecDepth 20000 in
theorem ggX4_weigh_X4_requireSign : GoodIn wsX4_weigh wsX4_requireSign := goodIn_ca (goodIn_r _ [17, 18, 10, 19, 20, 21, 22, 23, 24, 25, 36, 37, 38, 39, 40, 41, 44, 45, 46] (by decide +kernel) (by decide +kernel)) (goodIn_sub (fun _ h => List.mem_cons_of_mem _ (List.mem_append_right _ h)) (by decide +kernel))
set_option maxRecDepth 20000 in
theorem gX4_weigh_X4_requireSign : GoodIn wsX4_weigh (wsV RX4 100 RX4 yX4_requireSign wsX4_requireSign) := goodIn_app (goodIn_of _ (by decide +kernel)) ggX4_weigh_X4_requireSign
set_option maxRecDepth 20000 in
theorem ggX4_weigh_X1_weightOf : GoodIn wsX4_weigh wsX1_weightOf := goodIn_r _ [30, 31, 47, 48, 49, 50, 51] (by decide +kernel) (by decide +kernel)
set_option maxRecDepth 20000 in
theorem gX4_weigh_X1_weightOf : GoodIn wsX4_weigh (wsV RX4 105 RX1 yX1_weightOf wsX1_weightOf) := goodIn_app (goodIn_of _ (by decide +kernel)) ggX4_weigh_X1_weightOf
set_option maxRecDepth 20000 in
theorem ggX4_weigh_X1_putWeight : GoodIn wsX4_weigh wsX1_putWeight := goodIn_r _ [35, 31, 47, 48, 49, 50, 51] (by decide +kernel) (by decide +kernel)
set_option maxRecDepth 20000 in
theorem gX4_weigh_X1_putWeight : GoodIn wsX4_weigh (wsV RX4 110 RX1 yX1_putWeight wsX1_putWeight) := goodIn_app (goodIn_of _ (by decide +kernel)) ggX4_weigh_X1_putWeight
theorem dX4_weigh_0 : decode cX4_weigh 0 = .ok (.aload_n 0, 1) := by decide +kernel
theorem dX4_weigh_1 : decode cX4_weigh 1 = .ok (.getfield 28, 3) := by decide +kernel
theorem dX4_weigh_4 : decode cX4_weigh 4 = .ok (.iload_n 1, 1) := by decide +kernel
theorem dX4_weigh_5 : decode cX4_weigh 5 = .ok (.invokevirtual 96, 3) := by decide +kernel
theorem dX4_weigh_8 : decode cX4_weigh 8 = .ok (.astore 4, 2) := by decide +kernel
theorem dX4_weigh_10 : decode cX4_weigh 10 = .ok (.aload_n 0, 1) := by decide +kernel
theorem dX4_weigh_11 : decode cX4_weigh 11 = .ok (.iload_n 2, 1) := by decide +kernel
theorem dX4_weigh_12 : decode cX4_weigh 12 = .ok (.invokevirtual 100, 3) := by decide +kernel
theorem dX4_weigh_15 : decode cX4_weigh 15 = .ok (.iload_n 3, 1) := by decide +kernel
theorem dX4_weigh_16 : decode cX4_weigh 16 = .ok (.ifCond .lt 9, 3) := by decide +kernel
theorem dX4_weigh_19 : decode cX4_weigh 19 = .ok (.iload_n 3, 1) := by decide +kernel
theorem dX4_weigh_20 : decode cX4_weigh 20 = .ok (.bipush 100, 2) := by decide +kernel
theorem dX4_weigh_22 : decode cX4_weigh 22 = .ok (.if_icmp .le 13, 3) := by decide +kernel
theorem dX4_weigh_25 : decode cX4_weigh 25 = .ok (.new 42, 3) := by decide +kernel
theorem dX4_weigh_28 : decode cX4_weigh 28 = .ok (.dup, 1) := by decide +kernel
theorem dX4_weigh_29 : decode cX4_weigh 29 = .ok (.ldc 103, 2) := by decide +kernel
theorem dX4_weigh_31 : decode cX4_weigh 31 = .ok (.invokespecial 46, 3) := by decide +kernel
theorem dX4_weigh_34 : decode cX4_weigh 34 = .ok (.athrow, 1) := by decide +kernel
theorem dX4_weigh_35 : decode cX4_weigh 35 = .ok (.aload 4, 2) := by decide +kernel
theorem dX4_weigh_37 : decode cX4_weigh 37 = .ok (.iload_n 2, 1) := by decide +kernel
theorem dX4_weigh_38 : decode cX4_weigh 38 = .ok (.invokevirtual 105, 3) := by decide +kernel
theorem dX4_weigh_41 : decode cX4_weigh 41 = .ok (.istore 5, 2) := by decide +kernel
theorem dX4_weigh_43 : decode cX4_weigh 43 = .ok (.aload 4, 2) := by decide +kernel
theorem dX4_weigh_45 : decode cX4_weigh 45 = .ok (.iload_n 2, 1) := by decide +kernel
theorem dX4_weigh_46 : decode cX4_weigh 46 = .ok (.iload_n 3, 1) := by decide +kernel
theorem dX4_weigh_47 : decode cX4_weigh 47 = .ok (.invokevirtual 110, 3) := by decide +kernel
theorem dX4_weigh_50 : decode cX4_weigh 50 = .ok (.iload 5, 2) := by decide +kernel
theorem dX4_weigh_52 : decode cX4_weigh 52 = .ok (.ireturn, 1) := by decide +kernel
set_option maxRecDepth 20000 in
theorem ggX4_share_X2_get : GoodIn wsX4_share wsX2_get := goodIn_ca (goodIn_r _ [8, 9, 10, 11, 12, 37, 38] (by decide +kernel) (by decide +kernel)) (goodIn_sub (fun _ h => List.mem_cons_of_mem _ (List.mem_append_left _ (List.mem_append_right _ h))) (by decide +kernel))
set_option maxRecDepth 20000 in
theorem gX4_share_X2_get : GoodIn wsX4_share (wsV RX4 96 RX2 yX2_get wsX2_get) := goodIn_app (goodIn_of _ (by decide +kernel)) ggX4_share_X2_get
set_option maxRecDepth 20000 in
theorem ggX4_share_X4_requireTwo : GoodIn wsX4_share wsX4_requireTwo := goodIn_ca (goodIn_r _ [16, 17, 18] (by decide +kernel) (by decide +kernel)) (goodIn_sub (fun _ h => List.mem_cons_of_mem _ (List.mem_append_right _ h)) (by decide +kernel))
set_option maxRecDepth 20000 in
theorem gX4_share_X4_requireTwo : GoodIn wsX4_share (va_wsS RX4 113 yX4_requireTwo wsX4_requireTwo) := goodIn_app (goodIn_of _ (by decide +kernel)) ggX4_share_X4_requireTwo
set_option maxRecDepth 20000 in
theorem ggX4_share_X1_buyWeightsOf : GoodIn wsX4_share wsX1_buyWeightsOf := goodIn_r _ [23, 24, 25, 32, 33, 34, 35, 36] (by decide +kernel) (by decide +kernel)
set_option maxRecDepth 20000 in
theorem gX4_share_X1_buyWeightsOf : GoodIn wsX4_share (wsV RX4 122 RX1 yX1_buyWeightsOf wsX1_buyWeightsOf) := goodIn_app (goodIn_of _ (by decide +kernel)) ggX4_share_X1_buyWeightsOf
theorem dX4_share_0 : decode cX4_share 0 = .ok (.aload_n 0, 1) := by decide +kernel
theorem dX4_share_1 : decode cX4_share 1 = .ok (.getfield 28, 3) := by decide +kernel
theorem dX4_share_4 : decode cX4_share 4 = .ok (.iload_n 1, 1) := by decide +kernel
theorem dX4_share_5 : decode cX4_share 5 = .ok (.invokevirtual 96, 3) := by decide +kernel
theorem dX4_share_8 : decode cX4_share 8 = .ok (.astore_n 3, 1) := by decide +kernel
theorem dX4_share_9 : decode cX4_share 9 = .ok (.aload_n 0, 1) := by decide +kernel
theorem dX4_share_10 : decode cX4_share 10 = .ok (.getfield 28, 3) := by decide +kernel
theorem dX4_share_13 : decode cX4_share 13 = .ok (.iload_n 2, 1) := by decide +kernel
theorem dX4_share_14 : decode cX4_share 14 = .ok (.invokevirtual 96, 3) := by decide +kernel
theorem dX4_share_17 : decode cX4_share 17 = .ok (.astore 4, 2) := by decide +kernel
theorem dX4_share_19 : decode cX4_share 19 = .ok (.iload_n 1, 1) := by decide +kernel
theorem dX4_share_20 : decode cX4_share 20 = .ok (.iload_n 2, 1) := by decide +kernel
theorem dX4_share_21 : decode cX4_share 21 = .ok (.invokestatic 113, 3) := by decide +kernel
theorem dX4_share_24 : decode cX4_share 24 = .ok (.aload_n 3, 1) := by decide +kernel
theorem dX4_share_25 : decode cX4_share 25 = .ok (.getfield 116, 3) := by decide +kernel
theorem dX4_share_28 : decode cX4_share 28 = .ok (.iconst 5, 1) := by decide +kernel
theorem dX4_share_29 : decode cX4_share 29 = .ok (.if_icmp .ge 13, 3) := by decide +kernel
theorem dX4_share_32 : decode cX4_share 32 = .ok (.new 73, 3) := by decide +kernel
theorem dX4_share_35 : decode cX4_share 35 = .ok (.dup, 1) := by decide +kernel
theorem dX4_share_36 : decode cX4_share 36 = .ok (.ldc 120, 2) := by decide +kernel
theorem dX4_share_38 : decode cX4_share 38 = .ok (.invokespecial 77, 3) := by decide +kernel
theorem dX4_share_41 : decode cX4_share 41 = .ok (.athrow, 1) := by decide +kernel
theorem dX4_share_42 : decode cX4_share 42 = .ok (.aload_n 3, 1) := by decide +kernel
theorem dX4_share_43 : decode cX4_share 43 = .ok (.aload 4, 2) := by decide +kernel
theorem dX4_share_45 : decode cX4_share 45 = .ok (.invokevirtual 122, 3) := by decide +kernel
theorem dX4_share_48 : decode cX4_share 48 = .ok (.aload_n 3, 1) := by decide +kernel
theorem dX4_share_49 : decode cX4_share 49 = .ok (.getfield 116, 3) := by decide +kernel
theorem dX4_share_52 : decode cX4_share 52 = .ok (.ireturn, 1) := by decide +kernel
set_option maxRecDepth 20000 in
theorem ggX4_says_X4_requireSign : GoodIn wsX4_says wsX4_requireSign := goodIn_ca (goodIn_r _ [10, 11, 12, 3, 13, 14, 15, 16, 17, 18, 58, 59, 60, 61, 62, 63, 64, 65, 66] (by decide +kernel) (by decide +kernel)) (goodIn_sub (fun _ h => List.mem_cons_of_mem _ (List.mem_append_right _ h)) (by decide +kernel))
set_option maxRecDepth 20000 in
theorem gX4_says_X4_requireSign : GoodIn wsX4_says (wsV RX4 100 RX4 yX4_requireSign wsX4_requireSign) := goodIn_app (goodIn_of _ (by decide +kernel)) ggX4_says_X4_requireSign
set_option maxRecDepth 20000 in
theorem ggX4_says_Jx4a65c_get_915e3 : GoodIn wsX4_says wsJx4a65c_get_915e3 := goodIn_r _ [22, 18, 23, 24, 25, 26, 27, 28, 29, 30, 31, 32, 33, 16, 34, 35, 64, 65, 66] (by decide +kernel) (by decide +kernel)
set_option maxRecDepth 20000 in
theorem gX4_says_Jx4a65c_get_915e3 : GoodIn wsX4_says (wsV RX4 128 RJx4a65c yJx4a65c_get_915e3 wsJx4a65c_get_915e3) := goodIn_app (goodIn_of _ (by decide +kernel)) ggX4_says_Jx4a65c_get_915e3
set_option maxRecDepth 20000 in
theorem ggX4_says_X0_saysRain : GoodIn wsX4_says wsX0_saysRain := goodIn_r _ [40, 41, 42, 43, 44, 45, 46, 47, 48, 49, 50, 51, 52, 53, 54, 55, 56, 57, 67, 68, 69, 70] (by decide +kernel) (by decide +kernel)
set_option maxRecDepth 20000 in
theorem gX4_says_X0_saysRain : GoodIn wsX4_says (wsV RX4 131 RX0 yX0_saysRain wsX0_saysRain) := goodIn_app (goodIn_of _ (by decide +kernel)) ggX4_says_X0_saysRain
theorem dX4_says_0 : decode cX4_says 0 = .ok (.aload_n 0, 1) := by decide +kernel
theorem dX4_says_1 : decode cX4_says 1 = .ok (.iload_n 1, 1) := by decide +kernel
theorem dX4_says_2 : decode cX4_says 2 = .ok (.invokevirtual 100, 3) := by decide +kernel
theorem dX4_says_5 : decode cX4_says 5 = .ok (.iload_n 2, 1) := by decide +kernel
theorem dX4_says_6 : decode cX4_says 6 = .ok (.ifCond .lt 10, 3) := by decide +kernel
theorem dX4_says_9 : decode cX4_says 9 = .ok (.iload_n 2, 1) := by decide +kernel
theorem dX4_says_10 : decode cX4_says 10 = .ok (.sipush 999, 3) := by decide +kernel
theorem dX4_says_13 : decode cX4_says 13 = .ok (.if_icmp .le 13, 3) := by decide +kernel
theorem dX4_says_16 : decode cX4_says 16 = .ok (.new 42, 3) := by decide +kernel
theorem dX4_says_19 : decode cX4_says 19 = .ok (.dup, 1) := by decide +kernel
theorem dX4_says_20 : decode cX4_says 20 = .ok (.ldc 126, 2) := by decide +kernel
theorem dX4_says_22 : decode cX4_says 22 = .ok (.invokespecial 46, 3) := by decide +kernel
theorem dX4_says_25 : decode cX4_says 25 = .ok (.athrow, 1) := by decide +kernel
theorem dX4_says_26 : decode cX4_says 26 = .ok (.aload_n 0, 1) := by decide +kernel
theorem dX4_says_27 : decode cX4_says 27 = .ok (.getfield 19, 3) := by decide +kernel
theorem dX4_says_30 : decode cX4_says 30 = .ok (.iload_n 1, 1) := by decide +kernel
theorem dX4_says_31 : decode cX4_says 31 = .ok (.invokevirtual 128, 3) := by decide +kernel
theorem dX4_says_34 : decode cX4_says 34 = .ok (.checkcast 78, 3) := by decide +kernel
theorem dX4_says_37 : decode cX4_says 37 = .ok (.aload_n 0, 1) := by decide +kernel
theorem dX4_says_38 : decode cX4_says 38 = .ok (.getfield 10, 3) := by decide +kernel
theorem dX4_says_41 : decode cX4_says 41 = .ok (.iload_n 2, 1) := by decide +kernel
theorem dX4_says_42 : decode cX4_says 42 = .ok (.invokevirtual 131, 3) := by decide +kernel
theorem dX4_says_45 : decode cX4_says 45 = .ok (.ireturn, 1) := by decide +kernel
set_option maxRecDepth 20000 in
theorem ggX4_told_X4_requireSign : GoodIn wsX4_told wsX4_requireSign := goodIn_ca (goodIn_r _ [9, 10, 11, 1, 12, 13, 14, 15, 16, 17, 77, 78, 79, 80, 81, 82, 85, 86, 87] (by decide +kernel) (by decide +kernel)) (goodIn_sub (fun _ h => List.mem_cons_of_mem _ (List.mem_append_right _ h)) (by decide +kernel))
set_option maxRecDepth 20000 in
theorem gX4_told_X4_requireSign : GoodIn wsX4_told (wsV RX4 100 RX4 yX4_requireSign wsX4_requireSign) := goodIn_app (goodIn_of _ (by decide +kernel)) ggX4_told_X4_requireSign
set_option maxRecDepth 20000 in
theorem ggX4_told_X4_requireWhat : GoodIn wsX4_told wsX4_requireWhat := goodIn_ca (goodIn_r _ [20, 10, 11] (by decide +kernel) (by decide +kernel)) (goodIn_sub (fun _ h => List.mem_cons_of_mem _ (List.mem_append_right _ h)) (by decide +kernel))
set_option maxRecDepth 20000 in
theorem gX4_told_X4_requireWhat : GoodIn wsX4_told (va_wsS RX4 135 yX4_requireWhat wsX4_requireWhat) := goodIn_app (goodIn_of _ (by decide +kernel)) ggX4_told_X4_requireWhat
set_option maxRecDepth 20000 in
theorem ggX4_told_Jx4a65c_get_915e3 : GoodIn wsX4_told wsJx4a65c_get_915e3 := goodIn_r _ [24, 17, 25, 26, 27, 28, 29, 30, 31, 32, 33, 34, 35, 15, 36, 37, 85, 86, 87] (by decide +kernel) (by decide +kernel)
set_option maxRecDepth 20000 in
theorem gX4_told_Jx4a65c_get_915e3 : GoodIn wsX4_told (wsV RX4 128 RJx4a65c yJx4a65c_get_915e3 wsJx4a65c_get_915e3) := goodIn_app (goodIn_of _ (by decide +kernel)) ggX4_told_Jx4a65c_get_915e3
set_option maxRecDepth 20000 in
theorem ggX4_told_X0_daysRight : GoodIn wsX4_told wsX0_daysRight := goodIn_r _ [42, 43, 44, 45, 41, 46, 47, 48, 49, 50, 51, 52, 53, 54, 55, 56, 57, 58, 59, 60, 61, 62, 63, 83, 84, 88, 89] (by decide +kernel) (by decide +kernel)
set_option maxRecDepth 20000 in
theorem gX4_told_X0_daysRight : GoodIn wsX4_told (wsV RX4 145 RX0 yX0_daysRight wsX0_daysRight) := goodIn_app (goodIn_of _ (by decide +kernel)) ggX4_told_X0_daysRight
set_option maxRecDepth 20000 in
theorem ggX4_told_X2_allWeightsOf : GoodIn wsX4_told wsX2_allWeightsOf := goodIn_r _ [68, 69, 70, 71, 72, 73, 74, 75, 76, 90, 91, 92, 93, 94, 95, 96] (by decide +kernel) (by decide +kernel)
set_option maxRecDepth 20000 in
theorem gX4_told_X2_allWeightsOf : GoodIn wsX4_told (wsV RX4 149 RX2 yX2_allWeightsOf wsX2_allWeightsOf) := goodIn_app (goodIn_of _ (by decide +kernel)) ggX4_told_X2_allWeightsOf
theorem dX4_told_0 : decode cX4_told 0 = .ok (.aload_n 0, 1) := by decide +kernel
theorem dX4_told_1 : decode cX4_told 1 = .ok (.iload_n 1, 1) := by decide +kernel
theorem dX4_told_2 : decode cX4_told 2 = .ok (.invokevirtual 100, 3) := by decide +kernel
theorem dX4_told_5 : decode cX4_told 5 = .ok (.iload_n 2, 1) := by decide +kernel
theorem dX4_told_6 : decode cX4_told 6 = .ok (.iconst 0, 1) := by decide +kernel
theorem dX4_told_7 : decode cX4_told 7 = .ok (.iconst 3, 1) := by decide +kernel
theorem dX4_told_8 : decode cX4_told 8 = .ok (.invokestatic 135, 3) := by decide +kernel
theorem dX4_told_11 : decode cX4_told 11 = .ok (.aload_n 0, 1) := by decide +kernel
theorem dX4_told_12 : decode cX4_told 12 = .ok (.getfield 19, 3) := by decide +kernel
theorem dX4_told_15 : decode cX4_told 15 = .ok (.iload_n 1, 1) := by decide +kernel
theorem dX4_told_16 : decode cX4_told 16 = .ok (.invokevirtual 128, 3) := by decide +kernel
theorem dX4_told_19 : decode cX4_told 19 = .ok (.checkcast 78, 3) := by decide +kernel
theorem dX4_told_22 : decode cX4_told 22 = .ok (.astore_n 3, 1) := by decide +kernel
theorem dX4_told_23 : decode cX4_told 23 = .ok (.iload_n 2, 1) := by decide +kernel
theorem dX4_told_24 : decode cX4_told 24 = .ok (.tableswitch 47 0 2 #[28, 33, 38], 28) := by decide +kernel
theorem dX4_told_52 : decode cX4_told 52 = .ok (.aload_n 3, 1) := by decide +kernel
theorem dX4_told_53 : decode cX4_told 53 = .ok (.getfield 139, 3) := by decide +kernel
theorem dX4_told_56 : decode cX4_told 56 = .ok (.ireturn, 1) := by decide +kernel
theorem dX4_told_57 : decode cX4_told 57 = .ok (.aload_n 3, 1) := by decide +kernel
theorem dX4_told_58 : decode cX4_told 58 = .ok (.getfield 142, 3) := by decide +kernel
theorem dX4_told_61 : decode cX4_told 61 = .ok (.ireturn, 1) := by decide +kernel
theorem dX4_told_62 : decode cX4_told 62 = .ok (.aload_n 3, 1) := by decide +kernel
theorem dX4_told_63 : decode cX4_told 63 = .ok (.aload_n 0, 1) := by decide +kernel
theorem dX4_told_64 : decode cX4_told 64 = .ok (.getfield 10, 3) := by decide +kernel
theorem dX4_told_67 : decode cX4_told 67 = .ok (.invokevirtual 145, 3) := by decide +kernel
theorem dX4_told_70 : decode cX4_told 70 = .ok (.ireturn, 1) := by decide +kernel
theorem dX4_told_71 : decode cX4_told 71 = .ok (.aload_n 0, 1) := by decide +kernel
theorem dX4_told_72 : decode cX4_told 72 = .ok (.getfield 28, 3) := by decide +kernel
theorem dX4_told_75 : decode cX4_told 75 = .ok (.iload_n 1, 1) := by decide +kernel
theorem dX4_told_76 : decode cX4_told 76 = .ok (.invokevirtual 149, 3) := by decide +kernel
theorem dX4_told_79 : decode cX4_told 79 = .ok (.ireturn, 1) := by decide +kernel
set_option maxRecDepth 20000 in
theorem ggX4_weight_X2_get : GoodIn wsX4_weight wsX2_get := goodIn_ca (goodIn_r _ [6, 7, 8, 9, 10, 36, 37] (by decide +kernel) (by decide +kernel)) (goodIn_sub (fun _ h => List.mem_cons_of_mem _ (List.mem_append_left _ (List.mem_append_right _ h))) (by decide +kernel))
set_option maxRecDepth 20000 in
theorem gX4_weight_X2_get : GoodIn wsX4_weight (wsV RX4 96 RX2 yX2_get wsX2_get) := goodIn_app (goodIn_of _ (by decide +kernel)) ggX4_weight_X2_get
set_option maxRecDepth 20000 in
theorem ggX4_weight_X4_requireSign : GoodIn wsX4_weight wsX4_requireSign := goodIn_ca (goodIn_r _ [15, 16, 8, 17, 18, 19, 20, 21, 22, 23, 30, 31, 32, 33, 34, 35, 38, 39, 40] (by decide +kernel) (by decide +kernel)) (goodIn_sub (fun _ h => List.mem_cons_of_mem _ (List.mem_append_right _ h)) (by decide +kernel))
set_option maxRecDepth 20000 in
theorem gX4_weight_X4_requireSign : GoodIn wsX4_weight (wsV RX4 100 RX4 yX4_requireSign wsX4_requireSign) := goodIn_app (goodIn_of _ (by decide +kernel)) ggX4_weight_X4_requireSign
set_option maxRecDepth 20000 in
theorem ggX4_weight_X1_weightOf : GoodIn wsX4_weight wsX1_weightOf := goodIn_r _ [28, 29, 41, 42, 43, 44, 45] (by decide +kernel) (by decide +kernel)
set_option maxRecDepth 20000 in
theorem gX4_weight_X1_weightOf : GoodIn wsX4_weight (wsV RX4 105 RX1 yX1_weightOf wsX1_weightOf) := goodIn_app (goodIn_of _ (by decide +kernel)) ggX4_weight_X1_weightOf
theorem dX4_weight_0 : decode cX4_weight 0 = .ok (.aload_n 0, 1) := by decide +kernel
theorem dX4_weight_1 : decode cX4_weight 1 = .ok (.getfield 28, 3) := by decide +kernel
theorem dX4_weight_4 : decode cX4_weight 4 = .ok (.iload_n 1, 1) := by decide +kernel
theorem dX4_weight_5 : decode cX4_weight 5 = .ok (.invokevirtual 96, 3) := by decide +kernel
theorem dX4_weight_8 : decode cX4_weight 8 = .ok (.astore_n 3, 1) := by decide +kernel
theorem dX4_weight_9 : decode cX4_weight 9 = .ok (.aload_n 0, 1) := by decide +kernel
theorem dX4_weight_10 : decode cX4_weight 10 = .ok (.iload_n 2, 1) := by decide +kernel
theorem dX4_weight_11 : decode cX4_weight 11 = .ok (.invokevirtual 100, 3) := by decide +kernel
theorem dX4_weight_14 : decode cX4_weight 14 = .ok (.aload_n 3, 1) := by decide +kernel
theorem dX4_weight_15 : decode cX4_weight 15 = .ok (.iload_n 2, 1) := by decide +kernel
theorem dX4_weight_16 : decode cX4_weight 16 = .ok (.invokevirtual 105, 3) := by decide +kernel
theorem dX4_weight_19 : decode cX4_weight 19 = .ok (.ireturn, 1) := by decide +kernel
set_option maxRecDepth 20000 in
theorem ggX4_about_X2_get : GoodIn wsX4_about wsX2_get := goodIn_ca (goodIn_r _ [8, 9, 10, 11, 12, 107, 108] (by decide +kernel) (by decide +kernel)) (goodIn_sub (fun _ h => List.mem_cons_of_mem _ (List.mem_append_left _ (List.mem_append_right _ h))) (by decide +kernel))
set_option maxRecDepth 20000 in
theorem gX4_about_X2_get : GoodIn wsX4_about (wsV RX4 96 RX2 yX2_get wsX2_get) := goodIn_app (goodIn_of _ (by decide +kernel)) ggX4_about_X2_get
set_option maxRecDepth 20000 in
theorem ggX4_about_X4_requireWhat : GoodIn wsX4_about wsX4_requireWhat := goodIn_ca (goodIn_r _ [16, 17, 10] (by decide +kernel) (by decide +kernel)) (goodIn_sub (fun _ h => List.mem_cons_of_mem _ (List.mem_append_right _ h)) (by decide +kernel))
set_option maxRecDepth 20000 in
theorem gX4_about_X4_requireWhat : GoodIn wsX4_about (va_wsS RX4 135 yX4_requireWhat wsX4_requireWhat) := goodIn_app (goodIn_of _ (by decide +kernel)) ggX4_about_X4_requireWhat
set_option maxRecDepth 20000 in
theorem ggX4_about_Jx4a65c_size_8abf5 : GoodIn wsX4_about wsJx4a65c_size_8abf5 := goodIn_r _ [22, 23, 109, 110, 111] (by decide +kernel) (by decide +kernel)
set_option maxRecDepth 20000 in
theorem gX4_about_Jx4a65c_size_8abf5 : GoodIn wsX4_about (wsV RX4 69 RJx4a65c yJx4a65c_size_8abf5 wsJx4a65c_size_8abf5) := goodIn_app (goodIn_of _ (by decide +kernel)) ggX4_about_Jx4a65c_size_8abf5
set_option maxRecDepth 20000 in
theorem ggX4_about_X1_allWeights : GoodIn wsX4_about wsX1_allWeights := goodIn_r _ [28, 29, 102, 103, 104, 105, 106] (by decide +kernel) (by decide +kernel)
set_option maxRecDepth 20000 in
theorem gX4_about_X1_allWeights : GoodIn wsX4_about (wsV RX4 158 RX1 yX1_allWeights wsX1_allWeights) := goodIn_app (goodIn_of _ (by decide +kernel)) ggX4_about_X1_allWeights
set_option maxRecDepth 20000 in
theorem ggX4_about_X2_placeOf : GoodIn wsX4_about wsX2_placeOf := goodIn_r _ [33, 11, 12, 34, 35, 36, 27, 37, 38, 39, 40, 107, 108, 102, 103, 104, 105, 106] (by decide +kernel) (by decide +kernel)
set_option maxRecDepth 20000 in
theorem gX4_about_X2_placeOf : GoodIn wsX4_about (wsV RX4 161 RX2 yX2_placeOf wsX2_placeOf) := goodIn_app (goodIn_of _ (by decide +kernel)) ggX4_about_X2_placeOf
set_option maxRecDepth 20000 in
theorem ggX4_about_X4_sayingsOn : GoodIn wsX4_about wsX4_sayingsOn := goodIn_r _ [44, 45, 2, 46, 47, 18, 19, 20, 21, 22, 23, 48, 49, 50, 51, 52, 53, 54, 55, 56, 57, 58, 59, 60, 61, 62, 63, 64, 65, 66, 67, 68, 69, 70, 71, 72, 73, 74, 75, 76, 77, 78, 79, 80, 81, 82, 83, 84, 85, 86, 96, 97, 98, 99, 100, 101, 109, 110, 111, 112, 113, 114, 115] (by decide +kernel) (by decide +kernel)
set_option maxRecDepth 20000 in
theorem gX4_about_X4_sayingsOn : GoodIn wsX4_about (wsV RX4 168 RX4 yX4_sayingsOn wsX4_sayingsOn) := goodIn_app (goodIn_of _ (by decide +kernel)) ggX4_about_X4_sayingsOn
set_option maxRecDepth 20000 in
theorem ggX4_about_X1_guessesRain : GoodIn wsX4_about wsX1_guessesRain := goodIn_r _ [90, 91, 92, 93, 27, 94, 29, 102, 103, 104, 105, 106] (by decide +kernel) (by decide +kernel)
set_option maxRecDepth 20000 in
theorem gX4_about_X1_guessesRain : GoodIn wsX4_about (wsV RX4 172 RX1 yX1_guessesRain wsX1_guessesRain) := goodIn_app (goodIn_of _ (by decide +kernel)) ggX4_about_X1_guessesRain
set_option maxRecDepth 20000 in
theorem ggX4_about_X1_leadOfRain : GoodIn wsX4_about wsX1_leadOfRain := goodIn_r _ [94, 29, 102, 103, 104, 105, 106] (by decide +kernel) (by decide +kernel)
set_option maxRecDepth 20000 in
theorem gX4_about_X1_leadOfRain : GoodIn wsX4_about (wsV RX4 176 RX1 yX1_leadOfRain wsX1_leadOfRain) := goodIn_app (goodIn_of _ (by decide +kernel)) ggX4_about_X1_leadOfRain
theorem dX4_about_0 : decode cX4_about 0 = .ok (.aload_n 0, 1) := by decide +kernel
theorem dX4_about_1 : decode cX4_about 1 = .ok (.getfield 28, 3) := by decide +kernel
theorem dX4_about_4 : decode cX4_about 4 = .ok (.iload_n 1, 1) := by decide +kernel
theorem dX4_about_5 : decode cX4_about 5 = .ok (.invokevirtual 96, 3) := by decide +kernel
theorem dX4_about_8 : decode cX4_about 8 = .ok (.astore_n 3, 1) := by decide +kernel
theorem dX4_about_9 : decode cX4_about 9 = .ok (.iload_n 2, 1) := by decide +kernel
theorem dX4_about_10 : decode cX4_about 10 = .ok (.iconst 0, 1) := by decide +kernel
theorem dX4_about_11 : decode cX4_about 11 = .ok (.bipush 6, 2) := by decide +kernel
theorem dX4_about_13 : decode cX4_about 13 = .ok (.invokestatic 135, 3) := by decide +kernel
theorem dX4_about_16 : decode cX4_about 16 = .ok (.iload_n 2, 1) := by decide +kernel
theorem dX4_about_17 : decode cX4_about 17 = .ok (.tableswitch 96 0 5 #[39, 44, 49, 54, 66, 75], 39) := by decide +kernel
theorem dX4_about_56 : decode cX4_about 56 = .ok (.aload_n 3, 1) := by decide +kernel
theorem dX4_about_57 : decode cX4_about 57 = .ok (.getfield 152, 3) := by decide +kernel
theorem dX4_about_60 : decode cX4_about 60 = .ok (.ireturn, 1) := by decide +kernel
theorem dX4_about_61 : decode cX4_about 61 = .ok (.aload_n 3, 1) := by decide +kernel
theorem dX4_about_62 : decode cX4_about 62 = .ok (.getfield 116, 3) := by decide +kernel
theorem dX4_about_65 : decode cX4_about 65 = .ok (.ireturn, 1) := by decide +kernel
theorem dX4_about_66 : decode cX4_about 66 = .ok (.aload_n 3, 1) := by decide +kernel
theorem dX4_about_67 : decode cX4_about 67 = .ok (.getfield 155, 3) := by decide +kernel
theorem dX4_about_70 : decode cX4_about 70 = .ok (.ireturn, 1) := by decide +kernel
theorem dX4_about_71 : decode cX4_about 71 = .ok (.aload_n 3, 1) := by decide +kernel
theorem dX4_about_72 : decode cX4_about 72 = .ok (.aload_n 0, 1) := by decide +kernel
theorem dX4_about_73 : decode cX4_about 73 = .ok (.getfield 19, 3) := by decide +kernel
theorem dX4_about_76 : decode cX4_about 76 = .ok (.invokevirtual 69, 3) := by decide +kernel
theorem dX4_about_79 : decode cX4_about 79 = .ok (.invokevirtual 158, 3) := by decide +kernel
theorem dX4_about_82 : decode cX4_about 82 = .ok (.ireturn, 1) := by decide +kernel
theorem dX4_about_83 : decode cX4_about 83 = .ok (.aload_n 0, 1) := by decide +kernel
theorem dX4_about_84 : decode cX4_about 84 = .ok (.getfield 28, 3) := by decide +kernel
theorem dX4_about_87 : decode cX4_about 87 = .ok (.aload_n 3, 1) := by decide +kernel
theorem dX4_about_88 : decode cX4_about 88 = .ok (.invokevirtual 161, 3) := by decide +kernel
theorem dX4_about_91 : decode cX4_about 91 = .ok (.ireturn, 1) := by decide +kernel
theorem dX4_about_92 : decode cX4_about 92 = .ok (.aload_n 3, 1) := by decide +kernel
theorem dX4_about_93 : decode cX4_about 93 = .ok (.aload_n 0, 1) := by decide +kernel
theorem dX4_about_94 : decode cX4_about 94 = .ok (.aload_n 0, 1) := by decide +kernel
theorem dX4_about_95 : decode cX4_about 95 = .ok (.getfield 165, 3) := by decide +kernel
theorem dX4_about_98 : decode cX4_about 98 = .ok (.invokevirtual 168, 3) := by decide +kernel
theorem dX4_about_101 : decode cX4_about 101 = .ok (.invokevirtual 172, 3) := by decide +kernel
theorem dX4_about_104 : decode cX4_about 104 = .ok (.ifCond .eq 7, 3) := by decide +kernel
theorem dX4_about_107 : decode cX4_about 107 = .ok (.iconst 1, 1) := by decide +kernel
theorem dX4_about_108 : decode cX4_about 108 = .ok (.goto 4, 3) := by decide +kernel
theorem dX4_about_111 : decode cX4_about 111 = .ok (.iconst 0, 1) := by decide +kernel
theorem dX4_about_112 : decode cX4_about 112 = .ok (.ireturn, 1) := by decide +kernel
theorem dX4_about_113 : decode cX4_about 113 = .ok (.aload_n 3, 1) := by decide +kernel
theorem dX4_about_114 : decode cX4_about 114 = .ok (.aload_n 0, 1) := by decide +kernel
theorem dX4_about_115 : decode cX4_about 115 = .ok (.aload_n 0, 1) := by decide +kernel
theorem dX4_about_116 : decode cX4_about 116 = .ok (.getfield 165, 3) := by decide +kernel
theorem dX4_about_119 : decode cX4_about 119 = .ok (.invokevirtual 168, 3) := by decide +kernel
theorem dX4_about_122 : decode cX4_about 122 = .ok (.invokevirtual 176, 3) := by decide +kernel
theorem dX4_about_125 : decode cX4_about 125 = .ok (.ireturn, 1) := by decide +kernel
set_option maxRecDepth 20000 in
theorem ggX4_at_X2_size : GoodIn wsX4_at wsX2_size := goodIn_r _ [8, 9, 34, 35] (by decide +kernel) (by decide +kernel)
set_option maxRecDepth 20000 in
theorem gX4_at_X2_size : GoodIn wsX4_at (wsV RX4 95 RX2 yX2_size wsX2_size) := goodIn_app (goodIn_of _ (by decide +kernel)) ggX4_at_X2_size
set_option maxRecDepth 20000 in
theorem ggX4_at_X2_get : GoodIn wsX4_at wsX2_get := goodIn_ca (goodIn_r _ [13, 14, 2, 9, 15, 34, 35] (by decide +kernel) (by decide +kernel)) (goodIn_sub (fun _ h => List.mem_cons_of_mem _ (List.mem_append_right _ h)) (by decide +kernel))
set_option maxRecDepth 20000 in
theorem gX4_at_X2_get : GoodIn wsX4_at (wsV RX4 96 RX2 yX2_get wsX2_get) := goodIn_app (goodIn_of _ (by decide +kernel)) ggX4_at_X2_get
set_option maxRecDepth 20000 in
theorem ggX4_at_X2_placeOf : GoodIn wsX4_at wsX2_placeOf := goodIn_r _ [19, 9, 15, 20, 21, 22, 23, 24, 25, 26, 27, 34, 35, 36, 37, 38, 39, 40] (by decide +kernel) (by decide +kernel)
set_option maxRecDepth 20000 in
theorem gX4_at_X2_placeOf : GoodIn wsX4_at (wsV RX4 161 RX2 yX2_placeOf wsX2_placeOf) := goodIn_app (goodIn_of _ (by decide +kernel)) ggX4_at_X2_placeOf
theorem dX4_at_0 : decode cX4_at 0 = .ok (.iconst 0, 1) := by decide +kernel
theorem dX4_at_1 : decode cX4_at 1 = .ok (.istore_n 2, 1) := by decide +kernel
theorem dX4_at_2 : decode cX4_at 2 = .ok (.iload_n 2, 1) := by decide +kernel
theorem dX4_at_3 : decode cX4_at 3 = .ok (.aload_n 0, 1) := by decide +kernel
theorem dX4_at_4 : decode cX4_at 4 = .ok (.getfield 28, 3) := by decide +kernel
theorem dX4_at_7 : decode cX4_at 7 = .ok (.invokevirtual 95, 3) := by decide +kernel
theorem dX4_at_10 : decode cX4_at 10 = .ok (.if_icmp .ge 30, 3) := by decide +kernel
theorem dX4_at_13 : decode cX4_at 13 = .ok (.aload_n 0, 1) := by decide +kernel
theorem dX4_at_14 : decode cX4_at 14 = .ok (.getfield 28, 3) := by decide +kernel
theorem dX4_at_17 : decode cX4_at 17 = .ok (.aload_n 0, 1) := by decide +kernel
theorem dX4_at_18 : decode cX4_at 18 = .ok (.getfield 28, 3) := by decide +kernel
theorem dX4_at_21 : decode cX4_at 21 = .ok (.iload_n 2, 1) := by decide +kernel
theorem dX4_at_22 : decode cX4_at 22 = .ok (.invokevirtual 96, 3) := by decide +kernel
theorem dX4_at_25 : decode cX4_at 25 = .ok (.invokevirtual 161, 3) := by decide +kernel
theorem dX4_at_28 : decode cX4_at 28 = .ok (.iload_n 1, 1) := by decide +kernel
theorem dX4_at_29 : decode cX4_at 29 = .ok (.if_icmp .ne 5, 3) := by decide +kernel
theorem dX4_at_32 : decode cX4_at 32 = .ok (.iload_n 2, 1) := by decide +kernel
theorem dX4_at_33 : decode cX4_at 33 = .ok (.ireturn, 1) := by decide +kernel
theorem dX4_at_34 : decode cX4_at 34 = .ok (.iinc 2 1, 3) := by decide +kernel
theorem dX4_at_37 : decode cX4_at 37 = .ok (.goto (-35), 3) := by decide +kernel
theorem dX4_at_40 : decode cX4_at 40 = .ok (.new 180, 3) := by decide +kernel
theorem dX4_at_43 : decode cX4_at 43 = .ok (.dup, 1) := by decide +kernel
theorem dX4_at_44 : decode cX4_at 44 = .ok (.ldc 182, 2) := by decide +kernel
theorem dX4_at_46 : decode cX4_at 46 = .ok (.invokespecial 184, 3) := by decide +kernel
theorem dX4_at_49 : decode cX4_at 49 = .ok (.athrow, 1) := by decide +kernel
set_option maxRecDepth 20000 in
theorem ggX4_count_X4_requireWhat : GoodIn wsX4_count wsX4_requireWhat := goodIn_ca (goodIn_r _ [8, 9, 10] (by decide +kernel) (by decide +kernel)) (goodIn_sub (fun _ h => List.mem_cons_of_mem _ (List.mem_append_right _ h)) (by decide +kernel))
set_option maxRecDepth 20000 in
theorem gX4_count_X4_requireWhat : GoodIn wsX4_count (va_wsS RX4 135 yX4_requireWhat wsX4_requireWhat) := goodIn_app (goodIn_of _ (by decide +kernel)) ggX4_count_X4_requireWhat
set_option maxRecDepth 20000 in
theorem ggX4_count_Jx4a65c_size_8abf5 : GoodIn wsX4_count wsJx4a65c_size_8abf5 := goodIn_r _ [15, 16, 105, 106, 107] (by decide +kernel) (by decide +kernel)
set_option maxRecDepth 20000 in
theorem gX4_count_Jx4a65c_size_8abf5 : GoodIn wsX4_count (wsV RX4 69 RJx4a65c yJx4a65c_size_8abf5 wsJx4a65c_size_8abf5) := goodIn_app (goodIn_of _ (by decide +kernel)) ggX4_count_Jx4a65c_size_8abf5
set_option maxRecDepth 20000 in
theorem ggX4_count_X2_size : GoodIn wsX4_count wsX2_size := goodIn_r _ [21, 22, 108, 109] (by decide +kernel) (by decide +kernel)
set_option maxRecDepth 20000 in
theorem gX4_count_X2_size : GoodIn wsX4_count (wsV RX4 95 RX2 yX2_size wsX2_size) := goodIn_app (goodIn_of _ (by decide +kernel)) ggX4_count_X2_size
set_option maxRecDepth 20000 in
theorem ggX4_count_X3_rainyDays : GoodIn wsX4_count wsX3_rainyDays := goodIn_r _ [27, 28, 110, 111] (by decide +kernel) (by decide +kernel)
set_option maxRecDepth 20000 in
theorem gX4_count_X3_rainyDays : GoodIn wsX4_count (wsV RX4 185 RX3 yX3_rainyDays wsX3_rainyDays) := goodIn_app (goodIn_of _ (by decide +kernel)) ggX4_count_X3_rainyDays
set_option maxRecDepth 20000 in
theorem ggX4_count_X4_countOver : GoodIn wsX4_count wsX4_countOver := goodIn_r _ [32, 33, 34, 35, 20, 36, 22, 37, 38, 39, 40, 41, 42, 43, 44, 7, 45, 46, 2, 47, 4, 11, 12, 13, 14, 15, 16, 48, 49, 50, 51, 52, 53, 54, 55, 56, 57, 58, 59, 60, 61, 62, 63, 64, 65, 66, 67, 68, 69, 70, 71, 72, 73, 74, 26, 75, 76, 77, 78, 79, 80, 81, 82, 83, 84, 28, 85, 86, 87, 88, 89, 90, 91, 92, 93, 94, 95, 96, 97, 98, 108, 109, 112, 113, 114, 115, 116, 99, 100, 101, 102, 103, 104, 105, 106, 107, 117, 118, 110, 111] (by decide +kernel) (by decide +kernel)
set_option maxRecDepth 20000 in
theorem gX4_count_X4_countOver : GoodIn wsX4_count (wsV RX4 188 RX4 yX4_countOver wsX4_countOver) := goodIn_app (goodIn_of _ (by decide +kernel)) ggX4_count_X4_countOver
theorem dX4_count_0 : decode cX4_count 0 = .ok (.iload_n 1, 1) := by decide +kernel
theorem dX4_count_1 : decode cX4_count 1 = .ok (.iconst 0, 1) := by decide +kernel
theorem dX4_count_2 : decode cX4_count 2 = .ok (.bipush 6, 2) := by decide +kernel
theorem dX4_count_4 : decode cX4_count 4 = .ok (.invokestatic 135, 3) := by decide +kernel
theorem dX4_count_7 : decode cX4_count 7 = .ok (.iload_n 1, 1) := by decide +kernel
theorem dX4_count_8 : decode cX4_count 8 = .ok (.tableswitch 73 0 6 #[44, 49, 57, 73, 73, 73, 65], 44) := by decide +kernel
theorem dX4_count_52 : decode cX4_count 52 = .ok (.aload_n 0, 1) := by decide +kernel
theorem dX4_count_53 : decode cX4_count 53 = .ok (.getfield 165, 3) := by decide +kernel
theorem dX4_count_56 : decode cX4_count 56 = .ok (.ireturn, 1) := by decide +kernel
theorem dX4_count_57 : decode cX4_count 57 = .ok (.aload_n 0, 1) := by decide +kernel
theorem dX4_count_58 : decode cX4_count 58 = .ok (.getfield 19, 3) := by decide +kernel
theorem dX4_count_61 : decode cX4_count 61 = .ok (.invokevirtual 69, 3) := by decide +kernel
theorem dX4_count_64 : decode cX4_count 64 = .ok (.ireturn, 1) := by decide +kernel
theorem dX4_count_65 : decode cX4_count 65 = .ok (.aload_n 0, 1) := by decide +kernel
theorem dX4_count_66 : decode cX4_count 66 = .ok (.getfield 28, 3) := by decide +kernel
theorem dX4_count_69 : decode cX4_count 69 = .ok (.invokevirtual 95, 3) := by decide +kernel
theorem dX4_count_72 : decode cX4_count 72 = .ok (.ireturn, 1) := by decide +kernel
theorem dX4_count_73 : decode cX4_count 73 = .ok (.aload_n 0, 1) := by decide +kernel
theorem dX4_count_74 : decode cX4_count 74 = .ok (.getfield 10, 3) := by decide +kernel
theorem dX4_count_77 : decode cX4_count 77 = .ok (.invokevirtual 185, 3) := by decide +kernel
theorem dX4_count_80 : decode cX4_count 80 = .ok (.ireturn, 1) := by decide +kernel
theorem dX4_count_81 : decode cX4_count 81 = .ok (.aload_n 0, 1) := by decide +kernel
theorem dX4_count_82 : decode cX4_count 82 = .ok (.aload_n 0, 1) := by decide +kernel
theorem dX4_count_83 : decode cX4_count 83 = .ok (.getfield 28, 3) := by decide +kernel
theorem dX4_count_86 : decode cX4_count 86 = .ok (.iload_n 1, 1) := by decide +kernel
theorem dX4_count_87 : decode cX4_count 87 = .ok (.aload_n 0, 1) := by decide +kernel
theorem dX4_count_88 : decode cX4_count 88 = .ok (.getfield 165, 3) := by decide +kernel
theorem dX4_count_91 : decode cX4_count 91 = .ok (.invokevirtual 188, 3) := by decide +kernel
theorem dX4_count_94 : decode cX4_count 94 = .ok (.ireturn, 1) := by decide +kernel
set_option maxRecDepth 20000 in
theorem ggX4_pass_X4_requireDays : GoodIn wsX4_pass wsX4_requireDays := goodIn_ca (goodIn_r _ [6, 7, 8] (by decide +kernel) (by decide +kernel)) (goodIn_sub (fun _ h => List.mem_cons_of_mem _ (List.mem_append_right _ h)) (by decide +kernel))
set_option maxRecDepth 20000 in
theorem gX4_pass_X4_requireDays : GoodIn wsX4_pass (va_wsS RX4 192 yX4_requireDays wsX4_requireDays) := goodIn_app (goodIn_of _ (by decide +kernel)) ggX4_pass_X4_requireDays
set_option maxRecDepth 20000 in
theorem ggX4_pass_X4_liveDays : GoodIn wsX4_pass wsX4_liveDays := goodIn_r _ [12, 2, 13, 14, 15, 5, 16, 17, 18, 19, 20, 21, 22, 23, 24, 25, 26, 27, 28, 29, 30, 31, 32, 33, 34, 35, 36, 37, 38, 39, 40, 41, 42, 43, 44, 45, 46, 47, 48, 49, 50, 51, 52, 53, 54, 55, 56, 57, 58, 59, 60, 61, 62, 63, 64, 65, 66, 67, 68, 69, 70, 71, 72, 73, 74, 75, 76, 77, 78, 79, 80, 81, 82, 83, 84, 85, 86, 87, 88, 89, 90, 91, 92, 93, 94, 95, 96, 97, 98, 99, 100, 101, 102, 103, 104, 105, 106, 107, 108, 109, 110, 111, 112, 113, 114, 115, 116, 117, 118, 119, 120, 121, 122, 123, 124, 125, 126] (by decide +kernel) (by decide +kernel)
set_option maxRecDepth 20000 in
theorem gX4_pass_X4_liveDays : GoodIn wsX4_pass (wsV RX4 195 RX4 yX4_liveDays wsX4_liveDays) := goodIn_app (goodIn_of _ (by decide +kernel)) ggX4_pass_X4_liveDays
theorem dX4_pass_0 : decode cX4_pass 0 = .ok (.iload_n 1, 1) := by decide +kernel
theorem dX4_pass_1 : decode cX4_pass 1 = .ok (.bipush 90, 2) := by decide +kernel
theorem dX4_pass_3 : decode cX4_pass 3 = .ok (.invokestatic 192, 3) := by decide +kernel
theorem dX4_pass_6 : decode cX4_pass 6 = .ok (.aload_n 0, 1) := by decide +kernel
theorem dX4_pass_7 : decode cX4_pass 7 = .ok (.aload_n 0, 1) := by decide +kernel
theorem dX4_pass_8 : decode cX4_pass 8 = .ok (.getfield 28, 3) := by decide +kernel
theorem dX4_pass_11 : decode cX4_pass 11 = .ok (.iload_n 1, 1) := by decide +kernel
theorem dX4_pass_12 : decode cX4_pass 12 = .ok (.invokevirtual 195, 3) := by decide +kernel
theorem dX4_pass_15 : decode cX4_pass 15 = .ok (.istore_n 2, 1) := by decide +kernel
theorem dX4_pass_16 : decode cX4_pass 16 = .ok (.aload_n 0, 1) := by decide +kernel
theorem dX4_pass_17 : decode cX4_pass 17 = .ok (.dup, 1) := by decide +kernel
theorem dX4_pass_18 : decode cX4_pass 18 = .ok (.getfield 165, 3) := by decide +kernel
theorem dX4_pass_21 : decode cX4_pass 21 = .ok (.iload_n 1, 1) := by decide +kernel
theorem dX4_pass_22 : decode cX4_pass 22 = .ok (.iadd, 1) := by decide +kernel
theorem dX4_pass_23 : decode cX4_pass 23 = .ok (.putfield 165, 3) := by decide +kernel
theorem dX4_pass_26 : decode cX4_pass 26 = .ok (.iload_n 2, 1) := by decide +kernel
theorem dX4_pass_27 : decode cX4_pass 27 = .ok (.ireturn, 1) := by decide +kernel
set_option maxRecDepth 20000 in
theorem ggX4_foresee_X4_requireDays : GoodIn wsX4_foresee wsX4_requireDays := goodIn_ca (goodIn_r _ [7, 8, 9] (by decide +kernel) (by decide +kernel)) (goodIn_sub (fun _ h => List.mem_cons_of_mem _ (List.mem_append_left _ (List.mem_append_left _ (List.mem_append_right _ h)))) (by decide +kernel))
set_option maxRecDepth 20000 in
theorem gX4_foresee_X4_requireDays : GoodIn wsX4_foresee (va_wsS RX4 192 yX4_requireDays wsX4_requireDays) := goodIn_app (goodIn_of _ (by decide +kernel)) ggX4_foresee_X4_requireDays
set_option maxRecDepth 20000 in
theorem ggX4_foresee_X4_requireWhat : GoodIn wsX4_foresee wsX4_requireWhat := goodIn_ca (goodIn_r _ [12, 13, 14] (by decide +kernel) (by decide +kernel)) (goodIn_sub (fun _ h => List.mem_cons_of_mem _ (List.mem_append_left _ (List.mem_append_right _ h))) (by decide +kernel))
set_option maxRecDepth 20000 in
theorem gX4_foresee_X4_requireWhat : GoodIn wsX4_foresee (va_wsS RX4 135 yX4_requireWhat wsX4_requireWhat) := goodIn_app (goodIn_of _ (by decide +kernel)) ggX4_foresee_X4_requireWhat
set_option maxRecDepth 20000 in
theorem ggX4_foresee_X2_clear : GoodIn wsX4_foresee wsX2_clear := goodIn_r _ [19, 20, 162, 163] (by decide +kernel) (by decide +kernel)
set_option maxRecDepth 20000 in
theorem gX4_foresee_X2_clear : GoodIn wsX4_foresee (wsV RX4 199 RX2 yX2_clear wsX2_clear) := goodIn_app (goodIn_of _ (by decide +kernel)) ggX4_foresee_X2_clear
set_option maxRecDepth 20000 in
theorem ggX4_foresee_X2_size : GoodIn wsX4_foresee wsX2_size := goodIn_r _ [24, 20, 162, 163] (by decide +kernel) (by decide +kernel)
set_option maxRecDepth 20000 in
theorem gX4_foresee_X2_size : GoodIn wsX4_foresee (wsV RX4 95 RX2 yX2_size wsX2_size) := goodIn_app (goodIn_of _ (by decide +kernel)) ggX4_foresee_X2_size
set_option maxRecDepth 20000 in
theorem ggX4_foresee_X2_get : GoodIn wsX4_foresee wsX2_get := goodIn_ca (goodIn_r _ [28, 29, 14, 20, 30, 162, 163] (by decide +kernel) (by decide +kernel)) (goodIn_sub (fun _ h => List.mem_cons_of_mem _ (List.mem_append_right _ h)) (by decide +kernel))
set_option maxRecDepth 20000 in
theorem gX4_foresee_X2_get : GoodIn wsX4_foresee (wsV RX4 96 RX2 yX2_get wsX2_get) := goodIn_app (goodIn_of _ (by decide +kernel)) ggX4_foresee_X2_get
set_option maxRecDepth 20000 in
theorem ggX4_foresee_X2_addCopy : GoodIn wsX4_foresee wsX2_addCopy := goodIn_r _ [34, 30, 20, 35, 36, 37, 18, 38, 39, 40, 41, 42, 43, 44, 45, 46, 47, 48, 162, 163, 164, 165, 166, 167, 168] (by decide +kernel) (by decide +kernel)
set_option maxRecDepth 20000 in
theorem gX4_foresee_X2_addCopy : GoodIn wsX4_foresee (wsV RX4 202 RX2 yX2_addCopy wsX2_addCopy) := goodIn_app (goodIn_of _ (by decide +kernel)) ggX4_foresee_X2_addCopy
set_option maxRecDepth 20000 in
theorem ggX4_foresee_X4_liveDays : GoodIn wsX4_foresee wsX4_liveDays := goodIn_r _ [52, 3, 53, 54, 55, 6, 56, 57, 58, 59, 60, 61, 62, 63, 64, 65, 66, 67, 68, 69, 70, 71, 72, 73, 74, 75, 76, 77, 78, 79, 80, 81, 82, 83, 84, 85, 86, 87, 88, 89, 90, 91, 92, 93, 94, 95, 96, 97, 98, 99, 100, 101, 102, 103, 104, 105, 106, 107, 108, 109, 110, 111, 112, 113, 18, 114, 20, 30, 115, 116, 117, 42, 118, 45, 47, 119, 120, 121, 122, 123, 124, 125, 126, 48, 127, 128, 129, 130, 131, 132, 133, 134, 135, 136, 137, 138, 46, 156, 157, 158, 159, 160, 161, 169, 170, 171, 172, 173, 174, 175, 162, 163, 164, 165, 166, 167, 168] (by decide +kernel) (by decide +kernel)
set_option maxRecDepth 20000 in
theorem gX4_foresee_X4_liveDays : GoodIn wsX4_foresee (wsV RX4 195 RX4 yX4_liveDays wsX4_liveDays) := goodIn_app (goodIn_of _ (by decide +kernel)) ggX4_foresee_X4_liveDays
set_option maxRecDepth 20000 in
theorem ggX4_foresee_X4_countOver : GoodIn wsX4_foresee wsX4_countOver := goodIn_r _ [142, 143, 144, 145, 18, 146, 20, 30, 147, 148, 149, 150, 58, 59, 60, 6, 61, 62, 63, 64, 57, 65, 66, 67, 68, 69, 70, 71, 72, 73, 74, 75, 76, 77, 78, 79, 80, 81, 82, 83, 84, 85, 86, 87, 88, 89, 90, 91, 92, 93, 94, 95, 96, 97, 98, 99, 100, 101, 102, 103, 104, 105, 106, 107, 108, 109, 151, 152, 153, 154, 155, 120, 121, 42, 122, 123, 124, 125, 126, 48, 162, 163, 164, 165, 166, 167, 168, 156, 157, 158, 159, 160, 161, 169, 170, 171, 172, 173, 174, 175] (by decide +kernel) (by decide +kernel)
set_option maxRecDepth 20000 in
theorem gX4_foresee_X4_countOver : GoodIn wsX4_foresee (wsV RX4 188 RX4 yX4_countOver wsX4_countOver) := goodIn_app (goodIn_of _ (by decide +kernel)) ggX4_foresee_X4_countOver
theorem dX4_foresee_0 : decode cX4_foresee 0 = .ok (.iload_n 1, 1) := by decide +kernel
theorem dX4_foresee_1 : decode cX4_foresee 1 = .ok (.bipush 90, 2) := by decide +kernel
theorem dX4_foresee_3 : decode cX4_foresee 3 = .ok (.invokestatic 192, 3) := by decide +kernel
theorem dX4_foresee_6 : decode cX4_foresee 6 = .ok (.iload_n 2, 1) := by decide +kernel
theorem dX4_foresee_7 : decode cX4_foresee 7 = .ok (.iconst 3, 1) := by decide +kernel
theorem dX4_foresee_8 : decode cX4_foresee 8 = .ok (.iconst 5, 1) := by decide +kernel
theorem dX4_foresee_9 : decode cX4_foresee 9 = .ok (.invokestatic 135, 3) := by decide +kernel
theorem dX4_foresee_12 : decode cX4_foresee 12 = .ok (.aload_n 0, 1) := by decide +kernel
theorem dX4_foresee_13 : decode cX4_foresee 13 = .ok (.getfield 36, 3) := by decide +kernel
