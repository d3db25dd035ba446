theorem dX0_init_0 : decode cX0_init 0 = .ok (.aload_n 0, 1) := by decide +kernel
theorem dX0_init_1 : decode cX0_init 1 = .ok (.invokespecial 3, 3) := by decide +kernel
theorem dX0_init_4 : decode cX0_init 4 = .ok (.aload_n 0, 1) := by decide +kernel
theorem dX0_init_5 : decode cX0_init 5 = .ok (.iload_n 1, 1) := by decide +kernel
theorem dX0_init_6 : decode cX0_init 6 = .ok (.putfield 9, 3) := by decide +kernel
theorem dX0_init_9 : decode cX0_init 9 = .ok (.aload_n 0, 1) := by decide +kernel
theorem dX0_init_10 : decode cX0_init 10 = .ok (.iload_n 2, 1) := by decide +kernel
theorem dX0_init_11 : decode cX0_init 11 = .ok (.putfield 15, 3) := by decide +kernel
theorem dX0_init_14 : decode cX0_init 14 = .ok (.return_, 1) := by decide +kernel
set_option maxRecDepth 20000 in
theorem ggX0_saysRain_X3_glassOn : GoodIn wsX0_saysRain wsX3_glassOn := goodIn_r _ [7, 8, 9, 10, 11, 12, 20, 21] (by decide +kernel) (by decide +kernel)
set_option maxRecDepth 20000 in
theorem gX0_saysRain_X3_glassOn : GoodIn wsX0_saysRain (wsV RX0 18 RX3 yX3_glassOn wsX3_glassOn) := goodIn_app (goodIn_of _ (by decide +kernel)) ggX0_saysRain_X3_glassOn
set_option maxRecDepth 20000 in
theorem ggX0_saysRain_X3_rainsOn : GoodIn wsX0_saysRain wsX3_rainsOn := goodIn_r _ [16, 17, 9, 10, 11, 12, 20, 21] (by decide +kernel) (by decide +kernel)
set_option maxRecDepth 20000 in
theorem gX0_saysRain_X3_rainsOn : GoodIn wsX0_saysRain (wsV RX0 24 RX3 yX3_rainsOn wsX3_rainsOn) := goodIn_app (goodIn_of _ (by decide +kernel)) ggX0_saysRain_X3_rainsOn
theorem dX0_saysRain_0 : decode cX0_saysRain 0 = .ok (.aload_n 1, 1) := by decide +kernel
theorem dX0_saysRain_1 : decode cX0_saysRain 1 = .ok (.iload_n 2, 1) := by decide +kernel
theorem dX0_saysRain_2 : decode cX0_saysRain 2 = .ok (.invokevirtual 18, 3) := by decide +kernel
theorem dX0_saysRain_5 : decode cX0_saysRain 5 = .ok (.istore_n 3, 1) := by decide +kernel
theorem dX0_saysRain_6 : decode cX0_saysRain 6 = .ok (.aload_n 1, 1) := by decide +kernel
theorem dX0_saysRain_7 : decode cX0_saysRain 7 = .ok (.iload_n 2, 1) := by decide +kernel
theorem dX0_saysRain_8 : decode cX0_saysRain 8 = .ok (.iconst 1, 1) := by decide +kernel
theorem dX0_saysRain_9 : decode cX0_saysRain 9 = .ok (.isub, 1) := by decide +kernel
theorem dX0_saysRain_10 : decode cX0_saysRain 10 = .ok (.invokevirtual 18, 3) := by decide +kernel
theorem dX0_saysRain_13 : decode cX0_saysRain 13 = .ok (.istore 4, 2) := by decide +kernel
theorem dX0_saysRain_15 : decode cX0_saysRain 15 = .ok (.aload_n 1, 1) := by decide +kernel
theorem dX0_saysRain_16 : decode cX0_saysRain 16 = .ok (.iload_n 2, 1) := by decide +kernel
theorem dX0_saysRain_17 : decode cX0_saysRain 17 = .ok (.iconst 1, 1) := by decide +kernel
theorem dX0_saysRain_18 : decode cX0_saysRain 18 = .ok (.isub, 1) := by decide +kernel
theorem dX0_saysRain_19 : decode cX0_saysRain 19 = .ok (.invokevirtual 24, 3) := by decide +kernel
theorem dX0_saysRain_22 : decode cX0_saysRain 22 = .ok (.istore 5, 2) := by decide +kernel
theorem dX0_saysRain_24 : decode cX0_saysRain 24 = .ok (.aload_n 0, 1) := by decide +kernel
theorem dX0_saysRain_25 : decode cX0_saysRain 25 = .ok (.getfield 9, 3) := by decide +kernel
theorem dX0_saysRain_28 : decode cX0_saysRain 28 = .ok (.tableswitch 107 0 4 #[36, 53, 67, 70, 90], 36) := by decide +kernel
theorem dX0_saysRain_64 : decode cX0_saysRain 64 = .ok (.iload 4, 2) := by decide +kernel
theorem dX0_saysRain_66 : decode cX0_saysRain 66 = .ok (.iload_n 3, 1) := by decide +kernel
theorem dX0_saysRain_67 : decode cX0_saysRain 67 = .ok (.isub, 1) := by decide +kernel
theorem dX0_saysRain_68 : decode cX0_saysRain 68 = .ok (.aload_n 0, 1) := by decide +kernel
theorem dX0_saysRain_69 : decode cX0_saysRain 69 = .ok (.getfield 15, 3) := by decide +kernel
theorem dX0_saysRain_72 : decode cX0_saysRain 72 = .ok (.if_icmp .lt 7, 3) := by decide +kernel
theorem dX0_saysRain_75 : decode cX0_saysRain 75 = .ok (.iconst 1, 1) := by decide +kernel
theorem dX0_saysRain_76 : decode cX0_saysRain 76 = .ok (.goto 4, 3) := by decide +kernel
theorem dX0_saysRain_79 : decode cX0_saysRain 79 = .ok (.iconst 0, 1) := by decide +kernel
theorem dX0_saysRain_80 : decode cX0_saysRain 80 = .ok (.ireturn, 1) := by decide +kernel
theorem dX0_saysRain_81 : decode cX0_saysRain 81 = .ok (.iload_n 3, 1) := by decide +kernel
theorem dX0_saysRain_82 : decode cX0_saysRain 82 = .ok (.aload_n 0, 1) := by decide +kernel
theorem dX0_saysRain_83 : decode cX0_saysRain 83 = .ok (.getfield 15, 3) := by decide +kernel
theorem dX0_saysRain_86 : decode cX0_saysRain 86 = .ok (.if_icmp .ge 7, 3) := by decide +kernel
theorem dX0_saysRain_89 : decode cX0_saysRain 89 = .ok (.iconst 1, 1) := by decide +kernel
theorem dX0_saysRain_90 : decode cX0_saysRain 90 = .ok (.goto 4, 3) := by decide +kernel
theorem dX0_saysRain_93 : decode cX0_saysRain 93 = .ok (.iconst 0, 1) := by decide +kernel
theorem dX0_saysRain_94 : decode cX0_saysRain 94 = .ok (.ireturn, 1) := by decide +kernel
theorem dX0_saysRain_95 : decode cX0_saysRain 95 = .ok (.iload 5, 2) := by decide +kernel
theorem dX0_saysRain_97 : decode cX0_saysRain 97 = .ok (.ireturn, 1) := by decide +kernel
theorem dX0_saysRain_98 : decode cX0_saysRain 98 = .ok (.iload_n 2, 1) := by decide +kernel
theorem dX0_saysRain_99 : decode cX0_saysRain 99 = .ok (.bipush 7, 2) := by decide +kernel
theorem dX0_saysRain_101 : decode cX0_saysRain 101 = .ok (.irem, 1) := by decide +kernel
theorem dX0_saysRain_102 : decode cX0_saysRain 102 = .ok (.aload_n 0, 1) := by decide +kernel
theorem dX0_saysRain_103 : decode cX0_saysRain 103 = .ok (.getfield 15, 3) := by decide +kernel
theorem dX0_saysRain_106 : decode cX0_saysRain 106 = .ok (.bipush 7, 2) := by decide +kernel
theorem dX0_saysRain_108 : decode cX0_saysRain 108 = .ok (.irem, 1) := by decide +kernel
theorem dX0_saysRain_109 : decode cX0_saysRain 109 = .ok (.if_icmp .ne 7, 3) := by decide +kernel
theorem dX0_saysRain_112 : decode cX0_saysRain 112 = .ok (.iconst 1, 1) := by decide +kernel
theorem dX0_saysRain_113 : decode cX0_saysRain 113 = .ok (.goto 4, 3) := by decide +kernel
theorem dX0_saysRain_116 : decode cX0_saysRain 116 = .ok (.iconst 0, 1) := by decide +kernel
theorem dX0_saysRain_117 : decode cX0_saysRain 117 = .ok (.ireturn, 1) := by decide +kernel
theorem dX0_saysRain_118 : decode cX0_saysRain 118 = .ok (.iload 5, 2) := by decide +kernel
theorem dX0_saysRain_120 : decode cX0_saysRain 120 = .ok (.ifCond .ne 13, 3) := by decide +kernel
theorem dX0_saysRain_123 : decode cX0_saysRain 123 = .ok (.iload_n 3, 1) := by decide +kernel
theorem dX0_saysRain_124 : decode cX0_saysRain 124 = .ok (.iload 4, 2) := by decide +kernel
theorem dX0_saysRain_126 : decode cX0_saysRain 126 = .ok (.if_icmp .ge 7, 3) := by decide +kernel
theorem dX0_saysRain_129 : decode cX0_saysRain 129 = .ok (.iconst 1, 1) := by decide +kernel
theorem dX0_saysRain_130 : decode cX0_saysRain 130 = .ok (.goto 4, 3) := by decide +kernel
theorem dX0_saysRain_133 : decode cX0_saysRain 133 = .ok (.iconst 0, 1) := by decide +kernel
theorem dX0_saysRain_134 : decode cX0_saysRain 134 = .ok (.ireturn, 1) := by decide +kernel
theorem dX0_saysRain_135 : decode cX0_saysRain 135 = .ok (.iconst 1, 1) := by decide +kernel
theorem dX0_saysRain_136 : decode cX0_saysRain 136 = .ok (.ireturn, 1) := by decide +kernel
set_option maxRecDepth 20000 in
theorem ggX0_daysRight_X0_saysRain : GoodIn wsX0_daysRight wsX0_saysRain := goodIn_r _ [5, 6, 7, 8, 9, 10, 11, 12, 13, 14, 15, 16, 17, 18, 19, 20, 21, 22, 23, 24, 25, 26] (by decide +kernel) (by decide +kernel)
set_option maxRecDepth 20000 in
theorem gX0_daysRight_X0_saysRain : GoodIn wsX0_daysRight (wsV RX0 28 RX0 yX0_saysRain wsX0_saysRain) := goodIn_app (goodIn_of _ (by decide +kernel)) ggX0_daysRight_X0_saysRain
set_option maxRecDepth 20000 in
theorem ggX0_daysRight_X3_rainsOn : GoodIn wsX0_daysRight wsX3_rainsOn := goodIn_r _ [21, 22, 14, 15, 16, 17, 25, 26] (by decide +kernel) (by decide +kernel)
set_option maxRecDepth 20000 in
theorem gX0_daysRight_X3_rainsOn : GoodIn wsX0_daysRight (wsV RX0 24 RX3 yX3_rainsOn wsX3_rainsOn) := goodIn_app (goodIn_of _ (by decide +kernel)) ggX0_daysRight_X3_rainsOn
theorem dX0_daysRight_0 : decode cX0_daysRight 0 = .ok (.iconst 0, 1) := by decide +kernel
theorem dX0_daysRight_1 : decode cX0_daysRight 1 = .ok (.istore_n 2, 1) := by decide +kernel
theorem dX0_daysRight_2 : decode cX0_daysRight 2 = .ok (.iconst 0, 1) := by decide +kernel
theorem dX0_daysRight_3 : decode cX0_daysRight 3 = .ok (.istore_n 3, 1) := by decide +kernel
theorem dX0_daysRight_4 : decode cX0_daysRight 4 = .ok (.iload_n 3, 1) := by decide +kernel
theorem dX0_daysRight_5 : decode cX0_daysRight 5 = .ok (.bipush 12, 2) := by decide +kernel
theorem dX0_daysRight_7 : decode cX0_daysRight 7 = .ok (.if_icmp .ge 26, 3) := by decide +kernel
theorem dX0_daysRight_10 : decode cX0_daysRight 10 = .ok (.aload_n 0, 1) := by decide +kernel
theorem dX0_daysRight_11 : decode cX0_daysRight 11 = .ok (.aload_n 1, 1) := by decide +kernel
theorem dX0_daysRight_12 : decode cX0_daysRight 12 = .ok (.iload_n 3, 1) := by decide +kernel
theorem dX0_daysRight_13 : decode cX0_daysRight 13 = .ok (.invokevirtual 28, 3) := by decide +kernel
theorem dX0_daysRight_16 : decode cX0_daysRight 16 = .ok (.aload_n 1, 1) := by decide +kernel
theorem dX0_daysRight_17 : decode cX0_daysRight 17 = .ok (.iload_n 3, 1) := by decide +kernel
theorem dX0_daysRight_18 : decode cX0_daysRight 18 = .ok (.invokevirtual 24, 3) := by decide +kernel
theorem dX0_daysRight_21 : decode cX0_daysRight 21 = .ok (.if_icmp .ne 6, 3) := by decide +kernel
theorem dX0_daysRight_24 : decode cX0_daysRight 24 = .ok (.iinc 2 1, 3) := by decide +kernel
theorem dX0_daysRight_27 : decode cX0_daysRight 27 = .ok (.iinc 3 1, 3) := by decide +kernel
theorem dX0_daysRight_30 : decode cX0_daysRight 30 = .ok (.goto (-26), 3) := by decide +kernel
theorem dX0_daysRight_33 : decode cX0_daysRight 33 = .ok (.iload_n 2, 1) := by decide +kernel
theorem dX0_daysRight_34 : decode cX0_daysRight 34 = .ok (.ireturn, 1) := by decide +kernel
set_option maxRecDepth 20000 in
theorem ggX1_init_J7_fill_53178 : GoodIn wsX1_init wsJ7_fill_53178 := goodIn_r _ [11] (by decide +kernel) (by decide +kernel)
set_option maxRecDepth 20000 in
theorem gX1_init_J7_fill_53178 : GoodIn wsX1_init (va_wsS RX1 22 yJ7_fill_53178 wsJ7_fill_53178) := goodIn_app (goodIn_of _ (by decide +kernel)) ggX1_init_J7_fill_53178
theorem dX1_init_0 : decode cX1_init 0 = .ok (.aload_n 0, 1) := by decide +kernel
theorem dX1_init_1 : decode cX1_init 1 = .ok (.invokespecial 3, 3) := by decide +kernel
theorem dX1_init_4 : decode cX1_init 4 = .ok (.aload_n 0, 1) := by decide +kernel
theorem dX1_init_5 : decode cX1_init 5 = .ok (.bipush 8, 2) := by decide +kernel
theorem dX1_init_7 : decode cX1_init 7 = .ok (.newarray .int, 2) := by decide +kernel
theorem dX1_init_9 : decode cX1_init 9 = .ok (.putfield 9, 3) := by decide +kernel
theorem dX1_init_12 : decode cX1_init 12 = .ok (.aload_n 0, 1) := by decide +kernel
theorem dX1_init_13 : decode cX1_init 13 = .ok (.iload_n 1, 1) := by decide +kernel
theorem dX1_init_14 : decode cX1_init 14 = .ok (.putfield 15, 3) := by decide +kernel
theorem dX1_init_17 : decode cX1_init 17 = .ok (.aload_n 0, 1) := by decide +kernel
theorem dX1_init_18 : decode cX1_init 18 = .ok (.bipush 10, 2) := by decide +kernel
theorem dX1_init_20 : decode cX1_init 20 = .ok (.putfield 19, 3) := by decide +kernel
theorem dX1_init_23 : decode cX1_init 23 = .ok (.aload_n 0, 1) := by decide +kernel
theorem dX1_init_24 : decode cX1_init 24 = .ok (.getfield 9, 3) := by decide +kernel
theorem dX1_init_27 : decode cX1_init 27 = .ok (.bipush 20, 2) := by decide +kernel
theorem dX1_init_29 : decode cX1_init 29 = .ok (.invokestatic 22, 3) := by decide +kernel
theorem dX1_init_32 : decode cX1_init 32 = .ok (.return_, 1) := by decide +kernel
theorem dX1_becomeLike_0 : decode cX1_becomeLike 0 = .ok (.aload_n 0, 1) := by decide +kernel
theorem dX1_becomeLike_1 : decode cX1_becomeLike 1 = .ok (.aload_n 1, 1) := by decide +kernel
theorem dX1_becomeLike_2 : decode cX1_becomeLike 2 = .ok (.getfield 15, 3) := by decide +kernel
theorem dX1_becomeLike_5 : decode cX1_becomeLike 5 = .ok (.putfield 15, 3) := by decide +kernel
theorem dX1_becomeLike_8 : decode cX1_becomeLike 8 = .ok (.aload_n 0, 1) := by decide +kernel
theorem dX1_becomeLike_9 : decode cX1_becomeLike 9 = .ok (.aload_n 1, 1) := by decide +kernel
theorem dX1_becomeLike_10 : decode cX1_becomeLike 10 = .ok (.getfield 28, 3) := by decide +kernel
theorem dX1_becomeLike_13 : decode cX1_becomeLike 13 = .ok (.putfield 28, 3) := by decide +kernel
theorem dX1_becomeLike_16 : decode cX1_becomeLike 16 = .ok (.aload_n 0, 1) := by decide +kernel
theorem dX1_becomeLike_17 : decode cX1_becomeLike 17 = .ok (.aload_n 1, 1) := by decide +kernel
theorem dX1_becomeLike_18 : decode cX1_becomeLike 18 = .ok (.getfield 19, 3) := by decide +kernel
theorem dX1_becomeLike_21 : decode cX1_becomeLike 21 = .ok (.putfield 19, 3) := by decide +kernel
theorem dX1_becomeLike_24 : decode cX1_becomeLike 24 = .ok (.aload_n 0, 1) := by decide +kernel
theorem dX1_becomeLike_25 : decode cX1_becomeLike 25 = .ok (.aload_n 1, 1) := by decide +kernel
theorem dX1_becomeLike_26 : decode cX1_becomeLike 26 = .ok (.getfield 31, 3) := by decide +kernel
theorem dX1_becomeLike_29 : decode cX1_becomeLike 29 = .ok (.putfield 31, 3) := by decide +kernel
theorem dX1_becomeLike_32 : decode cX1_becomeLike 32 = .ok (.iconst 0, 1) := by decide +kernel
theorem dX1_becomeLike_33 : decode cX1_becomeLike 33 = .ok (.istore_n 2, 1) := by decide +kernel
theorem dX1_becomeLike_34 : decode cX1_becomeLike 34 = .ok (.iload_n 2, 1) := by decide +kernel
theorem dX1_becomeLike_35 : decode cX1_becomeLike 35 = .ok (.aload_n 0, 1) := by decide +kernel
theorem dX1_becomeLike_36 : decode cX1_becomeLike 36 = .ok (.getfield 9, 3) := by decide +kernel
theorem dX1_becomeLike_39 : decode cX1_becomeLike 39 = .ok (.arraylength, 1) := by decide +kernel
theorem dX1_becomeLike_40 : decode cX1_becomeLike 40 = .ok (.if_icmp .ge 30, 3) := by decide +kernel
theorem dX1_becomeLike_43 : decode cX1_becomeLike 43 = .ok (.iload_n 2, 1) := by decide +kernel
theorem dX1_becomeLike_44 : decode cX1_becomeLike 44 = .ok (.aload_n 1, 1) := by decide +kernel
theorem dX1_becomeLike_45 : decode cX1_becomeLike 45 = .ok (.getfield 9, 3) := by decide +kernel
theorem dX1_becomeLike_48 : decode cX1_becomeLike 48 = .ok (.arraylength, 1) := by decide +kernel
theorem dX1_becomeLike_49 : decode cX1_becomeLike 49 = .ok (.if_icmp .ge 21, 3) := by decide +kernel
theorem dX1_becomeLike_52 : decode cX1_becomeLike 52 = .ok (.aload_n 0, 1) := by decide +kernel
theorem dX1_becomeLike_53 : decode cX1_becomeLike 53 = .ok (.getfield 9, 3) := by decide +kernel
theorem dX1_becomeLike_56 : decode cX1_becomeLike 56 = .ok (.iload_n 2, 1) := by decide +kernel
theorem dX1_becomeLike_57 : decode cX1_becomeLike 57 = .ok (.aload_n 1, 1) := by decide +kernel
theorem dX1_becomeLike_58 : decode cX1_becomeLike 58 = .ok (.getfield 9, 3) := by decide +kernel
theorem dX1_becomeLike_61 : decode cX1_becomeLike 61 = .ok (.iload_n 2, 1) := by decide +kernel
theorem dX1_becomeLike_62 : decode cX1_becomeLike 62 = .ok (.iaload, 1) := by decide +kernel
theorem dX1_becomeLike_63 : decode cX1_becomeLike 63 = .ok (.iastore, 1) := by decide +kernel
theorem dX1_becomeLike_64 : decode cX1_becomeLike 64 = .ok (.iinc 2 1, 3) := by decide +kernel
theorem dX1_becomeLike_67 : decode cX1_becomeLike 67 = .ok (.goto (-33), 3) := by decide +kernel
theorem dX1_becomeLike_70 : decode cX1_becomeLike 70 = .ok (.return_, 1) := by decide +kernel
theorem dX1_weightOf_0 : decode cX1_weightOf 0 = .ok (.iload_n 1, 1) := by decide +kernel
theorem dX1_weightOf_1 : decode cX1_weightOf 1 = .ok (.ifCond .lt 21, 3) := by decide +kernel
theorem dX1_weightOf_4 : decode cX1_weightOf 4 = .ok (.iload_n 1, 1) := by decide +kernel
theorem dX1_weightOf_5 : decode cX1_weightOf 5 = .ok (.aload_n 0, 1) := by decide +kernel
theorem dX1_weightOf_6 : decode cX1_weightOf 6 = .ok (.getfield 9, 3) := by decide +kernel
theorem dX1_weightOf_9 : decode cX1_weightOf 9 = .ok (.arraylength, 1) := by decide +kernel
theorem dX1_weightOf_10 : decode cX1_weightOf 10 = .ok (.if_icmp .ge 12, 3) := by decide +kernel
theorem dX1_weightOf_13 : decode cX1_weightOf 13 = .ok (.aload_n 0, 1) := by decide +kernel
theorem dX1_weightOf_14 : decode cX1_weightOf 14 = .ok (.getfield 9, 3) := by decide +kernel
theorem dX1_weightOf_17 : decode cX1_weightOf 17 = .ok (.iload_n 1, 1) := by decide +kernel
theorem dX1_weightOf_18 : decode cX1_weightOf 18 = .ok (.iaload, 1) := by decide +kernel
theorem dX1_weightOf_19 : decode cX1_weightOf 19 = .ok (.goto 4, 3) := by decide +kernel
theorem dX1_weightOf_22 : decode cX1_weightOf 22 = .ok (.iconst 0, 1) := by decide +kernel
theorem dX1_weightOf_23 : decode cX1_weightOf 23 = .ok (.ireturn, 1) := by decide +kernel
theorem dX1_putWeight_0 : decode cX1_putWeight 0 = .ok (.iload_n 1, 1) := by decide +kernel
theorem dX1_putWeight_1 : decode cX1_putWeight 1 = .ok (.ifCond .lt 19, 3) := by decide +kernel
theorem dX1_putWeight_4 : decode cX1_putWeight 4 = .ok (.iload_n 1, 1) := by decide +kernel
theorem dX1_putWeight_5 : decode cX1_putWeight 5 = .ok (.aload_n 0, 1) := by decide +kernel
theorem dX1_putWeight_6 : decode cX1_putWeight 6 = .ok (.getfield 9, 3) := by decide +kernel
theorem dX1_putWeight_9 : decode cX1_putWeight 9 = .ok (.arraylength, 1) := by decide +kernel
theorem dX1_putWeight_10 : decode cX1_putWeight 10 = .ok (.if_icmp .ge 10, 3) := by decide +kernel
theorem dX1_putWeight_13 : decode cX1_putWeight 13 = .ok (.aload_n 0, 1) := by decide +kernel
theorem dX1_putWeight_14 : decode cX1_putWeight 14 = .ok (.getfield 9, 3) := by decide +kernel
theorem dX1_putWeight_17 : decode cX1_putWeight 17 = .ok (.iload_n 1, 1) := by decide +kernel
theorem dX1_putWeight_18 : decode cX1_putWeight 18 = .ok (.iload_n 2, 1) := by decide +kernel
theorem dX1_putWeight_19 : decode cX1_putWeight 19 = .ok (.iastore, 1) := by decide +kernel
theorem dX1_putWeight_20 : decode cX1_putWeight 20 = .ok (.return_, 1) := by decide +kernel
theorem dX1_allWeights_0 : decode cX1_allWeights 0 = .ok (.iconst 0, 1) := by decide +kernel
theorem dX1_allWeights_1 : decode cX1_allWeights 1 = .ok (.istore_n 2, 1) := by decide +kernel
theorem dX1_allWeights_2 : decode cX1_allWeights 2 = .ok (.iconst 0, 1) := by decide +kernel
theorem dX1_allWeights_3 : decode cX1_allWeights 3 = .ok (.istore_n 3, 1) := by decide +kernel
theorem dX1_allWeights_4 : decode cX1_allWeights 4 = .ok (.iload_n 3, 1) := by decide +kernel
theorem dX1_allWeights_5 : decode cX1_allWeights 5 = .ok (.iload_n 1, 1) := by decide +kernel
theorem dX1_allWeights_6 : decode cX1_allWeights 6 = .ok (.if_icmp .ge 27, 3) := by decide +kernel
theorem dX1_allWeights_9 : decode cX1_allWeights 9 = .ok (.iload_n 3, 1) := by decide +kernel
theorem dX1_allWeights_10 : decode cX1_allWeights 10 = .ok (.aload_n 0, 1) := by decide +kernel
theorem dX1_allWeights_11 : decode cX1_allWeights 11 = .ok (.getfield 9, 3) := by decide +kernel
theorem dX1_allWeights_14 : decode cX1_allWeights 14 = .ok (.arraylength, 1) := by decide +kernel
theorem dX1_allWeights_15 : decode cX1_allWeights 15 = .ok (.if_icmp .ge 18, 3) := by decide +kernel
theorem dX1_allWeights_18 : decode cX1_allWeights 18 = .ok (.iload_n 2, 1) := by decide +kernel
theorem dX1_allWeights_19 : decode cX1_allWeights 19 = .ok (.aload_n 0, 1) := by decide +kernel
theorem dX1_allWeights_20 : decode cX1_allWeights 20 = .ok (.getfield 9, 3) := by decide +kernel
theorem dX1_allWeights_23 : decode cX1_allWeights 23 = .ok (.iload_n 3, 1) := by decide +kernel
theorem dX1_allWeights_24 : decode cX1_allWeights 24 = .ok (.iaload, 1) := by decide +kernel
theorem dX1_allWeights_25 : decode cX1_allWeights 25 = .ok (.iadd, 1) := by decide +kernel
theorem dX1_allWeights_26 : decode cX1_allWeights 26 = .ok (.istore_n 2, 1) := by decide +kernel
theorem dX1_allWeights_27 : decode cX1_allWeights 27 = .ok (.iinc 3 1, 3) := by decide +kernel
theorem dX1_allWeights_30 : decode cX1_allWeights 30 = .ok (.goto (-26), 3) := by decide +kernel
theorem dX1_allWeights_33 : decode cX1_allWeights 33 = .ok (.iload_n 2, 1) := by decide +kernel
theorem dX1_allWeights_34 : decode cX1_allWeights 34 = .ok (.ireturn, 1) := by decide +kernel
theorem dX1_buyWeightsOf_0 : decode cX1_buyWeightsOf 0 = .ok (.aload_n 0, 1) := by decide +kernel
theorem dX1_buyWeightsOf_1 : decode cX1_buyWeightsOf 1 = .ok (.dup, 1) := by decide +kernel
theorem dX1_buyWeightsOf_2 : decode cX1_buyWeightsOf 2 = .ok (.getfield 19, 3) := by decide +kernel
theorem dX1_buyWeightsOf_5 : decode cX1_buyWeightsOf 5 = .ok (.iconst 5, 1) := by decide +kernel
theorem dX1_buyWeightsOf_6 : decode cX1_buyWeightsOf 6 = .ok (.isub, 1) := by decide +kernel
theorem dX1_buyWeightsOf_7 : decode cX1_buyWeightsOf 7 = .ok (.putfield 19, 3) := by decide +kernel
theorem dX1_buyWeightsOf_10 : decode cX1_buyWeightsOf 10 = .ok (.aload_n 1, 1) := by decide +kernel
theorem dX1_buyWeightsOf_11 : decode cX1_buyWeightsOf 11 = .ok (.dup, 1) := by decide +kernel
theorem dX1_buyWeightsOf_12 : decode cX1_buyWeightsOf 12 = .ok (.getfield 19, 3) := by decide +kernel
theorem dX1_buyWeightsOf_15 : decode cX1_buyWeightsOf 15 = .ok (.iconst 5, 1) := by decide +kernel
theorem dX1_buyWeightsOf_16 : decode cX1_buyWeightsOf 16 = .ok (.iadd, 1) := by decide +kernel
theorem dX1_buyWeightsOf_17 : decode cX1_buyWeightsOf 17 = .ok (.putfield 19, 3) := by decide +kernel
theorem dX1_buyWeightsOf_20 : decode cX1_buyWeightsOf 20 = .ok (.iconst 0, 1) := by decide +kernel
theorem dX1_buyWeightsOf_21 : decode cX1_buyWeightsOf 21 = .ok (.istore_n 2, 1) := by decide +kernel
theorem dX1_buyWeightsOf_22 : decode cX1_buyWeightsOf 22 = .ok (.iload_n 2, 1) := by decide +kernel
theorem dX1_buyWeightsOf_23 : decode cX1_buyWeightsOf 23 = .ok (.aload_n 0, 1) := by decide +kernel
theorem dX1_buyWeightsOf_24 : decode cX1_buyWeightsOf 24 = .ok (.getfield 9, 3) := by decide +kernel
theorem dX1_buyWeightsOf_27 : decode cX1_buyWeightsOf 27 = .ok (.arraylength, 1) := by decide +kernel
theorem dX1_buyWeightsOf_28 : decode cX1_buyWeightsOf 28 = .ok (.if_icmp .ge 39, 3) := by decide +kernel
theorem dX1_buyWeightsOf_31 : decode cX1_buyWeightsOf 31 = .ok (.iload_n 2, 1) := by decide +kernel
theorem dX1_buyWeightsOf_32 : decode cX1_buyWeightsOf 32 = .ok (.aload_n 1, 1) := by decide +kernel
theorem dX1_buyWeightsOf_33 : decode cX1_buyWeightsOf 33 = .ok (.getfield 9, 3) := by decide +kernel
theorem dX1_buyWeightsOf_36 : decode cX1_buyWeightsOf 36 = .ok (.arraylength, 1) := by decide +kernel
theorem dX1_buyWeightsOf_37 : decode cX1_buyWeightsOf 37 = .ok (.if_icmp .ge 30, 3) := by decide +kernel
theorem dX1_buyWeightsOf_40 : decode cX1_buyWeightsOf 40 = .ok (.aload_n 0, 1) := by decide +kernel
theorem dX1_buyWeightsOf_41 : decode cX1_buyWeightsOf 41 = .ok (.getfield 9, 3) := by decide +kernel
theorem dX1_buyWeightsOf_44 : decode cX1_buyWeightsOf 44 = .ok (.iload_n 2, 1) := by decide +kernel
theorem dX1_buyWeightsOf_45 : decode cX1_buyWeightsOf 45 = .ok (.aload_n 0, 1) := by decide +kernel
theorem dX1_buyWeightsOf_46 : decode cX1_buyWeightsOf 46 = .ok (.getfield 9, 3) := by decide +kernel
theorem dX1_buyWeightsOf_49 : decode cX1_buyWeightsOf 49 = .ok (.iload_n 2, 1) := by decide +kernel
theorem dX1_buyWeightsOf_50 : decode cX1_buyWeightsOf 50 = .ok (.iaload, 1) := by decide +kernel
theorem dX1_buyWeightsOf_51 : decode cX1_buyWeightsOf 51 = .ok (.aload_n 1, 1) := by decide +kernel
theorem dX1_buyWeightsOf_52 : decode cX1_buyWeightsOf 52 = .ok (.getfield 9, 3) := by decide +kernel
theorem dX1_buyWeightsOf_55 : decode cX1_buyWeightsOf 55 = .ok (.iload_n 2, 1) := by decide +kernel
theorem dX1_buyWeightsOf_56 : decode cX1_buyWeightsOf 56 = .ok (.iaload, 1) := by decide +kernel
theorem dX1_buyWeightsOf_57 : decode cX1_buyWeightsOf 57 = .ok (.iadd, 1) := by decide +kernel
theorem dX1_buyWeightsOf_58 : decode cX1_buyWeightsOf 58 = .ok (.iconst 2, 1) := by decide +kernel
theorem dX1_buyWeightsOf_59 : decode cX1_buyWeightsOf 59 = .ok (.idiv, 1) := by decide +kernel
theorem dX1_buyWeightsOf_60 : decode cX1_buyWeightsOf 60 = .ok (.iastore, 1) := by decide +kernel
theorem dX1_buyWeightsOf_61 : decode cX1_buyWeightsOf 61 = .ok (.iinc 2 1, 3) := by decide +kernel
theorem dX1_buyWeightsOf_64 : decode cX1_buyWeightsOf 64 = .ok (.goto (-42), 3) := by decide +kernel
theorem dX1_buyWeightsOf_67 : decode cX1_buyWeightsOf 67 = .ok (.return_, 1) := by decide +kernel
theorem dX1_leadOfRain_0 : decode cX1_leadOfRain 0 = .ok (.iconst 0, 1) := by decide +kernel
theorem dX1_leadOfRain_1 : decode cX1_leadOfRain 1 = .ok (.istore_n 2, 1) := by decide +kernel
theorem dX1_leadOfRain_2 : decode cX1_leadOfRain 2 = .ok (.iconst 0, 1) := by decide +kernel
theorem dX1_leadOfRain_3 : decode cX1_leadOfRain 3 = .ok (.istore_n 3, 1) := by decide +kernel
theorem dX1_leadOfRain_4 : decode cX1_leadOfRain 4 = .ok (.iload_n 3, 1) := by decide +kernel
theorem dX1_leadOfRain_5 : decode cX1_leadOfRain 5 = .ok (.aload_n 1, 1) := by decide +kernel
theorem dX1_leadOfRain_6 : decode cX1_leadOfRain 6 = .ok (.arraylength, 1) := by decide +kernel
theorem dX1_leadOfRain_7 : decode cX1_leadOfRain 7 = .ok (.if_icmp .ge 31, 3) := by decide +kernel
theorem dX1_leadOfRain_10 : decode cX1_leadOfRain 10 = .ok (.iload_n 3, 1) := by decide +kernel
theorem dX1_leadOfRain_11 : decode cX1_leadOfRain 11 = .ok (.aload_n 0, 1) := by decide +kernel
theorem dX1_leadOfRain_12 : decode cX1_leadOfRain 12 = .ok (.getfield 9, 3) := by decide +kernel
theorem dX1_leadOfRain_15 : decode cX1_leadOfRain 15 = .ok (.arraylength, 1) := by decide +kernel
theorem dX1_leadOfRain_16 : decode cX1_leadOfRain 16 = .ok (.if_icmp .ge 22, 3) := by decide +kernel
theorem dX1_leadOfRain_19 : decode cX1_leadOfRain 19 = .ok (.iload_n 2, 1) := by decide +kernel
theorem dX1_leadOfRain_20 : decode cX1_leadOfRain 20 = .ok (.aload_n 1, 1) := by decide +kernel
theorem dX1_leadOfRain_21 : decode cX1_leadOfRain 21 = .ok (.iload_n 3, 1) := by decide +kernel
theorem dX1_leadOfRain_22 : decode cX1_leadOfRain 22 = .ok (.iaload, 1) := by decide +kernel
theorem dX1_leadOfRain_23 : decode cX1_leadOfRain 23 = .ok (.aload_n 0, 1) := by decide +kernel
theorem dX1_leadOfRain_24 : decode cX1_leadOfRain 24 = .ok (.getfield 9, 3) := by decide +kernel
theorem dX1_leadOfRain_27 : decode cX1_leadOfRain 27 = .ok (.iload_n 3, 1) := by decide +kernel
theorem dX1_leadOfRain_28 : decode cX1_leadOfRain 28 = .ok (.iaload, 1) := by decide +kernel
theorem dX1_leadOfRain_29 : decode cX1_leadOfRain 29 = .ok (.imul, 1) := by decide +kernel
theorem dX1_leadOfRain_30 : decode cX1_leadOfRain 30 = .ok (.iadd, 1) := by decide +kernel
theorem dX1_leadOfRain_31 : decode cX1_leadOfRain 31 = .ok (.istore_n 2, 1) := by decide +kernel
theorem dX1_leadOfRain_32 : decode cX1_leadOfRain 32 = .ok (.iinc 3 1, 3) := by decide +kernel
theorem dX1_leadOfRain_35 : decode cX1_leadOfRain 35 = .ok (.goto (-31), 3) := by decide +kernel
theorem dX1_leadOfRain_38 : decode cX1_leadOfRain 38 = .ok (.iload_n 2, 1) := by decide +kernel
theorem dX1_leadOfRain_39 : decode cX1_leadOfRain 39 = .ok (.ireturn, 1) := by decide +kernel
set_option maxRecDepth 20000 in
theorem ggX1_guessesRain_X1_leadOfRain : GoodIn wsX1_guessesRain wsX1_leadOfRain := goodIn_r _ [5, 6, 7, 8, 9, 10, 11] (by decide +kernel) (by decide +kernel)
set_option maxRecDepth 20000 in
theorem gX1_guessesRain_X1_leadOfRain : GoodIn wsX1_guessesRain (wsV RX1 34 RX1 yX1_leadOfRain wsX1_leadOfRain) := goodIn_app (goodIn_of _ (by decide +kernel)) ggX1_guessesRain_X1_leadOfRain
theorem dX1_guessesRain_0 : decode cX1_guessesRain 0 = .ok (.aload_n 0, 1) := by decide +kernel
theorem dX1_guessesRain_1 : decode cX1_guessesRain 1 = .ok (.aload_n 1, 1) := by decide +kernel
theorem dX1_guessesRain_2 : decode cX1_guessesRain 2 = .ok (.invokevirtual 34, 3) := by decide +kernel
theorem dX1_guessesRain_5 : decode cX1_guessesRain 5 = .ok (.ifCond .le 7, 3) := by decide +kernel
theorem dX1_guessesRain_8 : decode cX1_guessesRain 8 = .ok (.iconst 1, 1) := by decide +kernel
theorem dX1_guessesRain_9 : decode cX1_guessesRain 9 = .ok (.goto 4, 3) := by decide +kernel
theorem dX1_guessesRain_12 : decode cX1_guessesRain 12 = .ok (.iconst 0, 1) := by decide +kernel
theorem dX1_guessesRain_13 : decode cX1_guessesRain 13 = .ok (.ireturn, 1) := by decide +kernel
set_option maxRecDepth 20000 in
theorem ggX1_liveDay_X1_guessesRain : GoodIn wsX1_liveDay wsX1_guessesRain := goodIn_r _ [7, 8, 9, 10, 6, 11, 12, 26, 27, 28, 29, 30] (by decide +kernel) (by decide +kernel)
set_option maxRecDepth 20000 in
theorem gX1_liveDay_X1_guessesRain : GoodIn wsX1_liveDay (wsV RX1 38 RX1 yX1_guessesRain wsX1_guessesRain) := goodIn_app (goodIn_of _ (by decide +kernel)) ggX1_liveDay_X1_guessesRain
set_option maxRecDepth 20000 in
theorem ggX1_liveDay_X1_learn : GoodIn wsX1_liveDay wsX1_learn := goodIn_r _ [16, 12, 17, 18, 19, 20, 26, 27, 28, 29, 30] (by decide +kernel) (by decide +kernel)
set_option maxRecDepth 20000 in
theorem gX1_liveDay_X1_learn : GoodIn wsX1_liveDay (wsV RX1 42 RX1 yX1_learn wsX1_learn) := goodIn_app (goodIn_of _ (by decide +kernel)) ggX1_liveDay_X1_learn
set_option maxRecDepth 20000 in
theorem ggX1_liveDay_X1_sellAlmanacs : GoodIn wsX1_liveDay wsX1_sellAlmanacs := goodIn_r _ [24, 2, 25, 17, 18, 19, 20, 26, 27, 28, 29, 30] (by decide +kernel) (by decide +kernel)
set_option maxRecDepth 20000 in
theorem gX1_liveDay_X1_sellAlmanacs : GoodIn wsX1_liveDay (wsV RX1 45 RX1 yX1_sellAlmanacs wsX1_sellAlmanacs) := goodIn_app (goodIn_of _ (by decide +kernel)) ggX1_liveDay_X1_sellAlmanacs
theorem dX1_liveDay_0 : decode cX1_liveDay 0 = .ok (.aload_n 0, 1) := by decide +kernel
theorem dX1_liveDay_1 : decode cX1_liveDay 1 = .ok (.aload_n 1, 1) := by decide +kernel
theorem dX1_liveDay_2 : decode cX1_liveDay 2 = .ok (.invokevirtual 38, 3) := by decide +kernel
theorem dX1_liveDay_5 : decode cX1_liveDay 5 = .ok (.iload_n 2, 1) := by decide +kernel
theorem dX1_liveDay_6 : decode cX1_liveDay 6 = .ok (.if_icmp .ne 7, 3) := by decide +kernel
theorem dX1_liveDay_9 : decode cX1_liveDay 9 = .ok (.iconst 1, 1) := by decide +kernel
theorem dX1_liveDay_10 : decode cX1_liveDay 10 = .ok (.goto 4, 3) := by decide +kernel
theorem dX1_liveDay_13 : decode cX1_liveDay 13 = .ok (.iconst 0, 1) := by decide +kernel
theorem dX1_liveDay_14 : decode cX1_liveDay 14 = .ok (.istore_n 3, 1) := by decide +kernel
theorem dX1_liveDay_15 : decode cX1_liveDay 15 = .ok (.aload_n 0, 1) := by decide +kernel
theorem dX1_liveDay_16 : decode cX1_liveDay 16 = .ok (.dup, 1) := by decide +kernel
theorem dX1_liveDay_17 : decode cX1_liveDay 17 = .ok (.getfield 28, 3) := by decide +kernel
theorem dX1_liveDay_20 : decode cX1_liveDay 20 = .ok (.iload_n 3, 1) := by decide +kernel
theorem dX1_liveDay_21 : decode cX1_liveDay 21 = .ok (.ifCond .eq 7, 3) := by decide +kernel
theorem dX1_liveDay_24 : decode cX1_liveDay 24 = .ok (.iconst 1, 1) := by decide +kernel
theorem dX1_liveDay_25 : decode cX1_liveDay 25 = .ok (.goto 4, 3) := by decide +kernel
theorem dX1_liveDay_28 : decode cX1_liveDay 28 = .ok (.iconst 0, 1) := by decide +kernel
theorem dX1_liveDay_29 : decode cX1_liveDay 29 = .ok (.iadd, 1) := by decide +kernel
theorem dX1_liveDay_30 : decode cX1_liveDay 30 = .ok (.putfield 28, 3) := by decide +kernel
theorem dX1_liveDay_33 : decode cX1_liveDay 33 = .ok (.aload_n 0, 1) := by decide +kernel
theorem dX1_liveDay_34 : decode cX1_liveDay 34 = .ok (.iload_n 3, 1) := by decide +kernel
theorem dX1_liveDay_35 : decode cX1_liveDay 35 = .ok (.ifCond .eq 12, 3) := by decide +kernel
theorem dX1_liveDay_38 : decode cX1_liveDay 38 = .ok (.aload_n 0, 1) := by decide +kernel
theorem dX1_liveDay_39 : decode cX1_liveDay 39 = .ok (.getfield 31, 3) := by decide +kernel
theorem dX1_liveDay_42 : decode cX1_liveDay 42 = .ok (.iconst 1, 1) := by decide +kernel
theorem dX1_liveDay_43 : decode cX1_liveDay 43 = .ok (.iadd, 1) := by decide +kernel
theorem dX1_liveDay_44 : decode cX1_liveDay 44 = .ok (.goto 4, 3) := by decide +kernel
theorem dX1_liveDay_47 : decode cX1_liveDay 47 = .ok (.iconst 0, 1) := by decide +kernel
theorem dX1_liveDay_48 : decode cX1_liveDay 48 = .ok (.putfield 31, 3) := by decide +kernel
theorem dX1_liveDay_51 : decode cX1_liveDay 51 = .ok (.aload_n 0, 1) := by decide +kernel
theorem dX1_liveDay_52 : decode cX1_liveDay 52 = .ok (.aload_n 1, 1) := by decide +kernel
theorem dX1_liveDay_53 : decode cX1_liveDay 53 = .ok (.iload_n 2, 1) := by decide +kernel
theorem dX1_liveDay_54 : decode cX1_liveDay 54 = .ok (.ifCond .eq 7, 3) := by decide +kernel
theorem dX1_liveDay_57 : decode cX1_liveDay 57 = .ok (.iconst 1, 1) := by decide +kernel
theorem dX1_liveDay_58 : decode cX1_liveDay 58 = .ok (.goto 4, 3) := by decide +kernel
theorem dX1_liveDay_61 : decode cX1_liveDay 61 = .ok (.iconst (-1), 1) := by decide +kernel
theorem dX1_liveDay_62 : decode cX1_liveDay 62 = .ok (.invokevirtual 42, 3) := by decide +kernel
theorem dX1_liveDay_65 : decode cX1_liveDay 65 = .ok (.aload_n 0, 1) := by decide +kernel
theorem dX1_liveDay_66 : decode cX1_liveDay 66 = .ok (.invokevirtual 45, 3) := by decide +kernel
theorem dX1_liveDay_69 : decode cX1_liveDay 69 = .ok (.iload_n 3, 1) := by decide +kernel
theorem dX1_liveDay_70 : decode cX1_liveDay 70 = .ok (.ireturn, 1) := by decide +kernel
theorem dX1_learn_0 : decode cX1_learn 0 = .ok (.iconst 0, 1) := by decide +kernel
theorem dX1_learn_1 : decode cX1_learn 1 = .ok (.istore_n 3, 1) := by decide +kernel
theorem dX1_learn_2 : decode cX1_learn 2 = .ok (.iload_n 3, 1) := by decide +kernel
theorem dX1_learn_3 : decode cX1_learn 3 = .ok (.aload_n 0, 1) := by decide +kernel
theorem dX1_learn_4 : decode cX1_learn 4 = .ok (.getfield 9, 3) := by decide +kernel
theorem dX1_learn_7 : decode cX1_learn 7 = .ok (.arraylength, 1) := by decide +kernel
theorem dX1_learn_8 : decode cX1_learn 8 = .ok (.if_icmp .ge 71, 3) := by decide +kernel
theorem dX1_learn_11 : decode cX1_learn 11 = .ok (.iload_n 3, 1) := by decide +kernel
theorem dX1_learn_12 : decode cX1_learn 12 = .ok (.aload_n 1, 1) := by decide +kernel
theorem dX1_learn_13 : decode cX1_learn 13 = .ok (.arraylength, 1) := by decide +kernel
theorem dX1_learn_14 : decode cX1_learn 14 = .ok (.if_icmp .ge 65, 3) := by decide +kernel
theorem dX1_learn_17 : decode cX1_learn 17 = .ok (.aload_n 1, 1) := by decide +kernel
theorem dX1_learn_18 : decode cX1_learn 18 = .ok (.iload_n 3, 1) := by decide +kernel
theorem dX1_learn_19 : decode cX1_learn 19 = .ok (.iaload, 1) := by decide +kernel
theorem dX1_learn_20 : decode cX1_learn 20 = .ok (.iload_n 2, 1) := by decide +kernel
theorem dX1_learn_21 : decode cX1_learn 21 = .ok (.if_icmp .ne 25, 3) := by decide +kernel
theorem dX1_learn_24 : decode cX1_learn 24 = .ok (.aload_n 0, 1) := by decide +kernel
theorem dX1_learn_25 : decode cX1_learn 25 = .ok (.getfield 9, 3) := by decide +kernel
theorem dX1_learn_28 : decode cX1_learn 28 = .ok (.iload_n 3, 1) := by decide +kernel
theorem dX1_learn_29 : decode cX1_learn 29 = .ok (.aload_n 0, 1) := by decide +kernel
theorem dX1_learn_30 : decode cX1_learn 30 = .ok (.getfield 9, 3) := by decide +kernel
theorem dX1_learn_33 : decode cX1_learn 33 = .ok (.iload_n 3, 1) := by decide +kernel
theorem dX1_learn_34 : decode cX1_learn 34 = .ok (.iaload, 1) := by decide +kernel
theorem dX1_learn_35 : decode cX1_learn 35 = .ok (.iconst 1, 1) := by decide +kernel
theorem dX1_learn_36 : decode cX1_learn 36 = .ok (.iadd, 1) := by decide +kernel
theorem dX1_learn_37 : decode cX1_learn 37 = .ok (.bipush 100, 2) := by decide +kernel
theorem dX1_learn_39 : decode cX1_learn 39 = .ok (.invokestatic 48, 3) := by decide +kernel
theorem dX1_learn_42 : decode cX1_learn 42 = .ok (.iastore, 1) := by decide +kernel
theorem dX1_learn_43 : decode cX1_learn 43 = .ok (.goto 30, 3) := by decide +kernel
theorem dX1_learn_46 : decode cX1_learn 46 = .ok (.aload_n 1, 1) := by decide +kernel
theorem dX1_learn_47 : decode cX1_learn 47 = .ok (.iload_n 3, 1) := by decide +kernel
theorem dX1_learn_48 : decode cX1_learn 48 = .ok (.iaload, 1) := by decide +kernel
theorem dX1_learn_49 : decode cX1_learn 49 = .ok (.iload_n 2, 1) := by decide +kernel
theorem dX1_learn_50 : decode cX1_learn 50 = .ok (.ineg, 1) := by decide +kernel
theorem dX1_learn_51 : decode cX1_learn 51 = .ok (.if_icmp .ne 22, 3) := by decide +kernel
theorem dX1_learn_54 : decode cX1_learn 54 = .ok (.aload_n 0, 1) := by decide +kernel
theorem dX1_learn_55 : decode cX1_learn 55 = .ok (.getfield 9, 3) := by decide +kernel
theorem dX1_learn_58 : decode cX1_learn 58 = .ok (.iload_n 3, 1) := by decide +kernel
theorem dX1_learn_59 : decode cX1_learn 59 = .ok (.dup2, 1) := by decide +kernel
theorem dX1_learn_60 : decode cX1_learn 60 = .ok (.iaload, 1) := by decide +kernel
theorem dX1_learn_61 : decode cX1_learn 61 = .ok (.aload_n 0, 1) := by decide +kernel
theorem dX1_learn_62 : decode cX1_learn 62 = .ok (.getfield 9, 3) := by decide +kernel
theorem dX1_learn_65 : decode cX1_learn 65 = .ok (.iload_n 3, 1) := by decide +kernel
theorem dX1_learn_66 : decode cX1_learn 66 = .ok (.iaload, 1) := by decide +kernel
theorem dX1_learn_67 : decode cX1_learn 67 = .ok (.iconst 3, 1) := by decide +kernel
theorem dX1_learn_68 : decode cX1_learn 68 = .ok (.iadd, 1) := by decide +kernel
theorem dX1_learn_69 : decode cX1_learn 69 = .ok (.iconst 4, 1) := by decide +kernel
theorem dX1_learn_70 : decode cX1_learn 70 = .ok (.idiv, 1) := by decide +kernel
theorem dX1_learn_71 : decode cX1_learn 71 = .ok (.isub, 1) := by decide +kernel
theorem dX1_learn_72 : decode cX1_learn 72 = .ok (.iastore, 1) := by decide +kernel
theorem dX1_learn_73 : decode cX1_learn 73 = .ok (.iinc 3 1, 3) := by decide +kernel
theorem dX1_learn_76 : decode cX1_learn 76 = .ok (.goto (-74), 3) := by decide +kernel
theorem dX1_learn_79 : decode cX1_learn 79 = .ok (.return_, 1) := by decide +kernel
theorem dX1_sellAlmanacs_0 : decode cX1_sellAlmanacs 0 = .ok (.aload_n 0, 1) := by decide +kernel
theorem dX1_sellAlmanacs_1 : decode cX1_sellAlmanacs 1 = .ok (.getfield 31, 3) := by decide +kernel
theorem dX1_sellAlmanacs_4 : decode cX1_sellAlmanacs 4 = .ok (.iconst 1, 1) := by decide +kernel
theorem dX1_sellAlmanacs_5 : decode cX1_sellAlmanacs 5 = .ok (.if_icmp .lt 23, 3) := by decide +kernel
theorem dX1_sellAlmanacs_8 : decode cX1_sellAlmanacs 8 = .ok (.aload_n 0, 1) := by decide +kernel
theorem dX1_sellAlmanacs_9 : decode cX1_sellAlmanacs 9 = .ok (.dup, 1) := by decide +kernel
theorem dX1_sellAlmanacs_10 : decode cX1_sellAlmanacs 10 = .ok (.getfield 19, 3) := by decide +kernel
theorem dX1_sellAlmanacs_13 : decode cX1_sellAlmanacs 13 = .ok (.aload_n 0, 1) := by decide +kernel
theorem dX1_sellAlmanacs_14 : decode cX1_sellAlmanacs 14 = .ok (.getfield 31, 3) := by decide +kernel
theorem dX1_sellAlmanacs_17 : decode cX1_sellAlmanacs 17 = .ok (.iconst 5, 1) := by decide +kernel
theorem dX1_sellAlmanacs_18 : decode cX1_sellAlmanacs 18 = .ok (.invokestatic 48, 3) := by decide +kernel
theorem dX1_sellAlmanacs_21 : decode cX1_sellAlmanacs 21 = .ok (.iadd, 1) := by decide +kernel
theorem dX1_sellAlmanacs_22 : decode cX1_sellAlmanacs 22 = .ok (.putfield 19, 3) := by decide +kernel
theorem dX1_sellAlmanacs_25 : decode cX1_sellAlmanacs 25 = .ok (.goto 20, 3) := by decide +kernel
theorem dX1_sellAlmanacs_28 : decode cX1_sellAlmanacs 28 = .ok (.aload_n 0, 1) := by decide +kernel
theorem dX1_sellAlmanacs_29 : decode cX1_sellAlmanacs 29 = .ok (.getfield 19, 3) := by decide +kernel
theorem dX1_sellAlmanacs_32 : decode cX1_sellAlmanacs 32 = .ok (.ifCond .le 13, 3) := by decide +kernel
theorem dX1_sellAlmanacs_35 : decode cX1_sellAlmanacs 35 = .ok (.aload_n 0, 1) := by decide +kernel
theorem dX1_sellAlmanacs_36 : decode cX1_sellAlmanacs 36 = .ok (.dup, 1) := by decide +kernel
theorem dX1_sellAlmanacs_37 : decode cX1_sellAlmanacs 37 = .ok (.getfield 19, 3) := by decide +kernel
theorem dX1_sellAlmanacs_40 : decode cX1_sellAlmanacs 40 = .ok (.iconst 1, 1) := by decide +kernel
theorem dX1_sellAlmanacs_41 : decode cX1_sellAlmanacs 41 = .ok (.isub, 1) := by decide +kernel
theorem dX1_sellAlmanacs_42 : decode cX1_sellAlmanacs 42 = .ok (.putfield 19, 3) := by decide +kernel
theorem dX1_sellAlmanacs_45 : decode cX1_sellAlmanacs 45 = .ok (.return_, 1) := by decide +kernel
theorem dX1_isAheadOf_0 : decode cX1_isAheadOf 0 = .ok (.aload_n 0, 1) := by decide +kernel
theorem dX1_isAheadOf_1 : decode cX1_isAheadOf 1 = .ok (.getfield 28, 3) := by decide +kernel
theorem dX1_isAheadOf_4 : decode cX1_isAheadOf 4 = .ok (.aload_n 1, 1) := by decide +kernel
theorem dX1_isAheadOf_5 : decode cX1_isAheadOf 5 = .ok (.getfield 28, 3) := by decide +kernel
theorem dX1_isAheadOf_8 : decode cX1_isAheadOf 8 = .ok (.if_icmp .eq 20, 3) := by decide +kernel
theorem dX1_isAheadOf_11 : decode cX1_isAheadOf 11 = .ok (.aload_n 0, 1) := by decide +kernel
theorem dX1_isAheadOf_12 : decode cX1_isAheadOf 12 = .ok (.getfield 28, 3) := by decide +kernel
theorem dX1_isAheadOf_15 : decode cX1_isAheadOf 15 = .ok (.aload_n 1, 1) := by decide +kernel
theorem dX1_isAheadOf_16 : decode cX1_isAheadOf 16 = .ok (.getfield 28, 3) := by decide +kernel
theorem dX1_isAheadOf_19 : decode cX1_isAheadOf 19 = .ok (.if_icmp .le 7, 3) := by decide +kernel
theorem dX1_isAheadOf_22 : decode cX1_isAheadOf 22 = .ok (.iconst 1, 1) := by decide +kernel
theorem dX1_isAheadOf_23 : decode cX1_isAheadOf 23 = .ok (.goto 4, 3) := by decide +kernel
theorem dX1_isAheadOf_26 : decode cX1_isAheadOf 26 = .ok (.iconst 0, 1) := by decide +kernel
theorem dX1_isAheadOf_27 : decode cX1_isAheadOf 27 = .ok (.ireturn, 1) := by decide +kernel
theorem dX1_isAheadOf_28 : decode cX1_isAheadOf 28 = .ok (.aload_n 0, 1) := by decide +kernel
theorem dX1_isAheadOf_29 : decode cX1_isAheadOf 29 = .ok (.getfield 19, 3) := by decide +kernel
theorem dX1_isAheadOf_32 : decode cX1_isAheadOf 32 = .ok (.aload_n 1, 1) := by decide +kernel
theorem dX1_isAheadOf_33 : decode cX1_isAheadOf 33 = .ok (.getfield 19, 3) := by decide +kernel
theorem dX1_isAheadOf_36 : decode cX1_isAheadOf 36 = .ok (.if_icmp .eq 20, 3) := by decide +kernel
theorem dX1_isAheadOf_39 : decode cX1_isAheadOf 39 = .ok (.aload_n 0, 1) := by decide +kernel
theorem dX1_isAheadOf_40 : decode cX1_isAheadOf 40 = .ok (.getfield 19, 3) := by decide +kernel
theorem dX1_isAheadOf_43 : decode cX1_isAheadOf 43 = .ok (.aload_n 1, 1) := by decide +kernel
theorem dX1_isAheadOf_44 : decode cX1_isAheadOf 44 = .ok (.getfield 19, 3) := by decide +kernel
theorem dX1_isAheadOf_47 : decode cX1_isAheadOf 47 = .ok (.if_icmp .le 7, 3) := by decide +kernel
theorem dX1_isAheadOf_50 : decode cX1_isAheadOf 50 = .ok (.iconst 1, 1) := by decide +kernel
theorem dX1_isAheadOf_51 : decode cX1_isAheadOf 51 = .ok (.goto 4, 3) := by decide +kernel
theorem dX1_isAheadOf_54 : decode cX1_isAheadOf 54 = .ok (.iconst 0, 1) := by decide +kernel
theorem dX1_isAheadOf_55 : decode cX1_isAheadOf 55 = .ok (.ireturn, 1) := by decide +kernel
theorem dX1_isAheadOf_56 : decode cX1_isAheadOf 56 = .ok (.aload_n 0, 1) := by decide +kernel
theorem dX1_isAheadOf_57 : decode cX1_isAheadOf 57 = .ok (.getfield 15, 3) := by decide +kernel
theorem dX1_isAheadOf_60 : decode cX1_isAheadOf 60 = .ok (.aload_n 1, 1) := by decide +kernel
theorem dX1_isAheadOf_61 : decode cX1_isAheadOf 61 = .ok (.getfield 15, 3) := by decide +kernel
theorem dX1_isAheadOf_64 : decode cX1_isAheadOf 64 = .ok (.if_icmp .ge 7, 3) := by decide +kernel
theorem dX1_isAheadOf_67 : decode cX1_isAheadOf 67 = .ok (.iconst 1, 1) := by decide +kernel
theorem dX1_isAheadOf_68 : decode cX1_isAheadOf 68 = .ok (.goto 4, 3) := by decide +kernel
theorem dX1_isAheadOf_71 : decode cX1_isAheadOf 71 = .ok (.iconst 0, 1) := by decide +kernel
theorem dX1_isAheadOf_72 : decode cX1_isAheadOf 72 = .ok (.ireturn, 1) := by decide +kernel
set_option maxRecDepth 20000 in
theorem ggX2_init_X1_init : GoodIn wsX2_init wsX1_init := goodIn_r _ [14, 15, 2, 3, 16, 17, 18, 19, 20, 21, 22, 23, 26, 27, 28, 29, 30] (by decide +kernel) (by decide +kernel)
set_option maxRecDepth 20000 in
theorem gX2_init_X1_init : GoodIn wsX2_init (wsX1_init) := ggX2_init_X1_init
theorem dX2_init_0 : decode cX2_init 0 = .ok (.aload_n 0, 1) := by decide +kernel
theorem dX2_init_1 : decode cX2_init 1 = .ok (.invokespecial 1, 3) := by decide +kernel
theorem dX2_init_4 : decode cX2_init 4 = .ok (.aload_n 0, 1) := by decide +kernel
theorem dX2_init_5 : decode cX2_init 5 = .ok (.iload_n 1, 1) := by decide +kernel
theorem dX2_init_6 : decode cX2_init 6 = .ok (.iconst 0, 1) := by decide +kernel
theorem dX2_init_7 : decode cX2_init 7 = .ok (.invokestatic 7, 3) := by decide +kernel
theorem dX2_init_10 : decode cX2_init 10 = .ok (.anewarray 13, 3) := by decide +kernel
theorem dX2_init_13 : decode cX2_init 13 = .ok (.putfield 15, 3) := by decide +kernel
theorem dX2_init_16 : decode cX2_init 16 = .ok (.iconst 0, 1) := by decide +kernel
theorem dX2_init_17 : decode cX2_init 17 = .ok (.istore_n 2, 1) := by decide +kernel
theorem dX2_init_18 : decode cX2_init 18 = .ok (.iload_n 2, 1) := by decide +kernel
theorem dX2_init_19 : decode cX2_init 19 = .ok (.aload_n 0, 1) := by decide +kernel
theorem dX2_init_20 : decode cX2_init 20 = .ok (.getfield 15, 3) := by decide +kernel
theorem dX2_init_23 : decode cX2_init 23 = .ok (.arraylength, 1) := by decide +kernel
theorem dX2_init_24 : decode cX2_init 24 = .ok (.if_icmp .ge 23, 3) := by decide +kernel
theorem dX2_init_27 : decode cX2_init 27 = .ok (.aload_n 0, 1) := by decide +kernel
theorem dX2_init_28 : decode cX2_init 28 = .ok (.getfield 15, 3) := by decide +kernel
theorem dX2_init_31 : decode cX2_init 31 = .ok (.iload_n 2, 1) := by decide +kernel
theorem dX2_init_32 : decode cX2_init 32 = .ok (.new 13, 3) := by decide +kernel
theorem dX2_init_35 : decode cX2_init 35 = .ok (.dup, 1) := by decide +kernel
theorem dX2_init_36 : decode cX2_init 36 = .ok (.iload_n 2, 1) := by decide +kernel
theorem dX2_init_37 : decode cX2_init 37 = .ok (.invokespecial 21, 3) := by decide +kernel
theorem dX2_init_40 : decode cX2_init 40 = .ok (.aastore, 1) := by decide +kernel
theorem dX2_init_41 : decode cX2_init 41 = .ok (.iinc 2 1, 3) := by decide +kernel
theorem dX2_init_44 : decode cX2_init 44 = .ok (.goto (-26), 3) := by decide +kernel
theorem dX2_init_47 : decode cX2_init 47 = .ok (.return_, 1) := by decide +kernel
theorem dX2_size_0 : decode cX2_size 0 = .ok (.aload_n 0, 1) := by decide +kernel
theorem dX2_size_1 : decode cX2_size 1 = .ok (.getfield 24, 3) := by decide +kernel
theorem dX2_size_4 : decode cX2_size 4 = .ok (.ireturn, 1) := by decide +kernel
theorem dX2_isFull_0 : decode cX2_isFull 0 = .ok (.aload_n 0, 1) := by decide +kernel
theorem dX2_isFull_1 : decode cX2_isFull 1 = .ok (.getfield 24, 3) := by decide +kernel
theorem dX2_isFull_4 : decode cX2_isFull 4 = .ok (.aload_n 0, 1) := by decide +kernel
theorem dX2_isFull_5 : decode cX2_isFull 5 = .ok (.getfield 15, 3) := by decide +kernel
theorem dX2_isFull_8 : decode cX2_isFull 8 = .ok (.arraylength, 1) := by decide +kernel
theorem dX2_isFull_9 : decode cX2_isFull 9 = .ok (.if_icmp .lt 7, 3) := by decide +kernel
theorem dX2_isFull_12 : decode cX2_isFull 12 = .ok (.iconst 1, 1) := by decide +kernel
theorem dX2_isFull_13 : decode cX2_isFull 13 = .ok (.goto 4, 3) := by decide +kernel
theorem dX2_isFull_16 : decode cX2_isFull 16 = .ok (.iconst 0, 1) := by decide +kernel
theorem dX2_isFull_17 : decode cX2_isFull 17 = .ok (.ireturn, 1) := by decide +kernel
theorem dX2_get_0 : decode cX2_get 0 = .ok (.iload_n 1, 1) := by decide +kernel
theorem dX2_get_1 : decode cX2_get 1 = .ok (.ifCond .lt 11, 3) := by decide +kernel
theorem dX2_get_4 : decode cX2_get 4 = .ok (.iload_n 1, 1) := by decide +kernel
theorem dX2_get_5 : decode cX2_get 5 = .ok (.aload_n 0, 1) := by decide +kernel
theorem dX2_get_6 : decode cX2_get 6 = .ok (.getfield 24, 3) := by decide +kernel
theorem dX2_get_9 : decode cX2_get 9 = .ok (.if_icmp .lt 13, 3) := by decide +kernel
theorem dX2_get_12 : decode cX2_get 12 = .ok (.new 28, 3) := by decide +kernel
theorem dX2_get_15 : decode cX2_get 15 = .ok (.dup, 1) := by decide +kernel
theorem dX2_get_16 : decode cX2_get 16 = .ok (.ldc 30, 2) := by decide +kernel
theorem dX2_get_18 : decode cX2_get 18 = .ok (.invokespecial 32, 3) := by decide +kernel
theorem dX2_get_21 : decode cX2_get 21 = .ok (.athrow, 1) := by decide +kernel
theorem dX2_get_22 : decode cX2_get 22 = .ok (.aload_n 0, 1) := by decide +kernel
theorem dX2_get_23 : decode cX2_get 23 = .ok (.getfield 15, 3) := by decide +kernel
theorem dX2_get_26 : decode cX2_get 26 = .ok (.iload_n 1, 1) := by decide +kernel
theorem dX2_get_27 : decode cX2_get 27 = .ok (.aaload, 1) := by decide +kernel
theorem dX2_get_28 : decode cX2_get 28 = .ok (.areturn, 1) := by decide +kernel
set_option maxRecDepth 20000 in
theorem ggX2_grow_X2_isFull : GoodIn wsX2_grow wsX2_isFull := goodIn_r _ [6, 1, 7, 8, 9] (by decide +kernel) (by decide +kernel)
set_option maxRecDepth 20000 in
theorem gX2_grow_X2_isFull : GoodIn wsX2_grow (wsV RX2 35 RX2 yX2_isFull wsX2_isFull) := goodIn_app (goodIn_of _ (by decide +kernel)) ggX2_grow_X2_isFull
theorem dX2_grow_0 : decode cX2_grow 0 = .ok (.aload_n 0, 1) := by decide +kernel
theorem dX2_grow_1 : decode cX2_grow 1 = .ok (.invokevirtual 35, 3) := by decide +kernel
theorem dX2_grow_4 : decode cX2_grow 4 = .ok (.ifCond .ne 13, 3) := by decide +kernel
theorem dX2_grow_7 : decode cX2_grow 7 = .ok (.aload_n 0, 1) := by decide +kernel
theorem dX2_grow_8 : decode cX2_grow 8 = .ok (.dup, 1) := by decide +kernel
theorem dX2_grow_9 : decode cX2_grow 9 = .ok (.getfield 24, 3) := by decide +kernel
theorem dX2_grow_12 : decode cX2_grow 12 = .ok (.iconst 1, 1) := by decide +kernel
theorem dX2_grow_13 : decode cX2_grow 13 = .ok (.iadd, 1) := by decide +kernel
theorem dX2_grow_14 : decode cX2_grow 14 = .ok (.putfield 24, 3) := by decide +kernel
theorem dX2_grow_17 : decode cX2_grow 17 = .ok (.return_, 1) := by decide +kernel
theorem dX2_clear_0 : decode cX2_clear 0 = .ok (.aload_n 0, 1) := by decide +kernel
theorem dX2_clear_1 : decode cX2_clear 1 = .ok (.iconst 0, 1) := by decide +kernel
theorem dX2_clear_2 : decode cX2_clear 2 = .ok (.putfield 24, 3) := by decide +kernel
theorem dX2_clear_5 : decode cX2_clear 5 = .ok (.return_, 1) := by decide +kernel
set_option maxRecDepth 20000 in
theorem ggX2_addCopy_X2_isFull : GoodIn wsX2_addCopy wsX2_isFull := goodIn_r _ [7, 2, 1, 18, 19] (by decide +kernel) (by decide +kernel)
set_option maxRecDepth 20000 in
theorem gX2_addCopy_X2_isFull : GoodIn wsX2_addCopy (wsV RX2 35 RX2 yX2_isFull wsX2_isFull) := goodIn_app (goodIn_of _ (by decide +kernel)) ggX2_addCopy_X2_isFull
set_option maxRecDepth 20000 in
theorem ggX2_addCopy_X1_becomeLike : GoodIn wsX2_addCopy wsX1_becomeLike := goodIn_r _ [12, 13, 14, 15, 16, 17, 20, 21, 22, 23, 24] (by decide +kernel) (by decide +kernel)
set_option maxRecDepth 20000 in
theorem gX2_addCopy_X1_becomeLike : GoodIn wsX2_addCopy (wsV RX2 39 RX1 yX1_becomeLike wsX1_becomeLike) := goodIn_app (goodIn_of _ (by decide +kernel)) ggX2_addCopy_X1_becomeLike
theorem dX2_addCopy_0 : decode cX2_addCopy 0 = .ok (.aload_n 0, 1) := by decide +kernel
theorem dX2_addCopy_1 : decode cX2_addCopy 1 = .ok (.invokevirtual 35, 3) := by decide +kernel
theorem dX2_addCopy_4 : decode cX2_addCopy 4 = .ok (.ifCond .ne 26, 3) := by decide +kernel
theorem dX2_addCopy_7 : decode cX2_addCopy 7 = .ok (.aload_n 0, 1) := by decide +kernel
theorem dX2_addCopy_8 : decode cX2_addCopy 8 = .ok (.getfield 15, 3) := by decide +kernel
theorem dX2_addCopy_11 : decode cX2_addCopy 11 = .ok (.aload_n 0, 1) := by decide +kernel
theorem dX2_addCopy_12 : decode cX2_addCopy 12 = .ok (.getfield 24, 3) := by decide +kernel
theorem dX2_addCopy_15 : decode cX2_addCopy 15 = .ok (.aaload, 1) := by decide +kernel
theorem dX2_addCopy_16 : decode cX2_addCopy 16 = .ok (.aload_n 1, 1) := by decide +kernel
theorem dX2_addCopy_17 : decode cX2_addCopy 17 = .ok (.invokevirtual 39, 3) := by decide +kernel
theorem dX2_addCopy_20 : decode cX2_addCopy 20 = .ok (.aload_n 0, 1) := by decide +kernel
theorem dX2_addCopy_21 : decode cX2_addCopy 21 = .ok (.dup, 1) := by decide +kernel
theorem dX2_addCopy_22 : decode cX2_addCopy 22 = .ok (.getfield 24, 3) := by decide +kernel
theorem dX2_addCopy_25 : decode cX2_addCopy 25 = .ok (.iconst 1, 1) := by decide +kernel
theorem dX2_addCopy_26 : decode cX2_addCopy 26 = .ok (.iadd, 1) := by decide +kernel
theorem dX2_addCopy_27 : decode cX2_addCopy 27 = .ok (.putfield 24, 3) := by decide +kernel
theorem dX2_addCopy_30 : decode cX2_addCopy 30 = .ok (.return_, 1) := by decide +kernel
set_option maxRecDepth 20000 in
theorem ggX2_placeOf_X1_isAheadOf : GoodIn wsX2_placeOf wsX1_isAheadOf := goodIn_r _ [7, 8, 9, 10, 13, 14, 15, 16, 17] (by decide +kernel) (by decide +kernel)
set_option maxRecDepth 20000 in
theorem gX2_placeOf_X1_isAheadOf : GoodIn wsX2_placeOf (wsV RX2 43 RX1 yX1_isAheadOf wsX1_isAheadOf) := goodIn_app (goodIn_of _ (by decide +kernel)) ggX2_placeOf_X1_isAheadOf
theorem dX2_placeOf_0 : decode cX2_placeOf 0 = .ok (.iconst 1, 1) := by decide +kernel
theorem dX2_placeOf_1 : decode cX2_placeOf 1 = .ok (.istore_n 2, 1) := by decide +kernel
theorem dX2_placeOf_2 : decode cX2_placeOf 2 = .ok (.iconst 0, 1) := by decide +kernel
theorem dX2_placeOf_3 : decode cX2_placeOf 3 = .ok (.istore_n 3, 1) := by decide +kernel
theorem dX2_placeOf_4 : decode cX2_placeOf 4 = .ok (.iload_n 3, 1) := by decide +kernel
theorem dX2_placeOf_5 : decode cX2_placeOf 5 = .ok (.aload_n 0, 1) := by decide +kernel
theorem dX2_placeOf_6 : decode cX2_placeOf 6 = .ok (.getfield 24, 3) := by decide +kernel
theorem dX2_placeOf_9 : decode cX2_placeOf 9 = .ok (.if_icmp .ge 25, 3) := by decide +kernel
theorem dX2_placeOf_12 : decode cX2_placeOf 12 = .ok (.aload_n 0, 1) := by decide +kernel
theorem dX2_placeOf_13 : decode cX2_placeOf 13 = .ok (.getfield 15, 3) := by decide +kernel
theorem dX2_placeOf_16 : decode cX2_placeOf 16 = .ok (.iload_n 3, 1) := by decide +kernel
theorem dX2_placeOf_17 : decode cX2_placeOf 17 = .ok (.aaload, 1) := by decide +kernel
theorem dX2_placeOf_18 : decode cX2_placeOf 18 = .ok (.aload_n 1, 1) := by decide +kernel
theorem dX2_placeOf_19 : decode cX2_placeOf 19 = .ok (.invokevirtual 43, 3) := by decide +kernel
theorem dX2_placeOf_22 : decode cX2_placeOf 22 = .ok (.ifCond .eq 6, 3) := by decide +kernel
theorem dX2_placeOf_25 : decode cX2_placeOf 25 = .ok (.iinc 2 1, 3) := by decide +kernel
theorem dX2_placeOf_28 : decode cX2_placeOf 28 = .ok (.iinc 3 1, 3) := by decide +kernel
theorem dX2_placeOf_31 : decode cX2_placeOf 31 = .ok (.goto (-27), 3) := by decide +kernel
theorem dX2_placeOf_34 : decode cX2_placeOf 34 = .ok (.iload_n 2, 1) := by decide +kernel
theorem dX2_placeOf_35 : decode cX2_placeOf 35 = .ok (.ireturn, 1) := by decide +kernel
set_option maxRecDepth 20000 in
theorem ggX2_liveDay_X1_liveDay : GoodIn wsX2_liveDay wsX1_liveDay := goodIn_r _ [7, 8, 9, 10, 11, 12, 6, 13, 14, 15, 16, 17, 18, 19, 20, 21, 22, 23, 24, 25, 26, 27, 28, 29, 30, 31, 34, 35, 36, 37, 38] (by decide +kernel) (by decide +kernel)
set_option maxRecDepth 20000 in
theorem gX2_liveDay_X1_liveDay : GoodIn wsX2_liveDay (wsV RX2 47 RX1 yX1_liveDay wsX1_liveDay) := goodIn_app (goodIn_of _ (by decide +kernel)) ggX2_liveDay_X1_liveDay
theorem dX2_liveDay_0 : decode cX2_liveDay 0 = .ok (.iconst 0, 1) := by decide +kernel
theorem dX2_liveDay_1 : decode cX2_liveDay 1 = .ok (.istore_n 3, 1) := by decide +kernel
theorem dX2_liveDay_2 : decode cX2_liveDay 2 = .ok (.iconst 0, 1) := by decide +kernel
theorem dX2_liveDay_3 : decode cX2_liveDay 3 = .ok (.istore 4, 2) := by decide +kernel
theorem dX2_liveDay_5 : decode cX2_liveDay 5 = .ok (.iload 4, 2) := by decide +kernel
theorem dX2_liveDay_7 : decode cX2_liveDay 7 = .ok (.aload_n 0, 1) := by decide +kernel
theorem dX2_liveDay_8 : decode cX2_liveDay 8 = .ok (.getfield 24, 3) := by decide +kernel
theorem dX2_liveDay_11 : decode cX2_liveDay 11 = .ok (.if_icmp .ge 32, 3) := by decide +kernel
theorem dX2_liveDay_14 : decode cX2_liveDay 14 = .ok (.iload_n 3, 1) := by decide +kernel
theorem dX2_liveDay_15 : decode cX2_liveDay 15 = .ok (.aload_n 0, 1) := by decide +kernel
theorem dX2_liveDay_16 : decode cX2_liveDay 16 = .ok (.getfield 15, 3) := by decide +kernel
theorem dX2_liveDay_19 : decode cX2_liveDay 19 = .ok (.iload 4, 2) := by decide +kernel
theorem dX2_liveDay_21 : decode cX2_liveDay 21 = .ok (.aaload, 1) := by decide +kernel
theorem dX2_liveDay_22 : decode cX2_liveDay 22 = .ok (.aload_n 1, 1) := by decide +kernel
theorem dX2_liveDay_23 : decode cX2_liveDay 23 = .ok (.iload_n 2, 1) := by decide +kernel
theorem dX2_liveDay_24 : decode cX2_liveDay 24 = .ok (.invokevirtual 47, 3) := by decide +kernel
theorem dX2_liveDay_27 : decode cX2_liveDay 27 = .ok (.ifCond .eq 7, 3) := by decide +kernel
theorem dX2_liveDay_30 : decode cX2_liveDay 30 = .ok (.iconst 1, 1) := by decide +kernel
theorem dX2_liveDay_31 : decode cX2_liveDay 31 = .ok (.goto 4, 3) := by decide +kernel
theorem dX2_liveDay_34 : decode cX2_liveDay 34 = .ok (.iconst 0, 1) := by decide +kernel
theorem dX2_liveDay_35 : decode cX2_liveDay 35 = .ok (.iadd, 1) := by decide +kernel
theorem dX2_liveDay_36 : decode cX2_liveDay 36 = .ok (.istore_n 3, 1) := by decide +kernel
theorem dX2_liveDay_37 : decode cX2_liveDay 37 = .ok (.iinc 4 1, 3) := by decide +kernel
theorem dX2_liveDay_40 : decode cX2_liveDay 40 = .ok (.goto (-35), 3) := by decide +kernel
theorem dX2_liveDay_43 : decode cX2_liveDay 43 = .ok (.iload_n 3, 1) := by decide +kernel
theorem dX2_liveDay_44 : decode cX2_liveDay 44 = .ok (.ireturn, 1) := by decide +kernel
theorem dX2_allPoints_0 : decode cX2_allPoints 0 = .ok (.iconst 0, 1) := by decide +kernel
theorem dX2_allPoints_1 : decode cX2_allPoints 1 = .ok (.istore_n 1, 1) := by decide +kernel
theorem dX2_allPoints_2 : decode cX2_allPoints 2 = .ok (.iconst 0, 1) := by decide +kernel
theorem dX2_allPoints_3 : decode cX2_allPoints 3 = .ok (.istore_n 2, 1) := by decide +kernel
theorem dX2_allPoints_4 : decode cX2_allPoints 4 = .ok (.iload_n 2, 1) := by decide +kernel
theorem dX2_allPoints_5 : decode cX2_allPoints 5 = .ok (.aload_n 0, 1) := by decide +kernel
theorem dX2_allPoints_6 : decode cX2_allPoints 6 = .ok (.getfield 24, 3) := by decide +kernel
theorem dX2_allPoints_9 : decode cX2_allPoints 9 = .ok (.if_icmp .ge 21, 3) := by decide +kernel
theorem dX2_allPoints_12 : decode cX2_allPoints 12 = .ok (.iload_n 1, 1) := by decide +kernel
theorem dX2_allPoints_13 : decode cX2_allPoints 13 = .ok (.aload_n 0, 1) := by decide +kernel
theorem dX2_allPoints_14 : decode cX2_allPoints 14 = .ok (.getfield 15, 3) := by decide +kernel
theorem dX2_allPoints_17 : decode cX2_allPoints 17 = .ok (.iload_n 2, 1) := by decide +kernel
theorem dX2_allPoints_18 : decode cX2_allPoints 18 = .ok (.aaload, 1) := by decide +kernel
theorem dX2_allPoints_19 : decode cX2_allPoints 19 = .ok (.getfield 51, 3) := by decide +kernel
theorem dX2_allPoints_22 : decode cX2_allPoints 22 = .ok (.iadd, 1) := by decide +kernel
theorem dX2_allPoints_23 : decode cX2_allPoints 23 = .ok (.istore_n 1, 1) := by decide +kernel
theorem dX2_allPoints_24 : decode cX2_allPoints 24 = .ok (.iinc 2 1, 3) := by decide +kernel
theorem dX2_allPoints_27 : decode cX2_allPoints 27 = .ok (.goto (-23), 3) := by decide +kernel
theorem dX2_allPoints_30 : decode cX2_allPoints 30 = .ok (.iload_n 1, 1) := by decide +kernel
theorem dX2_allPoints_31 : decode cX2_allPoints 31 = .ok (.ireturn, 1) := by decide +kernel
theorem dX2_allCoins_0 : decode cX2_allCoins 0 = .ok (.iconst 0, 1) := by decide +kernel
theorem dX2_allCoins_1 : decode cX2_allCoins 1 = .ok (.istore_n 1, 1) := by decide +kernel
theorem dX2_allCoins_2 : decode cX2_allCoins 2 = .ok (.iconst 0, 1) := by decide +kernel
theorem dX2_allCoins_3 : decode cX2_allCoins 3 = .ok (.istore_n 2, 1) := by decide +kernel
theorem dX2_allCoins_4 : decode cX2_allCoins 4 = .ok (.iload_n 2, 1) := by decide +kernel
theorem dX2_allCoins_5 : decode cX2_allCoins 5 = .ok (.aload_n 0, 1) := by decide +kernel
theorem dX2_allCoins_6 : decode cX2_allCoins 6 = .ok (.getfield 24, 3) := by decide +kernel
theorem dX2_allCoins_9 : decode cX2_allCoins 9 = .ok (.if_icmp .ge 21, 3) := by decide +kernel
theorem dX2_allCoins_12 : decode cX2_allCoins 12 = .ok (.iload_n 1, 1) := by decide +kernel
theorem dX2_allCoins_13 : decode cX2_allCoins 13 = .ok (.aload_n 0, 1) := by decide +kernel
theorem dX2_allCoins_14 : decode cX2_allCoins 14 = .ok (.getfield 15, 3) := by decide +kernel
theorem dX2_allCoins_17 : decode cX2_allCoins 17 = .ok (.iload_n 2, 1) := by decide +kernel
theorem dX2_allCoins_18 : decode cX2_allCoins 18 = .ok (.aaload, 1) := by decide +kernel
theorem dX2_allCoins_19 : decode cX2_allCoins 19 = .ok (.getfield 54, 3) := by decide +kernel
theorem dX2_allCoins_22 : decode cX2_allCoins 22 = .ok (.iadd, 1) := by decide +kernel
theorem dX2_allCoins_23 : decode cX2_allCoins 23 = .ok (.istore_n 1, 1) := by decide +kernel
theorem dX2_allCoins_24 : decode cX2_allCoins 24 = .ok (.iinc 2 1, 3) := by decide +kernel
theorem dX2_allCoins_27 : decode cX2_allCoins 27 = .ok (.goto (-23), 3) := by decide +kernel
theorem dX2_allCoins_30 : decode cX2_allCoins 30 = .ok (.iload_n 1, 1) := by decide +kernel
theorem dX2_allCoins_31 : decode cX2_allCoins 31 = .ok (.ireturn, 1) := by decide +kernel
set_option maxRecDepth 20000 in
theorem ggX2_allWeightsOf_X1_weightOf : GoodIn wsX2_allWeightsOf wsX1_weightOf := goodIn_r _ [7, 8, 11, 12, 13, 14, 15] (by decide +kernel) (by decide +kernel)
set_option maxRecDepth 20000 in
theorem gX2_allWeightsOf_X1_weightOf : GoodIn wsX2_allWeightsOf (wsV RX2 57 RX1 yX1_weightOf wsX1_weightOf) := goodIn_app (goodIn_of _ (by decide +kernel)) ggX2_allWeightsOf_X1_weightOf
theorem dX2_allWeightsOf_0 : decode cX2_allWeightsOf 0 = .ok (.iconst 0, 1) := by decide +kernel
theorem dX2_allWeightsOf_1 : decode cX2_allWeightsOf 1 = .ok (.istore_n 2, 1) := by decide +kernel
theorem dX2_allWeightsOf_2 : decode cX2_allWeightsOf 2 = .ok (.iconst 0, 1) := by decide +kernel
theorem dX2_allWeightsOf_3 : decode cX2_allWeightsOf 3 = .ok (.istore_n 3, 1) := by decide +kernel
theorem dX2_allWeightsOf_4 : decode cX2_allWeightsOf 4 = .ok (.iload_n 3, 1) := by decide +kernel
theorem dX2_allWeightsOf_5 : decode cX2_allWeightsOf 5 = .ok (.aload_n 0, 1) := by decide +kernel
theorem dX2_allWeightsOf_6 : decode cX2_allWeightsOf 6 = .ok (.getfield 24, 3) := by decide +kernel
theorem dX2_allWeightsOf_9 : decode cX2_allWeightsOf 9 = .ok (.if_icmp .ge 22, 3) := by decide +kernel
theorem dX2_allWeightsOf_12 : decode cX2_allWeightsOf 12 = .ok (.iload_n 2, 1) := by decide +kernel
theorem dX2_allWeightsOf_13 : decode cX2_allWeightsOf 13 = .ok (.aload_n 0, 1) := by decide +kernel
theorem dX2_allWeightsOf_14 : decode cX2_allWeightsOf 14 = .ok (.getfield 15, 3) := by decide +kernel
theorem dX2_allWeightsOf_17 : decode cX2_allWeightsOf 17 = .ok (.iload_n 3, 1) := by decide +kernel
theorem dX2_allWeightsOf_18 : decode cX2_allWeightsOf 18 = .ok (.aaload, 1) := by decide +kernel
theorem dX2_allWeightsOf_19 : decode cX2_allWeightsOf 19 = .ok (.iload_n 1, 1) := by decide +kernel
theorem dX2_allWeightsOf_20 : decode cX2_allWeightsOf 20 = .ok (.invokevirtual 57, 3) := by decide +kernel
theorem dX2_allWeightsOf_23 : decode cX2_allWeightsOf 23 = .ok (.iadd, 1) := by decide +kernel
theorem dX2_allWeightsOf_24 : decode cX2_allWeightsOf 24 = .ok (.istore_n 2, 1) := by decide +kernel
theorem dX2_allWeightsOf_25 : decode cX2_allWeightsOf 25 = .ok (.iinc 3 1, 3) := by decide +kernel
theorem dX2_allWeightsOf_28 : decode cX2_allWeightsOf 28 = .ok (.goto (-24), 3) := by decide +kernel
theorem dX2_allWeightsOf_31 : decode cX2_allWeightsOf 31 = .ok (.iload_n 2, 1) := by decide +kernel
theorem dX2_allWeightsOf_32 : decode cX2_allWeightsOf 32 = .ok (.ireturn, 1) := by decide +kernel
set_option maxRecDepth 20000 in
theorem ggX2_guessingRain_X1_guessesRain : GoodIn wsX2_guessingRain wsX1_guessesRain := goodIn_r _ [7, 8, 9, 10, 6, 11, 12, 15, 16, 17, 18, 19] (by decide +kernel) (by decide +kernel)
set_option maxRecDepth 20000 in
theorem gX2_guessingRain_X1_guessesRain : GoodIn wsX2_guessingRain (wsV RX2 61 RX1 yX1_guessesRain wsX1_guessesRain) := goodIn_app (goodIn_of _ (by decide +kernel)) ggX2_guessingRain_X1_guessesRain
theorem dX2_guessingRain_0 : decode cX2_guessingRain 0 = .ok (.iconst 0, 1) := by decide +kernel
theorem dX2_guessingRain_1 : decode cX2_guessingRain 1 = .ok (.istore_n 2, 1) := by decide +kernel
theorem dX2_guessingRain_2 : decode cX2_guessingRain 2 = .ok (.iconst 0, 1) := by decide +kernel
theorem dX2_guessingRain_3 : decode cX2_guessingRain 3 = .ok (.istore_n 3, 1) := by decide +kernel
theorem dX2_guessingRain_4 : decode cX2_guessingRain 4 = .ok (.iload_n 3, 1) := by decide +kernel
theorem dX2_guessingRain_5 : decode cX2_guessingRain 5 = .ok (.aload_n 0, 1) := by decide +kernel
theorem dX2_guessingRain_6 : decode cX2_guessingRain 6 = .ok (.getfield 24, 3) := by decide +kernel
theorem dX2_guessingRain_9 : decode cX2_guessingRain 9 = .ok (.if_icmp .ge 30, 3) := by decide +kernel
theorem dX2_guessingRain_12 : decode cX2_guessingRain 12 = .ok (.iload_n 2, 1) := by decide +kernel
theorem dX2_guessingRain_13 : decode cX2_guessingRain 13 = .ok (.aload_n 0, 1) := by decide +kernel
theorem dX2_guessingRain_14 : decode cX2_guessingRain 14 = .ok (.getfield 15, 3) := by decide +kernel
theorem dX2_guessingRain_17 : decode cX2_guessingRain 17 = .ok (.iload_n 3, 1) := by decide +kernel
theorem dX2_guessingRain_18 : decode cX2_guessingRain 18 = .ok (.aaload, 1) := by decide +kernel
theorem dX2_guessingRain_19 : decode cX2_guessingRain 19 = .ok (.aload_n 1, 1) := by decide +kernel
theorem dX2_guessingRain_20 : decode cX2_guessingRain 20 = .ok (.invokevirtual 61, 3) := by decide +kernel
theorem dX2_guessingRain_23 : decode cX2_guessingRain 23 = .ok (.ifCond .eq 7, 3) := by decide +kernel
theorem dX2_guessingRain_26 : decode cX2_guessingRain 26 = .ok (.iconst 1, 1) := by decide +kernel
theorem dX2_guessingRain_27 : decode cX2_guessingRain 27 = .ok (.goto 4, 3) := by decide +kernel
theorem dX2_guessingRain_30 : decode cX2_guessingRain 30 = .ok (.iconst 0, 1) := by decide +kernel
theorem dX2_guessingRain_31 : decode cX2_guessingRain 31 = .ok (.iadd, 1) := by decide +kernel
theorem dX2_guessingRain_32 : decode cX2_guessingRain 32 = .ok (.istore_n 2, 1) := by decide +kernel
theorem dX2_guessingRain_33 : decode cX2_guessingRain 33 = .ok (.iinc 3 1, 3) := by decide +kernel
theorem dX2_guessingRain_36 : decode cX2_guessingRain 36 = .ok (.goto (-32), 3) := by decide +kernel
theorem dX2_guessingRain_39 : decode cX2_guessingRain 39 = .ok (.iload_n 2, 1) := by decide +kernel
theorem dX2_guessingRain_40 : decode cX2_guessingRain 40 = .ok (.ireturn, 1) := by decide +kernel
set_option maxRecDepth 20000 in
theorem ggX3_init_J7_fill_53178 : GoodIn wsX3_init wsJ7_fill_53178 := goodIn_r _ [11] (by decide +kernel) (by decide +kernel)
set_option maxRecDepth 20000 in
theorem gX3_init_J7_fill_53178 : GoodIn wsX3_init (va_wsS RX3 19 yJ7_fill_53178 wsJ7_fill_53178) := goodIn_app (goodIn_of _ (by decide +kernel)) ggX3_init_J7_fill_53178
theorem dX3_init_0 : decode cX3_init 0 = .ok (.aload_n 0, 1) := by decide +kernel
theorem dX3_init_1 : decode cX3_init 1 = .ok (.invokespecial 3, 3) := by decide +kernel
theorem dX3_init_4 : decode cX3_init 4 = .ok (.aload_n 0, 1) := by decide +kernel
theorem dX3_init_5 : decode cX3_init 5 = .ok (.bipush 12, 2) := by decide +kernel
theorem dX3_init_7 : decode cX3_init 7 = .ok (.newarray .int, 2) := by decide +kernel
theorem dX3_init_9 : decode cX3_init 9 = .ok (.putfield 9, 3) := by decide +kernel
theorem dX3_init_12 : decode cX3_init 12 = .ok (.aload_n 0, 1) := by decide +kernel
theorem dX3_init_13 : decode cX3_init 13 = .ok (.bipush 12, 2) := by decide +kernel
theorem dX3_init_15 : decode cX3_init 15 = .ok (.newarray .boolean, 2) := by decide +kernel
theorem dX3_init_17 : decode cX3_init 17 = .ok (.putfield 15, 3) := by decide +kernel
theorem dX3_init_20 : decode cX3_init 20 = .ok (.aload_n 0, 1) := by decide +kernel
theorem dX3_init_21 : decode cX3_init 21 = .ok (.getfield 9, 3) := by decide +kernel
theorem dX3_init_24 : decode cX3_init 24 = .ok (.bipush 30, 2) := by decide +kernel
theorem dX3_init_26 : decode cX3_init 26 = .ok (.invokestatic 19, 3) := by decide +kernel
theorem dX3_init_29 : decode cX3_init 29 = .ok (.return_, 1) := by decide +kernel
set_option maxRecDepth 20000 in
theorem ggX3_glassOn_J9_floorMod_7cf53 : GoodIn wsX3_glassOn wsJ9_floorMod_7cf53 := goodIn_r _ [5] (by decide +kernel) (by decide +kernel)
set_option maxRecDepth 20000 in
theorem gX3_glassOn_J9_floorMod_7cf53 : GoodIn wsX3_glassOn (va_wsS RX3 25 yJ9_floorMod_7cf53 wsJ9_floorMod_7cf53) := goodIn_app (goodIn_of _ (by decide +kernel)) ggX3_glassOn_J9_floorMod_7cf53
theorem dX3_glassOn_0 : decode cX3_glassOn 0 = .ok (.aload_n 0, 1) := by decide +kernel
theorem dX3_glassOn_1 : decode cX3_glassOn 1 = .ok (.getfield 9, 3) := by decide +kernel
theorem dX3_glassOn_4 : decode cX3_glassOn 4 = .ok (.iload_n 1, 1) := by decide +kernel
theorem dX3_glassOn_5 : decode cX3_glassOn 5 = .ok (.bipush 12, 2) := by decide +kernel
theorem dX3_glassOn_7 : decode cX3_glassOn 7 = .ok (.invokestatic 25, 3) := by decide +kernel
theorem dX3_glassOn_10 : decode cX3_glassOn 10 = .ok (.iaload, 1) := by decide +kernel
theorem dX3_glassOn_11 : decode cX3_glassOn 11 = .ok (.ireturn, 1) := by decide +kernel
set_option maxRecDepth 20000 in
theorem ggX3_putGlass_J9_floorMod_7cf53 : GoodIn wsX3_putGlass wsJ9_floorMod_7cf53 := goodIn_r _ [5] (by decide +kernel) (by decide +kernel)
set_option maxRecDepth 20000 in
theorem gX3_putGlass_J9_floorMod_7cf53 : GoodIn wsX3_putGlass (va_wsS RX3 25 yJ9_floorMod_7cf53 wsJ9_floorMod_7cf53) := goodIn_app (goodIn_of _ (by decide +kernel)) ggX3_putGlass_J9_floorMod_7cf53
theorem dX3_putGlass_0 : decode cX3_putGlass 0 = .ok (.aload_n 0, 1) := by decide +kernel
theorem dX3_putGlass_1 : decode cX3_putGlass 1 = .ok (.getfield 9, 3) := by decide +kernel
theorem dX3_putGlass_4 : decode cX3_putGlass 4 = .ok (.iload_n 1, 1) := by decide +kernel
theorem dX3_putGlass_5 : decode cX3_putGlass 5 = .ok (.bipush 12, 2) := by decide +kernel
theorem dX3_putGlass_7 : decode cX3_putGlass 7 = .ok (.invokestatic 25, 3) := by decide +kernel
theorem dX3_putGlass_10 : decode cX3_putGlass 10 = .ok (.iload_n 2, 1) := by decide +kernel
theorem dX3_putGlass_11 : decode cX3_putGlass 11 = .ok (.iastore, 1) := by decide +kernel
theorem dX3_putGlass_12 : decode cX3_putGlass 12 = .ok (.return_, 1) := by decide +kernel
set_option maxRecDepth 20000 in
theorem ggX3_rainsOn_J9_floorMod_7cf53 : GoodIn wsX3_rainsOn wsJ9_floorMod_7cf53 := goodIn_r _ [5] (by decide +kernel) (by decide +kernel)
set_option maxRecDepth 20000 in
theorem gX3_rainsOn_J9_floorMod_7cf53 : GoodIn wsX3_rainsOn (va_wsS RX3 25 yJ9_floorMod_7cf53 wsJ9_floorMod_7cf53) := goodIn_app (goodIn_of _ (by decide +kernel)) ggX3_rainsOn_J9_floorMod_7cf53
theorem dX3_rainsOn_0 : decode cX3_rainsOn 0 = .ok (.aload_n 0, 1) := by decide +kernel
theorem dX3_rainsOn_1 : decode cX3_rainsOn 1 = .ok (.getfield 15, 3) := by decide +kernel
theorem dX3_rainsOn_4 : decode cX3_rainsOn 4 = .ok (.iload_n 1, 1) := by decide +kernel
theorem dX3_rainsOn_5 : decode cX3_rainsOn 5 = .ok (.bipush 12, 2) := by decide +kernel
theorem dX3_rainsOn_7 : decode cX3_rainsOn 7 = .ok (.invokestatic 25, 3) := by decide +kernel
theorem dX3_rainsOn_10 : decode cX3_rainsOn 10 = .ok (.baload, 1) := by decide +kernel
theorem dX3_rainsOn_11 : decode cX3_rainsOn 11 = .ok (.ireturn, 1) := by decide +kernel
set_option maxRecDepth 20000 in
theorem ggX3_putRain_J9_floorMod_7cf53 : GoodIn wsX3_putRain wsJ9_floorMod_7cf53 := goodIn_r _ [5] (by decide +kernel) (by decide +kernel)
set_option maxRecDepth 20000 in
theorem gX3_putRain_J9_floorMod_7cf53 : GoodIn wsX3_putRain (va_wsS RX3 25 yJ9_floorMod_7cf53 wsJ9_floorMod_7cf53) := goodIn_app (goodIn_of _ (by decide +kernel)) ggX3_putRain_J9_floorMod_7cf53
theorem dX3_putRain_0 : decode cX3_putRain 0 = .ok (.aload_n 0, 1) := by decide +kernel
theorem dX3_putRain_1 : decode cX3_putRain 1 = .ok (.getfield 15, 3) := by decide +kernel
theorem dX3_putRain_4 : decode cX3_putRain 4 = .ok (.iload_n 1, 1) := by decide +kernel
theorem dX3_putRain_5 : decode cX3_putRain 5 = .ok (.bipush 12, 2) := by decide +kernel
theorem dX3_putRain_7 : decode cX3_putRain 7 = .ok (.invokestatic 25, 3) := by decide +kernel
theorem dX3_putRain_10 : decode cX3_putRain 10 = .ok (.iload_n 2, 1) := by decide +kernel
theorem dX3_putRain_11 : decode cX3_putRain 11 = .ok (.bastore, 1) := by decide +kernel
theorem dX3_putRain_12 : decode cX3_putRain 12 = .ok (.return_, 1) := by decide +kernel
theorem dX3_rainyDays_0 : decode cX3_rainyDays 0 = .ok (.iconst 0, 1) := by decide +kernel
theorem dX3_rainyDays_1 : decode cX3_rainyDays 1 = .ok (.istore_n 1, 1) := by decide +kernel
theorem dX3_rainyDays_2 : decode cX3_rainyDays 2 = .ok (.aload_n 0, 1) := by decide +kernel
theorem dX3_rainyDays_3 : decode cX3_rainyDays 3 = .ok (.getfield 15, 3) := by decide +kernel
theorem dX3_rainyDays_6 : decode cX3_rainyDays 6 = .ok (.astore_n 2, 1) := by decide +kernel
theorem dX3_rainyDays_7 : decode cX3_rainyDays 7 = .ok (.aload_n 2, 1) := by decide +kernel
theorem dX3_rainyDays_8 : decode cX3_rainyDays 8 = .ok (.arraylength, 1) := by decide +kernel
theorem dX3_rainyDays_9 : decode cX3_rainyDays 9 = .ok (.istore_n 3, 1) := by decide +kernel
theorem dX3_rainyDays_10 : decode cX3_rainyDays 10 = .ok (.iconst 0, 1) := by decide +kernel
theorem dX3_rainyDays_11 : decode cX3_rainyDays 11 = .ok (.istore 4, 2) := by decide +kernel
theorem dX3_rainyDays_13 : decode cX3_rainyDays 13 = .ok (.iload 4, 2) := by decide +kernel
theorem dX3_rainyDays_15 : decode cX3_rainyDays 15 = .ok (.iload_n 3, 1) := by decide +kernel
theorem dX3_rainyDays_16 : decode cX3_rainyDays 16 = .ok (.if_icmp .ge 28, 3) := by decide +kernel
theorem dX3_rainyDays_19 : decode cX3_rainyDays 19 = .ok (.aload_n 2, 1) := by decide +kernel
theorem dX3_rainyDays_20 : decode cX3_rainyDays 20 = .ok (.iload 4, 2) := by decide +kernel
theorem dX3_rainyDays_22 : decode cX3_rainyDays 22 = .ok (.baload, 1) := by decide +kernel
theorem dX3_rainyDays_23 : decode cX3_rainyDays 23 = .ok (.istore 5, 2) := by decide +kernel
theorem dX3_rainyDays_25 : decode cX3_rainyDays 25 = .ok (.iload_n 1, 1) := by decide +kernel
theorem dX3_rainyDays_26 : decode cX3_rainyDays 26 = .ok (.iload 5, 2) := by decide +kernel
theorem dX3_rainyDays_28 : decode cX3_rainyDays 28 = .ok (.ifCond .eq 7, 3) := by decide +kernel
theorem dX3_rainyDays_31 : decode cX3_rainyDays 31 = .ok (.iconst 1, 1) := by decide +kernel
theorem dX3_rainyDays_32 : decode cX3_rainyDays 32 = .ok (.goto 4, 3) := by decide +kernel
theorem dX3_rainyDays_35 : decode cX3_rainyDays 35 = .ok (.iconst 0, 1) := by decide +kernel
theorem dX3_rainyDays_36 : decode cX3_rainyDays 36 = .ok (.iadd, 1) := by decide +kernel
theorem dX3_rainyDays_37 : decode cX3_rainyDays 37 = .ok (.istore_n 1, 1) := by decide +kernel
theorem dX3_rainyDays_38 : decode cX3_rainyDays 38 = .ok (.iinc 4 1, 3) := by decide +kernel
theorem dX3_rainyDays_41 : decode cX3_rainyDays 41 = .ok (.goto (-28), 3) := by decide +kernel
theorem dX3_rainyDays_44 : decode cX3_rainyDays 44 = .ok (.iload_n 1, 1) := by decide +kernel
theorem dX3_rainyDays_45 : decode cX3_rainyDays 45 = .ok (.ireturn, 1) := by decide +kernel
theorem dJ9_floorMod_7cf53_0 : decode cJ9_floorMod_7cf53 0 = .ok (.iload_n 0, 1) := by decide +kernel
theorem dJ9_floorMod_7cf53_1 : decode cJ9_floorMod_7cf53 1 = .ok (.iload_n 1, 1) := by decide +kernel
theorem dJ9_floorMod_7cf53_2 : decode cJ9_floorMod_7cf53 2 = .ok (.irem, 1) := by decide +kernel
theorem dJ9_floorMod_7cf53_3 : decode cJ9_floorMod_7cf53 3 = .ok (.istore_n 2, 1) := by decide +kernel
theorem dJ9_floorMod_7cf53_4 : decode cJ9_floorMod_7cf53 4 = .ok (.iload_n 0, 1) := by decide +kernel
theorem dJ9_floorMod_7cf53_5 : decode cJ9_floorMod_7cf53 5 = .ok (.iload_n 1, 1) := by decide +kernel
theorem dJ9_floorMod_7cf53_6 : decode cJ9_floorMod_7cf53 6 = .ok (.ixor, 1) := by decide +kernel
theorem dJ9_floorMod_7cf53_7 : decode cJ9_floorMod_7cf53 7 = .ok (.ifCond .ge 11, 3) := by decide +kernel
theorem dJ9_floorMod_7cf53_10 : decode cJ9_floorMod_7cf53 10 = .ok (.iload_n 2, 1) := by decide +kernel
theorem dJ9_floorMod_7cf53_11 : decode cJ9_floorMod_7cf53 11 = .ok (.ifCond .eq 7, 3) := by decide +kernel
theorem dJ9_floorMod_7cf53_14 : decode cJ9_floorMod_7cf53 14 = .ok (.iload_n 2, 1) := by decide +kernel
theorem dJ9_floorMod_7cf53_15 : decode cJ9_floorMod_7cf53 15 = .ok (.iload_n 1, 1) := by decide +kernel
theorem dJ9_floorMod_7cf53_16 : decode cJ9_floorMod_7cf53 16 = .ok (.iadd, 1) := by decide +kernel
theorem dJ9_floorMod_7cf53_17 : decode cJ9_floorMod_7cf53 17 = .ok (.ireturn, 1) := by decide +kernel
theorem dJ9_floorMod_7cf53_18 : decode cJ9_floorMod_7cf53 18 = .ok (.iload_n 2, 1) := by decide +kernel
theorem dJ9_floorMod_7cf53_19 : decode cJ9_floorMod_7cf53 19 = .ok (.ireturn, 1) := by decide +kernel
theorem dJ9_max_7cf53_0 : decode cJ9_max_7cf53 0 = .ok (.iload_n 0, 1) := by decide +kernel
theorem dJ9_max_7cf53_1 : decode cJ9_max_7cf53 1 = .ok (.iload_n 1, 1) := by decide +kernel
theorem dJ9_max_7cf53_2 : decode cJ9_max_7cf53 2 = .ok (.if_icmp .lt 7, 3) := by decide +kernel
theorem dJ9_max_7cf53_5 : decode cJ9_max_7cf53 5 = .ok (.iload_n 0, 1) := by decide +kernel
theorem dJ9_max_7cf53_6 : decode cJ9_max_7cf53 6 = .ok (.goto 4, 3) := by decide +kernel
theorem dJ9_max_7cf53_9 : decode cJ9_max_7cf53 9 = .ok (.iload_n 1, 1) := by decide +kernel
theorem dJ9_max_7cf53_10 : decode cJ9_max_7cf53 10 = .ok (.ireturn, 1) := by decide +kernel
theorem dJ9_min_7cf53_0 : decode cJ9_min_7cf53 0 = .ok (.iload_n 0, 1) := by decide +kernel
theorem dJ9_min_7cf53_1 : decode cJ9_min_7cf53 1 = .ok (.iload_n 1, 1) := by decide +kernel
theorem dJ9_min_7cf53_2 : decode cJ9_min_7cf53 2 = .ok (.if_icmp .gt 7, 3) := by decide +kernel
theorem dJ9_min_7cf53_5 : decode cJ9_min_7cf53 5 = .ok (.iload_n 0, 1) := by decide +kernel
theorem dJ9_min_7cf53_6 : decode cJ9_min_7cf53 6 = .ok (.goto 4, 3) := by decide +kernel
theorem dJ9_min_7cf53_9 : decode cJ9_min_7cf53 9 = .ok (.iload_n 1, 1) := by decide +kernel
theorem dJ9_min_7cf53_10 : decode cJ9_min_7cf53 10 = .ok (.ireturn, 1) := by decide +kernel
theorem dJxa1e45_init_da8c8_0 : decode cJxa1e45_init_da8c8 0 = .ok (.aload_n 0, 1) := by decide +kernel
theorem dJxa1e45_init_da8c8_1 : decode cJxa1e45_init_da8c8 1 = .ok (.invokespecial 1, 3) := by decide +kernel
theorem dJxa1e45_init_da8c8_4 : decode cJxa1e45_init_da8c8 4 = .ok (.return_, 1) := by decide +kernel
set_option maxRecDepth 20000 in
theorem ggJxc12de_init_da8c8_Jxa1e45_init_da8c8 : GoodIn wsJxc12de_init_da8c8 wsJxa1e45_init_da8c8 := goodIn_r _ [5, 6, 7, 8] (by decide +kernel) (by decide +kernel)
set_option maxRecDepth 20000 in
theorem gJxc12de_init_da8c8_Jxa1e45_init_da8c8 : GoodIn wsJxc12de_init_da8c8 (wsJxa1e45_init_da8c8) := ggJxc12de_init_da8c8_Jxa1e45_init_da8c8
theorem dJxc12de_init_da8c8_0 : decode cJxc12de_init_da8c8 0 = .ok (.aload_n 0, 1) := by decide +kernel
theorem dJxc12de_init_da8c8_1 : decode cJxc12de_init_da8c8 1 = .ok (.invokespecial 1, 3) := by decide +kernel
theorem dJxc12de_init_da8c8_4 : decode cJxc12de_init_da8c8 4 = .ok (.aload_n 0, 1) := by decide +kernel
theorem dJxc12de_init_da8c8_5 : decode cJxc12de_init_da8c8 5 = .ok (.iconst 0, 1) := by decide +kernel
theorem dJxc12de_init_da8c8_6 : decode cJxc12de_init_da8c8 6 = .ok (.putfield 7, 3) := by decide +kernel
theorem dJxc12de_init_da8c8_9 : decode cJxc12de_init_da8c8 9 = .ok (.return_, 1) := by decide +kernel
set_option maxRecDepth 20000 in
theorem ggJx4a65c_init_da8c8_Jxc12de_init_da8c8 : GoodIn wsJx4a65c_init_da8c8 wsJxc12de_init_da8c8 := goodIn_r _ [6, 7, 8, 9, 10, 11, 12, 13, 14, 15, 16, 17] (by decide +kernel) (by decide +kernel)
set_option maxRecDepth 20000 in
theorem gJx4a65c_init_da8c8_Jxc12de_init_da8c8 : GoodIn wsJx4a65c_init_da8c8 (wsJxc12de_init_da8c8) := ggJx4a65c_init_da8c8_Jxc12de_init_da8c8
theorem dJx4a65c_init_da8c8_0 : decode cJx4a65c_init_da8c8 0 = .ok (.aload_n 0, 1) := by decide +kernel
theorem dJx4a65c_init_da8c8_1 : decode cJx4a65c_init_da8c8 1 = .ok (.invokespecial 1, 3) := by decide +kernel
theorem dJx4a65c_init_da8c8_4 : decode cJx4a65c_init_da8c8 4 = .ok (.aload_n 0, 1) := by decide +kernel
theorem dJx4a65c_init_da8c8_5 : decode cJx4a65c_init_da8c8 5 = .ok (.getstatic 39, 3) := by decide +kernel
theorem dJx4a65c_init_da8c8_8 : decode cJx4a65c_init_da8c8 8 = .ok (.putfield 9, 3) := by decide +kernel
theorem dJx4a65c_init_da8c8_11 : decode cJx4a65c_init_da8c8 11 = .ok (.return_, 1) := by decide +kernel
set_option maxRecDepth 20000 in
theorem ggJx4a65c_grow_92f84_J8_newLength_cabcc : GoodIn wsJx4a65c_grow_92f84 wsJ8_newLength_cabcc := goodIn_r _ [11, 12, 4, 5, 6, 13, 14, 15, 10, 16] (by decide +kernel) (by decide +kernel)
set_option maxRecDepth 20000 in
theorem gJx4a65c_grow_92f84_J8_newLength_cabcc : GoodIn wsJx4a65c_grow_92f84 (va_wsS RJx4a65c 73 yJ8_newLength_cabcc wsJ8_newLength_cabcc) := goodIn_app (goodIn_of _ (by decide +kernel)) ggJx4a65c_grow_92f84_J8_newLength_cabcc
set_option maxRecDepth 20000 in
theorem ggJx4a65c_grow_92f84_J7_copyOf_1904c : GoodIn wsJx4a65c_grow_92f84 wsJ7_copyOf_1904c := goodIn_r _ [20, 21, 22, 23, 24, 25, 26, 19, 27, 28, 29, 30, 31, 5, 32, 33, 34, 35, 36] (by decide +kernel) (by decide +kernel)
set_option maxRecDepth 20000 in
theorem gJx4a65c_grow_92f84_J7_copyOf_1904c : GoodIn wsJx4a65c_grow_92f84 (va_wsS RJx4a65c 66 yJ7_copyOf_1904c wsJ7_copyOf_1904c) := goodIn_app (goodIn_of _ (by decide +kernel)) ggJx4a65c_grow_92f84_J7_copyOf_1904c
theorem dJx4a65c_grow_92f84_0 : decode cJx4a65c_grow_92f84 0 = .ok (.aload_n 0, 1) := by decide +kernel
theorem dJx4a65c_grow_92f84_1 : decode cJx4a65c_grow_92f84 1 = .ok (.getfield 9, 3) := by decide +kernel
theorem dJx4a65c_grow_92f84_4 : decode cJx4a65c_grow_92f84 4 = .ok (.arraylength, 1) := by decide +kernel
theorem dJx4a65c_grow_92f84_5 : decode cJx4a65c_grow_92f84 5 = .ok (.istore_n 2, 1) := by decide +kernel
theorem dJx4a65c_grow_92f84_6 : decode cJx4a65c_grow_92f84 6 = .ok (.iload_n 2, 1) := by decide +kernel
theorem dJx4a65c_grow_92f84_7 : decode cJx4a65c_grow_92f84 7 = .ok (.ifCond .gt 13, 3) := by decide +kernel
theorem dJx4a65c_grow_92f84_10 : decode cJx4a65c_grow_92f84 10 = .ok (.aload_n 0, 1) := by decide +kernel
theorem dJx4a65c_grow_92f84_11 : decode cJx4a65c_grow_92f84 11 = .ok (.getfield 9, 3) := by decide +kernel
theorem dJx4a65c_grow_92f84_14 : decode cJx4a65c_grow_92f84 14 = .ok (.getstatic 39, 3) := by decide +kernel
theorem dJx4a65c_grow_92f84_17 : decode cJx4a65c_grow_92f84 17 = .ok (.if_acmp .eq 28, 3) := by decide +kernel
theorem dJx4a65c_grow_92f84_20 : decode cJx4a65c_grow_92f84 20 = .ok (.iload_n 2, 1) := by decide +kernel
theorem dJx4a65c_grow_92f84_21 : decode cJx4a65c_grow_92f84 21 = .ok (.iload_n 1, 1) := by decide +kernel
theorem dJx4a65c_grow_92f84_22 : decode cJx4a65c_grow_92f84 22 = .ok (.iload_n 2, 1) := by decide +kernel
theorem dJx4a65c_grow_92f84_23 : decode cJx4a65c_grow_92f84 23 = .ok (.isub, 1) := by decide +kernel
theorem dJx4a65c_grow_92f84_24 : decode cJx4a65c_grow_92f84 24 = .ok (.iload_n 2, 1) := by decide +kernel
theorem dJx4a65c_grow_92f84_25 : decode cJx4a65c_grow_92f84 25 = .ok (.iconst 1, 1) := by decide +kernel
theorem dJx4a65c_grow_92f84_26 : decode cJx4a65c_grow_92f84 26 = .ok (.ishr, 1) := by decide +kernel
theorem dJx4a65c_grow_92f84_27 : decode cJx4a65c_grow_92f84 27 = .ok (.invokestatic 73, 3) := by decide +kernel
theorem dJx4a65c_grow_92f84_30 : decode cJx4a65c_grow_92f84 30 = .ok (.istore_n 3, 1) := by decide +kernel
theorem dJx4a65c_grow_92f84_31 : decode cJx4a65c_grow_92f84 31 = .ok (.aload_n 0, 1) := by decide +kernel
theorem dJx4a65c_grow_92f84_32 : decode cJx4a65c_grow_92f84 32 = .ok (.aload_n 0, 1) := by decide +kernel
theorem dJx4a65c_grow_92f84_33 : decode cJx4a65c_grow_92f84 33 = .ok (.getfield 9, 3) := by decide +kernel
theorem dJx4a65c_grow_92f84_36 : decode cJx4a65c_grow_92f84 36 = .ok (.iload_n 3, 1) := by decide +kernel
theorem dJx4a65c_grow_92f84_37 : decode cJx4a65c_grow_92f84 37 = .ok (.invokestatic 66, 3) := by decide +kernel
theorem dJx4a65c_grow_92f84_40 : decode cJx4a65c_grow_92f84 40 = .ok (.dup_x1, 1) := by decide +kernel
theorem dJx4a65c_grow_92f84_41 : decode cJx4a65c_grow_92f84 41 = .ok (.putfield 9, 3) := by decide +kernel
theorem dJx4a65c_grow_92f84_44 : decode cJx4a65c_grow_92f84 44 = .ok (.areturn, 1) := by decide +kernel
theorem dJx4a65c_grow_92f84_45 : decode cJx4a65c_grow_92f84 45 = .ok (.aload_n 0, 1) := by decide +kernel
theorem dJx4a65c_grow_92f84_46 : decode cJx4a65c_grow_92f84 46 = .ok (.bipush 10, 2) := by decide +kernel
theorem dJx4a65c_grow_92f84_48 : decode cJx4a65c_grow_92f84 48 = .ok (.iload_n 1, 1) := by decide +kernel
theorem dJx4a65c_grow_92f84_49 : decode cJx4a65c_grow_92f84 49 = .ok (.invokestatic 79, 3) := by decide +kernel
theorem dJx4a65c_grow_92f84_52 : decode cJx4a65c_grow_92f84 52 = .ok (.anewarray 7, 3) := by decide +kernel
theorem dJx4a65c_grow_92f84_55 : decode cJx4a65c_grow_92f84 55 = .ok (.dup_x1, 1) := by decide +kernel
theorem dJx4a65c_grow_92f84_56 : decode cJx4a65c_grow_92f84 56 = .ok (.putfield 9, 3) := by decide +kernel
theorem dJx4a65c_grow_92f84_59 : decode cJx4a65c_grow_92f84 59 = .ok (.areturn, 1) := by decide +kernel
set_option maxRecDepth 20000 in
theorem ggJx4a65c_grow_d5877_Jx4a65c_grow_92f84 : GoodIn wsJx4a65c_grow_d5877 wsJx4a65c_grow_92f84 := goodIn_r _ [6, 7, 8, 9, 10, 11, 12, 13, 14, 15, 16, 17, 18, 19, 20, 21, 22, 23, 24, 25, 26, 27, 28, 29, 30, 31, 32, 33, 34, 35, 36, 37, 38, 39, 40, 41, 42, 43, 44, 45] (by decide +kernel) (by decide +kernel)
set_option maxRecDepth 20000 in
theorem gJx4a65c_grow_d5877_Jx4a65c_grow_92f84 : GoodIn wsJx4a65c_grow_d5877 (wsV RJx4a65c 69 RJx4a65c yJx4a65c_grow_92f84 wsJx4a65c_grow_92f84) := goodIn_app (goodIn_of _ (by decide +kernel)) ggJx4a65c_grow_d5877_Jx4a65c_grow_92f84
theorem dJx4a65c_grow_d5877_0 : decode cJx4a65c_grow_d5877 0 = .ok (.aload_n 0, 1) := by decide +kernel
theorem dJx4a65c_grow_d5877_1 : decode cJx4a65c_grow_d5877 1 = .ok (.aload_n 0, 1) := by decide +kernel
theorem dJx4a65c_grow_d5877_2 : decode cJx4a65c_grow_d5877 2 = .ok (.getfield 48, 3) := by decide +kernel
theorem dJx4a65c_grow_d5877_5 : decode cJx4a65c_grow_d5877 5 = .ok (.iconst 1, 1) := by decide +kernel
theorem dJx4a65c_grow_d5877_6 : decode cJx4a65c_grow_d5877 6 = .ok (.iadd, 1) := by decide +kernel
theorem dJx4a65c_grow_d5877_7 : decode cJx4a65c_grow_d5877 7 = .ok (.invokevirtual 69, 3) := by decide +kernel
theorem dJx4a65c_grow_d5877_10 : decode cJx4a65c_grow_d5877 10 = .ok (.areturn, 1) := by decide +kernel
theorem dJx4a65c_size_8abf5_0 : decode cJx4a65c_size_8abf5 0 = .ok (.aload_n 0, 1) := by decide +kernel
theorem dJx4a65c_size_8abf5_1 : decode cJx4a65c_size_8abf5 1 = .ok (.getfield 48, 3) := by decide +kernel
theorem dJx4a65c_size_8abf5_4 : decode cJx4a65c_size_8abf5 4 = .ok (.ireturn, 1) := by decide +kernel
theorem dJx4a65c_elementData_915e3_0 : decode cJx4a65c_elementData_915e3 0 = .ok (.aload_n 0, 1) := by decide +kernel
theorem dJx4a65c_elementData_915e3_1 : decode cJx4a65c_elementData_915e3 1 = .ok (.getfield 9, 3) := by decide +kernel
theorem dJx4a65c_elementData_915e3_4 : decode cJx4a65c_elementData_915e3 4 = .ok (.iload_n 1, 1) := by decide +kernel
theorem dJx4a65c_elementData_915e3_5 : decode cJx4a65c_elementData_915e3 5 = .ok (.aaload, 1) := by decide +kernel
theorem dJx4a65c_elementData_915e3_6 : decode cJx4a65c_elementData_915e3 6 = .ok (.areturn, 1) := by decide +kernel
set_option maxRecDepth 20000 in
theorem ggJx4a65c_get_915e3_J15_checkIndex_7cf53 : GoodIn wsJx4a65c_get_915e3 wsJ15_checkIndex_7cf53 := goodIn_r _ [5, 6, 7, 8, 9] (by decide +kernel) (by decide +kernel)
set_option maxRecDepth 20000 in
theorem gJx4a65c_get_915e3_J15_checkIndex_7cf53 : GoodIn wsJx4a65c_get_915e3 (va_wsS RJx4a65c 118 yJ15_checkIndex_7cf53 wsJ15_checkIndex_7cf53) := goodIn_app (goodIn_of _ (by decide +kernel)) ggJx4a65c_get_915e3_J15_checkIndex_7cf53
set_option maxRecDepth 20000 in
theorem ggJx4a65c_get_915e3_Jx4a65c_elementData_915e3 : GoodIn wsJx4a65c_get_915e3 wsJx4a65c_elementData_915e3 := goodIn_r _ [14, 15, 16, 17, 18] (by decide +kernel) (by decide +kernel)
set_option maxRecDepth 20000 in
theorem gJx4a65c_get_915e3_Jx4a65c_elementData_915e3 : GoodIn wsJx4a65c_get_915e3 (wsV RJx4a65c 123 RJx4a65c yJx4a65c_elementData_915e3 wsJx4a65c_elementData_915e3) := goodIn_app (goodIn_of _ (by decide +kernel)) ggJx4a65c_get_915e3_Jx4a65c_elementData_915e3
theorem dJx4a65c_get_915e3_0 : decode cJx4a65c_get_915e3 0 = .ok (.iload_n 1, 1) := by decide +kernel
theorem dJx4a65c_get_915e3_1 : decode cJx4a65c_get_915e3 1 = .ok (.aload_n 0, 1) := by decide +kernel
theorem dJx4a65c_get_915e3_2 : decode cJx4a65c_get_915e3 2 = .ok (.getfield 48, 3) := by decide +kernel
theorem dJx4a65c_get_915e3_5 : decode cJx4a65c_get_915e3 5 = .ok (.invokestatic 118, 3) := by decide +kernel
theorem dJx4a65c_get_915e3_8 : decode cJx4a65c_get_915e3 8 = .ok (.pop, 1) := by decide +kernel
theorem dJx4a65c_get_915e3_9 : decode cJx4a65c_get_915e3 9 = .ok (.aload_n 0, 1) := by decide +kernel
theorem dJx4a65c_get_915e3_10 : decode cJx4a65c_get_915e3 10 = .ok (.iload_n 1, 1) := by decide +kernel
theorem dJx4a65c_get_915e3_11 : decode cJx4a65c_get_915e3 11 = .ok (.invokevirtual 123, 3) := by decide +kernel
theorem dJx4a65c_get_915e3_14 : decode cJx4a65c_get_915e3 14 = .ok (.areturn, 1) := by decide +kernel
set_option maxRecDepth 20000 in
theorem ggJx4a65c_add_72be8_Jx4a65c_grow_d5877 : GoodIn wsJx4a65c_add_72be8 wsJx4a65c_grow_d5877 := goodIn_r _ [6, 1, 7, 8, 9, 5, 10, 11, 12, 13, 14, 15, 16, 17, 18, 19, 20, 21, 22, 23, 24, 25, 26, 27, 28, 29, 30, 31, 32, 33, 34, 35, 36, 37, 38, 39, 40, 41, 42, 43, 44, 45, 46, 47, 48, 49] (by decide +kernel) (by decide +kernel)
set_option maxRecDepth 20000 in
theorem gJx4a65c_add_72be8_Jx4a65c_grow_d5877 : GoodIn wsJx4a65c_add_72be8 (wsV RJx4a65c 129 RJx4a65c yJx4a65c_grow_d5877 wsJx4a65c_grow_d5877) := goodIn_app (goodIn_of _ (by decide +kernel)) ggJx4a65c_add_72be8_Jx4a65c_grow_d5877
theorem dJx4a65c_add_72be8_0 : decode cJx4a65c_add_72be8 0 = .ok (.iload_n 3, 1) := by decide +kernel
theorem dJx4a65c_add_72be8_1 : decode cJx4a65c_add_72be8 1 = .ok (.aload_n 2, 1) := by decide +kernel
theorem dJx4a65c_add_72be8_2 : decode cJx4a65c_add_72be8 2 = .ok (.arraylength, 1) := by decide +kernel
theorem dJx4a65c_add_72be8_3 : decode cJx4a65c_add_72be8 3 = .ok (.if_icmp .ne 8, 3) := by decide +kernel
theorem dJx4a65c_add_72be8_6 : decode cJx4a65c_add_72be8 6 = .ok (.aload_n 0, 1) := by decide +kernel
theorem dJx4a65c_add_72be8_7 : decode cJx4a65c_add_72be8 7 = .ok (.invokevirtual 129, 3) := by decide +kernel
theorem dJx4a65c_add_72be8_10 : decode cJx4a65c_add_72be8 10 = .ok (.astore_n 2, 1) := by decide +kernel
theorem dJx4a65c_add_72be8_11 : decode cJx4a65c_add_72be8 11 = .ok (.aload_n 2, 1) := by decide +kernel
theorem dJx4a65c_add_72be8_12 : decode cJx4a65c_add_72be8 12 = .ok (.iload_n 3, 1) := by decide +kernel
theorem dJx4a65c_add_72be8_13 : decode cJx4a65c_add_72be8 13 = .ok (.aload_n 1, 1) := by decide +kernel
theorem dJx4a65c_add_72be8_14 : decode cJx4a65c_add_72be8 14 = .ok (.aastore, 1) := by decide +kernel
theorem dJx4a65c_add_72be8_15 : decode cJx4a65c_add_72be8 15 = .ok (.aload_n 0, 1) := by decide +kernel
theorem dJx4a65c_add_72be8_16 : decode cJx4a65c_add_72be8 16 = .ok (.iload_n 3, 1) := by decide +kernel
theorem dJx4a65c_add_72be8_17 : decode cJx4a65c_add_72be8 17 = .ok (.iconst 1, 1) := by decide +kernel
theorem dJx4a65c_add_72be8_18 : decode cJx4a65c_add_72be8 18 = .ok (.iadd, 1) := by decide +kernel
theorem dJx4a65c_add_72be8_19 : decode cJx4a65c_add_72be8 19 = .ok (.putfield 48, 3) := by decide +kernel
theorem dJx4a65c_add_72be8_22 : decode cJx4a65c_add_72be8 22 = .ok (.return_, 1) := by decide +kernel
set_option maxRecDepth 20000 in
theorem ggJx4a65c_add_9ea2d_Jx4a65c_add_72be8 : GoodIn wsJx4a65c_add_9ea2d wsJx4a65c_add_72be8 := goodIn_r _ [9, 4, 10, 11, 12, 8, 13, 14, 15, 16, 17, 3, 18, 19, 20, 21, 22, 23, 24, 25, 26, 27, 28, 29, 30, 31, 32, 33, 34, 35, 36, 37, 38, 39, 40, 41, 42, 43, 44, 45, 46, 47, 48, 49, 50, 51, 52, 53, 54, 55] (by decide +kernel) (by decide +kernel)
set_option maxRecDepth 20000 in
theorem gJx4a65c_add_9ea2d_Jx4a65c_add_72be8 : GoodIn wsJx4a65c_add_9ea2d (wsV RJx4a65c 131 RJx4a65c yJx4a65c_add_72be8 wsJx4a65c_add_72be8) := goodIn_app (goodIn_of _ (by decide +kernel)) ggJx4a65c_add_9ea2d_Jx4a65c_add_72be8
theorem dJx4a65c_add_9ea2d_0 : decode cJx4a65c_add_9ea2d 0 = .ok (.aload_n 0, 1) := by decide +kernel
theorem dJx4a65c_add_9ea2d_1 : decode cJx4a65c_add_9ea2d 1 = .ok (.dup, 1) := by decide +kernel
theorem dJx4a65c_add_9ea2d_2 : decode cJx4a65c_add_9ea2d 2 = .ok (.getfield 63, 3) := by decide +kernel
theorem dJx4a65c_add_9ea2d_5 : decode cJx4a65c_add_9ea2d 5 = .ok (.iconst 1, 1) := by decide +kernel
theorem dJx4a65c_add_9ea2d_6 : decode cJx4a65c_add_9ea2d 6 = .ok (.iadd, 1) := by decide +kernel
theorem dJx4a65c_add_9ea2d_7 : decode cJx4a65c_add_9ea2d 7 = .ok (.putfield 63, 3) := by decide +kernel
theorem dJx4a65c_add_9ea2d_10 : decode cJx4a65c_add_9ea2d 10 = .ok (.aload_n 0, 1) := by decide +kernel
theorem dJx4a65c_add_9ea2d_11 : decode cJx4a65c_add_9ea2d 11 = .ok (.aload_n 1, 1) := by decide +kernel
theorem dJx4a65c_add_9ea2d_12 : decode cJx4a65c_add_9ea2d 12 = .ok (.aload_n 0, 1) := by decide +kernel
theorem dJx4a65c_add_9ea2d_13 : decode cJx4a65c_add_9ea2d 13 = .ok (.getfield 9, 3) := by decide +kernel
theorem dJx4a65c_add_9ea2d_16 : decode cJx4a65c_add_9ea2d 16 = .ok (.aload_n 0, 1) := by decide +kernel
theorem dJx4a65c_add_9ea2d_17 : decode cJx4a65c_add_9ea2d 17 = .ok (.getfield 48, 3) := by decide +kernel
theorem dJx4a65c_add_9ea2d_20 : decode cJx4a65c_add_9ea2d 20 = .ok (.invokevirtual 131, 3) := by decide +kernel
theorem dJx4a65c_add_9ea2d_23 : decode cJx4a65c_add_9ea2d 23 = .ok (.iconst 1, 1) := by decide +kernel
theorem dJx4a65c_add_9ea2d_24 : decode cJx4a65c_add_9ea2d 24 = .ok (.ireturn, 1) := by decide +kernel
theorem dJ7_fill_53178_0 : decode cJ7_fill_53178 0 = .ok (.iconst 0, 1) := by decide +kernel
theorem dJ7_fill_53178_1 : decode cJ7_fill_53178 1 = .ok (.istore_n 2, 1) := by decide +kernel
theorem dJ7_fill_53178_2 : decode cJ7_fill_53178 2 = .ok (.aload_n 0, 1) := by decide +kernel
theorem dJ7_fill_53178_3 : decode cJ7_fill_53178 3 = .ok (.arraylength, 1) := by decide +kernel
theorem dJ7_fill_53178_4 : decode cJ7_fill_53178 4 = .ok (.istore_n 3, 1) := by decide +kernel
theorem dJ7_fill_53178_5 : decode cJ7_fill_53178 5 = .ok (.iload_n 2, 1) := by decide +kernel
theorem dJ7_fill_53178_6 : decode cJ7_fill_53178 6 = .ok (.iload_n 3, 1) := by decide +kernel
theorem dJ7_fill_53178_7 : decode cJ7_fill_53178 7 = .ok (.if_icmp .ge 13, 3) := by decide +kernel
theorem dJ7_fill_53178_10 : decode cJ7_fill_53178 10 = .ok (.aload_n 0, 1) := by decide +kernel
theorem dJ7_fill_53178_11 : decode cJ7_fill_53178 11 = .ok (.iload_n 2, 1) := by decide +kernel
theorem dJ7_fill_53178_12 : decode cJ7_fill_53178 12 = .ok (.iload_n 1, 1) := by decide +kernel
theorem dJ7_fill_53178_13 : decode cJ7_fill_53178 13 = .ok (.iastore, 1) := by decide +kernel
theorem dJ7_fill_53178_14 : decode cJ7_fill_53178 14 = .ok (.iinc 2 1, 3) := by decide +kernel
theorem dJ7_fill_53178_17 : decode cJ7_fill_53178 17 = .ok (.goto (-12), 3) := by decide +kernel
theorem dJ7_fill_53178_20 : decode cJ7_fill_53178 20 = .ok (.return_, 1) := by decide +kernel
set_option maxRecDepth 20000 in
theorem ggJ7_copyOf_1904c_J7_copyOf_6403c : GoodIn wsJ7_copyOf_1904c wsJ7_copyOf_6403c := goodIn_r _ [8, 9, 10, 11, 12, 13, 14, 15, 16, 17, 18] (by decide +kernel) (by decide +kernel)
set_option maxRecDepth 20000 in
theorem gJ7_copyOf_1904c_J7_copyOf_6403c : GoodIn wsJ7_copyOf_1904c (va_wsS RJ7 300 yJ7_copyOf_6403c wsJ7_copyOf_6403c) := goodIn_app (goodIn_of _ (by decide +kernel)) ggJ7_copyOf_1904c_J7_copyOf_6403c
theorem dJ7_copyOf_1904c_0 : decode cJ7_copyOf_1904c 0 = .ok (.aload_n 0, 1) := by decide +kernel
theorem dJ7_copyOf_1904c_1 : decode cJ7_copyOf_1904c 1 = .ok (.iload_n 1, 1) := by decide +kernel
theorem dJ7_copyOf_1904c_2 : decode cJ7_copyOf_1904c 2 = .ok (.aload_n 0, 1) := by decide +kernel
theorem dJ7_copyOf_1904c_3 : decode cJ7_copyOf_1904c 3 = .ok (.invokevirtual 86, 3) := by decide +kernel
theorem dJ7_copyOf_1904c_6 : decode cJ7_copyOf_1904c 6 = .ok (.invokestatic 300, 3) := by decide +kernel
theorem dJ7_copyOf_1904c_9 : decode cJ7_copyOf_1904c 9 = .ok (.areturn, 1) := by decide +kernel
theorem dJ7_copyOf_6403c_0 : decode cJ7_copyOf_6403c 0 = .ok (.aload_n 2, 1) := by decide +kernel
theorem dJ7_copyOf_6403c_1 : decode cJ7_copyOf_6403c 1 = .ok (.ldc 110, 2) := by decide +kernel
theorem dJ7_copyOf_6403c_3 : decode cJ7_copyOf_6403c 3 = .ok (.if_acmp .ne 10, 3) := by decide +kernel
theorem dJ7_copyOf_6403c_6 : decode cJ7_copyOf_6403c 6 = .ok (.iload_n 1, 1) := by decide +kernel
theorem dJ7_copyOf_6403c_7 : decode cJ7_copyOf_6403c 7 = .ok (.anewarray 2, 3) := by decide +kernel
theorem dJ7_copyOf_6403c_10 : decode cJ7_copyOf_6403c 10 = .ok (.goto 14, 3) := by decide +kernel
theorem dJ7_copyOf_6403c_13 : decode cJ7_copyOf_6403c 13 = .ok (.aload_n 2, 1) := by decide +kernel
theorem dJ7_copyOf_6403c_14 : decode cJ7_copyOf_6403c 14 = .ok (.invokevirtual 90, 3) := by decide +kernel
theorem dJ7_copyOf_6403c_17 : decode cJ7_copyOf_6403c 17 = .ok (.iload_n 1, 1) := by decide +kernel
theorem dJ7_copyOf_6403c_18 : decode cJ7_copyOf_6403c 18 = .ok (.invokestatic 95, 3) := by decide +kernel
theorem dJ7_copyOf_6403c_21 : decode cJ7_copyOf_6403c 21 = .ok (.checkcast 110, 3) := by decide +kernel
theorem dJ7_copyOf_6403c_24 : decode cJ7_copyOf_6403c 24 = .ok (.astore_n 3, 1) := by decide +kernel
theorem dJ7_copyOf_6403c_25 : decode cJ7_copyOf_6403c 25 = .ok (.aload_n 0, 1) := by decide +kernel
theorem dJ7_copyOf_6403c_26 : decode cJ7_copyOf_6403c 26 = .ok (.iconst 0, 1) := by decide +kernel
theorem dJ7_copyOf_6403c_27 : decode cJ7_copyOf_6403c 27 = .ok (.aload_n 3, 1) := by decide +kernel
theorem dJ7_copyOf_6403c_28 : decode cJ7_copyOf_6403c 28 = .ok (.iconst 0, 1) := by decide +kernel
theorem dJ7_copyOf_6403c_29 : decode cJ7_copyOf_6403c 29 = .ok (.aload_n 0, 1) := by decide +kernel
theorem dJ7_copyOf_6403c_30 : decode cJ7_copyOf_6403c 30 = .ok (.arraylength, 1) := by decide +kernel
theorem dJ7_copyOf_6403c_31 : decode cJ7_copyOf_6403c 31 = .ok (.iload_n 1, 1) := by decide +kernel
theorem dJ7_copyOf_6403c_32 : decode cJ7_copyOf_6403c 32 = .ok (.invokestatic 304, 3) := by decide +kernel
theorem dJ7_copyOf_6403c_35 : decode cJ7_copyOf_6403c 35 = .ok (.invokestatic 150, 3) := by decide +kernel
theorem dJ7_copyOf_6403c_38 : decode cJ7_copyOf_6403c 38 = .ok (.aload_n 3, 1) := by decide +kernel
theorem dJ7_copyOf_6403c_39 : decode cJ7_copyOf_6403c 39 = .ok (.areturn, 1) := by decide +kernel
set_option maxRecDepth 20000 in
theorem ggJ15_checkIndex_7cf53_J3_checkIndex_8e157 : GoodIn wsJ15_checkIndex_7cf53 wsJ3_checkIndex_8e157 := goodIn_r _ [4] (by decide +kernel) (by decide +kernel)
set_option maxRecDepth 20000 in
theorem gJ15_checkIndex_7cf53_J3_checkIndex_8e157 : GoodIn wsJ15_checkIndex_7cf53 (va_wsS RJ15 105 yJ3_checkIndex_8e157 wsJ3_checkIndex_8e157) := goodIn_app (goodIn_of _ (by decide +kernel)) ggJ15_checkIndex_7cf53_J3_checkIndex_8e157
theorem dJ15_checkIndex_7cf53_0 : decode cJ15_checkIndex_7cf53 0 = .ok (.iload_n 0, 1) := by decide +kernel
theorem dJ15_checkIndex_7cf53_1 : decode cJ15_checkIndex_7cf53 1 = .ok (.iload_n 1, 1) := by decide +kernel
theorem dJ15_checkIndex_7cf53_2 : decode cJ15_checkIndex_7cf53 2 = .ok (.aconst_null, 1) := by decide +kernel
theorem dJ15_checkIndex_7cf53_3 : decode cJ15_checkIndex_7cf53 3 = .ok (.invokestatic 105, 3) := by decide +kernel
theorem dJ15_checkIndex_7cf53_6 : decode cJ15_checkIndex_7cf53 6 = .ok (.ireturn, 1) := by decide +kernel
set_option maxRecDepth 20000 in
theorem ggJ8_newLength_cabcc_J8_hugeLength_7cf53 : GoodIn wsJ8_newLength_cabcc wsJ8_hugeLength_7cf53 := goodIn_r _ [9, 5] (by decide +kernel) (by decide +kernel)
set_option maxRecDepth 20000 in
theorem gJ8_newLength_cabcc_J8_hugeLength_7cf53 : GoodIn wsJ8_newLength_cabcc (va_wsS RJ8 201 yJ8_hugeLength_7cf53 wsJ8_hugeLength_7cf53) := goodIn_app (goodIn_of _ (by decide +kernel)) ggJ8_newLength_cabcc_J8_hugeLength_7cf53
theorem dJ8_newLength_cabcc_0 : decode cJ8_newLength_cabcc 0 = .ok (.iload_n 0, 1) := by decide +kernel
theorem dJ8_newLength_cabcc_1 : decode cJ8_newLength_cabcc 1 = .ok (.iload_n 1, 1) := by decide +kernel
theorem dJ8_newLength_cabcc_2 : decode cJ8_newLength_cabcc 2 = .ok (.iload_n 2, 1) := by decide +kernel
theorem dJ8_newLength_cabcc_3 : decode cJ8_newLength_cabcc 3 = .ok (.invokestatic 194, 3) := by decide +kernel
theorem dJ8_newLength_cabcc_6 : decode cJ8_newLength_cabcc 6 = .ok (.iadd, 1) := by decide +kernel
theorem dJ8_newLength_cabcc_7 : decode cJ8_newLength_cabcc 7 = .ok (.istore_n 3, 1) := by decide +kernel
theorem dJ8_newLength_cabcc_8 : decode cJ8_newLength_cabcc 8 = .ok (.iconst 0, 1) := by decide +kernel
theorem dJ8_newLength_cabcc_9 : decode cJ8_newLength_cabcc 9 = .ok (.iload_n 3, 1) := by decide +kernel
theorem dJ8_newLength_cabcc_10 : decode cJ8_newLength_cabcc 10 = .ok (.if_icmp .ge 11, 3) := by decide +kernel
theorem dJ8_newLength_cabcc_13 : decode cJ8_newLength_cabcc 13 = .ok (.iload_n 3, 1) := by decide +kernel
theorem dJ8_newLength_cabcc_14 : decode cJ8_newLength_cabcc 14 = .ok (.ldc 200, 2) := by decide +kernel
theorem dJ8_newLength_cabcc_16 : decode cJ8_newLength_cabcc 16 = .ok (.if_icmp .gt 5, 3) := by decide +kernel
theorem dJ8_newLength_cabcc_19 : decode cJ8_newLength_cabcc 19 = .ok (.iload_n 3, 1) := by decide +kernel
theorem dJ8_newLength_cabcc_20 : decode cJ8_newLength_cabcc 20 = .ok (.ireturn, 1) := by decide +kernel
theorem dJ8_newLength_cabcc_21 : decode cJ8_newLength_cabcc 21 = .ok (.iload_n 0, 1) := by decide +kernel
theorem dJ8_newLength_cabcc_22 : decode cJ8_newLength_cabcc 22 = .ok (.iload_n 1, 1) := by decide +kernel
theorem dJ8_newLength_cabcc_23 : decode cJ8_newLength_cabcc 23 = .ok (.invokestatic 201, 3) := by decide +kernel
theorem dJ8_newLength_cabcc_26 : decode cJ8_newLength_cabcc 26 = .ok (.ireturn, 1) := by decide +kernel
theorem dJ8_hugeLength_7cf53_0 : decode cJ8_hugeLength_7cf53 0 = .ok (.iload_n 0, 1) := by decide +kernel
theorem dJ8_hugeLength_7cf53_1 : decode cJ8_hugeLength_7cf53 1 = .ok (.iload_n 1, 1) := by decide +kernel
theorem dJ8_hugeLength_7cf53_2 : decode cJ8_hugeLength_7cf53 2 = .ok (.iadd, 1) := by decide +kernel
theorem dJ8_hugeLength_7cf53_3 : decode cJ8_hugeLength_7cf53 3 = .ok (.istore_n 2, 1) := by decide +kernel
theorem dJ8_hugeLength_7cf53_4 : decode cJ8_hugeLength_7cf53 4 = .ok (.iload_n 2, 1) := by decide +kernel
theorem dJ8_hugeLength_7cf53_5 : decode cJ8_hugeLength_7cf53 5 = .ok (.ifCond .ge 44, 3) := by decide +kernel
theorem dJ8_hugeLength_7cf53_8 : decode cJ8_hugeLength_7cf53 8 = .ok (.new 204, 3) := by decide +kernel
theorem dJ8_hugeLength_7cf53_11 : decode cJ8_hugeLength_7cf53 11 = .ok (.dup, 1) := by decide +kernel
theorem dJ8_hugeLength_7cf53_12 : decode cJ8_hugeLength_7cf53 12 = .ok (.new 89, 3) := by decide +kernel
theorem dJ8_hugeLength_7cf53_15 : decode cJ8_hugeLength_7cf53 15 = .ok (.dup, 1) := by decide +kernel
theorem dJ8_hugeLength_7cf53_16 : decode cJ8_hugeLength_7cf53 16 = .ok (.invokespecial 91, 3) := by decide +kernel
theorem dJ8_hugeLength_7cf53_19 : decode cJ8_hugeLength_7cf53 19 = .ok (.ldc 206, 2) := by decide +kernel
theorem dJ8_hugeLength_7cf53_21 : decode cJ8_hugeLength_7cf53 21 = .ok (.invokevirtual 94, 3) := by decide +kernel
theorem dJ8_hugeLength_7cf53_24 : decode cJ8_hugeLength_7cf53 24 = .ok (.iload_n 0, 1) := by decide +kernel
theorem dJ8_hugeLength_7cf53_25 : decode cJ8_hugeLength_7cf53 25 = .ok (.invokevirtual 98, 3) := by decide +kernel
theorem dJ8_hugeLength_7cf53_28 : decode cJ8_hugeLength_7cf53 28 = .ok (.ldc 208, 2) := by decide +kernel
theorem dJ8_hugeLength_7cf53_30 : decode cJ8_hugeLength_7cf53 30 = .ok (.invokevirtual 94, 3) := by decide +kernel
theorem dJ8_hugeLength_7cf53_33 : decode cJ8_hugeLength_7cf53 33 = .ok (.iload_n 1, 1) := by decide +kernel
theorem dJ8_hugeLength_7cf53_34 : decode cJ8_hugeLength_7cf53 34 = .ok (.invokevirtual 98, 3) := by decide +kernel
theorem dJ8_hugeLength_7cf53_37 : decode cJ8_hugeLength_7cf53 37 = .ok (.ldc 210, 2) := by decide +kernel
theorem dJ8_hugeLength_7cf53_39 : decode cJ8_hugeLength_7cf53 39 = .ok (.invokevirtual 94, 3) := by decide +kernel
theorem dJ8_hugeLength_7cf53_42 : decode cJ8_hugeLength_7cf53 42 = .ok (.invokevirtual 101, 3) := by decide +kernel
theorem dJ8_hugeLength_7cf53_45 : decode cJ8_hugeLength_7cf53 45 = .ok (.invokespecial 212, 3) := by decide +kernel
theorem dJ8_hugeLength_7cf53_48 : decode cJ8_hugeLength_7cf53 48 = .ok (.athrow, 1) := by decide +kernel
theorem dJ8_hugeLength_7cf53_49 : decode cJ8_hugeLength_7cf53 49 = .ok (.iload_n 2, 1) := by decide +kernel
theorem dJ8_hugeLength_7cf53_50 : decode cJ8_hugeLength_7cf53 50 = .ok (.ldc 200, 2) := by decide +kernel
theorem dJ8_hugeLength_7cf53_52 : decode cJ8_hugeLength_7cf53 52 = .ok (.if_icmp .gt 6, 3) := by decide +kernel
theorem dJ8_hugeLength_7cf53_55 : decode cJ8_hugeLength_7cf53 55 = .ok (.ldc 200, 2) := by decide +kernel
theorem dJ8_hugeLength_7cf53_57 : decode cJ8_hugeLength_7cf53 57 = .ok (.ireturn, 1) := by decide +kernel
theorem dJ8_hugeLength_7cf53_58 : decode cJ8_hugeLength_7cf53 58 = .ok (.iload_n 2, 1) := by decide +kernel
theorem dJ8_hugeLength_7cf53_59 : decode cJ8_hugeLength_7cf53 59 = .ok (.ireturn, 1) := by decide +kernel
theorem dJ3_checkIndex_8e157_0 : decode cJ3_checkIndex_8e157 0 = .ok (.iload_n 0, 1) := by decide +kernel
theorem dJ3_checkIndex_8e157_1 : decode cJ3_checkIndex_8e157 1 = .ok (.ifCond .lt 8, 3) := by decide +kernel
theorem dJ3_checkIndex_8e157_4 : decode cJ3_checkIndex_8e157 4 = .ok (.iload_n 0, 1) := by decide +kernel
theorem dJ3_checkIndex_8e157_5 : decode cJ3_checkIndex_8e157 5 = .ok (.iload_n 1, 1) := by decide +kernel
theorem dJ3_checkIndex_8e157_6 : decode cJ3_checkIndex_8e157 6 = .ok (.if_icmp .lt 10, 3) := by decide +kernel
theorem dJ3_checkIndex_8e157_9 : decode cJ3_checkIndex_8e157 9 = .ok (.aload_n 2, 1) := by decide +kernel
theorem dJ3_checkIndex_8e157_10 : decode cJ3_checkIndex_8e157 10 = .ok (.iload_n 0, 1) := by decide +kernel
theorem dJ3_checkIndex_8e157_11 : decode cJ3_checkIndex_8e157 11 = .ok (.iload_n 1, 1) := by decide +kernel
theorem dJ3_checkIndex_8e157_12 : decode cJ3_checkIndex_8e157 12 = .ok (.invokestatic 95, 3) := by decide +kernel
theorem dJ3_checkIndex_8e157_15 : decode cJ3_checkIndex_8e157 15 = .ok (.athrow, 1) := by decide +kernel
theorem dJ3_checkIndex_8e157_16 : decode cJ3_checkIndex_8e157 16 = .ok (.iload_n 0, 1) := by decide +kernel
theorem dJ3_checkIndex_8e157_17 : decode cJ3_checkIndex_8e157 17 = .ok (.ireturn, 1) := by decide +kernel
