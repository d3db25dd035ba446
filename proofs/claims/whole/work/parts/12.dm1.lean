theorem dX5_init_0 : decode cX5_init 0 = .ok (.aload_n 0, 1) := by decide +kernel
theorem dX5_init_1 : decode cX5_init 1 = .ok (.invokespecial 3, 3) := by decide +kernel
theorem dX5_init_4 : decode cX5_init 4 = .ok (.aload_n 0, 1) := by decide +kernel
theorem dX5_init_5 : decode cX5_init 5 = .ok (.bipush 6, 2) := by decide +kernel
theorem dX5_init_7 : decode cX5_init 7 = .ok (.newarray .int, 2) := by decide +kernel
theorem dX5_init_9 : decode cX5_init 9 = .ok (.putfield 9, 3) := by decide +kernel
theorem dX5_init_12 : decode cX5_init 12 = .ok (.aload_n 0, 1) := by decide +kernel
theorem dX5_init_13 : decode cX5_init 13 = .ok (.bipush 6, 2) := by decide +kernel
theorem dX5_init_15 : decode cX5_init 15 = .ok (.newarray .int, 2) := by decide +kernel
theorem dX5_init_17 : decode cX5_init 17 = .ok (.putfield 15, 3) := by decide +kernel
theorem dX5_init_20 : decode cX5_init 20 = .ok (.aload_n 0, 1) := by decide +kernel
theorem dX5_init_21 : decode cX5_init 21 = .ok (.bipush 6, 2) := by decide +kernel
theorem dX5_init_23 : decode cX5_init 23 = .ok (.newarray .int, 2) := by decide +kernel
theorem dX5_init_25 : decode cX5_init 25 = .ok (.putfield 18, 3) := by decide +kernel
theorem dX5_init_28 : decode cX5_init 28 = .ok (.aload_n 0, 1) := by decide +kernel
theorem dX5_init_29 : decode cX5_init 29 = .ok (.bipush 48, 2) := by decide +kernel
theorem dX5_init_31 : decode cX5_init 31 = .ok (.newarray .int, 2) := by decide +kernel
theorem dX5_init_33 : decode cX5_init 33 = .ok (.putfield 21, 3) := by decide +kernel
theorem dX5_init_36 : decode cX5_init 36 = .ok (.return_, 1) := by decide +kernel
theorem dX5_copy_0 : decode cX5_copy 0 = .ok (.aload_n 0, 1) := by decide +kernel
theorem dX5_copy_1 : decode cX5_copy 1 = .ok (.iconst 0, 1) := by decide +kernel
theorem dX5_copy_2 : decode cX5_copy 2 = .ok (.aload_n 1, 1) := by decide +kernel
theorem dX5_copy_3 : decode cX5_copy 3 = .ok (.iconst 0, 1) := by decide +kernel
theorem dX5_copy_4 : decode cX5_copy 4 = .ok (.aload_n 1, 1) := by decide +kernel
theorem dX5_copy_5 : decode cX5_copy 5 = .ok (.arraylength, 1) := by decide +kernel
theorem dX5_copy_6 : decode cX5_copy 6 = .ok (.invokestatic 24, 3) := by decide +kernel
theorem dX5_copy_9 : decode cX5_copy 9 = .ok (.return_, 1) := by decide +kernel
set_option maxRecDepth 20000 in
theorem ggX5_become_X5_copy : GoodIn wsX5_become wsX5_copy := goodIn_r _ [10, 11, 12, 13, 14] (by decide +kernel) (by decide +kernel)
set_option maxRecDepth 20000 in
theorem gX5_become_X5_copy : GoodIn wsX5_become (va_wsS RX5 37 yX5_copy wsX5_copy) := goodIn_app (goodIn_of _ (by decide +kernel)) ggX5_become_X5_copy
theorem dX5_become_0 : decode cX5_become 0 = .ok (.aload_n 0, 1) := by decide +kernel
theorem dX5_become_1 : decode cX5_become 1 = .ok (.aload_n 1, 1) := by decide +kernel
theorem dX5_become_2 : decode cX5_become 2 = .ok (.getfield 30, 3) := by decide +kernel
theorem dX5_become_5 : decode cX5_become 5 = .ok (.putfield 30, 3) := by decide +kernel
theorem dX5_become_8 : decode cX5_become 8 = .ok (.aload_n 0, 1) := by decide +kernel
theorem dX5_become_9 : decode cX5_become 9 = .ok (.aload_n 1, 1) := by decide +kernel
theorem dX5_become_10 : decode cX5_become 10 = .ok (.getfield 34, 3) := by decide +kernel
theorem dX5_become_13 : decode cX5_become 13 = .ok (.putfield 34, 3) := by decide +kernel
theorem dX5_become_16 : decode cX5_become 16 = .ok (.aload_n 1, 1) := by decide +kernel
theorem dX5_become_17 : decode cX5_become 17 = .ok (.getfield 9, 3) := by decide +kernel
theorem dX5_become_20 : decode cX5_become 20 = .ok (.aload_n 0, 1) := by decide +kernel
theorem dX5_become_21 : decode cX5_become 21 = .ok (.getfield 9, 3) := by decide +kernel
theorem dX5_become_24 : decode cX5_become 24 = .ok (.invokestatic 37, 3) := by decide +kernel
theorem dX5_become_27 : decode cX5_become 27 = .ok (.aload_n 1, 1) := by decide +kernel
theorem dX5_become_28 : decode cX5_become 28 = .ok (.getfield 15, 3) := by decide +kernel
theorem dX5_become_31 : decode cX5_become 31 = .ok (.aload_n 0, 1) := by decide +kernel
theorem dX5_become_32 : decode cX5_become 32 = .ok (.getfield 15, 3) := by decide +kernel
theorem dX5_become_35 : decode cX5_become 35 = .ok (.invokestatic 37, 3) := by decide +kernel
theorem dX5_become_38 : decode cX5_become 38 = .ok (.aload_n 1, 1) := by decide +kernel
theorem dX5_become_39 : decode cX5_become 39 = .ok (.getfield 18, 3) := by decide +kernel
theorem dX5_become_42 : decode cX5_become 42 = .ok (.aload_n 0, 1) := by decide +kernel
theorem dX5_become_43 : decode cX5_become 43 = .ok (.getfield 18, 3) := by decide +kernel
theorem dX5_become_46 : decode cX5_become 46 = .ok (.invokestatic 37, 3) := by decide +kernel
theorem dX5_become_49 : decode cX5_become 49 = .ok (.aload_n 1, 1) := by decide +kernel
theorem dX5_become_50 : decode cX5_become 50 = .ok (.getfield 21, 3) := by decide +kernel
theorem dX5_become_53 : decode cX5_become 53 = .ok (.aload_n 0, 1) := by decide +kernel
theorem dX5_become_54 : decode cX5_become 54 = .ok (.getfield 21, 3) := by decide +kernel
theorem dX5_become_57 : decode cX5_become 57 = .ok (.invokestatic 37, 3) := by decide +kernel
theorem dX5_become_60 : decode cX5_become 60 = .ok (.return_, 1) := by decide +kernel
set_option maxRecDepth 20000 in
theorem ggX6_init_X5_init : GoodIn wsX6_init wsX5_init := goodIn_r _ [16, 17, 2, 3, 4, 18, 19, 20, 21, 32, 33, 34, 35, 36, 37] (by decide +kernel) (by decide +kernel)
set_option maxRecDepth 20000 in
theorem gX6_init_X5_init_n27 : GoodIn wsX6_init (wsX5_init) := ggX6_init_X5_init
theorem dX6_init_0 : decode cX6_init 0 = .ok (.aload_n 0, 1) := by decide +kernel
theorem dX6_init_1 : decode cX6_init 1 = .ok (.invokespecial 1, 3) := by decide +kernel
theorem dX6_init_4 : decode cX6_init 4 = .ok (.aload_n 0, 1) := by decide +kernel
theorem dX6_init_5 : decode cX6_init 5 = .ok (.bipush 12, 2) := by decide +kernel
theorem dX6_init_7 : decode cX6_init 7 = .ok (.newarray .int, 2) := by decide +kernel
theorem dX6_init_9 : decode cX6_init 9 = .ok (.putfield 9, 3) := by decide +kernel
theorem dX6_init_12 : decode cX6_init 12 = .ok (.aload_n 0, 1) := by decide +kernel
theorem dX6_init_13 : decode cX6_init 13 = .ok (.bipush 12, 2) := by decide +kernel
theorem dX6_init_15 : decode cX6_init 15 = .ok (.newarray .int, 2) := by decide +kernel
theorem dX6_init_17 : decode cX6_init 17 = .ok (.putfield 13, 3) := by decide +kernel
theorem dX6_init_20 : decode cX6_init 20 = .ok (.aload_n 0, 1) := by decide +kernel
theorem dX6_init_21 : decode cX6_init 21 = .ok (.bipush 8, 2) := by decide +kernel
theorem dX6_init_23 : decode cX6_init 23 = .ok (.newarray .int, 2) := by decide +kernel
theorem dX6_init_25 : decode cX6_init 25 = .ok (.putfield 16, 3) := by decide +kernel
theorem dX6_init_28 : decode cX6_init 28 = .ok (.aload_n 0, 1) := by decide +kernel
theorem dX6_init_29 : decode cX6_init 29 = .ok (.bipush 8, 2) := by decide +kernel
theorem dX6_init_31 : decode cX6_init 31 = .ok (.newarray .int, 2) := by decide +kernel
theorem dX6_init_33 : decode cX6_init 33 = .ok (.putfield 19, 3) := by decide +kernel
theorem dX6_init_36 : decode cX6_init 36 = .ok (.aload_n 0, 1) := by decide +kernel
theorem dX6_init_37 : decode cX6_init 37 = .ok (.bipush 8, 2) := by decide +kernel
theorem dX6_init_39 : decode cX6_init 39 = .ok (.newarray .int, 2) := by decide +kernel
theorem dX6_init_41 : decode cX6_init 41 = .ok (.putfield 22, 3) := by decide +kernel
theorem dX6_init_44 : decode cX6_init 44 = .ok (.aload_n 0, 1) := by decide +kernel
theorem dX6_init_45 : decode cX6_init 45 = .ok (.new 25, 3) := by decide +kernel
theorem dX6_init_48 : decode cX6_init 48 = .ok (.dup, 1) := by decide +kernel
theorem dX6_init_49 : decode cX6_init 49 = .ok (.invokespecial 27, 3) := by decide +kernel
theorem dX6_init_52 : decode cX6_init 52 = .ok (.putfield 28, 3) := by decide +kernel
theorem dX6_init_55 : decode cX6_init 55 = .ok (.aload_n 0, 1) := by decide +kernel
theorem dX6_init_56 : decode cX6_init 56 = .ok (.new 25, 3) := by decide +kernel
theorem dX6_init_59 : decode cX6_init 59 = .ok (.dup, 1) := by decide +kernel
theorem dX6_init_60 : decode cX6_init 60 = .ok (.invokespecial 27, 3) := by decide +kernel
theorem dX6_init_63 : decode cX6_init 63 = .ok (.putfield 32, 3) := by decide +kernel
theorem dX6_init_66 : decode cX6_init 66 = .ok (.iconst 0, 1) := by decide +kernel
theorem dX6_init_67 : decode cX6_init 67 = .ok (.istore_n 1, 1) := by decide +kernel
theorem dX6_init_68 : decode cX6_init 68 = .ok (.iload_n 1, 1) := by decide +kernel
theorem dX6_init_69 : decode cX6_init 69 = .ok (.bipush 12, 2) := by decide +kernel
theorem dX6_init_71 : decode cX6_init 71 = .ok (.if_icmp .ge 17, 3) := by decide +kernel
theorem dX6_init_74 : decode cX6_init 74 = .ok (.aload_n 0, 1) := by decide +kernel
theorem dX6_init_75 : decode cX6_init 75 = .ok (.getfield 9, 3) := by decide +kernel
theorem dX6_init_78 : decode cX6_init 78 = .ok (.iload_n 1, 1) := by decide +kernel
theorem dX6_init_79 : decode cX6_init 79 = .ok (.bipush 30, 2) := by decide +kernel
theorem dX6_init_81 : decode cX6_init 81 = .ok (.iastore, 1) := by decide +kernel
theorem dX6_init_82 : decode cX6_init 82 = .ok (.iinc 1 1, 3) := by decide +kernel
theorem dX6_init_85 : decode cX6_init 85 = .ok (.goto (-17), 3) := by decide +kernel
theorem dX6_init_88 : decode cX6_init 88 = .ok (.iconst 0, 1) := by decide +kernel
theorem dX6_init_89 : decode cX6_init 89 = .ok (.istore_n 1, 1) := by decide +kernel
theorem dX6_init_90 : decode cX6_init 90 = .ok (.iload_n 1, 1) := by decide +kernel
theorem dX6_init_91 : decode cX6_init 91 = .ok (.bipush 48, 2) := by decide +kernel
theorem dX6_init_93 : decode cX6_init 93 = .ok (.if_icmp .ge 20, 3) := by decide +kernel
theorem dX6_init_96 : decode cX6_init 96 = .ok (.aload_n 0, 1) := by decide +kernel
theorem dX6_init_97 : decode cX6_init 97 = .ok (.getfield 28, 3) := by decide +kernel
theorem dX6_init_100 : decode cX6_init 100 = .ok (.getfield 35, 3) := by decide +kernel
theorem dX6_init_103 : decode cX6_init 103 = .ok (.iload_n 1, 1) := by decide +kernel
theorem dX6_init_104 : decode cX6_init 104 = .ok (.bipush 20, 2) := by decide +kernel
theorem dX6_init_106 : decode cX6_init 106 = .ok (.iastore, 1) := by decide +kernel
theorem dX6_init_107 : decode cX6_init 107 = .ok (.iinc 1 1, 3) := by decide +kernel
theorem dX6_init_110 : decode cX6_init 110 = .ok (.goto (-20), 3) := by decide +kernel
theorem dX6_init_113 : decode cX6_init 113 = .ok (.iconst 0, 1) := by decide +kernel
theorem dX6_init_114 : decode cX6_init 114 = .ok (.istore_n 1, 1) := by decide +kernel
theorem dX6_init_115 : decode cX6_init 115 = .ok (.iload_n 1, 1) := by decide +kernel
theorem dX6_init_116 : decode cX6_init 116 = .ok (.bipush 6, 2) := by decide +kernel
theorem dX6_init_118 : decode cX6_init 118 = .ok (.if_icmp .ge 20, 3) := by decide +kernel
theorem dX6_init_121 : decode cX6_init 121 = .ok (.aload_n 0, 1) := by decide +kernel
theorem dX6_init_122 : decode cX6_init 122 = .ok (.getfield 28, 3) := by decide +kernel
theorem dX6_init_125 : decode cX6_init 125 = .ok (.getfield 38, 3) := by decide +kernel
theorem dX6_init_128 : decode cX6_init 128 = .ok (.iload_n 1, 1) := by decide +kernel
theorem dX6_init_129 : decode cX6_init 129 = .ok (.bipush 10, 2) := by decide +kernel
theorem dX6_init_131 : decode cX6_init 131 = .ok (.iastore, 1) := by decide +kernel
theorem dX6_init_132 : decode cX6_init 132 = .ok (.iinc 1 1, 3) := by decide +kernel
theorem dX6_init_135 : decode cX6_init 135 = .ok (.goto (-20), 3) := by decide +kernel
theorem dX6_init_138 : decode cX6_init 138 = .ok (.return_, 1) := by decide +kernel
theorem dX6_thrown_0 : decode cX6_thrown 0 = .ok (.aload_n 0, 1) := by decide +kernel
theorem dX6_thrown_1 : decode cX6_thrown 1 = .ok (.getfield 41, 3) := by decide +kernel
theorem dX6_thrown_4 : decode cX6_thrown 4 = .ok (.ireturn, 1) := by decide +kernel
theorem dX6_no_0 : decode cX6_no 0 = .ok (.aload_n 0, 1) := by decide +kernel
theorem dX6_no_1 : decode cX6_no 1 = .ok (.iload_n 1, 1) := by decide +kernel
theorem dX6_no_2 : decode cX6_no 2 = .ok (.putfield 41, 3) := by decide +kernel
theorem dX6_no_5 : decode cX6_no 5 = .ok (.iconst 0, 1) := by decide +kernel
theorem dX6_no_6 : decode cX6_no 6 = .ok (.ireturn, 1) := by decide +kernel
theorem dX6_isIn_0 : decode cX6_isIn 0 = .ok (.iload_n 0, 1) := by decide +kernel
theorem dX6_isIn_1 : decode cX6_isIn 1 = .ok (.iload_n 1, 1) := by decide +kernel
theorem dX6_isIn_2 : decode cX6_isIn 2 = .ok (.if_icmp .lt 12, 3) := by decide +kernel
theorem dX6_isIn_5 : decode cX6_isIn 5 = .ok (.iload_n 0, 1) := by decide +kernel
theorem dX6_isIn_6 : decode cX6_isIn 6 = .ok (.iload_n 2, 1) := by decide +kernel
theorem dX6_isIn_7 : decode cX6_isIn 7 = .ok (.if_icmp .gt 7, 3) := by decide +kernel
theorem dX6_isIn_10 : decode cX6_isIn 10 = .ok (.iconst 1, 1) := by decide +kernel
theorem dX6_isIn_11 : decode cX6_isIn 11 = .ok (.goto 4, 3) := by decide +kernel
theorem dX6_isIn_14 : decode cX6_isIn 14 = .ok (.iconst 0, 1) := by decide +kernel
theorem dX6_isIn_15 : decode cX6_isIn 15 = .ok (.ireturn, 1) := by decide +kernel
set_option maxRecDepth 20000 in
theorem ggX6_isSign_X6_isIn : GoodIn wsX6_isSign wsX6_isIn := goodIn_r _ [5] (by decide +kernel) (by decide +kernel)
set_option maxRecDepth 20000 in
theorem gX6_isSign_X6_isIn : GoodIn wsX6_isSign (va_wsS RX6 48 yX6_isIn wsX6_isIn) := goodIn_app (goodIn_of _ (by decide +kernel)) ggX6_isSign_X6_isIn
theorem dX6_isSign_0 : decode cX6_isSign 0 = .ok (.iload_n 1, 1) := by decide +kernel
theorem dX6_isSign_1 : decode cX6_isSign 1 = .ok (.iconst 0, 1) := by decide +kernel
theorem dX6_isSign_2 : decode cX6_isSign 2 = .ok (.aload_n 0, 1) := by decide +kernel
theorem dX6_isSign_3 : decode cX6_isSign 3 = .ok (.getfield 45, 3) := by decide +kernel
theorem dX6_isSign_6 : decode cX6_isSign 6 = .ok (.iconst 1, 1) := by decide +kernel
theorem dX6_isSign_7 : decode cX6_isSign 7 = .ok (.isub, 1) := by decide +kernel
theorem dX6_isSign_8 : decode cX6_isSign 8 = .ok (.invokestatic 48, 3) := by decide +kernel
theorem dX6_isSign_11 : decode cX6_isSign 11 = .ok (.ireturn, 1) := by decide +kernel
set_option maxRecDepth 20000 in
theorem ggX6_isVillage_X6_isIn : GoodIn wsX6_isVillage wsX6_isIn := goodIn_r _ [5] (by decide +kernel) (by decide +kernel)
set_option maxRecDepth 20000 in
theorem gX6_isVillage_X6_isIn : GoodIn wsX6_isVillage (va_wsS RX6 48 yX6_isIn wsX6_isIn) := goodIn_app (goodIn_of _ (by decide +kernel)) ggX6_isVillage_X6_isIn
theorem dX6_isVillage_0 : decode cX6_isVillage 0 = .ok (.iload_n 1, 1) := by decide +kernel
theorem dX6_isVillage_1 : decode cX6_isVillage 1 = .ok (.iconst 0, 1) := by decide +kernel
theorem dX6_isVillage_2 : decode cX6_isVillage 2 = .ok (.aload_n 0, 1) := by decide +kernel
theorem dX6_isVillage_3 : decode cX6_isVillage 3 = .ok (.getfield 52, 3) := by decide +kernel
theorem dX6_isVillage_6 : decode cX6_isVillage 6 = .ok (.iconst 1, 1) := by decide +kernel
theorem dX6_isVillage_7 : decode cX6_isVillage 7 = .ok (.isub, 1) := by decide +kernel
theorem dX6_isVillage_8 : decode cX6_isVillage 8 = .ok (.invokestatic 48, 3) := by decide +kernel
theorem dX6_isVillage_11 : decode cX6_isVillage 11 = .ok (.ireturn, 1) := by decide +kernel
theorem dX6_isRain_0 : decode cX6_isRain 0 = .ok (.iload_n 2, 1) := by decide +kernel
theorem dX6_isRain_1 : decode cX6_isRain 1 = .ok (.bipush 12, 2) := by decide +kernel
theorem dX6_isRain_3 : decode cX6_isRain 3 = .ok (.irem, 1) := by decide +kernel
theorem dX6_isRain_4 : decode cX6_isRain 4 = .ok (.istore_n 3, 1) := by decide +kernel
theorem dX6_isRain_5 : decode cX6_isRain 5 = .ok (.iload_n 3, 1) := by decide +kernel
theorem dX6_isRain_6 : decode cX6_isRain 6 = .ok (.bipush 12, 2) := by decide +kernel
theorem dX6_isRain_8 : decode cX6_isRain 8 = .ok (.iadd, 1) := by decide +kernel
theorem dX6_isRain_9 : decode cX6_isRain 9 = .ok (.iconst 1, 1) := by decide +kernel
theorem dX6_isRain_10 : decode cX6_isRain 10 = .ok (.isub, 1) := by decide +kernel
theorem dX6_isRain_11 : decode cX6_isRain 11 = .ok (.bipush 12, 2) := by decide +kernel
theorem dX6_isRain_13 : decode cX6_isRain 13 = .ok (.irem, 1) := by decide +kernel
theorem dX6_isRain_14 : decode cX6_isRain 14 = .ok (.istore 4, 2) := by decide +kernel
theorem dX6_isRain_16 : decode cX6_isRain 16 = .ok (.aload_n 0, 1) := by decide +kernel
theorem dX6_isRain_17 : decode cX6_isRain 17 = .ok (.getfield 16, 3) := by decide +kernel
theorem dX6_isRain_20 : decode cX6_isRain 20 = .ok (.iload_n 1, 1) := by decide +kernel
theorem dX6_isRain_21 : decode cX6_isRain 21 = .ok (.iaload, 1) := by decide +kernel
theorem dX6_isRain_22 : decode cX6_isRain 22 = .ok (.tableswitch 155 0 4 #[34, 63, 84, 101, 123], 34) := by decide +kernel
theorem dX6_isRain_56 : decode cX6_isRain 56 = .ok (.aload_n 0, 1) := by decide +kernel
theorem dX6_isRain_57 : decode cX6_isRain 57 = .ok (.getfield 9, 3) := by decide +kernel
theorem dX6_isRain_60 : decode cX6_isRain 60 = .ok (.iload 4, 2) := by decide +kernel
theorem dX6_isRain_62 : decode cX6_isRain 62 = .ok (.iaload, 1) := by decide +kernel
theorem dX6_isRain_63 : decode cX6_isRain 63 = .ok (.aload_n 0, 1) := by decide +kernel
theorem dX6_isRain_64 : decode cX6_isRain 64 = .ok (.getfield 9, 3) := by decide +kernel
theorem dX6_isRain_67 : decode cX6_isRain 67 = .ok (.iload_n 3, 1) := by decide +kernel
theorem dX6_isRain_68 : decode cX6_isRain 68 = .ok (.iaload, 1) := by decide +kernel
theorem dX6_isRain_69 : decode cX6_isRain 69 = .ok (.isub, 1) := by decide +kernel
theorem dX6_isRain_70 : decode cX6_isRain 70 = .ok (.aload_n 0, 1) := by decide +kernel
theorem dX6_isRain_71 : decode cX6_isRain 71 = .ok (.getfield 19, 3) := by decide +kernel
theorem dX6_isRain_74 : decode cX6_isRain 74 = .ok (.iload_n 1, 1) := by decide +kernel
theorem dX6_isRain_75 : decode cX6_isRain 75 = .ok (.iaload, 1) := by decide +kernel
theorem dX6_isRain_76 : decode cX6_isRain 76 = .ok (.if_icmp .lt 7, 3) := by decide +kernel
theorem dX6_isRain_79 : decode cX6_isRain 79 = .ok (.iconst 1, 1) := by decide +kernel
theorem dX6_isRain_80 : decode cX6_isRain 80 = .ok (.goto 4, 3) := by decide +kernel
theorem dX6_isRain_83 : decode cX6_isRain 83 = .ok (.iconst 0, 1) := by decide +kernel
theorem dX6_isRain_84 : decode cX6_isRain 84 = .ok (.ireturn, 1) := by decide +kernel
theorem dX6_isRain_85 : decode cX6_isRain 85 = .ok (.aload_n 0, 1) := by decide +kernel
theorem dX6_isRain_86 : decode cX6_isRain 86 = .ok (.getfield 9, 3) := by decide +kernel
theorem dX6_isRain_89 : decode cX6_isRain 89 = .ok (.iload_n 3, 1) := by decide +kernel
theorem dX6_isRain_90 : decode cX6_isRain 90 = .ok (.iaload, 1) := by decide +kernel
theorem dX6_isRain_91 : decode cX6_isRain 91 = .ok (.aload_n 0, 1) := by decide +kernel
theorem dX6_isRain_92 : decode cX6_isRain 92 = .ok (.getfield 19, 3) := by decide +kernel
theorem dX6_isRain_95 : decode cX6_isRain 95 = .ok (.iload_n 1, 1) := by decide +kernel
theorem dX6_isRain_96 : decode cX6_isRain 96 = .ok (.iaload, 1) := by decide +kernel
theorem dX6_isRain_97 : decode cX6_isRain 97 = .ok (.if_icmp .ge 7, 3) := by decide +kernel
theorem dX6_isRain_100 : decode cX6_isRain 100 = .ok (.iconst 1, 1) := by decide +kernel
theorem dX6_isRain_101 : decode cX6_isRain 101 = .ok (.goto 4, 3) := by decide +kernel
theorem dX6_isRain_104 : decode cX6_isRain 104 = .ok (.iconst 0, 1) := by decide +kernel
theorem dX6_isRain_105 : decode cX6_isRain 105 = .ok (.ireturn, 1) := by decide +kernel
theorem dX6_isRain_106 : decode cX6_isRain 106 = .ok (.aload_n 0, 1) := by decide +kernel
theorem dX6_isRain_107 : decode cX6_isRain 107 = .ok (.getfield 13, 3) := by decide +kernel
theorem dX6_isRain_110 : decode cX6_isRain 110 = .ok (.iload 4, 2) := by decide +kernel
theorem dX6_isRain_112 : decode cX6_isRain 112 = .ok (.iaload, 1) := by decide +kernel
theorem dX6_isRain_113 : decode cX6_isRain 113 = .ok (.iconst 1, 1) := by decide +kernel
theorem dX6_isRain_114 : decode cX6_isRain 114 = .ok (.if_icmp .ne 7, 3) := by decide +kernel
theorem dX6_isRain_117 : decode cX6_isRain 117 = .ok (.iconst 1, 1) := by decide +kernel
theorem dX6_isRain_118 : decode cX6_isRain 118 = .ok (.goto 4, 3) := by decide +kernel
theorem dX6_isRain_121 : decode cX6_isRain 121 = .ok (.iconst 0, 1) := by decide +kernel
theorem dX6_isRain_122 : decode cX6_isRain 122 = .ok (.ireturn, 1) := by decide +kernel
theorem dX6_isRain_123 : decode cX6_isRain 123 = .ok (.iload_n 2, 1) := by decide +kernel
theorem dX6_isRain_124 : decode cX6_isRain 124 = .ok (.bipush 7, 2) := by decide +kernel
theorem dX6_isRain_126 : decode cX6_isRain 126 = .ok (.irem, 1) := by decide +kernel
theorem dX6_isRain_127 : decode cX6_isRain 127 = .ok (.aload_n 0, 1) := by decide +kernel
theorem dX6_isRain_128 : decode cX6_isRain 128 = .ok (.getfield 19, 3) := by decide +kernel
theorem dX6_isRain_131 : decode cX6_isRain 131 = .ok (.iload_n 1, 1) := by decide +kernel
theorem dX6_isRain_132 : decode cX6_isRain 132 = .ok (.iaload, 1) := by decide +kernel
theorem dX6_isRain_133 : decode cX6_isRain 133 = .ok (.bipush 7, 2) := by decide +kernel
theorem dX6_isRain_135 : decode cX6_isRain 135 = .ok (.irem, 1) := by decide +kernel
theorem dX6_isRain_136 : decode cX6_isRain 136 = .ok (.if_icmp .ne 7, 3) := by decide +kernel
theorem dX6_isRain_139 : decode cX6_isRain 139 = .ok (.iconst 1, 1) := by decide +kernel
theorem dX6_isRain_140 : decode cX6_isRain 140 = .ok (.goto 4, 3) := by decide +kernel
theorem dX6_isRain_143 : decode cX6_isRain 143 = .ok (.iconst 0, 1) := by decide +kernel
theorem dX6_isRain_144 : decode cX6_isRain 144 = .ok (.ireturn, 1) := by decide +kernel
theorem dX6_isRain_145 : decode cX6_isRain 145 = .ok (.aload_n 0, 1) := by decide +kernel
theorem dX6_isRain_146 : decode cX6_isRain 146 = .ok (.getfield 13, 3) := by decide +kernel
theorem dX6_isRain_149 : decode cX6_isRain 149 = .ok (.iload 4, 2) := by decide +kernel
theorem dX6_isRain_151 : decode cX6_isRain 151 = .ok (.iaload, 1) := by decide +kernel
theorem dX6_isRain_152 : decode cX6_isRain 152 = .ok (.ifCond .ne 23, 3) := by decide +kernel
theorem dX6_isRain_155 : decode cX6_isRain 155 = .ok (.aload_n 0, 1) := by decide +kernel
theorem dX6_isRain_156 : decode cX6_isRain 156 = .ok (.getfield 9, 3) := by decide +kernel
theorem dX6_isRain_159 : decode cX6_isRain 159 = .ok (.iload_n 3, 1) := by decide +kernel
theorem dX6_isRain_160 : decode cX6_isRain 160 = .ok (.iaload, 1) := by decide +kernel
theorem dX6_isRain_161 : decode cX6_isRain 161 = .ok (.aload_n 0, 1) := by decide +kernel
theorem dX6_isRain_162 : decode cX6_isRain 162 = .ok (.getfield 9, 3) := by decide +kernel
theorem dX6_isRain_165 : decode cX6_isRain 165 = .ok (.iload 4, 2) := by decide +kernel
theorem dX6_isRain_167 : decode cX6_isRain 167 = .ok (.iaload, 1) := by decide +kernel
theorem dX6_isRain_168 : decode cX6_isRain 168 = .ok (.if_icmp .ge 7, 3) := by decide +kernel
theorem dX6_isRain_171 : decode cX6_isRain 171 = .ok (.iconst 1, 1) := by decide +kernel
theorem dX6_isRain_172 : decode cX6_isRain 172 = .ok (.goto 4, 3) := by decide +kernel
theorem dX6_isRain_175 : decode cX6_isRain 175 = .ok (.iconst 0, 1) := by decide +kernel
theorem dX6_isRain_176 : decode cX6_isRain 176 = .ok (.ireturn, 1) := by decide +kernel
theorem dX6_isRain_177 : decode cX6_isRain 177 = .ok (.iconst 1, 1) := by decide +kernel
theorem dX6_isRain_178 : decode cX6_isRain 178 = .ok (.ireturn, 1) := by decide +kernel
set_option maxRecDepth 20000 in
theorem ggX6_look_X6_isRain : GoodIn wsX6_look wsX6_isRain := goodIn_r _ [7, 8, 9, 10, 11, 12, 13, 14, 15, 16, 17, 18, 19, 20, 21] (by decide +kernel) (by decide +kernel)
set_option maxRecDepth 20000 in
theorem gX6_look_X6_isRain : GoodIn wsX6_look (wsV RX6 55 RX6 yX6_isRain wsX6_isRain) := goodIn_app (goodIn_of _ (by decide +kernel)) ggX6_look_X6_isRain
theorem dX6_look_0 : decode cX6_look 0 = .ok (.iconst 0, 1) := by decide +kernel
theorem dX6_look_1 : decode cX6_look 1 = .ok (.istore_n 2, 1) := by decide +kernel
theorem dX6_look_2 : decode cX6_look 2 = .ok (.iload_n 2, 1) := by decide +kernel
theorem dX6_look_3 : decode cX6_look 3 = .ok (.aload_n 0, 1) := by decide +kernel
theorem dX6_look_4 : decode cX6_look 4 = .ok (.getfield 45, 3) := by decide +kernel
theorem dX6_look_7 : decode cX6_look 7 = .ok (.if_icmp .ge 29, 3) := by decide +kernel
theorem dX6_look_10 : decode cX6_look 10 = .ok (.aload_n 0, 1) := by decide +kernel
theorem dX6_look_11 : decode cX6_look 11 = .ok (.getfield 22, 3) := by decide +kernel
theorem dX6_look_14 : decode cX6_look 14 = .ok (.iload_n 2, 1) := by decide +kernel
theorem dX6_look_15 : decode cX6_look 15 = .ok (.aload_n 0, 1) := by decide +kernel
theorem dX6_look_16 : decode cX6_look 16 = .ok (.iload_n 2, 1) := by decide +kernel
theorem dX6_look_17 : decode cX6_look 17 = .ok (.iload_n 1, 1) := by decide +kernel
theorem dX6_look_18 : decode cX6_look 18 = .ok (.invokevirtual 55, 3) := by decide +kernel
theorem dX6_look_21 : decode cX6_look 21 = .ok (.ifCond .eq 7, 3) := by decide +kernel
theorem dX6_look_24 : decode cX6_look 24 = .ok (.iconst 1, 1) := by decide +kernel
theorem dX6_look_25 : decode cX6_look 25 = .ok (.goto 4, 3) := by decide +kernel
theorem dX6_look_28 : decode cX6_look 28 = .ok (.iconst 0, 1) := by decide +kernel
theorem dX6_look_29 : decode cX6_look 29 = .ok (.iastore, 1) := by decide +kernel
theorem dX6_look_30 : decode cX6_look 30 = .ok (.iinc 2 1, 3) := by decide +kernel
theorem dX6_look_33 : decode cX6_look 33 = .ok (.goto (-31), 3) := by decide +kernel
theorem dX6_look_36 : decode cX6_look 36 = .ok (.return_, 1) := by decide +kernel
set_option maxRecDepth 20000 in
theorem ggX6_isRight_X6_isRain : GoodIn wsX6_isRight wsX6_isRain := goodIn_r _ [6, 7, 8, 9, 1, 10, 11, 12, 13, 14, 15, 16, 17, 18, 19] (by decide +kernel) (by decide +kernel)
set_option maxRecDepth 20000 in
theorem gX6_isRight_X6_isRain : GoodIn wsX6_isRight (wsV RX6 55 RX6 yX6_isRain wsX6_isRain) := goodIn_app (goodIn_of _ (by decide +kernel)) ggX6_isRight_X6_isRain
theorem dX6_isRight_0 : decode cX6_isRight 0 = .ok (.aload_n 0, 1) := by decide +kernel
theorem dX6_isRight_1 : decode cX6_isRight 1 = .ok (.iload_n 1, 1) := by decide +kernel
theorem dX6_isRight_2 : decode cX6_isRight 2 = .ok (.iload_n 2, 1) := by decide +kernel
theorem dX6_isRight_3 : decode cX6_isRight 3 = .ok (.invokevirtual 55, 3) := by decide +kernel
theorem dX6_isRight_6 : decode cX6_isRight 6 = .ok (.aload_n 0, 1) := by decide +kernel
theorem dX6_isRight_7 : decode cX6_isRight 7 = .ok (.getfield 13, 3) := by decide +kernel
theorem dX6_isRight_10 : decode cX6_isRight 10 = .ok (.iload_n 2, 1) := by decide +kernel
theorem dX6_isRight_11 : decode cX6_isRight 11 = .ok (.bipush 12, 2) := by decide +kernel
theorem dX6_isRight_13 : decode cX6_isRight 13 = .ok (.irem, 1) := by decide +kernel
theorem dX6_isRight_14 : decode cX6_isRight 14 = .ok (.iaload, 1) := by decide +kernel
theorem dX6_isRight_15 : decode cX6_isRight 15 = .ok (.iconst 1, 1) := by decide +kernel
theorem dX6_isRight_16 : decode cX6_isRight 16 = .ok (.if_icmp .ne 7, 3) := by decide +kernel
theorem dX6_isRight_19 : decode cX6_isRight 19 = .ok (.iconst 1, 1) := by decide +kernel
theorem dX6_isRight_20 : decode cX6_isRight 20 = .ok (.goto 4, 3) := by decide +kernel
theorem dX6_isRight_23 : decode cX6_isRight 23 = .ok (.iconst 0, 1) := by decide +kernel
theorem dX6_isRight_24 : decode cX6_isRight 24 = .ok (.if_icmp .ne 7, 3) := by decide +kernel
theorem dX6_isRight_27 : decode cX6_isRight 27 = .ok (.iconst 1, 1) := by decide +kernel
theorem dX6_isRight_28 : decode cX6_isRight 28 = .ok (.goto 4, 3) := by decide +kernel
theorem dX6_isRight_31 : decode cX6_isRight 31 = .ok (.iconst 0, 1) := by decide +kernel
theorem dX6_isRight_32 : decode cX6_isRight 32 = .ok (.ireturn, 1) := by decide +kernel
set_option maxRecDepth 20000 in
theorem ggX6_rightDays_X6_isRight : GoodIn wsX6_rightDays wsX6_isRight := goodIn_r _ [5, 6, 7, 8, 9, 4, 10, 11, 12, 13, 14, 15, 16, 17, 18, 19, 20, 21, 22, 23] (by decide +kernel) (by decide +kernel)
set_option maxRecDepth 20000 in
theorem gX6_rightDays_X6_isRight : GoodIn wsX6_rightDays (wsV RX6 59 RX6 yX6_isRight wsX6_isRight) := goodIn_app (goodIn_of _ (by decide +kernel)) ggX6_rightDays_X6_isRight
theorem dX6_rightDays_0 : decode cX6_rightDays 0 = .ok (.iconst 0, 1) := by decide +kernel
theorem dX6_rightDays_1 : decode cX6_rightDays 1 = .ok (.istore_n 2, 1) := by decide +kernel
theorem dX6_rightDays_2 : decode cX6_rightDays 2 = .ok (.iconst 0, 1) := by decide +kernel
theorem dX6_rightDays_3 : decode cX6_rightDays 3 = .ok (.istore_n 3, 1) := by decide +kernel
theorem dX6_rightDays_4 : decode cX6_rightDays 4 = .ok (.iload_n 3, 1) := by decide +kernel
theorem dX6_rightDays_5 : decode cX6_rightDays 5 = .ok (.bipush 12, 2) := by decide +kernel
theorem dX6_rightDays_7 : decode cX6_rightDays 7 = .ok (.if_icmp .ge 26, 3) := by decide +kernel
theorem dX6_rightDays_10 : decode cX6_rightDays 10 = .ok (.iload_n 2, 1) := by decide +kernel
theorem dX6_rightDays_11 : decode cX6_rightDays 11 = .ok (.aload_n 0, 1) := by decide +kernel
theorem dX6_rightDays_12 : decode cX6_rightDays 12 = .ok (.iload_n 1, 1) := by decide +kernel
theorem dX6_rightDays_13 : decode cX6_rightDays 13 = .ok (.iload_n 3, 1) := by decide +kernel
theorem dX6_rightDays_14 : decode cX6_rightDays 14 = .ok (.invokevirtual 59, 3) := by decide +kernel
theorem dX6_rightDays_17 : decode cX6_rightDays 17 = .ok (.ifCond .eq 7, 3) := by decide +kernel
theorem dX6_rightDays_20 : decode cX6_rightDays 20 = .ok (.iconst 1, 1) := by decide +kernel
theorem dX6_rightDays_21 : decode cX6_rightDays 21 = .ok (.goto 4, 3) := by decide +kernel
theorem dX6_rightDays_24 : decode cX6_rightDays 24 = .ok (.iconst 0, 1) := by decide +kernel
theorem dX6_rightDays_25 : decode cX6_rightDays 25 = .ok (.iadd, 1) := by decide +kernel
theorem dX6_rightDays_26 : decode cX6_rightDays 26 = .ok (.istore_n 2, 1) := by decide +kernel
theorem dX6_rightDays_27 : decode cX6_rightDays 27 = .ok (.iinc 3 1, 3) := by decide +kernel
theorem dX6_rightDays_30 : decode cX6_rightDays 30 = .ok (.goto (-26), 3) := by decide +kernel
theorem dX6_rightDays_33 : decode cX6_rightDays 33 = .ok (.iload_n 2, 1) := by decide +kernel
theorem dX6_rightDays_34 : decode cX6_rightDays 34 = .ok (.ireturn, 1) := by decide +kernel
theorem dX6_lean_0 : decode cX6_lean 0 = .ok (.iconst 0, 1) := by decide +kernel
theorem dX6_lean_1 : decode cX6_lean 1 = .ok (.istore_n 3, 1) := by decide +kernel
theorem dX6_lean_2 : decode cX6_lean 2 = .ok (.iconst 0, 1) := by decide +kernel
theorem dX6_lean_3 : decode cX6_lean 3 = .ok (.istore 4, 2) := by decide +kernel
theorem dX6_lean_5 : decode cX6_lean 5 = .ok (.iload 4, 2) := by decide +kernel
theorem dX6_lean_7 : decode cX6_lean 7 = .ok (.aload_n 0, 1) := by decide +kernel
theorem dX6_lean_8 : decode cX6_lean 8 = .ok (.getfield 45, 3) := by decide +kernel
theorem dX6_lean_11 : decode cX6_lean 11 = .ok (.if_icmp .ge 51, 3) := by decide +kernel
theorem dX6_lean_14 : decode cX6_lean 14 = .ok (.iload_n 3, 1) := by decide +kernel
theorem dX6_lean_15 : decode cX6_lean 15 = .ok (.aload_n 0, 1) := by decide +kernel
theorem dX6_lean_16 : decode cX6_lean 16 = .ok (.getfield 22, 3) := by decide +kernel
theorem dX6_lean_19 : decode cX6_lean 19 = .ok (.iload 4, 2) := by decide +kernel
theorem dX6_lean_21 : decode cX6_lean 21 = .ok (.iaload, 1) := by decide +kernel
theorem dX6_lean_22 : decode cX6_lean 22 = .ok (.iconst 1, 1) := by decide +kernel
theorem dX6_lean_23 : decode cX6_lean 23 = .ok (.if_icmp .ne 18, 3) := by decide +kernel
theorem dX6_lean_26 : decode cX6_lean 26 = .ok (.aload_n 1, 1) := by decide +kernel
theorem dX6_lean_27 : decode cX6_lean 27 = .ok (.getfield 35, 3) := by decide +kernel
theorem dX6_lean_30 : decode cX6_lean 30 = .ok (.bipush 8, 2) := by decide +kernel
theorem dX6_lean_32 : decode cX6_lean 32 = .ok (.iload_n 2, 1) := by decide +kernel
theorem dX6_lean_33 : decode cX6_lean 33 = .ok (.imul, 1) := by decide +kernel
theorem dX6_lean_34 : decode cX6_lean 34 = .ok (.iload 4, 2) := by decide +kernel
theorem dX6_lean_36 : decode cX6_lean 36 = .ok (.iadd, 1) := by decide +kernel
theorem dX6_lean_37 : decode cX6_lean 37 = .ok (.iaload, 1) := by decide +kernel
theorem dX6_lean_38 : decode cX6_lean 38 = .ok (.goto 16, 3) := by decide +kernel
theorem dX6_lean_41 : decode cX6_lean 41 = .ok (.aload_n 1, 1) := by decide +kernel
theorem dX6_lean_42 : decode cX6_lean 42 = .ok (.getfield 35, 3) := by decide +kernel
theorem dX6_lean_45 : decode cX6_lean 45 = .ok (.bipush 8, 2) := by decide +kernel
theorem dX6_lean_47 : decode cX6_lean 47 = .ok (.iload_n 2, 1) := by decide +kernel
theorem dX6_lean_48 : decode cX6_lean 48 = .ok (.imul, 1) := by decide +kernel
theorem dX6_lean_49 : decode cX6_lean 49 = .ok (.iload 4, 2) := by decide +kernel
theorem dX6_lean_51 : decode cX6_lean 51 = .ok (.iadd, 1) := by decide +kernel
theorem dX6_lean_52 : decode cX6_lean 52 = .ok (.iaload, 1) := by decide +kernel
theorem dX6_lean_53 : decode cX6_lean 53 = .ok (.ineg, 1) := by decide +kernel
theorem dX6_lean_54 : decode cX6_lean 54 = .ok (.iadd, 1) := by decide +kernel
theorem dX6_lean_55 : decode cX6_lean 55 = .ok (.istore_n 3, 1) := by decide +kernel
theorem dX6_lean_56 : decode cX6_lean 56 = .ok (.iinc 4 1, 3) := by decide +kernel
theorem dX6_lean_59 : decode cX6_lean 59 = .ok (.goto (-54), 3) := by decide +kernel
theorem dX6_lean_62 : decode cX6_lean 62 = .ok (.iload_n 3, 1) := by decide +kernel
theorem dX6_lean_63 : decode cX6_lean 63 = .ok (.ireturn, 1) := by decide +kernel
set_option maxRecDepth 20000 in
theorem ggX6_guess_X6_lean : GoodIn wsX6_guess wsX6_lean := goodIn_r _ [5, 6, 7, 14, 15, 16, 17, 18, 19, 20, 21, 22, 23, 8, 9, 10, 11, 12, 13] (by decide +kernel) (by decide +kernel)
set_option maxRecDepth 20000 in
theorem gX6_guess_X6_lean : GoodIn wsX6_guess (wsV RX6 62 RX6 yX6_lean wsX6_lean) := goodIn_app (goodIn_of _ (by decide +kernel)) ggX6_guess_X6_lean
theorem dX6_guess_0 : decode cX6_guess 0 = .ok (.aload_n 0, 1) := by decide +kernel
theorem dX6_guess_1 : decode cX6_guess 1 = .ok (.aload_n 1, 1) := by decide +kernel
theorem dX6_guess_2 : decode cX6_guess 2 = .ok (.iload_n 2, 1) := by decide +kernel
theorem dX6_guess_3 : decode cX6_guess 3 = .ok (.invokevirtual 62, 3) := by decide +kernel
theorem dX6_guess_6 : decode cX6_guess 6 = .ok (.ifCond .le 7, 3) := by decide +kernel
theorem dX6_guess_9 : decode cX6_guess 9 = .ok (.iconst 1, 1) := by decide +kernel
theorem dX6_guess_10 : decode cX6_guess 10 = .ok (.goto 4, 3) := by decide +kernel
theorem dX6_guess_13 : decode cX6_guess 13 = .ok (.iconst 0, 1) := by decide +kernel
theorem dX6_guess_14 : decode cX6_guess 14 = .ok (.iload_n 3, 1) := by decide +kernel
theorem dX6_guess_15 : decode cX6_guess 15 = .ok (.iconst 1, 1) := by decide +kernel
theorem dX6_guess_16 : decode cX6_guess 16 = .ok (.if_icmp .ne 7, 3) := by decide +kernel
theorem dX6_guess_19 : decode cX6_guess 19 = .ok (.iconst 1, 1) := by decide +kernel
theorem dX6_guess_20 : decode cX6_guess 20 = .ok (.goto 4, 3) := by decide +kernel
theorem dX6_guess_23 : decode cX6_guess 23 = .ok (.iconst 0, 1) := by decide +kernel
theorem dX6_guess_24 : decode cX6_guess 24 = .ok (.if_icmp .ne 7, 3) := by decide +kernel
theorem dX6_guess_27 : decode cX6_guess 27 = .ok (.iconst 1, 1) := by decide +kernel
theorem dX6_guess_28 : decode cX6_guess 28 = .ok (.goto 4, 3) := by decide +kernel
theorem dX6_guess_31 : decode cX6_guess 31 = .ok (.iconst 0, 1) := by decide +kernel
theorem dX6_guess_32 : decode cX6_guess 32 = .ok (.istore 4, 2) := by decide +kernel
theorem dX6_guess_34 : decode cX6_guess 34 = .ok (.aload_n 1, 1) := by decide +kernel
theorem dX6_guess_35 : decode cX6_guess 35 = .ok (.getfield 66, 3) := by decide +kernel
theorem dX6_guess_38 : decode cX6_guess 38 = .ok (.iload_n 2, 1) := by decide +kernel
theorem dX6_guess_39 : decode cX6_guess 39 = .ok (.dup2, 1) := by decide +kernel
theorem dX6_guess_40 : decode cX6_guess 40 = .ok (.iaload, 1) := by decide +kernel
theorem dX6_guess_41 : decode cX6_guess 41 = .ok (.iload 4, 2) := by decide +kernel
theorem dX6_guess_43 : decode cX6_guess 43 = .ok (.ifCond .eq 7, 3) := by decide +kernel
theorem dX6_guess_46 : decode cX6_guess 46 = .ok (.iconst 1, 1) := by decide +kernel
theorem dX6_guess_47 : decode cX6_guess 47 = .ok (.goto 4, 3) := by decide +kernel
theorem dX6_guess_50 : decode cX6_guess 50 = .ok (.iconst 0, 1) := by decide +kernel
theorem dX6_guess_51 : decode cX6_guess 51 = .ok (.iadd, 1) := by decide +kernel
theorem dX6_guess_52 : decode cX6_guess 52 = .ok (.iastore, 1) := by decide +kernel
theorem dX6_guess_53 : decode cX6_guess 53 = .ok (.aload_n 1, 1) := by decide +kernel
theorem dX6_guess_54 : decode cX6_guess 54 = .ok (.dup, 1) := by decide +kernel
theorem dX6_guess_55 : decode cX6_guess 55 = .ok (.getfield 69, 3) := by decide +kernel
theorem dX6_guess_58 : decode cX6_guess 58 = .ok (.iload 4, 2) := by decide +kernel
theorem dX6_guess_60 : decode cX6_guess 60 = .ok (.ifCond .eq 7, 3) := by decide +kernel
theorem dX6_guess_63 : decode cX6_guess 63 = .ok (.iconst 1, 1) := by decide +kernel
theorem dX6_guess_64 : decode cX6_guess 64 = .ok (.goto 4, 3) := by decide +kernel
theorem dX6_guess_67 : decode cX6_guess 67 = .ok (.iconst 0, 1) := by decide +kernel
theorem dX6_guess_68 : decode cX6_guess 68 = .ok (.iadd, 1) := by decide +kernel
theorem dX6_guess_69 : decode cX6_guess 69 = .ok (.putfield 69, 3) := by decide +kernel
theorem dX6_guess_72 : decode cX6_guess 72 = .ok (.aload_n 1, 1) := by decide +kernel
theorem dX6_guess_73 : decode cX6_guess 73 = .ok (.getfield 72, 3) := by decide +kernel
theorem dX6_guess_76 : decode cX6_guess 76 = .ok (.iload_n 2, 1) := by decide +kernel
theorem dX6_guess_77 : decode cX6_guess 77 = .ok (.iload 4, 2) := by decide +kernel
theorem dX6_guess_79 : decode cX6_guess 79 = .ok (.ifCond .eq 14, 3) := by decide +kernel
theorem dX6_guess_82 : decode cX6_guess 82 = .ok (.aload_n 1, 1) := by decide +kernel
theorem dX6_guess_83 : decode cX6_guess 83 = .ok (.getfield 72, 3) := by decide +kernel
theorem dX6_guess_86 : decode cX6_guess 86 = .ok (.iload_n 2, 1) := by decide +kernel
theorem dX6_guess_87 : decode cX6_guess 87 = .ok (.iaload, 1) := by decide +kernel
theorem dX6_guess_88 : decode cX6_guess 88 = .ok (.iconst 1, 1) := by decide +kernel
theorem dX6_guess_89 : decode cX6_guess 89 = .ok (.iadd, 1) := by decide +kernel
theorem dX6_guess_90 : decode cX6_guess 90 = .ok (.goto 4, 3) := by decide +kernel
theorem dX6_guess_93 : decode cX6_guess 93 = .ok (.iconst 0, 1) := by decide +kernel
theorem dX6_guess_94 : decode cX6_guess 94 = .ok (.iastore, 1) := by decide +kernel
theorem dX6_guess_95 : decode cX6_guess 95 = .ok (.return_, 1) := by decide +kernel
theorem dX6_learn_0 : decode cX6_learn 0 = .ok (.iconst 0, 1) := by decide +kernel
theorem dX6_learn_1 : decode cX6_learn 1 = .ok (.istore 4, 2) := by decide +kernel
theorem dX6_learn_3 : decode cX6_learn 3 = .ok (.iload 4, 2) := by decide +kernel
theorem dX6_learn_5 : decode cX6_learn 5 = .ok (.aload_n 0, 1) := by decide +kernel
theorem dX6_learn_6 : decode cX6_learn 6 = .ok (.getfield 45, 3) := by decide +kernel
theorem dX6_learn_9 : decode cX6_learn 9 = .ok (.if_icmp .ge 72, 3) := by decide +kernel
theorem dX6_learn_12 : decode cX6_learn 12 = .ok (.bipush 8, 2) := by decide +kernel
theorem dX6_learn_14 : decode cX6_learn 14 = .ok (.iload_n 2, 1) := by decide +kernel
theorem dX6_learn_15 : decode cX6_learn 15 = .ok (.imul, 1) := by decide +kernel
theorem dX6_learn_16 : decode cX6_learn 16 = .ok (.iload 4, 2) := by decide +kernel
theorem dX6_learn_18 : decode cX6_learn 18 = .ok (.iadd, 1) := by decide +kernel
theorem dX6_learn_19 : decode cX6_learn 19 = .ok (.istore 5, 2) := by decide +kernel
theorem dX6_learn_21 : decode cX6_learn 21 = .ok (.aload_n 1, 1) := by decide +kernel
theorem dX6_learn_22 : decode cX6_learn 22 = .ok (.getfield 35, 3) := by decide +kernel
theorem dX6_learn_25 : decode cX6_learn 25 = .ok (.iload 5, 2) := by decide +kernel
theorem dX6_learn_27 : decode cX6_learn 27 = .ok (.aload_n 0, 1) := by decide +kernel
theorem dX6_learn_28 : decode cX6_learn 28 = .ok (.getfield 22, 3) := by decide +kernel
theorem dX6_learn_31 : decode cX6_learn 31 = .ok (.iload 4, 2) := by decide +kernel
theorem dX6_learn_33 : decode cX6_learn 33 = .ok (.iaload, 1) := by decide +kernel
theorem dX6_learn_34 : decode cX6_learn 34 = .ok (.iload_n 3, 1) := by decide +kernel
theorem dX6_learn_35 : decode cX6_learn 35 = .ok (.if_icmp .ne 20, 3) := by decide +kernel
theorem dX6_learn_38 : decode cX6_learn 38 = .ok (.bipush 100, 2) := by decide +kernel
theorem dX6_learn_40 : decode cX6_learn 40 = .ok (.aload_n 1, 1) := by decide +kernel
theorem dX6_learn_41 : decode cX6_learn 41 = .ok (.getfield 35, 3) := by decide +kernel
theorem dX6_learn_44 : decode cX6_learn 44 = .ok (.iload 5, 2) := by decide +kernel
theorem dX6_learn_46 : decode cX6_learn 46 = .ok (.iaload, 1) := by decide +kernel
theorem dX6_learn_47 : decode cX6_learn 47 = .ok (.iconst 1, 1) := by decide +kernel
theorem dX6_learn_48 : decode cX6_learn 48 = .ok (.iadd, 1) := by decide +kernel
theorem dX6_learn_49 : decode cX6_learn 49 = .ok (.invokestatic 75, 3) := by decide +kernel
theorem dX6_learn_52 : decode cX6_learn 52 = .ok (.goto 22, 3) := by decide +kernel
theorem dX6_learn_55 : decode cX6_learn 55 = .ok (.aload_n 1, 1) := by decide +kernel
theorem dX6_learn_56 : decode cX6_learn 56 = .ok (.getfield 35, 3) := by decide +kernel
theorem dX6_learn_59 : decode cX6_learn 59 = .ok (.iload 5, 2) := by decide +kernel
theorem dX6_learn_61 : decode cX6_learn 61 = .ok (.iaload, 1) := by decide +kernel
theorem dX6_learn_62 : decode cX6_learn 62 = .ok (.aload_n 1, 1) := by decide +kernel
theorem dX6_learn_63 : decode cX6_learn 63 = .ok (.getfield 35, 3) := by decide +kernel
theorem dX6_learn_66 : decode cX6_learn 66 = .ok (.iload 5, 2) := by decide +kernel
theorem dX6_learn_68 : decode cX6_learn 68 = .ok (.iaload, 1) := by decide +kernel
theorem dX6_learn_69 : decode cX6_learn 69 = .ok (.iconst 3, 1) := by decide +kernel
theorem dX6_learn_70 : decode cX6_learn 70 = .ok (.iadd, 1) := by decide +kernel
theorem dX6_learn_71 : decode cX6_learn 71 = .ok (.iconst 4, 1) := by decide +kernel
theorem dX6_learn_72 : decode cX6_learn 72 = .ok (.idiv, 1) := by decide +kernel
theorem dX6_learn_73 : decode cX6_learn 73 = .ok (.isub, 1) := by decide +kernel
theorem dX6_learn_74 : decode cX6_learn 74 = .ok (.iastore, 1) := by decide +kernel
theorem dX6_learn_75 : decode cX6_learn 75 = .ok (.iinc 4 1, 3) := by decide +kernel
theorem dX6_learn_78 : decode cX6_learn 78 = .ok (.goto (-75), 3) := by decide +kernel
theorem dX6_learn_81 : decode cX6_learn 81 = .ok (.return_, 1) := by decide +kernel
theorem dX6_sell_0 : decode cX6_sell 0 = .ok (.aload_n 0, 1) := by decide +kernel
theorem dX6_sell_1 : decode cX6_sell 1 = .ok (.getfield 72, 3) := by decide +kernel
theorem dX6_sell_4 : decode cX6_sell 4 = .ok (.iload_n 1, 1) := by decide +kernel
theorem dX6_sell_5 : decode cX6_sell 5 = .ok (.iaload, 1) := by decide +kernel
theorem dX6_sell_6 : decode cX6_sell 6 = .ok (.ifCond .le 25, 3) := by decide +kernel
theorem dX6_sell_9 : decode cX6_sell 9 = .ok (.aload_n 0, 1) := by decide +kernel
theorem dX6_sell_10 : decode cX6_sell 10 = .ok (.getfield 38, 3) := by decide +kernel
theorem dX6_sell_13 : decode cX6_sell 13 = .ok (.iload_n 1, 1) := by decide +kernel
theorem dX6_sell_14 : decode cX6_sell 14 = .ok (.dup2, 1) := by decide +kernel
theorem dX6_sell_15 : decode cX6_sell 15 = .ok (.iaload, 1) := by decide +kernel
theorem dX6_sell_16 : decode cX6_sell 16 = .ok (.iconst 5, 1) := by decide +kernel
theorem dX6_sell_17 : decode cX6_sell 17 = .ok (.aload_n 0, 1) := by decide +kernel
theorem dX6_sell_18 : decode cX6_sell 18 = .ok (.getfield 72, 3) := by decide +kernel
theorem dX6_sell_21 : decode cX6_sell 21 = .ok (.iload_n 1, 1) := by decide +kernel
theorem dX6_sell_22 : decode cX6_sell 22 = .ok (.iaload, 1) := by decide +kernel
theorem dX6_sell_23 : decode cX6_sell 23 = .ok (.invokestatic 75, 3) := by decide +kernel
theorem dX6_sell_26 : decode cX6_sell 26 = .ok (.iadd, 1) := by decide +kernel
theorem dX6_sell_27 : decode cX6_sell 27 = .ok (.iastore, 1) := by decide +kernel
theorem dX6_sell_28 : decode cX6_sell 28 = .ok (.goto 21, 3) := by decide +kernel
theorem dX6_sell_31 : decode cX6_sell 31 = .ok (.aload_n 0, 1) := by decide +kernel
theorem dX6_sell_32 : decode cX6_sell 32 = .ok (.getfield 38, 3) := by decide +kernel
theorem dX6_sell_35 : decode cX6_sell 35 = .ok (.iload_n 1, 1) := by decide +kernel
theorem dX6_sell_36 : decode cX6_sell 36 = .ok (.iconst 0, 1) := by decide +kernel
theorem dX6_sell_37 : decode cX6_sell 37 = .ok (.aload_n 0, 1) := by decide +kernel
theorem dX6_sell_38 : decode cX6_sell 38 = .ok (.getfield 38, 3) := by decide +kernel
theorem dX6_sell_41 : decode cX6_sell 41 = .ok (.iload_n 1, 1) := by decide +kernel
theorem dX6_sell_42 : decode cX6_sell 42 = .ok (.iaload, 1) := by decide +kernel
theorem dX6_sell_43 : decode cX6_sell 43 = .ok (.iconst 1, 1) := by decide +kernel
theorem dX6_sell_44 : decode cX6_sell 44 = .ok (.isub, 1) := by decide +kernel
theorem dX6_sell_45 : decode cX6_sell 45 = .ok (.invokestatic 81, 3) := by decide +kernel
theorem dX6_sell_48 : decode cX6_sell 48 = .ok (.iastore, 1) := by decide +kernel
theorem dX6_sell_49 : decode cX6_sell 49 = .ok (.return_, 1) := by decide +kernel
set_option maxRecDepth 20000 in
theorem ggX6_pass_X6_look : GoodIn wsX6_pass wsX6_look := goodIn_r _ [7, 8, 9, 10, 11, 12, 6, 13, 14, 15, 16, 1, 39, 40, 41, 42, 43, 44, 45, 46, 47, 48] (by decide +kernel) (by decide +kernel)
set_option maxRecDepth 20000 in
theorem gX6_pass_X6_look : GoodIn wsX6_pass (wsV RX6 87 RX6 yX6_look wsX6_look) := goodIn_app (goodIn_of _ (by decide +kernel)) ggX6_pass_X6_look
set_option maxRecDepth 20000 in
theorem ggX6_pass_X6_guess : GoodIn wsX6_pass wsX6_guess := goodIn_r _ [20, 21, 22, 23, 6, 24, 8, 9, 49, 50, 51, 52, 53, 54, 39, 40, 41, 42, 43, 44, 45, 46, 47, 48] (by decide +kernel) (by decide +kernel)
set_option maxRecDepth 20000 in
theorem gX6_pass_X6_guess : GoodIn wsX6_pass (wsV RX6 91 RX6 yX6_guess wsX6_guess) := goodIn_app (goodIn_of _ (by decide +kernel)) ggX6_pass_X6_guess
set_option maxRecDepth 20000 in
theorem ggX6_pass_X6_learn : GoodIn wsX6_pass wsX6_learn := goodIn_r _ [28, 8, 9, 29, 30, 31, 32, 39, 40, 41, 42, 43, 44, 45, 46, 47, 48, 49, 50, 51, 52, 53, 54] (by decide +kernel) (by decide +kernel)
set_option maxRecDepth 20000 in
theorem gX6_pass_X6_learn : GoodIn wsX6_pass (wsV RX6 95 RX6 yX6_learn wsX6_learn) := goodIn_app (goodIn_of _ (by decide +kernel)) ggX6_pass_X6_learn
set_option maxRecDepth 20000 in
theorem ggX6_pass_X6_sell : GoodIn wsX6_pass wsX6_sell := goodIn_r _ [35, 29, 30, 31, 32, 36, 37, 38, 49, 50, 51, 52, 53, 54] (by decide +kernel) (by decide +kernel)
set_option maxRecDepth 20000 in
theorem gX6_pass_X6_sell : GoodIn wsX6_pass (va_wsS RX6 98 yX6_sell wsX6_sell) := goodIn_app (goodIn_of _ (by decide +kernel)) ggX6_pass_X6_sell
theorem dX6_pass_0 : decode cX6_pass 0 = .ok (.aload_n 0, 1) := by decide +kernel
theorem dX6_pass_1 : decode cX6_pass 1 = .ok (.getfield 13, 3) := by decide +kernel
theorem dX6_pass_4 : decode cX6_pass 4 = .ok (.aload_n 1, 1) := by decide +kernel
theorem dX6_pass_5 : decode cX6_pass 5 = .ok (.getfield 84, 3) := by decide +kernel
theorem dX6_pass_8 : decode cX6_pass 8 = .ok (.bipush 12, 2) := by decide +kernel
theorem dX6_pass_10 : decode cX6_pass 10 = .ok (.irem, 1) := by decide +kernel
theorem dX6_pass_11 : decode cX6_pass 11 = .ok (.iaload, 1) := by decide +kernel
theorem dX6_pass_12 : decode cX6_pass 12 = .ok (.istore_n 2, 1) := by decide +kernel
theorem dX6_pass_13 : decode cX6_pass 13 = .ok (.aload_n 0, 1) := by decide +kernel
theorem dX6_pass_14 : decode cX6_pass 14 = .ok (.aload_n 1, 1) := by decide +kernel
theorem dX6_pass_15 : decode cX6_pass 15 = .ok (.getfield 84, 3) := by decide +kernel
theorem dX6_pass_18 : decode cX6_pass 18 = .ok (.invokevirtual 87, 3) := by decide +kernel
theorem dX6_pass_21 : decode cX6_pass 21 = .ok (.iconst 0, 1) := by decide +kernel
theorem dX6_pass_22 : decode cX6_pass 22 = .ok (.istore_n 3, 1) := by decide +kernel
theorem dX6_pass_23 : decode cX6_pass 23 = .ok (.iload_n 3, 1) := by decide +kernel
theorem dX6_pass_24 : decode cX6_pass 24 = .ok (.aload_n 0, 1) := by decide +kernel
theorem dX6_pass_25 : decode cX6_pass 25 = .ok (.getfield 52, 3) := by decide +kernel
theorem dX6_pass_28 : decode cX6_pass 28 = .ok (.if_icmp .ge 28, 3) := by decide +kernel
theorem dX6_pass_31 : decode cX6_pass 31 = .ok (.aload_n 0, 1) := by decide +kernel
theorem dX6_pass_32 : decode cX6_pass 32 = .ok (.aload_n 1, 1) := by decide +kernel
theorem dX6_pass_33 : decode cX6_pass 33 = .ok (.iload_n 3, 1) := by decide +kernel
theorem dX6_pass_34 : decode cX6_pass 34 = .ok (.iload_n 2, 1) := by decide +kernel
theorem dX6_pass_35 : decode cX6_pass 35 = .ok (.invokevirtual 91, 3) := by decide +kernel
theorem dX6_pass_38 : decode cX6_pass 38 = .ok (.aload_n 0, 1) := by decide +kernel
theorem dX6_pass_39 : decode cX6_pass 39 = .ok (.aload_n 1, 1) := by decide +kernel
theorem dX6_pass_40 : decode cX6_pass 40 = .ok (.iload_n 3, 1) := by decide +kernel
theorem dX6_pass_41 : decode cX6_pass 41 = .ok (.iload_n 2, 1) := by decide +kernel
theorem dX6_pass_42 : decode cX6_pass 42 = .ok (.invokevirtual 95, 3) := by decide +kernel
theorem dX6_pass_45 : decode cX6_pass 45 = .ok (.aload_n 1, 1) := by decide +kernel
theorem dX6_pass_46 : decode cX6_pass 46 = .ok (.iload_n 3, 1) := by decide +kernel
theorem dX6_pass_47 : decode cX6_pass 47 = .ok (.invokestatic 98, 3) := by decide +kernel
theorem dX6_pass_50 : decode cX6_pass 50 = .ok (.iinc 3 1, 3) := by decide +kernel
theorem dX6_pass_53 : decode cX6_pass 53 = .ok (.goto (-30), 3) := by decide +kernel
theorem dX6_pass_56 : decode cX6_pass 56 = .ok (.aload_n 1, 1) := by decide +kernel
theorem dX6_pass_57 : decode cX6_pass 57 = .ok (.dup, 1) := by decide +kernel
theorem dX6_pass_58 : decode cX6_pass 58 = .ok (.getfield 84, 3) := by decide +kernel
theorem dX6_pass_61 : decode cX6_pass 61 = .ok (.iconst 1, 1) := by decide +kernel
theorem dX6_pass_62 : decode cX6_pass 62 = .ok (.iadd, 1) := by decide +kernel
theorem dX6_pass_63 : decode cX6_pass 63 = .ok (.putfield 84, 3) := by decide +kernel
theorem dX6_pass_66 : decode cX6_pass 66 = .ok (.return_, 1) := by decide +kernel
set_option maxRecDepth 20000 in
theorem ggX6_passAll_X6_pass : GoodIn wsX6_passAll wsX6_pass := goodIn_r _ [5, 6, 7, 8, 9, 10, 4, 11, 12, 13, 14, 15, 16, 17, 18, 19, 20, 21, 22, 23, 24, 25, 26, 27, 28, 29, 30, 31, 32, 33, 34, 35, 36, 37, 38, 39, 40, 41, 42, 43, 44, 45, 46, 47, 48, 49, 50, 51, 52, 53, 54, 55, 56, 57, 58] (by decide +kernel) (by decide +kernel)
set_option maxRecDepth 20000 in
theorem gX6_passAll_X6_pass : GoodIn wsX6_passAll (wsV RX6 102 RX6 yX6_pass wsX6_pass) := goodIn_app (goodIn_of _ (by decide +kernel)) ggX6_passAll_X6_pass
theorem dX6_passAll_0 : decode cX6_passAll 0 = .ok (.iconst 0, 1) := by decide +kernel
theorem dX6_passAll_1 : decode cX6_passAll 1 = .ok (.istore_n 3, 1) := by decide +kernel
theorem dX6_passAll_2 : decode cX6_passAll 2 = .ok (.iload_n 3, 1) := by decide +kernel
theorem dX6_passAll_3 : decode cX6_passAll 3 = .ok (.iload_n 2, 1) := by decide +kernel
theorem dX6_passAll_4 : decode cX6_passAll 4 = .ok (.if_icmp .ge 14, 3) := by decide +kernel
theorem dX6_passAll_7 : decode cX6_passAll 7 = .ok (.aload_n 0, 1) := by decide +kernel
theorem dX6_passAll_8 : decode cX6_passAll 8 = .ok (.aload_n 1, 1) := by decide +kernel
theorem dX6_passAll_9 : decode cX6_passAll 9 = .ok (.invokevirtual 102, 3) := by decide +kernel
theorem dX6_passAll_12 : decode cX6_passAll 12 = .ok (.iinc 3 1, 3) := by decide +kernel
theorem dX6_passAll_15 : decode cX6_passAll 15 = .ok (.goto (-13), 3) := by decide +kernel
theorem dX6_passAll_18 : decode cX6_passAll 18 = .ok (.aload_n 1, 1) := by decide +kernel
theorem dX6_passAll_19 : decode cX6_passAll 19 = .ok (.areturn, 1) := by decide +kernel
set_option maxRecDepth 20000 in
theorem ggX6_lookAhead_X5_become : GoodIn wsX6_lookAhead wsX5_become := goodIn_r _ [7, 8, 9, 10, 11, 12, 13, 14, 15, 6, 16, 17, 18, 19, 20, 31, 32, 33, 34, 35, 36] (by decide +kernel) (by decide +kernel)
set_option maxRecDepth 20000 in
theorem gX6_lookAhead_X5_become : GoodIn wsX6_lookAhead (wsV RX6 106 RX5 yX5_become wsX5_become) := goodIn_app (goodIn_of _ (by decide +kernel)) ggX6_lookAhead_X5_become
theorem dX6_lookAhead_0 : decode cX6_lookAhead 0 = .ok (.aload_n 0, 1) := by decide +kernel
theorem dX6_lookAhead_1 : decode cX6_lookAhead 1 = .ok (.getfield 32, 3) := by decide +kernel
theorem dX6_lookAhead_4 : decode cX6_lookAhead 4 = .ok (.aload_n 0, 1) := by decide +kernel
theorem dX6_lookAhead_5 : decode cX6_lookAhead 5 = .ok (.getfield 28, 3) := by decide +kernel
theorem dX6_lookAhead_8 : decode cX6_lookAhead 8 = .ok (.invokevirtual 106, 3) := by decide +kernel
theorem dX6_lookAhead_11 : decode cX6_lookAhead 11 = .ok (.aload_n 0, 1) := by decide +kernel
theorem dX6_lookAhead_12 : decode cX6_lookAhead 12 = .ok (.getfield 32, 3) := by decide +kernel
theorem dX6_lookAhead_15 : decode cX6_lookAhead 15 = .ok (.areturn, 1) := by decide +kernel
theorem dX6_isBetter_0 : decode cX6_isBetter 0 = .ok (.aload_n 0, 1) := by decide +kernel
theorem dX6_isBetter_1 : decode cX6_isBetter 1 = .ok (.getfield 66, 3) := by decide +kernel
theorem dX6_isBetter_4 : decode cX6_isBetter 4 = .ok (.iload_n 1, 1) := by decide +kernel
theorem dX6_isBetter_5 : decode cX6_isBetter 5 = .ok (.iaload, 1) := by decide +kernel
theorem dX6_isBetter_6 : decode cX6_isBetter 6 = .ok (.aload_n 0, 1) := by decide +kernel
theorem dX6_isBetter_7 : decode cX6_isBetter 7 = .ok (.getfield 66, 3) := by decide +kernel
theorem dX6_isBetter_10 : decode cX6_isBetter 10 = .ok (.iload_n 2, 1) := by decide +kernel
theorem dX6_isBetter_11 : decode cX6_isBetter 11 = .ok (.iaload, 1) := by decide +kernel
theorem dX6_isBetter_12 : decode cX6_isBetter 12 = .ok (.if_icmp .eq 24, 3) := by decide +kernel
theorem dX6_isBetter_15 : decode cX6_isBetter 15 = .ok (.aload_n 0, 1) := by decide +kernel
theorem dX6_isBetter_16 : decode cX6_isBetter 16 = .ok (.getfield 66, 3) := by decide +kernel
theorem dX6_isBetter_19 : decode cX6_isBetter 19 = .ok (.iload_n 1, 1) := by decide +kernel
theorem dX6_isBetter_20 : decode cX6_isBetter 20 = .ok (.iaload, 1) := by decide +kernel
theorem dX6_isBetter_21 : decode cX6_isBetter 21 = .ok (.aload_n 0, 1) := by decide +kernel
theorem dX6_isBetter_22 : decode cX6_isBetter 22 = .ok (.getfield 66, 3) := by decide +kernel
theorem dX6_isBetter_25 : decode cX6_isBetter 25 = .ok (.iload_n 2, 1) := by decide +kernel
theorem dX6_isBetter_26 : decode cX6_isBetter 26 = .ok (.iaload, 1) := by decide +kernel
theorem dX6_isBetter_27 : decode cX6_isBetter 27 = .ok (.if_icmp .le 7, 3) := by decide +kernel
theorem dX6_isBetter_30 : decode cX6_isBetter 30 = .ok (.iconst 1, 1) := by decide +kernel
theorem dX6_isBetter_31 : decode cX6_isBetter 31 = .ok (.goto 4, 3) := by decide +kernel
theorem dX6_isBetter_34 : decode cX6_isBetter 34 = .ok (.iconst 0, 1) := by decide +kernel
theorem dX6_isBetter_35 : decode cX6_isBetter 35 = .ok (.ireturn, 1) := by decide +kernel
theorem dX6_isBetter_36 : decode cX6_isBetter 36 = .ok (.aload_n 0, 1) := by decide +kernel
theorem dX6_isBetter_37 : decode cX6_isBetter 37 = .ok (.getfield 38, 3) := by decide +kernel
theorem dX6_isBetter_40 : decode cX6_isBetter 40 = .ok (.iload_n 1, 1) := by decide +kernel
theorem dX6_isBetter_41 : decode cX6_isBetter 41 = .ok (.iaload, 1) := by decide +kernel
theorem dX6_isBetter_42 : decode cX6_isBetter 42 = .ok (.aload_n 0, 1) := by decide +kernel
theorem dX6_isBetter_43 : decode cX6_isBetter 43 = .ok (.getfield 38, 3) := by decide +kernel
theorem dX6_isBetter_46 : decode cX6_isBetter 46 = .ok (.iload_n 2, 1) := by decide +kernel
theorem dX6_isBetter_47 : decode cX6_isBetter 47 = .ok (.iaload, 1) := by decide +kernel
theorem dX6_isBetter_48 : decode cX6_isBetter 48 = .ok (.if_icmp .eq 26, 3) := by decide +kernel
theorem dX6_isBetter_51 : decode cX6_isBetter 51 = .ok (.aload_n 0, 1) := by decide +kernel
theorem dX6_isBetter_52 : decode cX6_isBetter 52 = .ok (.getfield 38, 3) := by decide +kernel
theorem dX6_isBetter_55 : decode cX6_isBetter 55 = .ok (.iload_n 1, 1) := by decide +kernel
theorem dX6_isBetter_56 : decode cX6_isBetter 56 = .ok (.iaload, 1) := by decide +kernel
theorem dX6_isBetter_57 : decode cX6_isBetter 57 = .ok (.aload_n 0, 1) := by decide +kernel
theorem dX6_isBetter_58 : decode cX6_isBetter 58 = .ok (.getfield 38, 3) := by decide +kernel
theorem dX6_isBetter_61 : decode cX6_isBetter 61 = .ok (.iload_n 2, 1) := by decide +kernel
theorem dX6_isBetter_62 : decode cX6_isBetter 62 = .ok (.iaload, 1) := by decide +kernel
theorem dX6_isBetter_63 : decode cX6_isBetter 63 = .ok (.if_icmp .le 7, 3) := by decide +kernel
theorem dX6_isBetter_66 : decode cX6_isBetter 66 = .ok (.iconst 1, 1) := by decide +kernel
theorem dX6_isBetter_67 : decode cX6_isBetter 67 = .ok (.goto 17, 3) := by decide +kernel
theorem dX6_isBetter_70 : decode cX6_isBetter 70 = .ok (.iconst 0, 1) := by decide +kernel
theorem dX6_isBetter_71 : decode cX6_isBetter 71 = .ok (.goto 13, 3) := by decide +kernel
theorem dX6_isBetter_74 : decode cX6_isBetter 74 = .ok (.iload_n 1, 1) := by decide +kernel
theorem dX6_isBetter_75 : decode cX6_isBetter 75 = .ok (.iload_n 2, 1) := by decide +kernel
theorem dX6_isBetter_76 : decode cX6_isBetter 76 = .ok (.if_icmp .ge 7, 3) := by decide +kernel
theorem dX6_isBetter_79 : decode cX6_isBetter 79 = .ok (.iconst 1, 1) := by decide +kernel
theorem dX6_isBetter_80 : decode cX6_isBetter 80 = .ok (.goto 4, 3) := by decide +kernel
theorem dX6_isBetter_83 : decode cX6_isBetter 83 = .ok (.iconst 0, 1) := by decide +kernel
theorem dX6_isBetter_84 : decode cX6_isBetter 84 = .ok (.ireturn, 1) := by decide +kernel
set_option maxRecDepth 20000 in
theorem ggX6_placeOf_X6_isBetter : GoodIn wsX6_placeOf wsX6_isBetter := goodIn_r _ [6, 17, 18, 19, 20, 21, 22] (by decide +kernel) (by decide +kernel)
set_option maxRecDepth 20000 in
theorem gX6_placeOf_X6_isBetter : GoodIn wsX6_placeOf (va_wsS RX6 109 yX6_isBetter wsX6_isBetter) := goodIn_app (goodIn_of _ (by decide +kernel)) ggX6_placeOf_X6_isBetter
theorem dX6_placeOf_0 : decode cX6_placeOf 0 = .ok (.iconst 1, 1) := by decide +kernel
theorem dX6_placeOf_1 : decode cX6_placeOf 1 = .ok (.istore_n 2, 1) := by decide +kernel
theorem dX6_placeOf_2 : decode cX6_placeOf 2 = .ok (.iconst 0, 1) := by decide +kernel
theorem dX6_placeOf_3 : decode cX6_placeOf 3 = .ok (.istore_n 3, 1) := by decide +kernel
theorem dX6_placeOf_4 : decode cX6_placeOf 4 = .ok (.iload_n 3, 1) := by decide +kernel
theorem dX6_placeOf_5 : decode cX6_placeOf 5 = .ok (.aload_n 0, 1) := by decide +kernel
theorem dX6_placeOf_6 : decode cX6_placeOf 6 = .ok (.getfield 52, 3) := by decide +kernel
theorem dX6_placeOf_9 : decode cX6_placeOf 9 = .ok (.if_icmp .ge 34, 3) := by decide +kernel
theorem dX6_placeOf_12 : decode cX6_placeOf 12 = .ok (.iload_n 2, 1) := by decide +kernel
theorem dX6_placeOf_13 : decode cX6_placeOf 13 = .ok (.iload_n 3, 1) := by decide +kernel
theorem dX6_placeOf_14 : decode cX6_placeOf 14 = .ok (.iload_n 1, 1) := by decide +kernel
theorem dX6_placeOf_15 : decode cX6_placeOf 15 = .ok (.if_icmp .eq 19, 3) := by decide +kernel
theorem dX6_placeOf_18 : decode cX6_placeOf 18 = .ok (.aload_n 0, 1) := by decide +kernel
theorem dX6_placeOf_19 : decode cX6_placeOf 19 = .ok (.getfield 28, 3) := by decide +kernel
theorem dX6_placeOf_22 : decode cX6_placeOf 22 = .ok (.iload_n 3, 1) := by decide +kernel
theorem dX6_placeOf_23 : decode cX6_placeOf 23 = .ok (.iload_n 1, 1) := by decide +kernel
theorem dX6_placeOf_24 : decode cX6_placeOf 24 = .ok (.invokestatic 109, 3) := by decide +kernel
theorem dX6_placeOf_27 : decode cX6_placeOf 27 = .ok (.ifCond .eq 7, 3) := by decide +kernel
theorem dX6_placeOf_30 : decode cX6_placeOf 30 = .ok (.iconst 1, 1) := by decide +kernel
theorem dX6_placeOf_31 : decode cX6_placeOf 31 = .ok (.goto 4, 3) := by decide +kernel
theorem dX6_placeOf_34 : decode cX6_placeOf 34 = .ok (.iconst 0, 1) := by decide +kernel
theorem dX6_placeOf_35 : decode cX6_placeOf 35 = .ok (.iadd, 1) := by decide +kernel
theorem dX6_placeOf_36 : decode cX6_placeOf 36 = .ok (.istore_n 2, 1) := by decide +kernel
theorem dX6_placeOf_37 : decode cX6_placeOf 37 = .ok (.iinc 3 1, 3) := by decide +kernel
theorem dX6_placeOf_40 : decode cX6_placeOf 40 = .ok (.goto (-36), 3) := by decide +kernel
theorem dX6_placeOf_43 : decode cX6_placeOf 43 = .ok (.iload_n 2, 1) := by decide +kernel
theorem dX6_placeOf_44 : decode cX6_placeOf 44 = .ok (.ireturn, 1) := by decide +kernel
theorem dX6_sumOf_0 : decode cX6_sumOf 0 = .ok (.iconst 0, 1) := by decide +kernel
theorem dX6_sumOf_1 : decode cX6_sumOf 1 = .ok (.istore_n 2, 1) := by decide +kernel
theorem dX6_sumOf_2 : decode cX6_sumOf 2 = .ok (.iconst 0, 1) := by decide +kernel
theorem dX6_sumOf_3 : decode cX6_sumOf 3 = .ok (.istore_n 3, 1) := by decide +kernel
theorem dX6_sumOf_4 : decode cX6_sumOf 4 = .ok (.iload_n 3, 1) := by decide +kernel
theorem dX6_sumOf_5 : decode cX6_sumOf 5 = .ok (.aload_n 0, 1) := by decide +kernel
theorem dX6_sumOf_6 : decode cX6_sumOf 6 = .ok (.getfield 52, 3) := by decide +kernel
theorem dX6_sumOf_9 : decode cX6_sumOf 9 = .ok (.if_icmp .ge 15, 3) := by decide +kernel
theorem dX6_sumOf_12 : decode cX6_sumOf 12 = .ok (.iload_n 2, 1) := by decide +kernel
theorem dX6_sumOf_13 : decode cX6_sumOf 13 = .ok (.aload_n 1, 1) := by decide +kernel
theorem dX6_sumOf_14 : decode cX6_sumOf 14 = .ok (.iload_n 3, 1) := by decide +kernel
theorem dX6_sumOf_15 : decode cX6_sumOf 15 = .ok (.iaload, 1) := by decide +kernel
theorem dX6_sumOf_16 : decode cX6_sumOf 16 = .ok (.iadd, 1) := by decide +kernel
theorem dX6_sumOf_17 : decode cX6_sumOf 17 = .ok (.istore_n 2, 1) := by decide +kernel
theorem dX6_sumOf_18 : decode cX6_sumOf 18 = .ok (.iinc 3 1, 3) := by decide +kernel
theorem dX6_sumOf_21 : decode cX6_sumOf 21 = .ok (.goto (-17), 3) := by decide +kernel
theorem dX6_sumOf_24 : decode cX6_sumOf 24 = .ok (.iload_n 2, 1) := by decide +kernel
theorem dX6_sumOf_25 : decode cX6_sumOf 25 = .ok (.ireturn, 1) := by decide +kernel
set_option maxRecDepth 20000 in
theorem ggX6_rainGuessed_X6_look : GoodIn wsX6_rainGuessed wsX6_look := goodIn_r _ [6, 7, 8, 9, 10, 11, 5, 12, 13, 14, 15, 16, 27, 28, 29, 30, 31, 32, 33, 34, 35, 36] (by decide +kernel) (by decide +kernel)
set_option maxRecDepth 20000 in
theorem gX6_rainGuessed_X6_look : GoodIn wsX6_rainGuessed (wsV RX6 87 RX6 yX6_look wsX6_look) := goodIn_app (goodIn_of _ (by decide +kernel)) ggX6_rainGuessed_X6_look
set_option maxRecDepth 20000 in
theorem ggX6_rainGuessed_X6_lean : GoodIn wsX6_rainGuessed wsX6_lean := goodIn_r _ [20, 7, 8, 27, 28, 29, 30, 31, 32, 33, 34, 35, 36, 21, 22, 23, 24, 25, 26] (by decide +kernel) (by decide +kernel)
set_option maxRecDepth 20000 in
theorem gX6_rainGuessed_X6_lean : GoodIn wsX6_rainGuessed (wsV RX6 62 RX6 yX6_lean wsX6_lean) := goodIn_app (goodIn_of _ (by decide +kernel)) ggX6_rainGuessed_X6_lean
theorem dX6_rainGuessed_0 : decode cX6_rainGuessed 0 = .ok (.aload_n 0, 1) := by decide +kernel
theorem dX6_rainGuessed_1 : decode cX6_rainGuessed 1 = .ok (.aload_n 1, 1) := by decide +kernel
theorem dX6_rainGuessed_2 : decode cX6_rainGuessed 2 = .ok (.getfield 84, 3) := by decide +kernel
theorem dX6_rainGuessed_5 : decode cX6_rainGuessed 5 = .ok (.invokevirtual 87, 3) := by decide +kernel
theorem dX6_rainGuessed_8 : decode cX6_rainGuessed 8 = .ok (.iconst 0, 1) := by decide +kernel
theorem dX6_rainGuessed_9 : decode cX6_rainGuessed 9 = .ok (.istore_n 2, 1) := by decide +kernel
theorem dX6_rainGuessed_10 : decode cX6_rainGuessed 10 = .ok (.iconst 0, 1) := by decide +kernel
theorem dX6_rainGuessed_11 : decode cX6_rainGuessed 11 = .ok (.istore_n 3, 1) := by decide +kernel
theorem dX6_rainGuessed_12 : decode cX6_rainGuessed 12 = .ok (.iload_n 3, 1) := by decide +kernel
theorem dX6_rainGuessed_13 : decode cX6_rainGuessed 13 = .ok (.aload_n 0, 1) := by decide +kernel
theorem dX6_rainGuessed_14 : decode cX6_rainGuessed 14 = .ok (.getfield 52, 3) := by decide +kernel
theorem dX6_rainGuessed_17 : decode cX6_rainGuessed 17 = .ok (.if_icmp .ge 26, 3) := by decide +kernel
theorem dX6_rainGuessed_20 : decode cX6_rainGuessed 20 = .ok (.iload_n 2, 1) := by decide +kernel
theorem dX6_rainGuessed_21 : decode cX6_rainGuessed 21 = .ok (.aload_n 0, 1) := by decide +kernel
theorem dX6_rainGuessed_22 : decode cX6_rainGuessed 22 = .ok (.aload_n 1, 1) := by decide +kernel
theorem dX6_rainGuessed_23 : decode cX6_rainGuessed 23 = .ok (.iload_n 3, 1) := by decide +kernel
theorem dX6_rainGuessed_24 : decode cX6_rainGuessed 24 = .ok (.invokevirtual 62, 3) := by decide +kernel
theorem dX6_rainGuessed_27 : decode cX6_rainGuessed 27 = .ok (.ifCond .le 7, 3) := by decide +kernel
theorem dX6_rainGuessed_30 : decode cX6_rainGuessed 30 = .ok (.iconst 1, 1) := by decide +kernel
theorem dX6_rainGuessed_31 : decode cX6_rainGuessed 31 = .ok (.goto 4, 3) := by decide +kernel
theorem dX6_rainGuessed_34 : decode cX6_rainGuessed 34 = .ok (.iconst 0, 1) := by decide +kernel
theorem dX6_rainGuessed_35 : decode cX6_rainGuessed 35 = .ok (.iadd, 1) := by decide +kernel
theorem dX6_rainGuessed_36 : decode cX6_rainGuessed 36 = .ok (.istore_n 2, 1) := by decide +kernel
theorem dX6_rainGuessed_37 : decode cX6_rainGuessed 37 = .ok (.iinc 3 1, 3) := by decide +kernel
theorem dX6_rainGuessed_40 : decode cX6_rainGuessed 40 = .ok (.goto (-28), 3) := by decide +kernel
theorem dX6_rainGuessed_43 : decode cX6_rainGuessed 43 = .ok (.iload_n 2, 1) := by decide +kernel
theorem dX6_rainGuessed_44 : decode cX6_rainGuessed 44 = .ok (.ireturn, 1) := by decide +kernel
set_option maxRecDepth 20000 in
theorem ggX6_setGlass_X6_isIn : GoodIn wsX6_setGlass wsX6_isIn := goodIn_r _ [6] (by decide +kernel) (by decide +kernel)
set_option maxRecDepth 20000 in
theorem gX6_setGlass_X6_isIn : GoodIn wsX6_setGlass (va_wsS RX6 48 yX6_isIn wsX6_isIn) := goodIn_app (goodIn_of _ (by decide +kernel)) ggX6_setGlass_X6_isIn
set_option maxRecDepth 20000 in
theorem ggX6_setGlass_X6_no : GoodIn wsX6_setGlass wsX6_no := goodIn_r _ [10, 1, 11, 12, 13, 14, 15, 16, 17, 18, 19, 20] (by decide +kernel) (by decide +kernel)
set_option maxRecDepth 20000 in
theorem gX6_setGlass_X6_no : GoodIn wsX6_setGlass (wsV RX6 113 RX6 yX6_no wsX6_no) := goodIn_app (goodIn_of _ (by decide +kernel)) ggX6_setGlass_X6_no
theorem dX6_setGlass_0 : decode cX6_setGlass 0 = .ok (.aload_n 0, 1) := by decide +kernel
theorem dX6_setGlass_1 : decode cX6_setGlass 1 = .ok (.iconst 0, 1) := by decide +kernel
theorem dX6_setGlass_2 : decode cX6_setGlass 2 = .ok (.putfield 41, 3) := by decide +kernel
theorem dX6_setGlass_5 : decode cX6_setGlass 5 = .ok (.iload_n 1, 1) := by decide +kernel
theorem dX6_setGlass_6 : decode cX6_setGlass 6 = .ok (.iconst 0, 1) := by decide +kernel
theorem dX6_setGlass_7 : decode cX6_setGlass 7 = .ok (.bipush 11, 2) := by decide +kernel
theorem dX6_setGlass_9 : decode cX6_setGlass 9 = .ok (.invokestatic 48, 3) := by decide +kernel
theorem dX6_setGlass_12 : decode cX6_setGlass 12 = .ok (.ifCond .ne 9, 3) := by decide +kernel
theorem dX6_setGlass_15 : decode cX6_setGlass 15 = .ok (.aload_n 0, 1) := by decide +kernel
theorem dX6_setGlass_16 : decode cX6_setGlass 16 = .ok (.iconst 1, 1) := by decide +kernel
theorem dX6_setGlass_17 : decode cX6_setGlass 17 = .ok (.invokevirtual 113, 3) := by decide +kernel
theorem dX6_setGlass_20 : decode cX6_setGlass 20 = .ok (.ireturn, 1) := by decide +kernel
theorem dX6_setGlass_21 : decode cX6_setGlass 21 = .ok (.iload_n 2, 1) := by decide +kernel
theorem dX6_setGlass_22 : decode cX6_setGlass 22 = .ok (.iconst 0, 1) := by decide +kernel
theorem dX6_setGlass_23 : decode cX6_setGlass 23 = .ok (.bipush 60, 2) := by decide +kernel
theorem dX6_setGlass_25 : decode cX6_setGlass 25 = .ok (.invokestatic 48, 3) := by decide +kernel
theorem dX6_setGlass_28 : decode cX6_setGlass 28 = .ok (.ifCond .ne 9, 3) := by decide +kernel
theorem dX6_setGlass_31 : decode cX6_setGlass 31 = .ok (.aload_n 0, 1) := by decide +kernel
theorem dX6_setGlass_32 : decode cX6_setGlass 32 = .ok (.iconst 2, 1) := by decide +kernel
theorem dX6_setGlass_33 : decode cX6_setGlass 33 = .ok (.invokevirtual 113, 3) := by decide +kernel
theorem dX6_setGlass_36 : decode cX6_setGlass 36 = .ok (.ireturn, 1) := by decide +kernel
theorem dX6_setGlass_37 : decode cX6_setGlass 37 = .ok (.aload_n 0, 1) := by decide +kernel
theorem dX6_setGlass_38 : decode cX6_setGlass 38 = .ok (.getfield 9, 3) := by decide +kernel
theorem dX6_setGlass_41 : decode cX6_setGlass 41 = .ok (.iload_n 1, 1) := by decide +kernel
theorem dX6_setGlass_42 : decode cX6_setGlass 42 = .ok (.iaload, 1) := by decide +kernel
theorem dX6_setGlass_43 : decode cX6_setGlass 43 = .ok (.istore_n 3, 1) := by decide +kernel
theorem dX6_setGlass_44 : decode cX6_setGlass 44 = .ok (.aload_n 0, 1) := by decide +kernel
theorem dX6_setGlass_45 : decode cX6_setGlass 45 = .ok (.getfield 9, 3) := by decide +kernel
theorem dX6_setGlass_48 : decode cX6_setGlass 48 = .ok (.iload_n 1, 1) := by decide +kernel
theorem dX6_setGlass_49 : decode cX6_setGlass 49 = .ok (.iload_n 2, 1) := by decide +kernel
theorem dX6_setGlass_50 : decode cX6_setGlass 50 = .ok (.iastore, 1) := by decide +kernel
theorem dX6_setGlass_51 : decode cX6_setGlass 51 = .ok (.iload_n 3, 1) := by decide +kernel
theorem dX6_setGlass_52 : decode cX6_setGlass 52 = .ok (.ireturn, 1) := by decide +kernel
set_option maxRecDepth 20000 in
theorem ggX6_setRain_X6_isIn : GoodIn wsX6_setRain wsX6_isIn := goodIn_r _ [6] (by decide +kernel) (by decide +kernel)
set_option maxRecDepth 20000 in
theorem gX6_setRain_X6_isIn : GoodIn wsX6_setRain (va_wsS RX6 48 yX6_isIn wsX6_isIn) := goodIn_app (goodIn_of _ (by decide +kernel)) ggX6_setRain_X6_isIn
theorem dX6_setRain_0 : decode cX6_setRain 0 = .ok (.aload_n 0, 1) := by decide +kernel
theorem dX6_setRain_1 : decode cX6_setRain 1 = .ok (.iload_n 1, 1) := by decide +kernel
theorem dX6_setRain_2 : decode cX6_setRain 2 = .ok (.iconst 0, 1) := by decide +kernel
theorem dX6_setRain_3 : decode cX6_setRain 3 = .ok (.bipush 11, 2) := by decide +kernel
theorem dX6_setRain_5 : decode cX6_setRain 5 = .ok (.invokestatic 48, 3) := by decide +kernel
theorem dX6_setRain_8 : decode cX6_setRain 8 = .ok (.ifCond .eq 7, 3) := by decide +kernel
theorem dX6_setRain_11 : decode cX6_setRain 11 = .ok (.iconst 0, 1) := by decide +kernel
theorem dX6_setRain_12 : decode cX6_setRain 12 = .ok (.goto 4, 3) := by decide +kernel
theorem dX6_setRain_15 : decode cX6_setRain 15 = .ok (.iconst 1, 1) := by decide +kernel
theorem dX6_setRain_16 : decode cX6_setRain 16 = .ok (.putfield 41, 3) := by decide +kernel
theorem dX6_setRain_19 : decode cX6_setRain 19 = .ok (.aload_n 0, 1) := by decide +kernel
theorem dX6_setRain_20 : decode cX6_setRain 20 = .ok (.getfield 41, 3) := by decide +kernel
theorem dX6_setRain_23 : decode cX6_setRain 23 = .ok (.ifCond .eq 5, 3) := by decide +kernel
theorem dX6_setRain_26 : decode cX6_setRain 26 = .ok (.iconst 0, 1) := by decide +kernel
theorem dX6_setRain_27 : decode cX6_setRain 27 = .ok (.ireturn, 1) := by decide +kernel
theorem dX6_setRain_28 : decode cX6_setRain 28 = .ok (.aload_n 0, 1) := by decide +kernel
theorem dX6_setRain_29 : decode cX6_setRain 29 = .ok (.getfield 13, 3) := by decide +kernel
theorem dX6_setRain_32 : decode cX6_setRain 32 = .ok (.iload_n 1, 1) := by decide +kernel
theorem dX6_setRain_33 : decode cX6_setRain 33 = .ok (.iaload, 1) := by decide +kernel
theorem dX6_setRain_34 : decode cX6_setRain 34 = .ok (.iconst 1, 1) := by decide +kernel
theorem dX6_setRain_35 : decode cX6_setRain 35 = .ok (.if_icmp .ne 7, 3) := by decide +kernel
theorem dX6_setRain_38 : decode cX6_setRain 38 = .ok (.iconst 1, 1) := by decide +kernel
theorem dX6_setRain_39 : decode cX6_setRain 39 = .ok (.goto 4, 3) := by decide +kernel
theorem dX6_setRain_42 : decode cX6_setRain 42 = .ok (.iconst 0, 1) := by decide +kernel
theorem dX6_setRain_43 : decode cX6_setRain 43 = .ok (.istore_n 3, 1) := by decide +kernel
theorem dX6_setRain_44 : decode cX6_setRain 44 = .ok (.aload_n 0, 1) := by decide +kernel
theorem dX6_setRain_45 : decode cX6_setRain 45 = .ok (.getfield 13, 3) := by decide +kernel
theorem dX6_setRain_48 : decode cX6_setRain 48 = .ok (.iload_n 1, 1) := by decide +kernel
theorem dX6_setRain_49 : decode cX6_setRain 49 = .ok (.iload_n 2, 1) := by decide +kernel
theorem dX6_setRain_50 : decode cX6_setRain 50 = .ok (.ifCond .eq 7, 3) := by decide +kernel
theorem dX6_setRain_53 : decode cX6_setRain 53 = .ok (.iconst 1, 1) := by decide +kernel
theorem dX6_setRain_54 : decode cX6_setRain 54 = .ok (.goto 4, 3) := by decide +kernel
theorem dX6_setRain_57 : decode cX6_setRain 57 = .ok (.iconst 0, 1) := by decide +kernel
theorem dX6_setRain_58 : decode cX6_setRain 58 = .ok (.iastore, 1) := by decide +kernel
theorem dX6_setRain_59 : decode cX6_setRain 59 = .ok (.iload_n 3, 1) := by decide +kernel
theorem dX6_setRain_60 : decode cX6_setRain 60 = .ok (.ireturn, 1) := by decide +kernel
set_option maxRecDepth 20000 in
theorem ggX6_sign_X6_isIn : GoodIn wsX6_sign wsX6_isIn := goodIn_r _ [8] (by decide +kernel) (by decide +kernel)
set_option maxRecDepth 20000 in
theorem gX6_sign_X6_isIn : GoodIn wsX6_sign (va_wsS RX6 48 yX6_isIn wsX6_isIn) := goodIn_app (goodIn_of _ (by decide +kernel)) ggX6_sign_X6_isIn
set_option maxRecDepth 20000 in
theorem ggX6_sign_X6_no : GoodIn wsX6_sign wsX6_no := goodIn_r _ [12, 1, 13, 14, 15, 16, 17, 18, 19, 20, 21, 22] (by decide +kernel) (by decide +kernel)
set_option maxRecDepth 20000 in
theorem gX6_sign_X6_no : GoodIn wsX6_sign (wsV RX6 113 RX6 yX6_no wsX6_no) := goodIn_app (goodIn_of _ (by decide +kernel)) ggX6_sign_X6_no
theorem dX6_sign_0 : decode cX6_sign 0 = .ok (.aload_n 0, 1) := by decide +kernel
theorem dX6_sign_1 : decode cX6_sign 1 = .ok (.iconst 0, 1) := by decide +kernel
theorem dX6_sign_2 : decode cX6_sign 2 = .ok (.putfield 41, 3) := by decide +kernel
theorem dX6_sign_5 : decode cX6_sign 5 = .ok (.iload_n 1, 1) := by decide +kernel
theorem dX6_sign_6 : decode cX6_sign 6 = .ok (.iconst 0, 1) := by decide +kernel
theorem dX6_sign_7 : decode cX6_sign 7 = .ok (.iconst 5, 1) := by decide +kernel
theorem dX6_sign_8 : decode cX6_sign 8 = .ok (.invokestatic 48, 3) := by decide +kernel
theorem dX6_sign_11 : decode cX6_sign 11 = .ok (.ifCond .eq 13, 3) := by decide +kernel
theorem dX6_sign_14 : decode cX6_sign 14 = .ok (.iload_n 2, 1) := by decide +kernel
theorem dX6_sign_15 : decode cX6_sign 15 = .ok (.iconst 0, 1) := by decide +kernel
theorem dX6_sign_16 : decode cX6_sign 16 = .ok (.bipush 60, 2) := by decide +kernel
theorem dX6_sign_18 : decode cX6_sign 18 = .ok (.invokestatic 48, 3) := by decide +kernel
theorem dX6_sign_21 : decode cX6_sign 21 = .ok (.ifCond .ne 9, 3) := by decide +kernel
theorem dX6_sign_24 : decode cX6_sign 24 = .ok (.aload_n 0, 1) := by decide +kernel
theorem dX6_sign_25 : decode cX6_sign 25 = .ok (.iconst 1, 1) := by decide +kernel
theorem dX6_sign_26 : decode cX6_sign 26 = .ok (.invokevirtual 113, 3) := by decide +kernel
theorem dX6_sign_29 : decode cX6_sign 29 = .ok (.ireturn, 1) := by decide +kernel
theorem dX6_sign_30 : decode cX6_sign 30 = .ok (.aload_n 0, 1) := by decide +kernel
theorem dX6_sign_31 : decode cX6_sign 31 = .ok (.getfield 45, 3) := by decide +kernel
theorem dX6_sign_34 : decode cX6_sign 34 = .ok (.bipush 8, 2) := by decide +kernel
theorem dX6_sign_36 : decode cX6_sign 36 = .ok (.if_icmp .ne 9, 3) := by decide +kernel
theorem dX6_sign_39 : decode cX6_sign 39 = .ok (.aload_n 0, 1) := by decide +kernel
theorem dX6_sign_40 : decode cX6_sign 40 = .ok (.iconst 2, 1) := by decide +kernel
theorem dX6_sign_41 : decode cX6_sign 41 = .ok (.invokevirtual 113, 3) := by decide +kernel
theorem dX6_sign_44 : decode cX6_sign 44 = .ok (.ireturn, 1) := by decide +kernel
theorem dX6_sign_45 : decode cX6_sign 45 = .ok (.aload_n 0, 1) := by decide +kernel
theorem dX6_sign_46 : decode cX6_sign 46 = .ok (.getfield 16, 3) := by decide +kernel
theorem dX6_sign_49 : decode cX6_sign 49 = .ok (.aload_n 0, 1) := by decide +kernel
theorem dX6_sign_50 : decode cX6_sign 50 = .ok (.getfield 45, 3) := by decide +kernel
theorem dX6_sign_53 : decode cX6_sign 53 = .ok (.iload_n 1, 1) := by decide +kernel
theorem dX6_sign_54 : decode cX6_sign 54 = .ok (.iastore, 1) := by decide +kernel
theorem dX6_sign_55 : decode cX6_sign 55 = .ok (.aload_n 0, 1) := by decide +kernel
theorem dX6_sign_56 : decode cX6_sign 56 = .ok (.getfield 19, 3) := by decide +kernel
theorem dX6_sign_59 : decode cX6_sign 59 = .ok (.aload_n 0, 1) := by decide +kernel
theorem dX6_sign_60 : decode cX6_sign 60 = .ok (.getfield 45, 3) := by decide +kernel
theorem dX6_sign_63 : decode cX6_sign 63 = .ok (.iload_n 2, 1) := by decide +kernel
theorem dX6_sign_64 : decode cX6_sign 64 = .ok (.iastore, 1) := by decide +kernel
theorem dX6_sign_65 : decode cX6_sign 65 = .ok (.aload_n 0, 1) := by decide +kernel
theorem dX6_sign_66 : decode cX6_sign 66 = .ok (.dup, 1) := by decide +kernel
theorem dX6_sign_67 : decode cX6_sign 67 = .ok (.getfield 45, 3) := by decide +kernel
theorem dX6_sign_70 : decode cX6_sign 70 = .ok (.iconst 1, 1) := by decide +kernel
theorem dX6_sign_71 : decode cX6_sign 71 = .ok (.iadd, 1) := by decide +kernel
theorem dX6_sign_72 : decode cX6_sign 72 = .ok (.putfield 45, 3) := by decide +kernel
theorem dX6_sign_75 : decode cX6_sign 75 = .ok (.aload_n 0, 1) := by decide +kernel
theorem dX6_sign_76 : decode cX6_sign 76 = .ok (.getfield 45, 3) := by decide +kernel
theorem dX6_sign_79 : decode cX6_sign 79 = .ok (.iconst 1, 1) := by decide +kernel
theorem dX6_sign_80 : decode cX6_sign 80 = .ok (.isub, 1) := by decide +kernel
theorem dX6_sign_81 : decode cX6_sign 81 = .ok (.ireturn, 1) := by decide +kernel
set_option maxRecDepth 20000 in
theorem ggX6_join_X6_no : GoodIn wsX6_join wsX6_no := goodIn_r _ [7, 1, 8, 9, 10, 11, 12, 13, 14, 15, 16, 17] (by decide +kernel) (by decide +kernel)
set_option maxRecDepth 20000 in
theorem gX6_join_X6_no : GoodIn wsX6_join (wsV RX6 113 RX6 yX6_no wsX6_no) := goodIn_app (goodIn_of _ (by decide +kernel)) ggX6_join_X6_no
theorem dX6_join_0 : decode cX6_join 0 = .ok (.aload_n 0, 1) := by decide +kernel
theorem dX6_join_1 : decode cX6_join 1 = .ok (.iconst 0, 1) := by decide +kernel
theorem dX6_join_2 : decode cX6_join 2 = .ok (.putfield 41, 3) := by decide +kernel
theorem dX6_join_5 : decode cX6_join 5 = .ok (.aload_n 0, 1) := by decide +kernel
theorem dX6_join_6 : decode cX6_join 6 = .ok (.getfield 52, 3) := by decide +kernel
theorem dX6_join_9 : decode cX6_join 9 = .ok (.bipush 6, 2) := by decide +kernel
theorem dX6_join_11 : decode cX6_join 11 = .ok (.if_icmp .ne 9, 3) := by decide +kernel
theorem dX6_join_14 : decode cX6_join 14 = .ok (.aload_n 0, 1) := by decide +kernel
theorem dX6_join_15 : decode cX6_join 15 = .ok (.iconst 1, 1) := by decide +kernel
theorem dX6_join_16 : decode cX6_join 16 = .ok (.invokevirtual 113, 3) := by decide +kernel
theorem dX6_join_19 : decode cX6_join 19 = .ok (.ireturn, 1) := by decide +kernel
theorem dX6_join_20 : decode cX6_join 20 = .ok (.aload_n 0, 1) := by decide +kernel
theorem dX6_join_21 : decode cX6_join 21 = .ok (.dup, 1) := by decide +kernel
theorem dX6_join_22 : decode cX6_join 22 = .ok (.getfield 52, 3) := by decide +kernel
theorem dX6_join_25 : decode cX6_join 25 = .ok (.iconst 1, 1) := by decide +kernel
theorem dX6_join_26 : decode cX6_join 26 = .ok (.iadd, 1) := by decide +kernel
theorem dX6_join_27 : decode cX6_join 27 = .ok (.putfield 52, 3) := by decide +kernel
theorem dX6_join_30 : decode cX6_join 30 = .ok (.aload_n 0, 1) := by decide +kernel
theorem dX6_join_31 : decode cX6_join 31 = .ok (.getfield 52, 3) := by decide +kernel
theorem dX6_join_34 : decode cX6_join 34 = .ok (.iconst 1, 1) := by decide +kernel
theorem dX6_join_35 : decode cX6_join 35 = .ok (.isub, 1) := by decide +kernel
theorem dX6_join_36 : decode cX6_join 36 = .ok (.ireturn, 1) := by decide +kernel
