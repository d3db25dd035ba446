set_option maxRecDepth 20000 in
theorem ggX6_weigh_X6_isVillage : GoodIn wsX6_weigh wsX6_isVillage := goodIn_r _ [7, 8, 9, 10, 6, 11, 21, 22, 23, 24, 25, 26, 27, 28, 29, 30] (by decide +kernel) (by decide +kernel)
set_option maxRecDepth 20000 in
theorem gX6_weigh_X6_isVillage : GoodIn wsX6_weigh (wsV RX6 117 RX6 yX6_isVillage wsX6_isVillage) := goodIn_app (goodIn_of _ (by decide +kernel)) ggX6_weigh_X6_isVillage
set_option maxRecDepth 20000 in
theorem ggX6_weigh_X6_isSign : GoodIn wsX6_weigh wsX6_isSign := goodIn_r _ [15, 16, 9, 10, 6, 11, 21, 22, 23, 24, 25, 26, 27, 28, 29, 30] (by decide +kernel) (by decide +kernel)
set_option maxRecDepth 20000 in
theorem gX6_weigh_X6_isSign : GoodIn wsX6_weigh (wsV RX6 121 RX6 yX6_isSign wsX6_isSign) := goodIn_app (goodIn_of _ (by decide +kernel)) ggX6_weigh_X6_isSign
set_option maxRecDepth 20000 in
theorem ggX6_weigh_X6_no : GoodIn wsX6_weigh wsX6_no := goodIn_r _ [20, 1, 21, 22, 23, 24, 25, 26, 27, 28, 29, 30] (by decide +kernel) (by decide +kernel)
set_option maxRecDepth 20000 in
theorem gX6_weigh_X6_no : GoodIn wsX6_weigh (wsV RX6 113 RX6 yX6_no wsX6_no) := goodIn_app (goodIn_of _ (by decide +kernel)) ggX6_weigh_X6_no
set_option maxRecDepth 20000 in
theorem ggX6_weigh_X6_isIn : GoodIn wsX6_weigh wsX6_isIn := goodIn_r _ [11] (by decide +kernel) (by decide +kernel)
set_option maxRecDepth 20000 in
theorem gX6_weigh_X6_isIn : GoodIn wsX6_weigh (va_wsS RX6 48 yX6_isIn wsX6_isIn) := goodIn_app (goodIn_of _ (by decide +kernel)) ggX6_weigh_X6_isIn
theorem dX6_weigh_0 : decode cX6_weigh 0 = .ok (.aload_n 0, 1) := by decide +kernel
theorem dX6_weigh_1 : decode cX6_weigh 1 = .ok (.iconst 0, 1) := by decide +kernel
theorem dX6_weigh_2 : decode cX6_weigh 2 = .ok (.putfield 41, 3) := by decide +kernel
theorem dX6_weigh_5 : decode cX6_weigh 5 = .ok (.aload_n 0, 1) := by decide +kernel
theorem dX6_weigh_6 : decode cX6_weigh 6 = .ok (.iload_n 1, 1) := by decide +kernel
theorem dX6_weigh_7 : decode cX6_weigh 7 = .ok (.invokevirtual 117, 3) := by decide +kernel
theorem dX6_weigh_10 : decode cX6_weigh 10 = .ok (.ifCond .eq 11, 3) := by decide +kernel
theorem dX6_weigh_13 : decode cX6_weigh 13 = .ok (.aload_n 0, 1) := by decide +kernel
theorem dX6_weigh_14 : decode cX6_weigh 14 = .ok (.iload_n 2, 1) := by decide +kernel
theorem dX6_weigh_15 : decode cX6_weigh 15 = .ok (.invokevirtual 121, 3) := by decide +kernel
theorem dX6_weigh_18 : decode cX6_weigh 18 = .ok (.ifCond .ne 9, 3) := by decide +kernel
theorem dX6_weigh_21 : decode cX6_weigh 21 = .ok (.aload_n 0, 1) := by decide +kernel
theorem dX6_weigh_22 : decode cX6_weigh 22 = .ok (.iconst 1, 1) := by decide +kernel
theorem dX6_weigh_23 : decode cX6_weigh 23 = .ok (.invokevirtual 113, 3) := by decide +kernel
theorem dX6_weigh_26 : decode cX6_weigh 26 = .ok (.ireturn, 1) := by decide +kernel
theorem dX6_weigh_27 : decode cX6_weigh 27 = .ok (.iload_n 3, 1) := by decide +kernel
theorem dX6_weigh_28 : decode cX6_weigh 28 = .ok (.iconst 0, 1) := by decide +kernel
theorem dX6_weigh_29 : decode cX6_weigh 29 = .ok (.bipush 100, 2) := by decide +kernel
theorem dX6_weigh_31 : decode cX6_weigh 31 = .ok (.invokestatic 48, 3) := by decide +kernel
theorem dX6_weigh_34 : decode cX6_weigh 34 = .ok (.ifCond .ne 9, 3) := by decide +kernel
theorem dX6_weigh_37 : decode cX6_weigh 37 = .ok (.aload_n 0, 1) := by decide +kernel
theorem dX6_weigh_38 : decode cX6_weigh 38 = .ok (.iconst 2, 1) := by decide +kernel
theorem dX6_weigh_39 : decode cX6_weigh 39 = .ok (.invokevirtual 113, 3) := by decide +kernel
theorem dX6_weigh_42 : decode cX6_weigh 42 = .ok (.ireturn, 1) := by decide +kernel
theorem dX6_weigh_43 : decode cX6_weigh 43 = .ok (.aload_n 0, 1) := by decide +kernel
theorem dX6_weigh_44 : decode cX6_weigh 44 = .ok (.getfield 28, 3) := by decide +kernel
theorem dX6_weigh_47 : decode cX6_weigh 47 = .ok (.getfield 35, 3) := by decide +kernel
theorem dX6_weigh_50 : decode cX6_weigh 50 = .ok (.bipush 8, 2) := by decide +kernel
theorem dX6_weigh_52 : decode cX6_weigh 52 = .ok (.iload_n 1, 1) := by decide +kernel
theorem dX6_weigh_53 : decode cX6_weigh 53 = .ok (.imul, 1) := by decide +kernel
theorem dX6_weigh_54 : decode cX6_weigh 54 = .ok (.iload_n 2, 1) := by decide +kernel
theorem dX6_weigh_55 : decode cX6_weigh 55 = .ok (.iadd, 1) := by decide +kernel
theorem dX6_weigh_56 : decode cX6_weigh 56 = .ok (.iaload, 1) := by decide +kernel
theorem dX6_weigh_57 : decode cX6_weigh 57 = .ok (.istore 4, 2) := by decide +kernel
theorem dX6_weigh_59 : decode cX6_weigh 59 = .ok (.aload_n 0, 1) := by decide +kernel
theorem dX6_weigh_60 : decode cX6_weigh 60 = .ok (.getfield 28, 3) := by decide +kernel
theorem dX6_weigh_63 : decode cX6_weigh 63 = .ok (.getfield 35, 3) := by decide +kernel
theorem dX6_weigh_66 : decode cX6_weigh 66 = .ok (.bipush 8, 2) := by decide +kernel
theorem dX6_weigh_68 : decode cX6_weigh 68 = .ok (.iload_n 1, 1) := by decide +kernel
theorem dX6_weigh_69 : decode cX6_weigh 69 = .ok (.imul, 1) := by decide +kernel
theorem dX6_weigh_70 : decode cX6_weigh 70 = .ok (.iload_n 2, 1) := by decide +kernel
theorem dX6_weigh_71 : decode cX6_weigh 71 = .ok (.iadd, 1) := by decide +kernel
theorem dX6_weigh_72 : decode cX6_weigh 72 = .ok (.iload_n 3, 1) := by decide +kernel
theorem dX6_weigh_73 : decode cX6_weigh 73 = .ok (.iastore, 1) := by decide +kernel
theorem dX6_weigh_74 : decode cX6_weigh 74 = .ok (.iload 4, 2) := by decide +kernel
theorem dX6_weigh_76 : decode cX6_weigh 76 = .ok (.ireturn, 1) := by decide +kernel
set_option maxRecDepth 20000 in
theorem ggX6_share_X6_isVillage : GoodIn wsX6_share wsX6_isVillage := goodIn_r _ [8, 9, 10, 11, 7, 12, 17, 18, 19, 20, 21, 22, 23, 24, 25, 26] (by decide +kernel) (by decide +kernel)
set_option maxRecDepth 20000 in
theorem gX6_share_X6_isVillage : GoodIn wsX6_share (wsV RX6 117 RX6 yX6_isVillage wsX6_isVillage) := goodIn_app (goodIn_of _ (by decide +kernel)) ggX6_share_X6_isVillage
set_option maxRecDepth 20000 in
theorem ggX6_share_X6_no : GoodIn wsX6_share wsX6_no := goodIn_r _ [16, 1, 17, 18, 19, 20, 21, 22, 23, 24, 25, 26] (by decide +kernel) (by decide +kernel)
set_option maxRecDepth 20000 in
theorem gX6_share_X6_no : GoodIn wsX6_share (wsV RX6 113 RX6 yX6_no wsX6_no) := goodIn_app (goodIn_of _ (by decide +kernel)) ggX6_share_X6_no
theorem dX6_share_0 : decode cX6_share 0 = .ok (.aload_n 0, 1) := by decide +kernel
theorem dX6_share_1 : decode cX6_share 1 = .ok (.iconst 0, 1) := by decide +kernel
theorem dX6_share_2 : decode cX6_share 2 = .ok (.putfield 41, 3) := by decide +kernel
theorem dX6_share_5 : decode cX6_share 5 = .ok (.aload_n 0, 1) := by decide +kernel
theorem dX6_share_6 : decode cX6_share 6 = .ok (.iload_n 1, 1) := by decide +kernel
theorem dX6_share_7 : decode cX6_share 7 = .ok (.invokevirtual 117, 3) := by decide +kernel
theorem dX6_share_10 : decode cX6_share 10 = .ok (.ifCond .eq 11, 3) := by decide +kernel
theorem dX6_share_13 : decode cX6_share 13 = .ok (.aload_n 0, 1) := by decide +kernel
theorem dX6_share_14 : decode cX6_share 14 = .ok (.iload_n 2, 1) := by decide +kernel
theorem dX6_share_15 : decode cX6_share 15 = .ok (.invokevirtual 117, 3) := by decide +kernel
theorem dX6_share_18 : decode cX6_share 18 = .ok (.ifCond .ne 9, 3) := by decide +kernel
theorem dX6_share_21 : decode cX6_share 21 = .ok (.aload_n 0, 1) := by decide +kernel
theorem dX6_share_22 : decode cX6_share 22 = .ok (.iconst 1, 1) := by decide +kernel
theorem dX6_share_23 : decode cX6_share 23 = .ok (.invokevirtual 113, 3) := by decide +kernel
theorem dX6_share_26 : decode cX6_share 26 = .ok (.ireturn, 1) := by decide +kernel
theorem dX6_share_27 : decode cX6_share 27 = .ok (.iload_n 1, 1) := by decide +kernel
theorem dX6_share_28 : decode cX6_share 28 = .ok (.iload_n 2, 1) := by decide +kernel
theorem dX6_share_29 : decode cX6_share 29 = .ok (.if_icmp .ne 9, 3) := by decide +kernel
theorem dX6_share_32 : decode cX6_share 32 = .ok (.aload_n 0, 1) := by decide +kernel
theorem dX6_share_33 : decode cX6_share 33 = .ok (.iconst 2, 1) := by decide +kernel
theorem dX6_share_34 : decode cX6_share 34 = .ok (.invokevirtual 113, 3) := by decide +kernel
theorem dX6_share_37 : decode cX6_share 37 = .ok (.ireturn, 1) := by decide +kernel
theorem dX6_share_38 : decode cX6_share 38 = .ok (.aload_n 0, 1) := by decide +kernel
theorem dX6_share_39 : decode cX6_share 39 = .ok (.getfield 28, 3) := by decide +kernel
theorem dX6_share_42 : decode cX6_share 42 = .ok (.getfield 38, 3) := by decide +kernel
theorem dX6_share_45 : decode cX6_share 45 = .ok (.iload_n 1, 1) := by decide +kernel
theorem dX6_share_46 : decode cX6_share 46 = .ok (.iaload, 1) := by decide +kernel
theorem dX6_share_47 : decode cX6_share 47 = .ok (.iconst 5, 1) := by decide +kernel
theorem dX6_share_48 : decode cX6_share 48 = .ok (.if_icmp .ge 9, 3) := by decide +kernel
theorem dX6_share_51 : decode cX6_share 51 = .ok (.aload_n 0, 1) := by decide +kernel
theorem dX6_share_52 : decode cX6_share 52 = .ok (.iconst 3, 1) := by decide +kernel
theorem dX6_share_53 : decode cX6_share 53 = .ok (.invokevirtual 113, 3) := by decide +kernel
theorem dX6_share_56 : decode cX6_share 56 = .ok (.ireturn, 1) := by decide +kernel
theorem dX6_share_57 : decode cX6_share 57 = .ok (.aload_n 0, 1) := by decide +kernel
theorem dX6_share_58 : decode cX6_share 58 = .ok (.getfield 28, 3) := by decide +kernel
theorem dX6_share_61 : decode cX6_share 61 = .ok (.getfield 38, 3) := by decide +kernel
theorem dX6_share_64 : decode cX6_share 64 = .ok (.iload_n 1, 1) := by decide +kernel
theorem dX6_share_65 : decode cX6_share 65 = .ok (.dup2, 1) := by decide +kernel
theorem dX6_share_66 : decode cX6_share 66 = .ok (.iaload, 1) := by decide +kernel
theorem dX6_share_67 : decode cX6_share 67 = .ok (.iconst 5, 1) := by decide +kernel
theorem dX6_share_68 : decode cX6_share 68 = .ok (.isub, 1) := by decide +kernel
theorem dX6_share_69 : decode cX6_share 69 = .ok (.iastore, 1) := by decide +kernel
theorem dX6_share_70 : decode cX6_share 70 = .ok (.aload_n 0, 1) := by decide +kernel
theorem dX6_share_71 : decode cX6_share 71 = .ok (.getfield 28, 3) := by decide +kernel
theorem dX6_share_74 : decode cX6_share 74 = .ok (.getfield 38, 3) := by decide +kernel
theorem dX6_share_77 : decode cX6_share 77 = .ok (.iload_n 2, 1) := by decide +kernel
theorem dX6_share_78 : decode cX6_share 78 = .ok (.dup2, 1) := by decide +kernel
theorem dX6_share_79 : decode cX6_share 79 = .ok (.iaload, 1) := by decide +kernel
theorem dX6_share_80 : decode cX6_share 80 = .ok (.iconst 5, 1) := by decide +kernel
theorem dX6_share_81 : decode cX6_share 81 = .ok (.iadd, 1) := by decide +kernel
theorem dX6_share_82 : decode cX6_share 82 = .ok (.iastore, 1) := by decide +kernel
theorem dX6_share_83 : decode cX6_share 83 = .ok (.iconst 0, 1) := by decide +kernel
theorem dX6_share_84 : decode cX6_share 84 = .ok (.istore_n 3, 1) := by decide +kernel
theorem dX6_share_85 : decode cX6_share 85 = .ok (.iload_n 3, 1) := by decide +kernel
theorem dX6_share_86 : decode cX6_share 86 = .ok (.aload_n 0, 1) := by decide +kernel
theorem dX6_share_87 : decode cX6_share 87 = .ok (.getfield 45, 3) := by decide +kernel
theorem dX6_share_90 : decode cX6_share 90 = .ok (.if_icmp .ge 54, 3) := by decide +kernel
theorem dX6_share_93 : decode cX6_share 93 = .ok (.aload_n 0, 1) := by decide +kernel
theorem dX6_share_94 : decode cX6_share 94 = .ok (.getfield 28, 3) := by decide +kernel
theorem dX6_share_97 : decode cX6_share 97 = .ok (.getfield 35, 3) := by decide +kernel
theorem dX6_share_100 : decode cX6_share 100 = .ok (.bipush 8, 2) := by decide +kernel
theorem dX6_share_102 : decode cX6_share 102 = .ok (.iload_n 1, 1) := by decide +kernel
theorem dX6_share_103 : decode cX6_share 103 = .ok (.imul, 1) := by decide +kernel
theorem dX6_share_104 : decode cX6_share 104 = .ok (.iload_n 3, 1) := by decide +kernel
theorem dX6_share_105 : decode cX6_share 105 = .ok (.iadd, 1) := by decide +kernel
theorem dX6_share_106 : decode cX6_share 106 = .ok (.aload_n 0, 1) := by decide +kernel
theorem dX6_share_107 : decode cX6_share 107 = .ok (.getfield 28, 3) := by decide +kernel
theorem dX6_share_110 : decode cX6_share 110 = .ok (.getfield 35, 3) := by decide +kernel
theorem dX6_share_113 : decode cX6_share 113 = .ok (.bipush 8, 2) := by decide +kernel
theorem dX6_share_115 : decode cX6_share 115 = .ok (.iload_n 1, 1) := by decide +kernel
theorem dX6_share_116 : decode cX6_share 116 = .ok (.imul, 1) := by decide +kernel
theorem dX6_share_117 : decode cX6_share 117 = .ok (.iload_n 3, 1) := by decide +kernel
theorem dX6_share_118 : decode cX6_share 118 = .ok (.iadd, 1) := by decide +kernel
theorem dX6_share_119 : decode cX6_share 119 = .ok (.iaload, 1) := by decide +kernel
theorem dX6_share_120 : decode cX6_share 120 = .ok (.aload_n 0, 1) := by decide +kernel
theorem dX6_share_121 : decode cX6_share 121 = .ok (.getfield 28, 3) := by decide +kernel
theorem dX6_share_124 : decode cX6_share 124 = .ok (.getfield 35, 3) := by decide +kernel
theorem dX6_share_127 : decode cX6_share 127 = .ok (.bipush 8, 2) := by decide +kernel
theorem dX6_share_129 : decode cX6_share 129 = .ok (.iload_n 2, 1) := by decide +kernel
theorem dX6_share_130 : decode cX6_share 130 = .ok (.imul, 1) := by decide +kernel
theorem dX6_share_131 : decode cX6_share 131 = .ok (.iload_n 3, 1) := by decide +kernel
theorem dX6_share_132 : decode cX6_share 132 = .ok (.iadd, 1) := by decide +kernel
theorem dX6_share_133 : decode cX6_share 133 = .ok (.iaload, 1) := by decide +kernel
theorem dX6_share_134 : decode cX6_share 134 = .ok (.iadd, 1) := by decide +kernel
theorem dX6_share_135 : decode cX6_share 135 = .ok (.iconst 2, 1) := by decide +kernel
theorem dX6_share_136 : decode cX6_share 136 = .ok (.idiv, 1) := by decide +kernel
theorem dX6_share_137 : decode cX6_share 137 = .ok (.iastore, 1) := by decide +kernel
theorem dX6_share_138 : decode cX6_share 138 = .ok (.iinc 3 1, 3) := by decide +kernel
theorem dX6_share_141 : decode cX6_share 141 = .ok (.goto (-56), 3) := by decide +kernel
theorem dX6_share_144 : decode cX6_share 144 = .ok (.aload_n 0, 1) := by decide +kernel
theorem dX6_share_145 : decode cX6_share 145 = .ok (.getfield 28, 3) := by decide +kernel
theorem dX6_share_148 : decode cX6_share 148 = .ok (.getfield 38, 3) := by decide +kernel
theorem dX6_share_151 : decode cX6_share 151 = .ok (.iload_n 1, 1) := by decide +kernel
theorem dX6_share_152 : decode cX6_share 152 = .ok (.iaload, 1) := by decide +kernel
theorem dX6_share_153 : decode cX6_share 153 = .ok (.ireturn, 1) := by decide +kernel
set_option maxRecDepth 20000 in
theorem ggX6_says_X6_isSign : GoodIn wsX6_says wsX6_isSign := goodIn_r _ [6, 7, 8, 9, 5, 10, 19, 20, 21, 22, 23, 24, 25, 26, 27, 28] (by decide +kernel) (by decide +kernel)
set_option maxRecDepth 20000 in
theorem gX6_says_X6_isSign : GoodIn wsX6_says (wsV RX6 121 RX6 yX6_isSign wsX6_isSign) := goodIn_app (goodIn_of _ (by decide +kernel)) ggX6_says_X6_isSign
set_option maxRecDepth 20000 in
theorem ggX6_says_X6_isIn : GoodIn wsX6_says wsX6_isIn := goodIn_r _ [10] (by decide +kernel) (by decide +kernel)
set_option maxRecDepth 20000 in
theorem gX6_says_X6_isIn : GoodIn wsX6_says (va_wsS RX6 48 yX6_isIn wsX6_isIn) := goodIn_app (goodIn_of _ (by decide +kernel)) ggX6_says_X6_isIn
set_option maxRecDepth 20000 in
theorem ggX6_says_X6_isRain : GoodIn wsX6_says wsX6_isRain := goodIn_r _ [14, 15, 16, 17, 18, 19, 20, 21, 22, 23, 24, 25, 26, 27, 28] (by decide +kernel) (by decide +kernel)
set_option maxRecDepth 20000 in
theorem gX6_says_X6_isRain : GoodIn wsX6_says (wsV RX6 55 RX6 yX6_isRain wsX6_isRain) := goodIn_app (goodIn_of _ (by decide +kernel)) ggX6_says_X6_isRain
theorem dX6_says_0 : decode cX6_says 0 = .ok (.aload_n 0, 1) := by decide +kernel
theorem dX6_says_1 : decode cX6_says 1 = .ok (.aload_n 0, 1) := by decide +kernel
theorem dX6_says_2 : decode cX6_says 2 = .ok (.iload_n 1, 1) := by decide +kernel
theorem dX6_says_3 : decode cX6_says 3 = .ok (.invokevirtual 121, 3) := by decide +kernel
theorem dX6_says_6 : decode cX6_says 6 = .ok (.ifCond .ne 7, 3) := by decide +kernel
theorem dX6_says_9 : decode cX6_says 9 = .ok (.iconst 1, 1) := by decide +kernel
theorem dX6_says_10 : decode cX6_says 10 = .ok (.goto 19, 3) := by decide +kernel
theorem dX6_says_13 : decode cX6_says 13 = .ok (.iload_n 2, 1) := by decide +kernel
theorem dX6_says_14 : decode cX6_says 14 = .ok (.iconst 0, 1) := by decide +kernel
theorem dX6_says_15 : decode cX6_says 15 = .ok (.sipush 999, 3) := by decide +kernel
theorem dX6_says_18 : decode cX6_says 18 = .ok (.invokestatic 48, 3) := by decide +kernel
theorem dX6_says_21 : decode cX6_says 21 = .ok (.ifCond .ne 7, 3) := by decide +kernel
theorem dX6_says_24 : decode cX6_says 24 = .ok (.iconst 2, 1) := by decide +kernel
theorem dX6_says_25 : decode cX6_says 25 = .ok (.goto 4, 3) := by decide +kernel
theorem dX6_says_28 : decode cX6_says 28 = .ok (.iconst 0, 1) := by decide +kernel
theorem dX6_says_29 : decode cX6_says 29 = .ok (.putfield 41, 3) := by decide +kernel
theorem dX6_says_32 : decode cX6_says 32 = .ok (.aload_n 0, 1) := by decide +kernel
theorem dX6_says_33 : decode cX6_says 33 = .ok (.getfield 41, 3) := by decide +kernel
theorem dX6_says_36 : decode cX6_says 36 = .ok (.ifCond .ne 16, 3) := by decide +kernel
theorem dX6_says_39 : decode cX6_says 39 = .ok (.aload_n 0, 1) := by decide +kernel
theorem dX6_says_40 : decode cX6_says 40 = .ok (.iload_n 1, 1) := by decide +kernel
theorem dX6_says_41 : decode cX6_says 41 = .ok (.iload_n 2, 1) := by decide +kernel
theorem dX6_says_42 : decode cX6_says 42 = .ok (.invokevirtual 55, 3) := by decide +kernel
theorem dX6_says_45 : decode cX6_says 45 = .ok (.ifCond .eq 7, 3) := by decide +kernel
theorem dX6_says_48 : decode cX6_says 48 = .ok (.iconst 1, 1) := by decide +kernel
theorem dX6_says_49 : decode cX6_says 49 = .ok (.goto 4, 3) := by decide +kernel
theorem dX6_says_52 : decode cX6_says 52 = .ok (.iconst 0, 1) := by decide +kernel
theorem dX6_says_53 : decode cX6_says 53 = .ok (.ireturn, 1) := by decide +kernel
set_option maxRecDepth 20000 in
theorem ggX6_signTold_X6_rightDays : GoodIn wsX6_signTold wsX6_rightDays := goodIn_r _ [9, 10, 11, 12, 8, 13, 14, 15, 16, 17, 18, 1, 19, 2, 20, 21, 22, 23, 24, 25, 26, 27, 28, 29] (by decide +kernel) (by decide +kernel)
set_option maxRecDepth 20000 in
theorem gX6_signTold_X6_rightDays : GoodIn wsX6_signTold (wsV RX6 124 RX6 yX6_rightDays wsX6_rightDays) := goodIn_app (goodIn_of _ (by decide +kernel)) ggX6_signTold_X6_rightDays
theorem dX6_signTold_0 : decode cX6_signTold 0 = .ok (.iload_n 2, 1) := by decide +kernel
theorem dX6_signTold_1 : decode cX6_signTold 1 = .ok (.iconst 3, 1) := by decide +kernel
theorem dX6_signTold_2 : decode cX6_signTold 2 = .ok (.if_icmp .ge 36, 3) := by decide +kernel
theorem dX6_signTold_5 : decode cX6_signTold 5 = .ok (.iload_n 2, 1) := by decide +kernel
theorem dX6_signTold_6 : decode cX6_signTold 6 = .ok (.ifCond .ne 12, 3) := by decide +kernel
theorem dX6_signTold_9 : decode cX6_signTold 9 = .ok (.aload_n 0, 1) := by decide +kernel
theorem dX6_signTold_10 : decode cX6_signTold 10 = .ok (.getfield 16, 3) := by decide +kernel
theorem dX6_signTold_13 : decode cX6_signTold 13 = .ok (.iload_n 1, 1) := by decide +kernel
theorem dX6_signTold_14 : decode cX6_signTold 14 = .ok (.iaload, 1) := by decide +kernel
theorem dX6_signTold_15 : decode cX6_signTold 15 = .ok (.goto 22, 3) := by decide +kernel
theorem dX6_signTold_18 : decode cX6_signTold 18 = .ok (.iload_n 2, 1) := by decide +kernel
theorem dX6_signTold_19 : decode cX6_signTold 19 = .ok (.iconst 1, 1) := by decide +kernel
theorem dX6_signTold_20 : decode cX6_signTold 20 = .ok (.if_icmp .ne 12, 3) := by decide +kernel
theorem dX6_signTold_23 : decode cX6_signTold 23 = .ok (.aload_n 0, 1) := by decide +kernel
theorem dX6_signTold_24 : decode cX6_signTold 24 = .ok (.getfield 19, 3) := by decide +kernel
theorem dX6_signTold_27 : decode cX6_signTold 27 = .ok (.iload_n 1, 1) := by decide +kernel
theorem dX6_signTold_28 : decode cX6_signTold 28 = .ok (.iaload, 1) := by decide +kernel
theorem dX6_signTold_29 : decode cX6_signTold 29 = .ok (.goto 8, 3) := by decide +kernel
theorem dX6_signTold_32 : decode cX6_signTold 32 = .ok (.aload_n 0, 1) := by decide +kernel
theorem dX6_signTold_33 : decode cX6_signTold 33 = .ok (.iload_n 1, 1) := by decide +kernel
theorem dX6_signTold_34 : decode cX6_signTold 34 = .ok (.invokevirtual 124, 3) := by decide +kernel
theorem dX6_signTold_37 : decode cX6_signTold 37 = .ok (.ireturn, 1) := by decide +kernel
theorem dX6_signTold_38 : decode cX6_signTold 38 = .ok (.iconst 0, 1) := by decide +kernel
theorem dX6_signTold_39 : decode cX6_signTold 39 = .ok (.istore_n 3, 1) := by decide +kernel
theorem dX6_signTold_40 : decode cX6_signTold 40 = .ok (.iconst 0, 1) := by decide +kernel
theorem dX6_signTold_41 : decode cX6_signTold 41 = .ok (.istore 4, 2) := by decide +kernel
theorem dX6_signTold_43 : decode cX6_signTold 43 = .ok (.iload 4, 2) := by decide +kernel
theorem dX6_signTold_45 : decode cX6_signTold 45 = .ok (.aload_n 0, 1) := by decide +kernel
theorem dX6_signTold_46 : decode cX6_signTold 46 = .ok (.getfield 52, 3) := by decide +kernel
theorem dX6_signTold_49 : decode cX6_signTold 49 = .ok (.if_icmp .ge 27, 3) := by decide +kernel
theorem dX6_signTold_52 : decode cX6_signTold 52 = .ok (.iload_n 3, 1) := by decide +kernel
theorem dX6_signTold_53 : decode cX6_signTold 53 = .ok (.aload_n 0, 1) := by decide +kernel
theorem dX6_signTold_54 : decode cX6_signTold 54 = .ok (.getfield 28, 3) := by decide +kernel
theorem dX6_signTold_57 : decode cX6_signTold 57 = .ok (.getfield 35, 3) := by decide +kernel
theorem dX6_signTold_60 : decode cX6_signTold 60 = .ok (.bipush 8, 2) := by decide +kernel
theorem dX6_signTold_62 : decode cX6_signTold 62 = .ok (.iload 4, 2) := by decide +kernel
theorem dX6_signTold_64 : decode cX6_signTold 64 = .ok (.imul, 1) := by decide +kernel
theorem dX6_signTold_65 : decode cX6_signTold 65 = .ok (.iload_n 1, 1) := by decide +kernel
theorem dX6_signTold_66 : decode cX6_signTold 66 = .ok (.iadd, 1) := by decide +kernel
theorem dX6_signTold_67 : decode cX6_signTold 67 = .ok (.iaload, 1) := by decide +kernel
theorem dX6_signTold_68 : decode cX6_signTold 68 = .ok (.iadd, 1) := by decide +kernel
theorem dX6_signTold_69 : decode cX6_signTold 69 = .ok (.istore_n 3, 1) := by decide +kernel
theorem dX6_signTold_70 : decode cX6_signTold 70 = .ok (.iinc 4 1, 3) := by decide +kernel
theorem dX6_signTold_73 : decode cX6_signTold 73 = .ok (.goto (-30), 3) := by decide +kernel
theorem dX6_signTold_76 : decode cX6_signTold 76 = .ok (.iload_n 3, 1) := by decide +kernel
theorem dX6_signTold_77 : decode cX6_signTold 77 = .ok (.ireturn, 1) := by decide +kernel
set_option maxRecDepth 20000 in
theorem ggX6_told_X6_isSign : GoodIn wsX6_told wsX6_isSign := goodIn_r _ [6, 7, 8, 9, 5, 10, 37, 38, 39, 40, 41, 42, 43, 44, 45, 46] (by decide +kernel) (by decide +kernel)
set_option maxRecDepth 20000 in
theorem gX6_told_X6_isSign : GoodIn wsX6_told (wsV RX6 121 RX6 yX6_isSign wsX6_isSign) := goodIn_app (goodIn_of _ (by decide +kernel)) ggX6_told_X6_isSign
set_option maxRecDepth 20000 in
theorem ggX6_told_X6_isIn : GoodIn wsX6_told wsX6_isIn := goodIn_r _ [10] (by decide +kernel) (by decide +kernel)
set_option maxRecDepth 20000 in
theorem gX6_told_X6_isIn : GoodIn wsX6_told (va_wsS RX6 48 yX6_isIn wsX6_isIn) := goodIn_app (goodIn_of _ (by decide +kernel)) ggX6_told_X6_isIn
set_option maxRecDepth 20000 in
theorem ggX6_told_X6_signTold : GoodIn wsX6_told wsX6_signTold := goodIn_r _ [14, 15, 16, 17, 18, 19, 20, 21, 5, 22, 23, 24, 25, 26, 27, 28, 29, 30, 31, 32, 37, 38, 39, 40, 41, 42, 43, 44, 45, 46, 47, 48, 49, 50, 51, 52] (by decide +kernel) (by decide +kernel)
set_option maxRecDepth 20000 in
theorem gX6_told_X6_signTold : GoodIn wsX6_told (wsV RX6 127 RX6 yX6_signTold wsX6_signTold) := goodIn_app (goodIn_of _ (by decide +kernel)) ggX6_told_X6_signTold
set_option maxRecDepth 20000 in
theorem ggX6_told_X6_no : GoodIn wsX6_told wsX6_no := goodIn_r _ [36, 1, 37, 38, 39, 40, 41, 42, 43, 44, 45, 46] (by decide +kernel) (by decide +kernel)
set_option maxRecDepth 20000 in
theorem gX6_told_X6_no : GoodIn wsX6_told (wsV RX6 113 RX6 yX6_no wsX6_no) := goodIn_app (goodIn_of _ (by decide +kernel)) ggX6_told_X6_no
theorem dX6_told_0 : decode cX6_told 0 = .ok (.aload_n 0, 1) := by decide +kernel
theorem dX6_told_1 : decode cX6_told 1 = .ok (.iconst 0, 1) := by decide +kernel
theorem dX6_told_2 : decode cX6_told 2 = .ok (.putfield 41, 3) := by decide +kernel
theorem dX6_told_5 : decode cX6_told 5 = .ok (.aload_n 0, 1) := by decide +kernel
theorem dX6_told_6 : decode cX6_told 6 = .ok (.iload_n 1, 1) := by decide +kernel
theorem dX6_told_7 : decode cX6_told 7 = .ok (.invokevirtual 121, 3) := by decide +kernel
theorem dX6_told_10 : decode cX6_told 10 = .ok (.ifCond .eq 21, 3) := by decide +kernel
theorem dX6_told_13 : decode cX6_told 13 = .ok (.iload_n 2, 1) := by decide +kernel
theorem dX6_told_14 : decode cX6_told 14 = .ok (.iconst 0, 1) := by decide +kernel
theorem dX6_told_15 : decode cX6_told 15 = .ok (.iconst 3, 1) := by decide +kernel
theorem dX6_told_16 : decode cX6_told 16 = .ok (.invokestatic 48, 3) := by decide +kernel
theorem dX6_told_19 : decode cX6_told 19 = .ok (.ifCond .eq 12, 3) := by decide +kernel
theorem dX6_told_22 : decode cX6_told 22 = .ok (.aload_n 0, 1) := by decide +kernel
theorem dX6_told_23 : decode cX6_told 23 = .ok (.iload_n 1, 1) := by decide +kernel
theorem dX6_told_24 : decode cX6_told 24 = .ok (.iload_n 2, 1) := by decide +kernel
theorem dX6_told_25 : decode cX6_told 25 = .ok (.invokevirtual 127, 3) := by decide +kernel
theorem dX6_told_28 : decode cX6_told 28 = .ok (.goto 8, 3) := by decide +kernel
theorem dX6_told_31 : decode cX6_told 31 = .ok (.aload_n 0, 1) := by decide +kernel
theorem dX6_told_32 : decode cX6_told 32 = .ok (.iconst 1, 1) := by decide +kernel
theorem dX6_told_33 : decode cX6_told 33 = .ok (.invokevirtual 113, 3) := by decide +kernel
theorem dX6_told_36 : decode cX6_told 36 = .ok (.ireturn, 1) := by decide +kernel
set_option maxRecDepth 20000 in
theorem ggX6_weight_X6_isVillage : GoodIn wsX6_weight wsX6_isVillage := goodIn_r _ [7, 8, 9, 10, 6, 11, 21, 22, 23, 24, 25, 26, 27, 28, 29, 30] (by decide +kernel) (by decide +kernel)
set_option maxRecDepth 20000 in
theorem gX6_weight_X6_isVillage : GoodIn wsX6_weight (wsV RX6 117 RX6 yX6_isVillage wsX6_isVillage) := goodIn_app (goodIn_of _ (by decide +kernel)) ggX6_weight_X6_isVillage
set_option maxRecDepth 20000 in
theorem ggX6_weight_X6_isSign : GoodIn wsX6_weight wsX6_isSign := goodIn_r _ [15, 16, 9, 10, 6, 11, 21, 22, 23, 24, 25, 26, 27, 28, 29, 30] (by decide +kernel) (by decide +kernel)
set_option maxRecDepth 20000 in
theorem gX6_weight_X6_isSign : GoodIn wsX6_weight (wsV RX6 121 RX6 yX6_isSign wsX6_isSign) := goodIn_app (goodIn_of _ (by decide +kernel)) ggX6_weight_X6_isSign
set_option maxRecDepth 20000 in
theorem ggX6_weight_X6_no : GoodIn wsX6_weight wsX6_no := goodIn_r _ [20, 1, 21, 22, 23, 24, 25, 26, 27, 28, 29, 30] (by decide +kernel) (by decide +kernel)
set_option maxRecDepth 20000 in
theorem gX6_weight_X6_no : GoodIn wsX6_weight (wsV RX6 113 RX6 yX6_no wsX6_no) := goodIn_app (goodIn_of _ (by decide +kernel)) ggX6_weight_X6_no
theorem dX6_weight_0 : decode cX6_weight 0 = .ok (.aload_n 0, 1) := by decide +kernel
theorem dX6_weight_1 : decode cX6_weight 1 = .ok (.iconst 0, 1) := by decide +kernel
theorem dX6_weight_2 : decode cX6_weight 2 = .ok (.putfield 41, 3) := by decide +kernel
theorem dX6_weight_5 : decode cX6_weight 5 = .ok (.aload_n 0, 1) := by decide +kernel
theorem dX6_weight_6 : decode cX6_weight 6 = .ok (.iload_n 1, 1) := by decide +kernel
theorem dX6_weight_7 : decode cX6_weight 7 = .ok (.invokevirtual 117, 3) := by decide +kernel
theorem dX6_weight_10 : decode cX6_weight 10 = .ok (.ifCond .eq 28, 3) := by decide +kernel
theorem dX6_weight_13 : decode cX6_weight 13 = .ok (.aload_n 0, 1) := by decide +kernel
theorem dX6_weight_14 : decode cX6_weight 14 = .ok (.iload_n 2, 1) := by decide +kernel
theorem dX6_weight_15 : decode cX6_weight 15 = .ok (.invokevirtual 121, 3) := by decide +kernel
theorem dX6_weight_18 : decode cX6_weight 18 = .ok (.ifCond .eq 20, 3) := by decide +kernel
theorem dX6_weight_21 : decode cX6_weight 21 = .ok (.aload_n 0, 1) := by decide +kernel
theorem dX6_weight_22 : decode cX6_weight 22 = .ok (.getfield 28, 3) := by decide +kernel
theorem dX6_weight_25 : decode cX6_weight 25 = .ok (.getfield 35, 3) := by decide +kernel
theorem dX6_weight_28 : decode cX6_weight 28 = .ok (.bipush 8, 2) := by decide +kernel
theorem dX6_weight_30 : decode cX6_weight 30 = .ok (.iload_n 1, 1) := by decide +kernel
theorem dX6_weight_31 : decode cX6_weight 31 = .ok (.imul, 1) := by decide +kernel
theorem dX6_weight_32 : decode cX6_weight 32 = .ok (.iload_n 2, 1) := by decide +kernel
theorem dX6_weight_33 : decode cX6_weight 33 = .ok (.iadd, 1) := by decide +kernel
theorem dX6_weight_34 : decode cX6_weight 34 = .ok (.iaload, 1) := by decide +kernel
theorem dX6_weight_35 : decode cX6_weight 35 = .ok (.goto 8, 3) := by decide +kernel
theorem dX6_weight_38 : decode cX6_weight 38 = .ok (.aload_n 0, 1) := by decide +kernel
theorem dX6_weight_39 : decode cX6_weight 39 = .ok (.iconst 1, 1) := by decide +kernel
theorem dX6_weight_40 : decode cX6_weight 40 = .ok (.invokevirtual 113, 3) := by decide +kernel
theorem dX6_weight_43 : decode cX6_weight 43 = .ok (.ireturn, 1) := by decide +kernel
theorem dX6_weightsOf_0 : decode cX6_weightsOf 0 = .ok (.iconst 0, 1) := by decide +kernel
theorem dX6_weightsOf_1 : decode cX6_weightsOf 1 = .ok (.istore_n 2, 1) := by decide +kernel
theorem dX6_weightsOf_2 : decode cX6_weightsOf 2 = .ok (.iconst 0, 1) := by decide +kernel
theorem dX6_weightsOf_3 : decode cX6_weightsOf 3 = .ok (.istore_n 3, 1) := by decide +kernel
theorem dX6_weightsOf_4 : decode cX6_weightsOf 4 = .ok (.iload_n 3, 1) := by decide +kernel
theorem dX6_weightsOf_5 : decode cX6_weightsOf 5 = .ok (.aload_n 0, 1) := by decide +kernel
theorem dX6_weightsOf_6 : decode cX6_weightsOf 6 = .ok (.getfield 45, 3) := by decide +kernel
theorem dX6_weightsOf_9 : decode cX6_weightsOf 9 = .ok (.if_icmp .ge 26, 3) := by decide +kernel
theorem dX6_weightsOf_12 : decode cX6_weightsOf 12 = .ok (.iload_n 2, 1) := by decide +kernel
theorem dX6_weightsOf_13 : decode cX6_weightsOf 13 = .ok (.aload_n 0, 1) := by decide +kernel
theorem dX6_weightsOf_14 : decode cX6_weightsOf 14 = .ok (.getfield 28, 3) := by decide +kernel
theorem dX6_weightsOf_17 : decode cX6_weightsOf 17 = .ok (.getfield 35, 3) := by decide +kernel
theorem dX6_weightsOf_20 : decode cX6_weightsOf 20 = .ok (.bipush 8, 2) := by decide +kernel
theorem dX6_weightsOf_22 : decode cX6_weightsOf 22 = .ok (.iload_n 1, 1) := by decide +kernel
theorem dX6_weightsOf_23 : decode cX6_weightsOf 23 = .ok (.imul, 1) := by decide +kernel
theorem dX6_weightsOf_24 : decode cX6_weightsOf 24 = .ok (.iload_n 3, 1) := by decide +kernel
theorem dX6_weightsOf_25 : decode cX6_weightsOf 25 = .ok (.iadd, 1) := by decide +kernel
theorem dX6_weightsOf_26 : decode cX6_weightsOf 26 = .ok (.iaload, 1) := by decide +kernel
theorem dX6_weightsOf_27 : decode cX6_weightsOf 27 = .ok (.iadd, 1) := by decide +kernel
theorem dX6_weightsOf_28 : decode cX6_weightsOf 28 = .ok (.istore_n 2, 1) := by decide +kernel
theorem dX6_weightsOf_29 : decode cX6_weightsOf 29 = .ok (.iinc 3 1, 3) := by decide +kernel
theorem dX6_weightsOf_32 : decode cX6_weightsOf 32 = .ok (.goto (-28), 3) := by decide +kernel
theorem dX6_weightsOf_35 : decode cX6_weightsOf 35 = .ok (.iload_n 2, 1) := by decide +kernel
theorem dX6_weightsOf_36 : decode cX6_weightsOf 36 = .ok (.ireturn, 1) := by decide +kernel
set_option maxRecDepth 20000 in
theorem ggX6_villageTold_X6_look : GoodIn wsX6_villageTold wsX6_look := goodIn_r _ [6, 7, 8, 9, 10, 11, 5, 12, 13, 14, 15, 16, 33, 34, 35, 36, 37, 38, 39, 40, 41, 42] (by decide +kernel) (by decide +kernel)
set_option maxRecDepth 20000 in
theorem gX6_villageTold_X6_look : GoodIn wsX6_villageTold (wsV RX6 87 RX6 yX6_look wsX6_look) := goodIn_app (goodIn_of _ (by decide +kernel)) ggX6_villageTold_X6_look
set_option maxRecDepth 20000 in
theorem ggX6_villageTold_X6_weightsOf : GoodIn wsX6_villageTold wsX6_weightsOf := goodIn_r _ [20, 7, 1, 33, 34, 35, 36, 37, 38, 39, 40, 41, 42, 43, 44, 45, 46, 47, 48] (by decide +kernel) (by decide +kernel)
set_option maxRecDepth 20000 in
theorem gX6_villageTold_X6_weightsOf : GoodIn wsX6_villageTold (wsV RX6 130 RX6 yX6_weightsOf wsX6_weightsOf) := goodIn_app (goodIn_of _ (by decide +kernel)) ggX6_villageTold_X6_weightsOf
set_option maxRecDepth 20000 in
theorem ggX6_villageTold_X6_placeOf : GoodIn wsX6_villageTold wsX6_placeOf := goodIn_r _ [24, 25, 1, 26, 27, 5, 28, 33, 34, 35, 36, 37, 38, 39, 40, 41, 42, 43, 44, 45, 46, 47, 48] (by decide +kernel) (by decide +kernel)
set_option maxRecDepth 20000 in
theorem gX6_villageTold_X6_placeOf : GoodIn wsX6_villageTold (wsV RX6 133 RX6 yX6_placeOf wsX6_placeOf) := goodIn_app (goodIn_of _ (by decide +kernel)) ggX6_villageTold_X6_placeOf
set_option maxRecDepth 20000 in
theorem ggX6_villageTold_X6_lean : GoodIn wsX6_villageTold wsX6_lean := goodIn_r _ [32, 7, 8, 33, 34, 35, 36, 37, 38, 39, 40, 41, 42, 43, 44, 45, 46, 47, 48] (by decide +kernel) (by decide +kernel)
set_option maxRecDepth 20000 in
theorem gX6_villageTold_X6_lean : GoodIn wsX6_villageTold (wsV RX6 62 RX6 yX6_lean wsX6_lean) := goodIn_app (goodIn_of _ (by decide +kernel)) ggX6_villageTold_X6_lean
theorem dX6_villageTold_0 : decode cX6_villageTold 0 = .ok (.aload_n 0, 1) := by decide +kernel
theorem dX6_villageTold_1 : decode cX6_villageTold 1 = .ok (.aload_n 0, 1) := by decide +kernel
theorem dX6_villageTold_2 : decode cX6_villageTold 2 = .ok (.getfield 28, 3) := by decide +kernel
theorem dX6_villageTold_5 : decode cX6_villageTold 5 = .ok (.getfield 84, 3) := by decide +kernel
theorem dX6_villageTold_8 : decode cX6_villageTold 8 = .ok (.invokevirtual 87, 3) := by decide +kernel
theorem dX6_villageTold_11 : decode cX6_villageTold 11 = .ok (.iload_n 2, 1) := by decide +kernel
theorem dX6_villageTold_12 : decode cX6_villageTold 12 = .ok (.tableswitch 100 0 5 #[40, 50, 60, 70, 76, 82], 40) := by decide +kernel
theorem dX6_villageTold_52 : decode cX6_villageTold 52 = .ok (.aload_n 0, 1) := by decide +kernel
theorem dX6_villageTold_53 : decode cX6_villageTold 53 = .ok (.getfield 28, 3) := by decide +kernel
theorem dX6_villageTold_56 : decode cX6_villageTold 56 = .ok (.getfield 66, 3) := by decide +kernel
theorem dX6_villageTold_59 : decode cX6_villageTold 59 = .ok (.iload_n 1, 1) := by decide +kernel
theorem dX6_villageTold_60 : decode cX6_villageTold 60 = .ok (.iaload, 1) := by decide +kernel
theorem dX6_villageTold_61 : decode cX6_villageTold 61 = .ok (.ireturn, 1) := by decide +kernel
theorem dX6_villageTold_62 : decode cX6_villageTold 62 = .ok (.aload_n 0, 1) := by decide +kernel
theorem dX6_villageTold_63 : decode cX6_villageTold 63 = .ok (.getfield 28, 3) := by decide +kernel
theorem dX6_villageTold_66 : decode cX6_villageTold 66 = .ok (.getfield 38, 3) := by decide +kernel
theorem dX6_villageTold_69 : decode cX6_villageTold 69 = .ok (.iload_n 1, 1) := by decide +kernel
theorem dX6_villageTold_70 : decode cX6_villageTold 70 = .ok (.iaload, 1) := by decide +kernel
theorem dX6_villageTold_71 : decode cX6_villageTold 71 = .ok (.ireturn, 1) := by decide +kernel
theorem dX6_villageTold_72 : decode cX6_villageTold 72 = .ok (.aload_n 0, 1) := by decide +kernel
theorem dX6_villageTold_73 : decode cX6_villageTold 73 = .ok (.getfield 28, 3) := by decide +kernel
theorem dX6_villageTold_76 : decode cX6_villageTold 76 = .ok (.getfield 72, 3) := by decide +kernel
theorem dX6_villageTold_79 : decode cX6_villageTold 79 = .ok (.iload_n 1, 1) := by decide +kernel
theorem dX6_villageTold_80 : decode cX6_villageTold 80 = .ok (.iaload, 1) := by decide +kernel
theorem dX6_villageTold_81 : decode cX6_villageTold 81 = .ok (.ireturn, 1) := by decide +kernel
theorem dX6_villageTold_82 : decode cX6_villageTold 82 = .ok (.aload_n 0, 1) := by decide +kernel
theorem dX6_villageTold_83 : decode cX6_villageTold 83 = .ok (.iload_n 1, 1) := by decide +kernel
theorem dX6_villageTold_84 : decode cX6_villageTold 84 = .ok (.invokevirtual 130, 3) := by decide +kernel
theorem dX6_villageTold_87 : decode cX6_villageTold 87 = .ok (.ireturn, 1) := by decide +kernel
theorem dX6_villageTold_88 : decode cX6_villageTold 88 = .ok (.aload_n 0, 1) := by decide +kernel
theorem dX6_villageTold_89 : decode cX6_villageTold 89 = .ok (.iload_n 1, 1) := by decide +kernel
theorem dX6_villageTold_90 : decode cX6_villageTold 90 = .ok (.invokevirtual 133, 3) := by decide +kernel
theorem dX6_villageTold_93 : decode cX6_villageTold 93 = .ok (.ireturn, 1) := by decide +kernel
theorem dX6_villageTold_94 : decode cX6_villageTold 94 = .ok (.aload_n 0, 1) := by decide +kernel
theorem dX6_villageTold_95 : decode cX6_villageTold 95 = .ok (.aload_n 0, 1) := by decide +kernel
theorem dX6_villageTold_96 : decode cX6_villageTold 96 = .ok (.getfield 28, 3) := by decide +kernel
theorem dX6_villageTold_99 : decode cX6_villageTold 99 = .ok (.iload_n 1, 1) := by decide +kernel
theorem dX6_villageTold_100 : decode cX6_villageTold 100 = .ok (.invokevirtual 62, 3) := by decide +kernel
theorem dX6_villageTold_103 : decode cX6_villageTold 103 = .ok (.ifCond .le 7, 3) := by decide +kernel
theorem dX6_villageTold_106 : decode cX6_villageTold 106 = .ok (.iconst 1, 1) := by decide +kernel
theorem dX6_villageTold_107 : decode cX6_villageTold 107 = .ok (.goto 4, 3) := by decide +kernel
theorem dX6_villageTold_110 : decode cX6_villageTold 110 = .ok (.iconst 0, 1) := by decide +kernel
theorem dX6_villageTold_111 : decode cX6_villageTold 111 = .ok (.ireturn, 1) := by decide +kernel
theorem dX6_villageTold_112 : decode cX6_villageTold 112 = .ok (.aload_n 0, 1) := by decide +kernel
theorem dX6_villageTold_113 : decode cX6_villageTold 113 = .ok (.aload_n 0, 1) := by decide +kernel
theorem dX6_villageTold_114 : decode cX6_villageTold 114 = .ok (.getfield 28, 3) := by decide +kernel
theorem dX6_villageTold_117 : decode cX6_villageTold 117 = .ok (.iload_n 1, 1) := by decide +kernel
theorem dX6_villageTold_118 : decode cX6_villageTold 118 = .ok (.invokevirtual 62, 3) := by decide +kernel
theorem dX6_villageTold_121 : decode cX6_villageTold 121 = .ok (.ireturn, 1) := by decide +kernel
set_option maxRecDepth 20000 in
theorem ggX6_about_X6_isVillage : GoodIn wsX6_about wsX6_isVillage := goodIn_r _ [6, 7, 8, 9, 5, 10, 49, 50, 51, 52, 53, 54, 55, 56, 57, 58] (by decide +kernel) (by decide +kernel)
set_option maxRecDepth 20000 in
theorem gX6_about_X6_isVillage : GoodIn wsX6_about (wsV RX6 117 RX6 yX6_isVillage wsX6_isVillage) := goodIn_app (goodIn_of _ (by decide +kernel)) ggX6_about_X6_isVillage
set_option maxRecDepth 20000 in
theorem ggX6_about_X6_isIn : GoodIn wsX6_about wsX6_isIn := goodIn_r _ [10] (by decide +kernel) (by decide +kernel)
set_option maxRecDepth 20000 in
theorem gX6_about_X6_isIn : GoodIn wsX6_about (va_wsS RX6 48 yX6_isIn wsX6_isIn) := goodIn_app (goodIn_of _ (by decide +kernel)) ggX6_about_X6_isIn
set_option maxRecDepth 20000 in
theorem ggX6_about_X6_villageTold : GoodIn wsX6_about wsX6_villageTold := goodIn_r _ [14, 15, 16, 17, 18, 5, 19, 20, 21, 22, 23, 24, 25, 26, 27, 28, 29, 30, 31, 32, 33, 34, 35, 36, 37, 7, 38, 39, 40, 41, 42, 43, 44, 49, 50, 51, 52, 53, 54, 55, 56, 57, 58, 59, 60, 61, 62, 63, 64] (by decide +kernel) (by decide +kernel)
set_option maxRecDepth 20000 in
theorem gX6_about_X6_villageTold : GoodIn wsX6_about (wsV RX6 136 RX6 yX6_villageTold wsX6_villageTold) := goodIn_app (goodIn_of _ (by decide +kernel)) ggX6_about_X6_villageTold
set_option maxRecDepth 20000 in
theorem ggX6_about_X6_no : GoodIn wsX6_about wsX6_no := goodIn_r _ [48, 1, 49, 50, 51, 52, 53, 54, 55, 56, 57, 58] (by decide +kernel) (by decide +kernel)
set_option maxRecDepth 20000 in
theorem gX6_about_X6_no : GoodIn wsX6_about (wsV RX6 113 RX6 yX6_no wsX6_no) := goodIn_app (goodIn_of _ (by decide +kernel)) ggX6_about_X6_no
theorem dX6_about_0 : decode cX6_about 0 = .ok (.aload_n 0, 1) := by decide +kernel
theorem dX6_about_1 : decode cX6_about 1 = .ok (.iconst 0, 1) := by decide +kernel
theorem dX6_about_2 : decode cX6_about 2 = .ok (.putfield 41, 3) := by decide +kernel
theorem dX6_about_5 : decode cX6_about 5 = .ok (.aload_n 0, 1) := by decide +kernel
theorem dX6_about_6 : decode cX6_about 6 = .ok (.iload_n 1, 1) := by decide +kernel
theorem dX6_about_7 : decode cX6_about 7 = .ok (.invokevirtual 117, 3) := by decide +kernel
theorem dX6_about_10 : decode cX6_about 10 = .ok (.ifCond .eq 22, 3) := by decide +kernel
theorem dX6_about_13 : decode cX6_about 13 = .ok (.iload_n 2, 1) := by decide +kernel
theorem dX6_about_14 : decode cX6_about 14 = .ok (.iconst 0, 1) := by decide +kernel
theorem dX6_about_15 : decode cX6_about 15 = .ok (.bipush 6, 2) := by decide +kernel
theorem dX6_about_17 : decode cX6_about 17 = .ok (.invokestatic 48, 3) := by decide +kernel
theorem dX6_about_20 : decode cX6_about 20 = .ok (.ifCond .eq 12, 3) := by decide +kernel
theorem dX6_about_23 : decode cX6_about 23 = .ok (.aload_n 0, 1) := by decide +kernel
theorem dX6_about_24 : decode cX6_about 24 = .ok (.iload_n 1, 1) := by decide +kernel
theorem dX6_about_25 : decode cX6_about 25 = .ok (.iload_n 2, 1) := by decide +kernel
theorem dX6_about_26 : decode cX6_about 26 = .ok (.invokevirtual 136, 3) := by decide +kernel
theorem dX6_about_29 : decode cX6_about 29 = .ok (.goto 8, 3) := by decide +kernel
theorem dX6_about_32 : decode cX6_about 32 = .ok (.aload_n 0, 1) := by decide +kernel
theorem dX6_about_33 : decode cX6_about 33 = .ok (.iconst 1, 1) := by decide +kernel
theorem dX6_about_34 : decode cX6_about 34 = .ok (.invokevirtual 113, 3) := by decide +kernel
theorem dX6_about_37 : decode cX6_about 37 = .ok (.ireturn, 1) := by decide +kernel
set_option maxRecDepth 20000 in
theorem ggX6_at_X6_placeOf : GoodIn wsX6_at wsX6_placeOf := goodIn_r _ [7, 2, 8, 9, 10, 6, 11, 16, 17, 18, 19, 20, 21, 22, 23, 24, 25, 26, 27, 28, 29, 30, 31] (by decide +kernel) (by decide +kernel)
set_option maxRecDepth 20000 in
theorem gX6_at_X6_placeOf : GoodIn wsX6_at (wsV RX6 133 RX6 yX6_placeOf wsX6_placeOf) := goodIn_app (goodIn_of _ (by decide +kernel)) ggX6_at_X6_placeOf
set_option maxRecDepth 20000 in
theorem ggX6_at_X6_no : GoodIn wsX6_at wsX6_no := goodIn_r _ [15, 1, 16, 17, 18, 19, 20, 21, 22, 23, 24, 25] (by decide +kernel) (by decide +kernel)
set_option maxRecDepth 20000 in
theorem gX6_at_X6_no : GoodIn wsX6_at (wsV RX6 113 RX6 yX6_no wsX6_no) := goodIn_app (goodIn_of _ (by decide +kernel)) ggX6_at_X6_no
theorem dX6_at_0 : decode cX6_at 0 = .ok (.aload_n 0, 1) := by decide +kernel
theorem dX6_at_1 : decode cX6_at 1 = .ok (.iconst 0, 1) := by decide +kernel
theorem dX6_at_2 : decode cX6_at 2 = .ok (.putfield 41, 3) := by decide +kernel
theorem dX6_at_5 : decode cX6_at 5 = .ok (.iconst 0, 1) := by decide +kernel
theorem dX6_at_6 : decode cX6_at 6 = .ok (.istore_n 2, 1) := by decide +kernel
theorem dX6_at_7 : decode cX6_at 7 = .ok (.iload_n 2, 1) := by decide +kernel
theorem dX6_at_8 : decode cX6_at 8 = .ok (.aload_n 0, 1) := by decide +kernel
theorem dX6_at_9 : decode cX6_at 9 = .ok (.getfield 52, 3) := by decide +kernel
theorem dX6_at_12 : decode cX6_at 12 = .ok (.if_icmp .ge 20, 3) := by decide +kernel
theorem dX6_at_15 : decode cX6_at 15 = .ok (.aload_n 0, 1) := by decide +kernel
theorem dX6_at_16 : decode cX6_at 16 = .ok (.iload_n 2, 1) := by decide +kernel
theorem dX6_at_17 : decode cX6_at 17 = .ok (.invokevirtual 133, 3) := by decide +kernel
theorem dX6_at_20 : decode cX6_at 20 = .ok (.iload_n 1, 1) := by decide +kernel
theorem dX6_at_21 : decode cX6_at 21 = .ok (.if_icmp .ne 5, 3) := by decide +kernel
theorem dX6_at_24 : decode cX6_at 24 = .ok (.iload_n 2, 1) := by decide +kernel
theorem dX6_at_25 : decode cX6_at 25 = .ok (.ireturn, 1) := by decide +kernel
theorem dX6_at_26 : decode cX6_at 26 = .ok (.iinc 2 1, 3) := by decide +kernel
theorem dX6_at_29 : decode cX6_at 29 = .ok (.goto (-22), 3) := by decide +kernel
theorem dX6_at_32 : decode cX6_at 32 = .ok (.aload_n 0, 1) := by decide +kernel
theorem dX6_at_33 : decode cX6_at 33 = .ok (.iconst 1, 1) := by decide +kernel
theorem dX6_at_34 : decode cX6_at 34 = .ok (.invokevirtual 113, 3) := by decide +kernel
theorem dX6_at_37 : decode cX6_at 37 = .ok (.ireturn, 1) := by decide +kernel
set_option maxRecDepth 20000 in
theorem ggX6_counted_X6_sumOf : GoodIn wsX6_counted wsX6_sumOf := goodIn_r _ [8, 2, 35, 36, 37, 38, 39, 40, 41, 42, 43, 44] (by decide +kernel) (by decide +kernel)
set_option maxRecDepth 20000 in
theorem gX6_counted_X6_sumOf : GoodIn wsX6_counted (wsV RX6 139 RX6 yX6_sumOf wsX6_sumOf) := goodIn_app (goodIn_of _ (by decide +kernel)) ggX6_counted_X6_sumOf
set_option maxRecDepth 20000 in
theorem ggX6_counted_X6_rainGuessed : GoodIn wsX6_counted wsX6_rainGuessed := goodIn_r _ [12, 2, 13, 14, 15, 7, 16, 1, 17, 18, 19, 20, 21, 22, 23, 24, 3, 25, 26, 27, 28, 29, 30, 31, 32, 33, 34, 35, 36, 37, 38, 39, 40, 41, 42, 43, 44] (by decide +kernel) (by decide +kernel)
set_option maxRecDepth 20000 in
theorem gX6_counted_X6_rainGuessed : GoodIn wsX6_counted (wsV RX6 143 RX6 yX6_rainGuessed wsX6_rainGuessed) := goodIn_app (goodIn_of _ (by decide +kernel)) ggX6_counted_X6_rainGuessed
theorem dX6_counted_0 : decode cX6_counted 0 = .ok (.iconst 0, 1) := by decide +kernel
theorem dX6_counted_1 : decode cX6_counted 1 = .ok (.istore_n 3, 1) := by decide +kernel
theorem dX6_counted_2 : decode cX6_counted 2 = .ok (.iload_n 2, 1) := by decide +kernel
theorem dX6_counted_3 : decode cX6_counted 3 = .ok (.tableswitch 76 0 5 #[37, 42, 47, 52, 61, 70], 37) := by decide +kernel
theorem dX6_counted_40 : decode cX6_counted 40 = .ok (.aload_n 1, 1) := by decide +kernel
theorem dX6_counted_41 : decode cX6_counted 41 = .ok (.getfield 84, 3) := by decide +kernel
theorem dX6_counted_44 : decode cX6_counted 44 = .ok (.ireturn, 1) := by decide +kernel
theorem dX6_counted_45 : decode cX6_counted 45 = .ok (.aload_n 0, 1) := by decide +kernel
theorem dX6_counted_46 : decode cX6_counted 46 = .ok (.getfield 45, 3) := by decide +kernel
theorem dX6_counted_49 : decode cX6_counted 49 = .ok (.ireturn, 1) := by decide +kernel
theorem dX6_counted_50 : decode cX6_counted 50 = .ok (.aload_n 0, 1) := by decide +kernel
theorem dX6_counted_51 : decode cX6_counted 51 = .ok (.getfield 52, 3) := by decide +kernel
theorem dX6_counted_54 : decode cX6_counted 54 = .ok (.ireturn, 1) := by decide +kernel
theorem dX6_counted_55 : decode cX6_counted 55 = .ok (.aload_n 0, 1) := by decide +kernel
theorem dX6_counted_56 : decode cX6_counted 56 = .ok (.aload_n 1, 1) := by decide +kernel
theorem dX6_counted_57 : decode cX6_counted 57 = .ok (.getfield 66, 3) := by decide +kernel
theorem dX6_counted_60 : decode cX6_counted 60 = .ok (.invokevirtual 139, 3) := by decide +kernel
theorem dX6_counted_63 : decode cX6_counted 63 = .ok (.ireturn, 1) := by decide +kernel
theorem dX6_counted_64 : decode cX6_counted 64 = .ok (.aload_n 0, 1) := by decide +kernel
theorem dX6_counted_65 : decode cX6_counted 65 = .ok (.aload_n 1, 1) := by decide +kernel
theorem dX6_counted_66 : decode cX6_counted 66 = .ok (.getfield 38, 3) := by decide +kernel
theorem dX6_counted_69 : decode cX6_counted 69 = .ok (.invokevirtual 139, 3) := by decide +kernel
theorem dX6_counted_72 : decode cX6_counted 72 = .ok (.ireturn, 1) := by decide +kernel
theorem dX6_counted_73 : decode cX6_counted 73 = .ok (.aload_n 0, 1) := by decide +kernel
theorem dX6_counted_74 : decode cX6_counted 74 = .ok (.aload_n 1, 1) := by decide +kernel
theorem dX6_counted_75 : decode cX6_counted 75 = .ok (.invokevirtual 143, 3) := by decide +kernel
theorem dX6_counted_78 : decode cX6_counted 78 = .ok (.ireturn, 1) := by decide +kernel
theorem dX6_counted_79 : decode cX6_counted 79 = .ok (.iconst 0, 1) := by decide +kernel
theorem dX6_counted_80 : decode cX6_counted 80 = .ok (.istore 4, 2) := by decide +kernel
theorem dX6_counted_82 : decode cX6_counted 82 = .ok (.iload 4, 2) := by decide +kernel
theorem dX6_counted_84 : decode cX6_counted 84 = .ok (.bipush 12, 2) := by decide +kernel
theorem dX6_counted_86 : decode cX6_counted 86 = .ok (.if_icmp .ge 19, 3) := by decide +kernel
theorem dX6_counted_89 : decode cX6_counted 89 = .ok (.iload_n 3, 1) := by decide +kernel
theorem dX6_counted_90 : decode cX6_counted 90 = .ok (.aload_n 0, 1) := by decide +kernel
theorem dX6_counted_91 : decode cX6_counted 91 = .ok (.getfield 13, 3) := by decide +kernel
theorem dX6_counted_94 : decode cX6_counted 94 = .ok (.iload 4, 2) := by decide +kernel
theorem dX6_counted_96 : decode cX6_counted 96 = .ok (.iaload, 1) := by decide +kernel
theorem dX6_counted_97 : decode cX6_counted 97 = .ok (.iadd, 1) := by decide +kernel
theorem dX6_counted_98 : decode cX6_counted 98 = .ok (.istore_n 3, 1) := by decide +kernel
theorem dX6_counted_99 : decode cX6_counted 99 = .ok (.iinc 4 1, 3) := by decide +kernel
theorem dX6_counted_102 : decode cX6_counted 102 = .ok (.goto (-20), 3) := by decide +kernel
theorem dX6_counted_105 : decode cX6_counted 105 = .ok (.iload_n 3, 1) := by decide +kernel
theorem dX6_counted_106 : decode cX6_counted 106 = .ok (.ireturn, 1) := by decide +kernel
set_option maxRecDepth 20000 in
theorem ggX6_count_X6_isIn : GoodIn wsX6_count wsX6_isIn := goodIn_r _ [6] (by decide +kernel) (by decide +kernel)
set_option maxRecDepth 20000 in
theorem gX6_count_X6_isIn : GoodIn wsX6_count (va_wsS RX6 48 yX6_isIn wsX6_isIn) := goodIn_app (goodIn_of _ (by decide +kernel)) ggX6_count_X6_isIn
set_option maxRecDepth 20000 in
theorem ggX6_count_X6_counted : GoodIn wsX6_count wsX6_counted := goodIn_r _ [10, 11, 12, 13, 14, 15, 16, 5, 17, 18, 19, 20, 21, 22, 23, 24, 25, 26, 27, 28, 29, 30, 31, 32, 33, 34, 35, 36, 37, 52, 53, 54, 55, 56, 57, 42, 43, 44, 45, 46, 47, 48, 49, 50, 51] (by decide +kernel) (by decide +kernel)
set_option maxRecDepth 20000 in
theorem gX6_count_X6_counted : GoodIn wsX6_count (wsV RX6 147 RX6 yX6_counted wsX6_counted) := goodIn_app (goodIn_of _ (by decide +kernel)) ggX6_count_X6_counted
set_option maxRecDepth 20000 in
theorem ggX6_count_X6_no : GoodIn wsX6_count wsX6_no := goodIn_r _ [41, 1, 42, 43, 44, 45, 46, 47, 48, 49, 50, 51] (by decide +kernel) (by decide +kernel)
set_option maxRecDepth 20000 in
theorem gX6_count_X6_no : GoodIn wsX6_count (wsV RX6 113 RX6 yX6_no wsX6_no) := goodIn_app (goodIn_of _ (by decide +kernel)) ggX6_count_X6_no
theorem dX6_count_0 : decode cX6_count 0 = .ok (.aload_n 0, 1) := by decide +kernel
theorem dX6_count_1 : decode cX6_count 1 = .ok (.iconst 0, 1) := by decide +kernel
theorem dX6_count_2 : decode cX6_count 2 = .ok (.putfield 41, 3) := by decide +kernel
theorem dX6_count_5 : decode cX6_count 5 = .ok (.iload_n 1, 1) := by decide +kernel
theorem dX6_count_6 : decode cX6_count 6 = .ok (.iconst 0, 1) := by decide +kernel
theorem dX6_count_7 : decode cX6_count 7 = .ok (.bipush 6, 2) := by decide +kernel
theorem dX6_count_9 : decode cX6_count 9 = .ok (.invokestatic 48, 3) := by decide +kernel
theorem dX6_count_12 : decode cX6_count 12 = .ok (.ifCond .eq 15, 3) := by decide +kernel
theorem dX6_count_15 : decode cX6_count 15 = .ok (.aload_n 0, 1) := by decide +kernel
theorem dX6_count_16 : decode cX6_count 16 = .ok (.aload_n 0, 1) := by decide +kernel
theorem dX6_count_17 : decode cX6_count 17 = .ok (.getfield 28, 3) := by decide +kernel
theorem dX6_count_20 : decode cX6_count 20 = .ok (.iload_n 1, 1) := by decide +kernel
theorem dX6_count_21 : decode cX6_count 21 = .ok (.invokevirtual 147, 3) := by decide +kernel
theorem dX6_count_24 : decode cX6_count 24 = .ok (.goto 8, 3) := by decide +kernel
theorem dX6_count_27 : decode cX6_count 27 = .ok (.aload_n 0, 1) := by decide +kernel
theorem dX6_count_28 : decode cX6_count 28 = .ok (.iconst 1, 1) := by decide +kernel
theorem dX6_count_29 : decode cX6_count 29 = .ok (.invokevirtual 113, 3) := by decide +kernel
theorem dX6_count_32 : decode cX6_count 32 = .ok (.ireturn, 1) := by decide +kernel
set_option maxRecDepth 20000 in
theorem ggX6_pass__X6_isIn : GoodIn wsX6_pass_ wsX6_isIn := goodIn_r _ [6] (by decide +kernel) (by decide +kernel)
set_option maxRecDepth 20000 in
theorem gX6_pass__X6_isIn : GoodIn wsX6_pass_ (va_wsS RX6 48 yX6_isIn wsX6_isIn) := goodIn_app (goodIn_of _ (by decide +kernel)) ggX6_pass__X6_isIn
set_option maxRecDepth 20000 in
theorem ggX6_pass__X6_no : GoodIn wsX6_pass_ wsX6_no := goodIn_r _ [10, 1, 56, 57, 58, 59, 60, 61, 62, 63, 64, 65] (by decide +kernel) (by decide +kernel)
set_option maxRecDepth 20000 in
theorem gX6_pass__X6_no : GoodIn wsX6_pass_ (wsV RX6 113 RX6 yX6_no wsX6_no) := goodIn_app (goodIn_of _ (by decide +kernel)) ggX6_pass__X6_no
set_option maxRecDepth 20000 in
theorem ggX6_pass__X6_passAll : GoodIn wsX6_pass_ wsX6_passAll := goodIn_r _ [14, 15, 16, 17, 5, 18, 19, 20, 21, 22, 23, 24, 25, 26, 27, 28, 29, 30, 31, 32, 33, 34, 35, 36, 37, 38, 39, 40, 41, 42, 43, 44, 45, 46, 47, 48, 49, 50, 51, 52, 53, 54, 55, 56, 57, 58, 59, 60, 61, 62, 63, 64, 65, 66, 67, 68, 69, 70, 71] (by decide +kernel) (by decide +kernel)
set_option maxRecDepth 20000 in
theorem gX6_pass__X6_passAll : GoodIn wsX6_pass_ (wsV RX6 150 RX6 yX6_passAll wsX6_passAll) := goodIn_app (goodIn_of _ (by decide +kernel)) ggX6_pass__X6_passAll
theorem dX6_pass__0 : decode cX6_pass_ 0 = .ok (.aload_n 0, 1) := by decide +kernel
theorem dX6_pass__1 : decode cX6_pass_ 1 = .ok (.iconst 0, 1) := by decide +kernel
theorem dX6_pass__2 : decode cX6_pass_ 2 = .ok (.putfield 41, 3) := by decide +kernel
theorem dX6_pass__5 : decode cX6_pass_ 5 = .ok (.iload_n 1, 1) := by decide +kernel
theorem dX6_pass__6 : decode cX6_pass_ 6 = .ok (.iconst 1, 1) := by decide +kernel
theorem dX6_pass__7 : decode cX6_pass_ 7 = .ok (.bipush 90, 2) := by decide +kernel
theorem dX6_pass__9 : decode cX6_pass_ 9 = .ok (.invokestatic 48, 3) := by decide +kernel
theorem dX6_pass__12 : decode cX6_pass_ 12 = .ok (.ifCond .ne 9, 3) := by decide +kernel
theorem dX6_pass__15 : decode cX6_pass_ 15 = .ok (.aload_n 0, 1) := by decide +kernel
theorem dX6_pass__16 : decode cX6_pass_ 16 = .ok (.iconst 1, 1) := by decide +kernel
theorem dX6_pass__17 : decode cX6_pass_ 17 = .ok (.invokevirtual 113, 3) := by decide +kernel
theorem dX6_pass__20 : decode cX6_pass_ 20 = .ok (.ireturn, 1) := by decide +kernel
theorem dX6_pass__21 : decode cX6_pass_ 21 = .ok (.aload_n 0, 1) := by decide +kernel
theorem dX6_pass__22 : decode cX6_pass_ 22 = .ok (.getfield 28, 3) := by decide +kernel
theorem dX6_pass__25 : decode cX6_pass_ 25 = .ok (.getfield 69, 3) := by decide +kernel
theorem dX6_pass__28 : decode cX6_pass_ 28 = .ok (.istore_n 2, 1) := by decide +kernel
theorem dX6_pass__29 : decode cX6_pass_ 29 = .ok (.aload_n 0, 1) := by decide +kernel
theorem dX6_pass__30 : decode cX6_pass_ 30 = .ok (.aload_n 0, 1) := by decide +kernel
theorem dX6_pass__31 : decode cX6_pass_ 31 = .ok (.getfield 28, 3) := by decide +kernel
theorem dX6_pass__34 : decode cX6_pass_ 34 = .ok (.iload_n 1, 1) := by decide +kernel
theorem dX6_pass__35 : decode cX6_pass_ 35 = .ok (.invokevirtual 150, 3) := by decide +kernel
theorem dX6_pass__38 : decode cX6_pass_ 38 = .ok (.getfield 69, 3) := by decide +kernel
theorem dX6_pass__41 : decode cX6_pass_ 41 = .ok (.iload_n 2, 1) := by decide +kernel
theorem dX6_pass__42 : decode cX6_pass_ 42 = .ok (.isub, 1) := by decide +kernel
theorem dX6_pass__43 : decode cX6_pass_ 43 = .ok (.ireturn, 1) := by decide +kernel
set_option maxRecDepth 20000 in
theorem ggX6_foresee_X6_isIn : GoodIn wsX6_foresee wsX6_isIn := goodIn_r _ [5] (by decide +kernel) (by decide +kernel)
set_option maxRecDepth 20000 in
theorem gX6_foresee_X6_isIn : GoodIn wsX6_foresee (va_wsS RX6 48 yX6_isIn wsX6_isIn) := goodIn_app (goodIn_of _ (by decide +kernel)) ggX6_foresee_X6_isIn
set_option maxRecDepth 20000 in
theorem ggX6_foresee_X6_no : GoodIn wsX6_foresee wsX6_no := goodIn_r _ [9, 1, 91, 92, 93, 94, 95, 96, 97, 98, 99, 100] (by decide +kernel) (by decide +kernel)
set_option maxRecDepth 20000 in
theorem gX6_foresee_X6_no : GoodIn wsX6_foresee (wsV RX6 113 RX6 yX6_no wsX6_no) := goodIn_app (goodIn_of _ (by decide +kernel)) ggX6_foresee_X6_no
set_option maxRecDepth 20000 in
theorem ggX6_foresee_X6_lookAhead : GoodIn wsX6_foresee wsX6_lookAhead := goodIn_r _ [13, 14, 15, 16, 17, 18, 19, 20, 21, 22, 23, 24, 25, 26, 27, 28, 29, 30, 31, 32, 33, 91, 92, 93, 94, 95, 96, 97, 98, 99, 100, 101, 102, 103, 104, 105, 106] (by decide +kernel) (by decide +kernel)
set_option maxRecDepth 20000 in
theorem gX6_foresee_X6_lookAhead : GoodIn wsX6_foresee (wsV RX6 154 RX6 yX6_lookAhead wsX6_lookAhead) := goodIn_app (goodIn_of _ (by decide +kernel)) ggX6_foresee_X6_lookAhead
set_option maxRecDepth 20000 in
theorem ggX6_foresee_X6_passAll : GoodIn wsX6_foresee wsX6_passAll := goodIn_r _ [37, 38, 39, 40, 4, 41, 42, 43, 44, 45, 46, 47, 48, 49, 50, 51, 52, 53, 54, 55, 56, 57, 58, 59, 60, 61, 62, 63, 64, 65, 66, 67, 68, 69, 70, 71, 72, 73, 74, 75, 76, 77, 78, 91, 92, 93, 94, 95, 96, 97, 98, 99, 100, 101, 102, 103, 104, 105, 106] (by decide +kernel) (by decide +kernel)
set_option maxRecDepth 20000 in
theorem gX6_foresee_X6_passAll : GoodIn wsX6_foresee (wsV RX6 150 RX6 yX6_passAll wsX6_passAll) := goodIn_app (goodIn_of _ (by decide +kernel)) ggX6_foresee_X6_passAll
set_option maxRecDepth 20000 in
theorem ggX6_foresee_X6_counted : GoodIn wsX6_foresee wsX6_counted := goodIn_r _ [82, 48, 43, 42, 83, 84, 85, 4, 86, 87, 88, 89, 90, 44, 45, 46, 47, 49, 50, 51, 52, 53, 54, 55, 56, 61, 62, 63, 64, 101, 102, 103, 104, 105, 106, 91, 92, 93, 94, 95, 96, 97, 98, 99, 100] (by decide +kernel) (by decide +kernel)
set_option maxRecDepth 20000 in
theorem gX6_foresee_X6_counted : GoodIn wsX6_foresee (wsV RX6 147 RX6 yX6_counted wsX6_counted) := goodIn_app (goodIn_of _ (by decide +kernel)) ggX6_foresee_X6_counted
theorem dX6_foresee_0 : decode cX6_foresee 0 = .ok (.aload_n 0, 1) := by decide +kernel
theorem dX6_foresee_1 : decode cX6_foresee 1 = .ok (.iconst 0, 1) := by decide +kernel
theorem dX6_foresee_2 : decode cX6_foresee 2 = .ok (.putfield 41, 3) := by decide +kernel
theorem dX6_foresee_5 : decode cX6_foresee 5 = .ok (.iload_n 1, 1) := by decide +kernel
theorem dX6_foresee_6 : decode cX6_foresee 6 = .ok (.iconst 1, 1) := by decide +kernel
theorem dX6_foresee_7 : decode cX6_foresee 7 = .ok (.bipush 90, 2) := by decide +kernel
theorem dX6_foresee_9 : decode cX6_foresee 9 = .ok (.invokestatic 48, 3) := by decide +kernel
theorem dX6_foresee_12 : decode cX6_foresee 12 = .ok (.ifCond .ne 9, 3) := by decide +kernel
theorem dX6_foresee_15 : decode cX6_foresee 15 = .ok (.aload_n 0, 1) := by decide +kernel
theorem dX6_foresee_16 : decode cX6_foresee 16 = .ok (.iconst 1, 1) := by decide +kernel
theorem dX6_foresee_17 : decode cX6_foresee 17 = .ok (.invokevirtual 113, 3) := by decide +kernel
theorem dX6_foresee_20 : decode cX6_foresee 20 = .ok (.ireturn, 1) := by decide +kernel
theorem dX6_foresee_21 : decode cX6_foresee 21 = .ok (.iload_n 2, 1) := by decide +kernel
theorem dX6_foresee_22 : decode cX6_foresee 22 = .ok (.iconst 3, 1) := by decide +kernel
theorem dX6_foresee_23 : decode cX6_foresee 23 = .ok (.iconst 5, 1) := by decide +kernel
theorem dX6_foresee_24 : decode cX6_foresee 24 = .ok (.invokestatic 48, 3) := by decide +kernel
theorem dX6_foresee_27 : decode cX6_foresee 27 = .ok (.ifCond .ne 9, 3) := by decide +kernel
theorem dX6_foresee_30 : decode cX6_foresee 30 = .ok (.aload_n 0, 1) := by decide +kernel
theorem dX6_foresee_31 : decode cX6_foresee 31 = .ok (.iconst 2, 1) := by decide +kernel
theorem dX6_foresee_32 : decode cX6_foresee 32 = .ok (.invokevirtual 113, 3) := by decide +kernel
theorem dX6_foresee_35 : decode cX6_foresee 35 = .ok (.ireturn, 1) := by decide +kernel
theorem dX6_foresee_36 : decode cX6_foresee 36 = .ok (.aload_n 0, 1) := by decide +kernel
theorem dX6_foresee_37 : decode cX6_foresee 37 = .ok (.aload_n 0, 1) := by decide +kernel
theorem dX6_foresee_38 : decode cX6_foresee 38 = .ok (.aload_n 0, 1) := by decide +kernel
theorem dX6_foresee_39 : decode cX6_foresee 39 = .ok (.invokevirtual 154, 3) := by decide +kernel
theorem dX6_foresee_42 : decode cX6_foresee 42 = .ok (.iload_n 1, 1) := by decide +kernel
theorem dX6_foresee_43 : decode cX6_foresee 43 = .ok (.invokevirtual 150, 3) := by decide +kernel
theorem dX6_foresee_46 : decode cX6_foresee 46 = .ok (.iload_n 2, 1) := by decide +kernel
theorem dX6_foresee_47 : decode cX6_foresee 47 = .ok (.invokevirtual 147, 3) := by decide +kernel
theorem dX6_foresee_50 : decode cX6_foresee 50 = .ok (.ireturn, 1) := by decide +kernel
set_option maxRecDepth 20000 in
theorem ggX6_overtakes_X6_isVillage : GoodIn wsX6_overtakes wsX6_isVillage := goodIn_r _ [7, 8, 9, 10, 6, 11, 82, 83, 84, 85, 86, 87, 88, 89, 90, 91] (by decide +kernel) (by decide +kernel)
set_option maxRecDepth 20000 in
theorem gX6_overtakes_X6_isVillage : GoodIn wsX6_overtakes (wsV RX6 117 RX6 yX6_isVillage wsX6_isVillage) := goodIn_app (goodIn_of _ (by decide +kernel)) ggX6_overtakes_X6_isVillage
set_option maxRecDepth 20000 in
theorem ggX6_overtakes_X6_no : GoodIn wsX6_overtakes wsX6_no := goodIn_r _ [15, 1, 82, 83, 84, 85, 86, 87, 88, 89, 90, 91] (by decide +kernel) (by decide +kernel)
set_option maxRecDepth 20000 in
theorem gX6_overtakes_X6_no : GoodIn wsX6_overtakes (wsV RX6 113 RX6 yX6_no wsX6_no) := goodIn_app (goodIn_of _ (by decide +kernel)) ggX6_overtakes_X6_no
set_option maxRecDepth 20000 in
theorem ggX6_overtakes_X6_lookAhead : GoodIn wsX6_overtakes wsX6_lookAhead := goodIn_r _ [19, 2, 20, 21, 22, 23, 24, 25, 26, 27, 28, 29, 30, 31, 32, 33, 34, 35, 36, 37, 38, 82, 83, 84, 85, 86, 87, 88, 89, 90, 91, 92, 93, 94, 95, 96, 97] (by decide +kernel) (by decide +kernel)
set_option maxRecDepth 20000 in
theorem gX6_overtakes_X6_lookAhead : GoodIn wsX6_overtakes (wsV RX6 154 RX6 yX6_lookAhead wsX6_lookAhead) := goodIn_app (goodIn_of _ (by decide +kernel)) ggX6_overtakes_X6_lookAhead
set_option maxRecDepth 20000 in
theorem ggX6_overtakes_X6_isBetter : GoodIn wsX6_overtakes wsX6_isBetter := goodIn_r _ [41, 92, 93, 94, 95, 96, 97] (by decide +kernel) (by decide +kernel)
set_option maxRecDepth 20000 in
theorem gX6_overtakes_X6_isBetter : GoodIn wsX6_overtakes (va_wsS RX6 109 yX6_isBetter wsX6_isBetter) := goodIn_app (goodIn_of _ (by decide +kernel)) ggX6_overtakes_X6_isBetter
set_option maxRecDepth 20000 in
theorem ggX6_overtakes_X6_pass : GoodIn wsX6_overtakes wsX6_pass := goodIn_r _ [45, 46, 8, 47, 48, 49, 6, 50, 51, 52, 53, 54, 55, 56, 57, 58, 59, 60, 61, 62, 63, 64, 65, 66, 67, 68, 69, 70, 71, 72, 73, 74, 75, 76, 77, 78, 79, 80, 81, 82, 83, 84, 85, 86, 87, 88, 89, 90, 91, 92, 93, 94, 95, 96, 97] (by decide +kernel) (by decide +kernel)
set_option maxRecDepth 20000 in
theorem gX6_overtakes_X6_pass : GoodIn wsX6_overtakes (wsV RX6 102 RX6 yX6_pass wsX6_pass) := goodIn_app (goodIn_of _ (by decide +kernel)) ggX6_overtakes_X6_pass
theorem dX6_overtakes_0 : decode cX6_overtakes 0 = .ok (.aload_n 0, 1) := by decide +kernel
theorem dX6_overtakes_1 : decode cX6_overtakes 1 = .ok (.iconst 0, 1) := by decide +kernel
theorem dX6_overtakes_2 : decode cX6_overtakes 2 = .ok (.putfield 41, 3) := by decide +kernel
theorem dX6_overtakes_5 : decode cX6_overtakes 5 = .ok (.aload_n 0, 1) := by decide +kernel
theorem dX6_overtakes_6 : decode cX6_overtakes 6 = .ok (.iload_n 1, 1) := by decide +kernel
theorem dX6_overtakes_7 : decode cX6_overtakes 7 = .ok (.invokevirtual 117, 3) := by decide +kernel
theorem dX6_overtakes_10 : decode cX6_overtakes 10 = .ok (.ifCond .eq 11, 3) := by decide +kernel
theorem dX6_overtakes_13 : decode cX6_overtakes 13 = .ok (.aload_n 0, 1) := by decide +kernel
theorem dX6_overtakes_14 : decode cX6_overtakes 14 = .ok (.iload_n 2, 1) := by decide +kernel
theorem dX6_overtakes_15 : decode cX6_overtakes 15 = .ok (.invokevirtual 117, 3) := by decide +kernel
theorem dX6_overtakes_18 : decode cX6_overtakes 18 = .ok (.ifCond .ne 9, 3) := by decide +kernel
theorem dX6_overtakes_21 : decode cX6_overtakes 21 = .ok (.aload_n 0, 1) := by decide +kernel
theorem dX6_overtakes_22 : decode cX6_overtakes 22 = .ok (.iconst 1, 1) := by decide +kernel
theorem dX6_overtakes_23 : decode cX6_overtakes 23 = .ok (.invokevirtual 113, 3) := by decide +kernel
theorem dX6_overtakes_26 : decode cX6_overtakes 26 = .ok (.ireturn, 1) := by decide +kernel
theorem dX6_overtakes_27 : decode cX6_overtakes 27 = .ok (.iload_n 1, 1) := by decide +kernel
theorem dX6_overtakes_28 : decode cX6_overtakes 28 = .ok (.iload_n 2, 1) := by decide +kernel
theorem dX6_overtakes_29 : decode cX6_overtakes 29 = .ok (.if_icmp .ne 9, 3) := by decide +kernel
theorem dX6_overtakes_32 : decode cX6_overtakes 32 = .ok (.aload_n 0, 1) := by decide +kernel
theorem dX6_overtakes_33 : decode cX6_overtakes 33 = .ok (.iconst 2, 1) := by decide +kernel
theorem dX6_overtakes_34 : decode cX6_overtakes 34 = .ok (.invokevirtual 113, 3) := by decide +kernel
theorem dX6_overtakes_37 : decode cX6_overtakes 37 = .ok (.ireturn, 1) := by decide +kernel
theorem dX6_overtakes_38 : decode cX6_overtakes 38 = .ok (.aload_n 0, 1) := by decide +kernel
theorem dX6_overtakes_39 : decode cX6_overtakes 39 = .ok (.invokevirtual 154, 3) := by decide +kernel
theorem dX6_overtakes_42 : decode cX6_overtakes 42 = .ok (.pop, 1) := by decide +kernel
theorem dX6_overtakes_43 : decode cX6_overtakes 43 = .ok (.iconst 0, 1) := by decide +kernel
theorem dX6_overtakes_44 : decode cX6_overtakes 44 = .ok (.istore_n 3, 1) := by decide +kernel
theorem dX6_overtakes_45 : decode cX6_overtakes 45 = .ok (.iload_n 3, 1) := by decide +kernel
theorem dX6_overtakes_46 : decode cX6_overtakes 46 = .ok (.bipush 120, 2) := by decide +kernel
theorem dX6_overtakes_48 : decode cX6_overtakes 48 = .ok (.if_icmp .gt 31, 3) := by decide +kernel
theorem dX6_overtakes_51 : decode cX6_overtakes 51 = .ok (.aload_n 0, 1) := by decide +kernel
theorem dX6_overtakes_52 : decode cX6_overtakes 52 = .ok (.getfield 32, 3) := by decide +kernel
theorem dX6_overtakes_55 : decode cX6_overtakes 55 = .ok (.iload_n 1, 1) := by decide +kernel
theorem dX6_overtakes_56 : decode cX6_overtakes 56 = .ok (.iload_n 2, 1) := by decide +kernel
theorem dX6_overtakes_57 : decode cX6_overtakes 57 = .ok (.invokestatic 109, 3) := by decide +kernel
theorem dX6_overtakes_60 : decode cX6_overtakes 60 = .ok (.ifCond .eq 5, 3) := by decide +kernel
theorem dX6_overtakes_63 : decode cX6_overtakes 63 = .ok (.iload_n 3, 1) := by decide +kernel
theorem dX6_overtakes_64 : decode cX6_overtakes 64 = .ok (.ireturn, 1) := by decide +kernel
theorem dX6_overtakes_65 : decode cX6_overtakes 65 = .ok (.aload_n 0, 1) := by decide +kernel
theorem dX6_overtakes_66 : decode cX6_overtakes 66 = .ok (.aload_n 0, 1) := by decide +kernel
theorem dX6_overtakes_67 : decode cX6_overtakes 67 = .ok (.getfield 32, 3) := by decide +kernel
theorem dX6_overtakes_70 : decode cX6_overtakes 70 = .ok (.invokevirtual 102, 3) := by decide +kernel
theorem dX6_overtakes_73 : decode cX6_overtakes 73 = .ok (.iinc 3 1, 3) := by decide +kernel
theorem dX6_overtakes_76 : decode cX6_overtakes 76 = .ok (.goto (-31), 3) := by decide +kernel
theorem dX6_overtakes_79 : decode cX6_overtakes 79 = .ok (.iconst (-1), 1) := by decide +kernel
theorem dX6_overtakes_80 : decode cX6_overtakes 80 = .ok (.ireturn, 1) := by decide +kernel
set_option maxRecDepth 20000 in
theorem ggX6_advise_X6_isVillage : GoodIn wsX6_advise wsX6_isVillage := goodIn_r _ [8, 9, 10, 11, 7, 12, 83, 84, 85, 86, 87, 88, 89, 90, 91, 92] (by decide +kernel) (by decide +kernel)
set_option maxRecDepth 20000 in
theorem gX6_advise_X6_isVillage : GoodIn wsX6_advise (wsV RX6 117 RX6 yX6_isVillage wsX6_isVillage) := goodIn_app (goodIn_of _ (by decide +kernel)) ggX6_advise_X6_isVillage
set_option maxRecDepth 20000 in
theorem ggX6_advise_X6_no : GoodIn wsX6_advise wsX6_no := goodIn_r _ [16, 1, 83, 84, 85, 86, 87, 88, 89, 90, 91, 92] (by decide +kernel) (by decide +kernel)
set_option maxRecDepth 20000 in
theorem gX6_advise_X6_no : GoodIn wsX6_advise (wsV RX6 113 RX6 yX6_no wsX6_no) := goodIn_app (goodIn_of _ (by decide +kernel)) ggX6_advise_X6_no
set_option maxRecDepth 20000 in
theorem ggX6_advise_X6_isIn : GoodIn wsX6_advise wsX6_isIn := goodIn_r _ [12] (by decide +kernel) (by decide +kernel)
set_option maxRecDepth 20000 in
theorem gX6_advise_X6_isIn : GoodIn wsX6_advise (va_wsS RX6 48 yX6_isIn wsX6_isIn) := goodIn_app (goodIn_of _ (by decide +kernel)) ggX6_advise_X6_isIn
set_option maxRecDepth 20000 in
theorem ggX6_advise_X6_lookAhead : GoodIn wsX6_advise wsX6_lookAhead := goodIn_r _ [20, 3, 21, 22, 23, 24, 25, 26, 27, 28, 29, 30, 31, 32, 33, 34, 35, 36, 37, 38, 39, 83, 84, 85, 86, 87, 88, 89, 90, 91, 92, 93, 94, 95, 96, 97, 98] (by decide +kernel) (by decide +kernel)
set_option maxRecDepth 20000 in
theorem gX6_advise_X6_lookAhead : GoodIn wsX6_advise (wsV RX6 154 RX6 yX6_lookAhead wsX6_lookAhead) := goodIn_app (goodIn_of _ (by decide +kernel)) ggX6_advise_X6_lookAhead
set_option maxRecDepth 20000 in
theorem ggX6_advise_X6_passAll : GoodIn wsX6_advise wsX6_passAll := goodIn_r _ [43, 44, 45, 46, 7, 47, 48, 9, 49, 50, 51, 52, 2, 53, 54, 55, 56, 57, 58, 59, 60, 61, 62, 63, 64, 65, 66, 67, 68, 69, 70, 71, 72, 73, 74, 75, 76, 77, 78, 79, 80, 81, 82, 83, 84, 85, 86, 87, 88, 89, 90, 91, 92, 93, 94, 95, 96, 97, 98] (by decide +kernel) (by decide +kernel)
set_option maxRecDepth 20000 in
theorem gX6_advise_X6_passAll : GoodIn wsX6_advise (wsV RX6 150 RX6 yX6_passAll wsX6_passAll) := goodIn_app (goodIn_of _ (by decide +kernel)) ggX6_advise_X6_passAll
theorem dX6_advise_0 : decode cX6_advise 0 = .ok (.aload_n 0, 1) := by decide +kernel
theorem dX6_advise_1 : decode cX6_advise 1 = .ok (.iconst 0, 1) := by decide +kernel
theorem dX6_advise_2 : decode cX6_advise 2 = .ok (.putfield 41, 3) := by decide +kernel
theorem dX6_advise_5 : decode cX6_advise 5 = .ok (.aload_n 0, 1) := by decide +kernel
theorem dX6_advise_6 : decode cX6_advise 6 = .ok (.iload_n 1, 1) := by decide +kernel
theorem dX6_advise_7 : decode cX6_advise 7 = .ok (.invokevirtual 117, 3) := by decide +kernel
theorem dX6_advise_10 : decode cX6_advise 10 = .ok (.ifCond .ne 9, 3) := by decide +kernel
theorem dX6_advise_13 : decode cX6_advise 13 = .ok (.aload_n 0, 1) := by decide +kernel
theorem dX6_advise_14 : decode cX6_advise 14 = .ok (.iconst 1, 1) := by decide +kernel
theorem dX6_advise_15 : decode cX6_advise 15 = .ok (.invokevirtual 113, 3) := by decide +kernel
theorem dX6_advise_18 : decode cX6_advise 18 = .ok (.ireturn, 1) := by decide +kernel
theorem dX6_advise_19 : decode cX6_advise 19 = .ok (.iload_n 2, 1) := by decide +kernel
theorem dX6_advise_20 : decode cX6_advise 20 = .ok (.iconst 1, 1) := by decide +kernel
theorem dX6_advise_21 : decode cX6_advise 21 = .ok (.bipush 60, 2) := by decide +kernel
theorem dX6_advise_23 : decode cX6_advise 23 = .ok (.invokestatic 48, 3) := by decide +kernel
theorem dX6_advise_26 : decode cX6_advise 26 = .ok (.ifCond .ne 9, 3) := by decide +kernel
theorem dX6_advise_29 : decode cX6_advise 29 = .ok (.aload_n 0, 1) := by decide +kernel
theorem dX6_advise_30 : decode cX6_advise 30 = .ok (.iconst 2, 1) := by decide +kernel
theorem dX6_advise_31 : decode cX6_advise 31 = .ok (.invokevirtual 113, 3) := by decide +kernel
theorem dX6_advise_34 : decode cX6_advise 34 = .ok (.ireturn, 1) := by decide +kernel
theorem dX6_advise_35 : decode cX6_advise 35 = .ok (.aload_n 0, 1) := by decide +kernel
theorem dX6_advise_36 : decode cX6_advise 36 = .ok (.aload_n 0, 1) := by decide +kernel
theorem dX6_advise_37 : decode cX6_advise 37 = .ok (.invokevirtual 154, 3) := by decide +kernel
theorem dX6_advise_40 : decode cX6_advise 40 = .ok (.iload_n 2, 1) := by decide +kernel
theorem dX6_advise_41 : decode cX6_advise 41 = .ok (.invokevirtual 150, 3) := by decide +kernel
theorem dX6_advise_44 : decode cX6_advise 44 = .ok (.getfield 66, 3) := by decide +kernel
theorem dX6_advise_47 : decode cX6_advise 47 = .ok (.iload_n 1, 1) := by decide +kernel
theorem dX6_advise_48 : decode cX6_advise 48 = .ok (.iaload, 1) := by decide +kernel
theorem dX6_advise_49 : decode cX6_advise 49 = .ok (.istore_n 3, 1) := by decide +kernel
theorem dX6_advise_50 : decode cX6_advise 50 = .ok (.iconst (-1), 1) := by decide +kernel
theorem dX6_advise_51 : decode cX6_advise 51 = .ok (.istore 4, 2) := by decide +kernel
theorem dX6_advise_53 : decode cX6_advise 53 = .ok (.iconst 0, 1) := by decide +kernel
theorem dX6_advise_54 : decode cX6_advise 54 = .ok (.istore 5, 2) := by decide +kernel
theorem dX6_advise_56 : decode cX6_advise 56 = .ok (.iload 5, 2) := by decide +kernel
theorem dX6_advise_58 : decode cX6_advise 58 = .ok (.aload_n 0, 1) := by decide +kernel
theorem dX6_advise_59 : decode cX6_advise 59 = .ok (.getfield 45, 3) := by decide +kernel
theorem dX6_advise_62 : decode cX6_advise 62 = .ok (.if_icmp .ge 57, 3) := by decide +kernel
theorem dX6_advise_65 : decode cX6_advise 65 = .ok (.aload_n 0, 1) := by decide +kernel
theorem dX6_advise_66 : decode cX6_advise 66 = .ok (.invokevirtual 154, 3) := by decide +kernel
theorem dX6_advise_69 : decode cX6_advise 69 = .ok (.getfield 35, 3) := by decide +kernel
theorem dX6_advise_72 : decode cX6_advise 72 = .ok (.bipush 8, 2) := by decide +kernel
theorem dX6_advise_74 : decode cX6_advise 74 = .ok (.iload_n 1, 1) := by decide +kernel
theorem dX6_advise_75 : decode cX6_advise 75 = .ok (.imul, 1) := by decide +kernel
theorem dX6_advise_76 : decode cX6_advise 76 = .ok (.iload 5, 2) := by decide +kernel
theorem dX6_advise_78 : decode cX6_advise 78 = .ok (.iadd, 1) := by decide +kernel
theorem dX6_advise_79 : decode cX6_advise 79 = .ok (.iconst 0, 1) := by decide +kernel
theorem dX6_advise_80 : decode cX6_advise 80 = .ok (.iastore, 1) := by decide +kernel
theorem dX6_advise_81 : decode cX6_advise 81 = .ok (.aload_n 0, 1) := by decide +kernel
theorem dX6_advise_82 : decode cX6_advise 82 = .ok (.aload_n 0, 1) := by decide +kernel
theorem dX6_advise_83 : decode cX6_advise 83 = .ok (.getfield 32, 3) := by decide +kernel
theorem dX6_advise_86 : decode cX6_advise 86 = .ok (.iload_n 2, 1) := by decide +kernel
theorem dX6_advise_87 : decode cX6_advise 87 = .ok (.invokevirtual 150, 3) := by decide +kernel
theorem dX6_advise_90 : decode cX6_advise 90 = .ok (.getfield 66, 3) := by decide +kernel
theorem dX6_advise_93 : decode cX6_advise 93 = .ok (.iload_n 1, 1) := by decide +kernel
theorem dX6_advise_94 : decode cX6_advise 94 = .ok (.iaload, 1) := by decide +kernel
theorem dX6_advise_95 : decode cX6_advise 95 = .ok (.istore 6, 2) := by decide +kernel
theorem dX6_advise_97 : decode cX6_advise 97 = .ok (.iload 6, 2) := by decide +kernel
theorem dX6_advise_99 : decode cX6_advise 99 = .ok (.iload_n 3, 1) := by decide +kernel
theorem dX6_advise_100 : decode cX6_advise 100 = .ok (.if_icmp .gt 6, 3) := by decide +kernel
theorem dX6_advise_103 : decode cX6_advise 103 = .ok (.goto 10, 3) := by decide +kernel
theorem dX6_advise_106 : decode cX6_advise 106 = .ok (.iload 6, 2) := by decide +kernel
theorem dX6_advise_108 : decode cX6_advise 108 = .ok (.istore_n 3, 1) := by decide +kernel
theorem dX6_advise_109 : decode cX6_advise 109 = .ok (.iload 5, 2) := by decide +kernel
theorem dX6_advise_111 : decode cX6_advise 111 = .ok (.istore 4, 2) := by decide +kernel
theorem dX6_advise_113 : decode cX6_advise 113 = .ok (.iinc 5 1, 3) := by decide +kernel
theorem dX6_advise_116 : decode cX6_advise 116 = .ok (.goto (-60), 3) := by decide +kernel
theorem dX6_advise_119 : decode cX6_advise 119 = .ok (.iload 4, 2) := by decide +kernel
theorem dX6_advise_121 : decode cX6_advise 121 = .ok (.ireturn, 1) := by decide +kernel
set_option maxRecDepth 20000 in
theorem ggX6_best_X6_rightDays : GoodIn wsX6_best wsX6_rightDays := goodIn_r _ [7, 8, 9, 10, 6, 11, 12, 13, 14, 15, 16, 17, 18, 19, 20, 21, 22, 23, 24, 25, 26, 27, 28, 29] (by decide +kernel) (by decide +kernel)
set_option maxRecDepth 20000 in
theorem gX6_best_X6_rightDays : GoodIn wsX6_best (wsV RX6 124 RX6 yX6_rightDays wsX6_rightDays) := goodIn_app (goodIn_of _ (by decide +kernel)) ggX6_best_X6_rightDays
theorem dX6_best_0 : decode cX6_best 0 = .ok (.aload_n 0, 1) := by decide +kernel
theorem dX6_best_1 : decode cX6_best 1 = .ok (.iconst 0, 1) := by decide +kernel
theorem dX6_best_2 : decode cX6_best 2 = .ok (.putfield 41, 3) := by decide +kernel
theorem dX6_best_5 : decode cX6_best 5 = .ok (.iconst (-1), 1) := by decide +kernel
theorem dX6_best_6 : decode cX6_best 6 = .ok (.istore_n 1, 1) := by decide +kernel
theorem dX6_best_7 : decode cX6_best 7 = .ok (.iconst 0, 1) := by decide +kernel
theorem dX6_best_8 : decode cX6_best 8 = .ok (.istore_n 2, 1) := by decide +kernel
theorem dX6_best_9 : decode cX6_best 9 = .ok (.iload_n 2, 1) := by decide +kernel
theorem dX6_best_10 : decode cX6_best 10 = .ok (.aload_n 0, 1) := by decide +kernel
theorem dX6_best_11 : decode cX6_best 11 = .ok (.getfield 45, 3) := by decide +kernel
theorem dX6_best_14 : decode cX6_best 14 = .ok (.if_icmp .ge 29, 3) := by decide +kernel
theorem dX6_best_17 : decode cX6_best 17 = .ok (.iload_n 1, 1) := by decide +kernel
theorem dX6_best_18 : decode cX6_best 18 = .ok (.iconst (-1), 1) := by decide +kernel
theorem dX6_best_19 : decode cX6_best 19 = .ok (.if_icmp .eq 16, 3) := by decide +kernel
theorem dX6_best_22 : decode cX6_best 22 = .ok (.aload_n 0, 1) := by decide +kernel
theorem dX6_best_23 : decode cX6_best 23 = .ok (.iload_n 2, 1) := by decide +kernel
theorem dX6_best_24 : decode cX6_best 24 = .ok (.invokevirtual 124, 3) := by decide +kernel
theorem dX6_best_27 : decode cX6_best 27 = .ok (.aload_n 0, 1) := by decide +kernel
theorem dX6_best_28 : decode cX6_best 28 = .ok (.iload_n 1, 1) := by decide +kernel
theorem dX6_best_29 : decode cX6_best 29 = .ok (.invokevirtual 124, 3) := by decide +kernel
theorem dX6_best_32 : decode cX6_best 32 = .ok (.if_icmp .le 5, 3) := by decide +kernel
theorem dX6_best_35 : decode cX6_best 35 = .ok (.iload_n 2, 1) := by decide +kernel
theorem dX6_best_36 : decode cX6_best 36 = .ok (.istore_n 1, 1) := by decide +kernel
theorem dX6_best_37 : decode cX6_best 37 = .ok (.iinc 2 1, 3) := by decide +kernel
theorem dX6_best_40 : decode cX6_best 40 = .ok (.goto (-31), 3) := by decide +kernel
theorem dX6_best_43 : decode cX6_best 43 = .ok (.iload_n 1, 1) := by decide +kernel
theorem dX6_best_44 : decode cX6_best 44 = .ok (.ireturn, 1) := by decide +kernel
set_option maxRecDepth 20000 in
theorem ggX6_mean_X6_sumOf : GoodIn wsX6_mean wsX6_sumOf := goodIn_r _ [8, 2, 9, 10, 11, 12, 13, 14, 15, 16, 17, 18] (by decide +kernel) (by decide +kernel)
set_option maxRecDepth 20000 in
theorem gX6_mean_X6_sumOf : GoodIn wsX6_mean (wsV RX6 139 RX6 yX6_sumOf wsX6_sumOf) := goodIn_app (goodIn_of _ (by decide +kernel)) ggX6_mean_X6_sumOf
theorem dX6_mean_0 : decode cX6_mean 0 = .ok (.aload_n 0, 1) := by decide +kernel
theorem dX6_mean_1 : decode cX6_mean 1 = .ok (.iconst 0, 1) := by decide +kernel
theorem dX6_mean_2 : decode cX6_mean 2 = .ok (.putfield 41, 3) := by decide +kernel
theorem dX6_mean_5 : decode cX6_mean 5 = .ok (.aload_n 0, 1) := by decide +kernel
theorem dX6_mean_6 : decode cX6_mean 6 = .ok (.getfield 52, 3) := by decide +kernel
theorem dX6_mean_9 : decode cX6_mean 9 = .ok (.ifCond .ne 7, 3) := by decide +kernel
theorem dX6_mean_12 : decode cX6_mean 12 = .ok (.dconst 0, 1) := by decide +kernel
theorem dX6_mean_13 : decode cX6_mean 13 = .ok (.goto 21, 3) := by decide +kernel
theorem dX6_mean_16 : decode cX6_mean 16 = .ok (.aload_n 0, 1) := by decide +kernel
theorem dX6_mean_17 : decode cX6_mean 17 = .ok (.aload_n 0, 1) := by decide +kernel
theorem dX6_mean_18 : decode cX6_mean 18 = .ok (.getfield 28, 3) := by decide +kernel
theorem dX6_mean_21 : decode cX6_mean 21 = .ok (.getfield 66, 3) := by decide +kernel
theorem dX6_mean_24 : decode cX6_mean 24 = .ok (.invokevirtual 139, 3) := by decide +kernel
theorem dX6_mean_27 : decode cX6_mean 27 = .ok (.i2d, 1) := by decide +kernel
theorem dX6_mean_28 : decode cX6_mean 28 = .ok (.aload_n 0, 1) := by decide +kernel
theorem dX6_mean_29 : decode cX6_mean 29 = .ok (.getfield 52, 3) := by decide +kernel
theorem dX6_mean_32 : decode cX6_mean 32 = .ok (.i2d, 1) := by decide +kernel
theorem dX6_mean_33 : decode cX6_mean 33 = .ok (.ddiv, 1) := by decide +kernel
theorem dX6_mean_34 : decode cX6_mean 34 = .ok (.dreturn, 1) := by decide +kernel
set_option maxRecDepth 20000 in
theorem ggX6_digest_X6_counted : GoodIn wsX6_digest wsX6_counted := goodIn_r _ [13, 7, 8, 6, 14, 15, 16, 12, 17, 18, 19, 20, 21, 22, 23, 24, 25, 26, 27, 28, 29, 30, 31, 5, 32, 33, 34, 35, 36, 74, 75, 76, 77, 78, 79, 64, 65, 66, 67, 68, 69, 70, 71, 72, 73] (by decide +kernel) (by decide +kernel)
set_option maxRecDepth 20000 in
theorem gX6_digest_X6_counted : GoodIn wsX6_digest (wsV RX6 147 RX6 yX6_counted wsX6_counted) := goodIn_app (goodIn_of _ (by decide +kernel)) ggX6_digest_X6_counted
set_option maxRecDepth 20000 in
theorem ggX6_digest_X6_signTold : GoodIn wsX6_digest wsX6_signTold := goodIn_r _ [40, 31, 32, 8, 4, 41, 42, 43, 12, 44, 45, 46, 47, 48, 6, 27, 28, 29, 30, 5, 64, 65, 66, 67, 68, 69, 70, 71, 72, 73, 74, 75, 76, 77, 78, 79] (by decide +kernel) (by decide +kernel)
set_option maxRecDepth 20000 in
theorem gX6_digest_X6_signTold : GoodIn wsX6_digest (wsV RX6 127 RX6 yX6_signTold wsX6_signTold) := goodIn_app (goodIn_of _ (by decide +kernel)) ggX6_digest_X6_signTold
set_option maxRecDepth 20000 in
theorem ggX6_digest_X6_villageTold : GoodIn wsX6_digest wsX6_villageTold := goodIn_r _ [52, 4, 22, 23, 24, 12, 25, 7, 26, 27, 28, 29, 30, 31, 5, 32, 6, 53, 54, 55, 56, 57, 58, 59, 60, 8, 61, 62, 63, 33, 34, 35, 36, 64, 65, 66, 67, 68, 69, 70, 71, 72, 73, 74, 75, 76, 77, 78, 79] (by decide +kernel) (by decide +kernel)
set_option maxRecDepth 20000 in
theorem gX6_digest_X6_villageTold : GoodIn wsX6_digest (wsV RX6 136 RX6 yX6_villageTold wsX6_villageTold) := goodIn_app (goodIn_of _ (by decide +kernel)) ggX6_digest_X6_villageTold
theorem dX6_digest_0 : decode cX6_digest 0 = .ok (.aload_n 0, 1) := by decide +kernel
theorem dX6_digest_1 : decode cX6_digest 1 = .ok (.iconst 0, 1) := by decide +kernel
theorem dX6_digest_2 : decode cX6_digest 2 = .ok (.putfield 41, 3) := by decide +kernel
theorem dX6_digest_5 : decode cX6_digest 5 = .ok (.ldc2_w 158, 3) := by decide +kernel
theorem dX6_digest_8 : decode cX6_digest 8 = .ok (.lstore_n 1, 1) := by decide +kernel
theorem dX6_digest_9 : decode cX6_digest 9 = .ok (.iconst 0, 1) := by decide +kernel
theorem dX6_digest_10 : decode cX6_digest 10 = .ok (.istore_n 3, 1) := by decide +kernel
theorem dX6_digest_11 : decode cX6_digest 11 = .ok (.iload_n 3, 1) := by decide +kernel
theorem dX6_digest_12 : decode cX6_digest 12 = .ok (.bipush 7, 2) := by decide +kernel
theorem dX6_digest_14 : decode cX6_digest 14 = .ok (.if_icmp .ge 26, 3) := by decide +kernel
theorem dX6_digest_17 : decode cX6_digest 17 = .ok (.lload_n 1, 1) := by decide +kernel
theorem dX6_digest_18 : decode cX6_digest 18 = .ok (.ldc2_w 160, 3) := by decide +kernel
theorem dX6_digest_21 : decode cX6_digest 21 = .ok (.lmul, 1) := by decide +kernel
theorem dX6_digest_22 : decode cX6_digest 22 = .ok (.aload_n 0, 1) := by decide +kernel
theorem dX6_digest_23 : decode cX6_digest 23 = .ok (.aload_n 0, 1) := by decide +kernel
theorem dX6_digest_24 : decode cX6_digest 24 = .ok (.getfield 28, 3) := by decide +kernel
theorem dX6_digest_27 : decode cX6_digest 27 = .ok (.iload_n 3, 1) := by decide +kernel
theorem dX6_digest_28 : decode cX6_digest 28 = .ok (.invokevirtual 147, 3) := by decide +kernel
theorem dX6_digest_31 : decode cX6_digest 31 = .ok (.i2l, 1) := by decide +kernel
theorem dX6_digest_32 : decode cX6_digest 32 = .ok (.ladd, 1) := by decide +kernel
theorem dX6_digest_33 : decode cX6_digest 33 = .ok (.lstore_n 1, 1) := by decide +kernel
theorem dX6_digest_34 : decode cX6_digest 34 = .ok (.iinc 3 1, 3) := by decide +kernel
theorem dX6_digest_37 : decode cX6_digest 37 = .ok (.goto (-26), 3) := by decide +kernel
theorem dX6_digest_40 : decode cX6_digest 40 = .ok (.iconst 0, 1) := by decide +kernel
theorem dX6_digest_41 : decode cX6_digest 41 = .ok (.istore_n 3, 1) := by decide +kernel
theorem dX6_digest_42 : decode cX6_digest 42 = .ok (.iload_n 3, 1) := by decide +kernel
theorem dX6_digest_43 : decode cX6_digest 43 = .ok (.bipush 12, 2) := by decide +kernel
theorem dX6_digest_45 : decode cX6_digest 45 = .ok (.if_icmp .ge 35, 3) := by decide +kernel
theorem dX6_digest_48 : decode cX6_digest 48 = .ok (.lload_n 1, 1) := by decide +kernel
theorem dX6_digest_49 : decode cX6_digest 49 = .ok (.ldc2_w 160, 3) := by decide +kernel
theorem dX6_digest_52 : decode cX6_digest 52 = .ok (.lmul, 1) := by decide +kernel
theorem dX6_digest_53 : decode cX6_digest 53 = .ok (.aload_n 0, 1) := by decide +kernel
theorem dX6_digest_54 : decode cX6_digest 54 = .ok (.getfield 9, 3) := by decide +kernel
theorem dX6_digest_57 : decode cX6_digest 57 = .ok (.iload_n 3, 1) := by decide +kernel
theorem dX6_digest_58 : decode cX6_digest 58 = .ok (.iaload, 1) := by decide +kernel
theorem dX6_digest_59 : decode cX6_digest 59 = .ok (.i2l, 1) := by decide +kernel
theorem dX6_digest_60 : decode cX6_digest 60 = .ok (.ladd, 1) := by decide +kernel
theorem dX6_digest_61 : decode cX6_digest 61 = .ok (.ldc2_w 160, 3) := by decide +kernel
theorem dX6_digest_64 : decode cX6_digest 64 = .ok (.lmul, 1) := by decide +kernel
theorem dX6_digest_65 : decode cX6_digest 65 = .ok (.aload_n 0, 1) := by decide +kernel
theorem dX6_digest_66 : decode cX6_digest 66 = .ok (.getfield 13, 3) := by decide +kernel
theorem dX6_digest_69 : decode cX6_digest 69 = .ok (.iload_n 3, 1) := by decide +kernel
theorem dX6_digest_70 : decode cX6_digest 70 = .ok (.iaload, 1) := by decide +kernel
theorem dX6_digest_71 : decode cX6_digest 71 = .ok (.i2l, 1) := by decide +kernel
theorem dX6_digest_72 : decode cX6_digest 72 = .ok (.ladd, 1) := by decide +kernel
theorem dX6_digest_73 : decode cX6_digest 73 = .ok (.lstore_n 1, 1) := by decide +kernel
theorem dX6_digest_74 : decode cX6_digest 74 = .ok (.iinc 3 1, 3) := by decide +kernel
theorem dX6_digest_77 : decode cX6_digest 77 = .ok (.goto (-35), 3) := by decide +kernel
theorem dX6_digest_80 : decode cX6_digest 80 = .ok (.iconst 0, 1) := by decide +kernel
theorem dX6_digest_81 : decode cX6_digest 81 = .ok (.istore_n 3, 1) := by decide +kernel
theorem dX6_digest_82 : decode cX6_digest 82 = .ok (.iload_n 3, 1) := by decide +kernel
theorem dX6_digest_83 : decode cX6_digest 83 = .ok (.aload_n 0, 1) := by decide +kernel
theorem dX6_digest_84 : decode cX6_digest 84 = .ok (.getfield 45, 3) := by decide +kernel
theorem dX6_digest_87 : decode cX6_digest 87 = .ok (.if_icmp .ge 39, 3) := by decide +kernel
theorem dX6_digest_90 : decode cX6_digest 90 = .ok (.iconst 0, 1) := by decide +kernel
theorem dX6_digest_91 : decode cX6_digest 91 = .ok (.istore 4, 2) := by decide +kernel
theorem dX6_digest_93 : decode cX6_digest 93 = .ok (.iload 4, 2) := by decide +kernel
theorem dX6_digest_95 : decode cX6_digest 95 = .ok (.iconst 4, 1) := by decide +kernel
theorem dX6_digest_96 : decode cX6_digest 96 = .ok (.if_icmp .ge 24, 3) := by decide +kernel
theorem dX6_digest_99 : decode cX6_digest 99 = .ok (.lload_n 1, 1) := by decide +kernel
theorem dX6_digest_100 : decode cX6_digest 100 = .ok (.ldc2_w 160, 3) := by decide +kernel
theorem dX6_digest_103 : decode cX6_digest 103 = .ok (.lmul, 1) := by decide +kernel
theorem dX6_digest_104 : decode cX6_digest 104 = .ok (.aload_n 0, 1) := by decide +kernel
theorem dX6_digest_105 : decode cX6_digest 105 = .ok (.iload_n 3, 1) := by decide +kernel
theorem dX6_digest_106 : decode cX6_digest 106 = .ok (.iload 4, 2) := by decide +kernel
theorem dX6_digest_108 : decode cX6_digest 108 = .ok (.invokevirtual 127, 3) := by decide +kernel
theorem dX6_digest_111 : decode cX6_digest 111 = .ok (.i2l, 1) := by decide +kernel
theorem dX6_digest_112 : decode cX6_digest 112 = .ok (.ladd, 1) := by decide +kernel
theorem dX6_digest_113 : decode cX6_digest 113 = .ok (.lstore_n 1, 1) := by decide +kernel
theorem dX6_digest_114 : decode cX6_digest 114 = .ok (.iinc 4 1, 3) := by decide +kernel
theorem dX6_digest_117 : decode cX6_digest 117 = .ok (.goto (-24), 3) := by decide +kernel
theorem dX6_digest_120 : decode cX6_digest 120 = .ok (.iinc 3 1, 3) := by decide +kernel
theorem dX6_digest_123 : decode cX6_digest 123 = .ok (.goto (-41), 3) := by decide +kernel
theorem dX6_digest_126 : decode cX6_digest 126 = .ok (.iconst 0, 1) := by decide +kernel
theorem dX6_digest_127 : decode cX6_digest 127 = .ok (.istore_n 3, 1) := by decide +kernel
theorem dX6_digest_128 : decode cX6_digest 128 = .ok (.iload_n 3, 1) := by decide +kernel
theorem dX6_digest_129 : decode cX6_digest 129 = .ok (.aload_n 0, 1) := by decide +kernel
theorem dX6_digest_130 : decode cX6_digest 130 = .ok (.getfield 52, 3) := by decide +kernel
theorem dX6_digest_133 : decode cX6_digest 133 = .ok (.if_icmp .ge 81, 3) := by decide +kernel
theorem dX6_digest_136 : decode cX6_digest 136 = .ok (.iconst 0, 1) := by decide +kernel
theorem dX6_digest_137 : decode cX6_digest 137 = .ok (.istore 4, 2) := by decide +kernel
theorem dX6_digest_139 : decode cX6_digest 139 = .ok (.iload 4, 2) := by decide +kernel
theorem dX6_digest_141 : decode cX6_digest 141 = .ok (.bipush 7, 2) := by decide +kernel
theorem dX6_digest_143 : decode cX6_digest 143 = .ok (.if_icmp .ge 24, 3) := by decide +kernel
theorem dX6_digest_146 : decode cX6_digest 146 = .ok (.lload_n 1, 1) := by decide +kernel
theorem dX6_digest_147 : decode cX6_digest 147 = .ok (.ldc2_w 160, 3) := by decide +kernel
theorem dX6_digest_150 : decode cX6_digest 150 = .ok (.lmul, 1) := by decide +kernel
theorem dX6_digest_151 : decode cX6_digest 151 = .ok (.aload_n 0, 1) := by decide +kernel
theorem dX6_digest_152 : decode cX6_digest 152 = .ok (.iload_n 3, 1) := by decide +kernel
theorem dX6_digest_153 : decode cX6_digest 153 = .ok (.iload 4, 2) := by decide +kernel
theorem dX6_digest_155 : decode cX6_digest 155 = .ok (.invokevirtual 136, 3) := by decide +kernel
theorem dX6_digest_158 : decode cX6_digest 158 = .ok (.i2l, 1) := by decide +kernel
theorem dX6_digest_159 : decode cX6_digest 159 = .ok (.ladd, 1) := by decide +kernel
theorem dX6_digest_160 : decode cX6_digest 160 = .ok (.lstore_n 1, 1) := by decide +kernel
theorem dX6_digest_161 : decode cX6_digest 161 = .ok (.iinc 4 1, 3) := by decide +kernel
theorem dX6_digest_164 : decode cX6_digest 164 = .ok (.goto (-25), 3) := by decide +kernel
theorem dX6_digest_167 : decode cX6_digest 167 = .ok (.iconst 0, 1) := by decide +kernel
theorem dX6_digest_168 : decode cX6_digest 168 = .ok (.istore 4, 2) := by decide +kernel
theorem dX6_digest_170 : decode cX6_digest 170 = .ok (.iload 4, 2) := by decide +kernel
theorem dX6_digest_172 : decode cX6_digest 172 = .ok (.aload_n 0, 1) := by decide +kernel
theorem dX6_digest_173 : decode cX6_digest 173 = .ok (.getfield 45, 3) := by decide +kernel
theorem dX6_digest_176 : decode cX6_digest 176 = .ok (.if_icmp .ge 32, 3) := by decide +kernel
theorem dX6_digest_179 : decode cX6_digest 179 = .ok (.lload_n 1, 1) := by decide +kernel
theorem dX6_digest_180 : decode cX6_digest 180 = .ok (.ldc2_w 160, 3) := by decide +kernel
theorem dX6_digest_183 : decode cX6_digest 183 = .ok (.lmul, 1) := by decide +kernel
theorem dX6_digest_184 : decode cX6_digest 184 = .ok (.aload_n 0, 1) := by decide +kernel
theorem dX6_digest_185 : decode cX6_digest 185 = .ok (.getfield 28, 3) := by decide +kernel
theorem dX6_digest_188 : decode cX6_digest 188 = .ok (.getfield 35, 3) := by decide +kernel
theorem dX6_digest_191 : decode cX6_digest 191 = .ok (.bipush 8, 2) := by decide +kernel
theorem dX6_digest_193 : decode cX6_digest 193 = .ok (.iload_n 3, 1) := by decide +kernel
theorem dX6_digest_194 : decode cX6_digest 194 = .ok (.imul, 1) := by decide +kernel
theorem dX6_digest_195 : decode cX6_digest 195 = .ok (.iload 4, 2) := by decide +kernel
theorem dX6_digest_197 : decode cX6_digest 197 = .ok (.iadd, 1) := by decide +kernel
theorem dX6_digest_198 : decode cX6_digest 198 = .ok (.iaload, 1) := by decide +kernel
theorem dX6_digest_199 : decode cX6_digest 199 = .ok (.i2l, 1) := by decide +kernel
theorem dX6_digest_200 : decode cX6_digest 200 = .ok (.ladd, 1) := by decide +kernel
theorem dX6_digest_201 : decode cX6_digest 201 = .ok (.lstore_n 1, 1) := by decide +kernel
theorem dX6_digest_202 : decode cX6_digest 202 = .ok (.iinc 4 1, 3) := by decide +kernel
theorem dX6_digest_205 : decode cX6_digest 205 = .ok (.goto (-35), 3) := by decide +kernel
theorem dX6_digest_208 : decode cX6_digest 208 = .ok (.iinc 3 1, 3) := by decide +kernel
theorem dX6_digest_211 : decode cX6_digest 211 = .ok (.goto (-83), 3) := by decide +kernel
theorem dX6_digest_214 : decode cX6_digest 214 = .ok (.lload_n 1, 1) := by decide +kernel
theorem dX6_digest_215 : decode cX6_digest 215 = .ok (.lreturn, 1) := by decide +kernel
