theorem dX5_init_0 : decode cX5_init 0 = .ok (.aload_n 0, 1) := by decide +kernel
theorem dX5_init_1 : decode cX5_init 1 = .ok (.invokespecial 1, 3) := by decide +kernel
theorem dX5_init_4 : decode cX5_init 4 = .ok (.aload_n 0, 1) := by decide +kernel
theorem dX5_init_5 : decode cX5_init 5 = .ok (.bipush 12, 2) := by decide +kernel
theorem dX5_init_7 : decode cX5_init 7 = .ok (.newarray .int, 2) := by decide +kernel
theorem dX5_init_9 : decode cX5_init 9 = .ok (.dup, 1) := by decide +kernel
theorem dX5_init_10 : decode cX5_init 10 = .ok (.iconst 0, 1) := by decide +kernel
theorem dX5_init_11 : decode cX5_init 11 = .ok (.bipush 30, 2) := by decide +kernel
theorem dX5_init_13 : decode cX5_init 13 = .ok (.iastore, 1) := by decide +kernel
theorem dX5_init_14 : decode cX5_init 14 = .ok (.dup, 1) := by decide +kernel
theorem dX5_init_15 : decode cX5_init 15 = .ok (.iconst 1, 1) := by decide +kernel
theorem dX5_init_16 : decode cX5_init 16 = .ok (.bipush 30, 2) := by decide +kernel
theorem dX5_init_18 : decode cX5_init 18 = .ok (.iastore, 1) := by decide +kernel
theorem dX5_init_19 : decode cX5_init 19 = .ok (.dup, 1) := by decide +kernel
theorem dX5_init_20 : decode cX5_init 20 = .ok (.iconst 2, 1) := by decide +kernel
theorem dX5_init_21 : decode cX5_init 21 = .ok (.bipush 30, 2) := by decide +kernel
theorem dX5_init_23 : decode cX5_init 23 = .ok (.iastore, 1) := by decide +kernel
theorem dX5_init_24 : decode cX5_init 24 = .ok (.dup, 1) := by decide +kernel
theorem dX5_init_25 : decode cX5_init 25 = .ok (.iconst 3, 1) := by decide +kernel
theorem dX5_init_26 : decode cX5_init 26 = .ok (.bipush 30, 2) := by decide +kernel
theorem dX5_init_28 : decode cX5_init 28 = .ok (.iastore, 1) := by decide +kernel
theorem dX5_init_29 : decode cX5_init 29 = .ok (.dup, 1) := by decide +kernel
theorem dX5_init_30 : decode cX5_init 30 = .ok (.iconst 4, 1) := by decide +kernel
theorem dX5_init_31 : decode cX5_init 31 = .ok (.bipush 30, 2) := by decide +kernel
theorem dX5_init_33 : decode cX5_init 33 = .ok (.iastore, 1) := by decide +kernel
theorem dX5_init_34 : decode cX5_init 34 = .ok (.dup, 1) := by decide +kernel
theorem dX5_init_35 : decode cX5_init 35 = .ok (.iconst 5, 1) := by decide +kernel
theorem dX5_init_36 : decode cX5_init 36 = .ok (.bipush 30, 2) := by decide +kernel
theorem dX5_init_38 : decode cX5_init 38 = .ok (.iastore, 1) := by decide +kernel
theorem dX5_init_39 : decode cX5_init 39 = .ok (.dup, 1) := by decide +kernel
theorem dX5_init_40 : decode cX5_init 40 = .ok (.bipush 6, 2) := by decide +kernel
theorem dX5_init_42 : decode cX5_init 42 = .ok (.bipush 30, 2) := by decide +kernel
theorem dX5_init_44 : decode cX5_init 44 = .ok (.iastore, 1) := by decide +kernel
theorem dX5_init_45 : decode cX5_init 45 = .ok (.dup, 1) := by decide +kernel
theorem dX5_init_46 : decode cX5_init 46 = .ok (.bipush 7, 2) := by decide +kernel
theorem dX5_init_48 : decode cX5_init 48 = .ok (.bipush 30, 2) := by decide +kernel
theorem dX5_init_50 : decode cX5_init 50 = .ok (.iastore, 1) := by decide +kernel
theorem dX5_init_51 : decode cX5_init 51 = .ok (.dup, 1) := by decide +kernel
theorem dX5_init_52 : decode cX5_init 52 = .ok (.bipush 8, 2) := by decide +kernel
theorem dX5_init_54 : decode cX5_init 54 = .ok (.bipush 30, 2) := by decide +kernel
theorem dX5_init_56 : decode cX5_init 56 = .ok (.iastore, 1) := by decide +kernel
theorem dX5_init_57 : decode cX5_init 57 = .ok (.dup, 1) := by decide +kernel
theorem dX5_init_58 : decode cX5_init 58 = .ok (.bipush 9, 2) := by decide +kernel
theorem dX5_init_60 : decode cX5_init 60 = .ok (.bipush 30, 2) := by decide +kernel
theorem dX5_init_62 : decode cX5_init 62 = .ok (.iastore, 1) := by decide +kernel
theorem dX5_init_63 : decode cX5_init 63 = .ok (.dup, 1) := by decide +kernel
theorem dX5_init_64 : decode cX5_init 64 = .ok (.bipush 10, 2) := by decide +kernel
theorem dX5_init_66 : decode cX5_init 66 = .ok (.bipush 30, 2) := by decide +kernel
theorem dX5_init_68 : decode cX5_init 68 = .ok (.iastore, 1) := by decide +kernel
theorem dX5_init_69 : decode cX5_init 69 = .ok (.dup, 1) := by decide +kernel
theorem dX5_init_70 : decode cX5_init 70 = .ok (.bipush 11, 2) := by decide +kernel
theorem dX5_init_72 : decode cX5_init 72 = .ok (.bipush 30, 2) := by decide +kernel
theorem dX5_init_74 : decode cX5_init 74 = .ok (.iastore, 1) := by decide +kernel
theorem dX5_init_75 : decode cX5_init 75 = .ok (.putfield 7, 3) := by decide +kernel
theorem dX5_init_78 : decode cX5_init 78 = .ok (.aload_n 0, 1) := by decide +kernel
theorem dX5_init_79 : decode cX5_init 79 = .ok (.bipush 12, 2) := by decide +kernel
theorem dX5_init_81 : decode cX5_init 81 = .ok (.newarray .boolean, 2) := by decide +kernel
theorem dX5_init_83 : decode cX5_init 83 = .ok (.putfield 13, 3) := by decide +kernel
theorem dX5_init_86 : decode cX5_init 86 = .ok (.aload_n 0, 1) := by decide +kernel
theorem dX5_init_87 : decode cX5_init 87 = .ok (.iconst 0, 1) := by decide +kernel
theorem dX5_init_88 : decode cX5_init 88 = .ok (.anewarray 17, 3) := by decide +kernel
theorem dX5_init_91 : decode cX5_init 91 = .ok (.putfield 18, 3) := by decide +kernel
theorem dX5_init_94 : decode cX5_init 94 = .ok (.aload_n 0, 1) := by decide +kernel
theorem dX5_init_95 : decode cX5_init 95 = .ok (.iconst 0, 1) := by decide +kernel
theorem dX5_init_96 : decode cX5_init 96 = .ok (.anewarray 17, 3) := by decide +kernel
theorem dX5_init_99 : decode cX5_init 99 = .ok (.putfield 22, 3) := by decide +kernel
theorem dX5_init_102 : decode cX5_init 102 = .ok (.aload_n 0, 1) := by decide +kernel
theorem dX5_init_103 : decode cX5_init 103 = .ok (.iconst 0, 1) := by decide +kernel
theorem dX5_init_104 : decode cX5_init 104 = .ok (.anewarray 17, 3) := by decide +kernel
theorem dX5_init_107 : decode cX5_init 107 = .ok (.putfield 25, 3) := by decide +kernel
theorem dX5_init_110 : decode cX5_init 110 = .ok (.return_, 1) := by decide +kernel
theorem dX5_more_0 : decode cX5_more 0 = .ok (.aload_n 0, 1) := by decide +kernel
theorem dX5_more_1 : decode cX5_more 1 = .ok (.arraylength, 1) := by decide +kernel
theorem dX5_more_2 : decode cX5_more 2 = .ok (.iconst 1, 1) := by decide +kernel
theorem dX5_more_3 : decode cX5_more 3 = .ok (.iadd, 1) := by decide +kernel
theorem dX5_more_4 : decode cX5_more 4 = .ok (.anewarray 17, 3) := by decide +kernel
theorem dX5_more_7 : decode cX5_more 7 = .ok (.astore_n 2, 1) := by decide +kernel
theorem dX5_more_8 : decode cX5_more 8 = .ok (.iconst 0, 1) := by decide +kernel
theorem dX5_more_9 : decode cX5_more 9 = .ok (.istore_n 3, 1) := by decide +kernel
theorem dX5_more_10 : decode cX5_more 10 = .ok (.iload_n 3, 1) := by decide +kernel
theorem dX5_more_11 : decode cX5_more 11 = .ok (.aload_n 0, 1) := by decide +kernel
theorem dX5_more_12 : decode cX5_more 12 = .ok (.arraylength, 1) := by decide +kernel
theorem dX5_more_13 : decode cX5_more 13 = .ok (.if_icmp .ge 15, 3) := by decide +kernel
theorem dX5_more_16 : decode cX5_more 16 = .ok (.aload_n 2, 1) := by decide +kernel
theorem dX5_more_17 : decode cX5_more 17 = .ok (.iload_n 3, 1) := by decide +kernel
theorem dX5_more_18 : decode cX5_more 18 = .ok (.aload_n 0, 1) := by decide +kernel
theorem dX5_more_19 : decode cX5_more 19 = .ok (.iload_n 3, 1) := by decide +kernel
theorem dX5_more_20 : decode cX5_more 20 = .ok (.aaload, 1) := by decide +kernel
theorem dX5_more_21 : decode cX5_more 21 = .ok (.aastore, 1) := by decide +kernel
theorem dX5_more_22 : decode cX5_more 22 = .ok (.iinc 3 1, 3) := by decide +kernel
theorem dX5_more_25 : decode cX5_more 25 = .ok (.goto (-15), 3) := by decide +kernel
theorem dX5_more_28 : decode cX5_more 28 = .ok (.aload_n 2, 1) := by decide +kernel
theorem dX5_more_29 : decode cX5_more 29 = .ok (.aload_n 0, 1) := by decide +kernel
theorem dX5_more_30 : decode cX5_more 30 = .ok (.arraylength, 1) := by decide +kernel
theorem dX5_more_31 : decode cX5_more 31 = .ok (.aload_n 1, 1) := by decide +kernel
theorem dX5_more_32 : decode cX5_more 32 = .ok (.aastore, 1) := by decide +kernel
theorem dX5_more_33 : decode cX5_more 33 = .ok (.aload_n 2, 1) := by decide +kernel
theorem dX5_more_34 : decode cX5_more 34 = .ok (.areturn, 1) := by decide +kernel
theorem dX5_says_0 : decode cX5_says 0 = .ok (.aload_n 0, 1) := by decide +kernel
theorem dX5_says_1 : decode cX5_says 1 = .ok (.getfield 18, 3) := by decide +kernel
theorem dX5_says_4 : decode cX5_says 4 = .ok (.iload_n 1, 1) := by decide +kernel
theorem dX5_says_5 : decode cX5_says 5 = .ok (.aaload, 1) := by decide +kernel
theorem dX5_says_6 : decode cX5_says 6 = .ok (.astore_n 3, 1) := by decide +kernel
theorem dX5_says_7 : decode cX5_says 7 = .ok (.aload_n 0, 1) := by decide +kernel
theorem dX5_says_8 : decode cX5_says 8 = .ok (.getfield 7, 3) := by decide +kernel
theorem dX5_says_11 : decode cX5_says 11 = .ok (.iload_n 2, 1) := by decide +kernel
theorem dX5_says_12 : decode cX5_says 12 = .ok (.bipush 12, 2) := by decide +kernel
theorem dX5_says_14 : decode cX5_says 14 = .ok (.irem, 1) := by decide +kernel
theorem dX5_says_15 : decode cX5_says 15 = .ok (.iaload, 1) := by decide +kernel
theorem dX5_says_16 : decode cX5_says 16 = .ok (.istore 4, 2) := by decide +kernel
theorem dX5_says_18 : decode cX5_says 18 = .ok (.aload_n 0, 1) := by decide +kernel
theorem dX5_says_19 : decode cX5_says 19 = .ok (.getfield 7, 3) := by decide +kernel
theorem dX5_says_22 : decode cX5_says 22 = .ok (.iload_n 2, 1) := by decide +kernel
theorem dX5_says_23 : decode cX5_says 23 = .ok (.bipush 11, 2) := by decide +kernel
theorem dX5_says_25 : decode cX5_says 25 = .ok (.iadd, 1) := by decide +kernel
theorem dX5_says_26 : decode cX5_says 26 = .ok (.bipush 12, 2) := by decide +kernel
theorem dX5_says_28 : decode cX5_says 28 = .ok (.irem, 1) := by decide +kernel
theorem dX5_says_29 : decode cX5_says 29 = .ok (.iaload, 1) := by decide +kernel
theorem dX5_says_30 : decode cX5_says 30 = .ok (.iload 4, 2) := by decide +kernel
theorem dX5_says_32 : decode cX5_says 32 = .ok (.isub, 1) := by decide +kernel
theorem dX5_says_33 : decode cX5_says 33 = .ok (.istore 5, 2) := by decide +kernel
theorem dX5_says_35 : decode cX5_says 35 = .ok (.aload_n 0, 1) := by decide +kernel
theorem dX5_says_36 : decode cX5_says 36 = .ok (.getfield 13, 3) := by decide +kernel
theorem dX5_says_39 : decode cX5_says 39 = .ok (.iload_n 2, 1) := by decide +kernel
theorem dX5_says_40 : decode cX5_says 40 = .ok (.bipush 11, 2) := by decide +kernel
theorem dX5_says_42 : decode cX5_says 42 = .ok (.iadd, 1) := by decide +kernel
theorem dX5_says_43 : decode cX5_says 43 = .ok (.bipush 12, 2) := by decide +kernel
theorem dX5_says_45 : decode cX5_says 45 = .ok (.irem, 1) := by decide +kernel
theorem dX5_says_46 : decode cX5_says 46 = .ok (.baload, 1) := by decide +kernel
theorem dX5_says_47 : decode cX5_says 47 = .ok (.istore 6, 2) := by decide +kernel
theorem dX5_says_49 : decode cX5_says 49 = .ok (.aload_n 3, 1) := by decide +kernel
theorem dX5_says_50 : decode cX5_says 50 = .ok (.iconst 0, 1) := by decide +kernel
theorem dX5_says_51 : decode cX5_says 51 = .ok (.iaload, 1) := by decide +kernel
theorem dX5_says_52 : decode cX5_says 52 = .ok (.tableswitch 100 0 4 #[36, 50, 64, 67, 84], 36) := by decide +kernel
theorem dX5_says_88 : decode cX5_says 88 = .ok (.iload 5, 2) := by decide +kernel
theorem dX5_says_90 : decode cX5_says 90 = .ok (.aload_n 3, 1) := by decide +kernel
theorem dX5_says_91 : decode cX5_says 91 = .ok (.iconst 1, 1) := by decide +kernel
theorem dX5_says_92 : decode cX5_says 92 = .ok (.iaload, 1) := by decide +kernel
theorem dX5_says_93 : decode cX5_says 93 = .ok (.if_icmp .lt 7, 3) := by decide +kernel
theorem dX5_says_96 : decode cX5_says 96 = .ok (.iconst 1, 1) := by decide +kernel
theorem dX5_says_97 : decode cX5_says 97 = .ok (.goto 4, 3) := by decide +kernel
theorem dX5_says_100 : decode cX5_says 100 = .ok (.iconst 0, 1) := by decide +kernel
theorem dX5_says_101 : decode cX5_says 101 = .ok (.ireturn, 1) := by decide +kernel
theorem dX5_says_102 : decode cX5_says 102 = .ok (.iload 4, 2) := by decide +kernel
theorem dX5_says_104 : decode cX5_says 104 = .ok (.aload_n 3, 1) := by decide +kernel
theorem dX5_says_105 : decode cX5_says 105 = .ok (.iconst 1, 1) := by decide +kernel
theorem dX5_says_106 : decode cX5_says 106 = .ok (.iaload, 1) := by decide +kernel
theorem dX5_says_107 : decode cX5_says 107 = .ok (.if_icmp .ge 7, 3) := by decide +kernel
theorem dX5_says_110 : decode cX5_says 110 = .ok (.iconst 1, 1) := by decide +kernel
theorem dX5_says_111 : decode cX5_says 111 = .ok (.goto 4, 3) := by decide +kernel
theorem dX5_says_114 : decode cX5_says 114 = .ok (.iconst 0, 1) := by decide +kernel
theorem dX5_says_115 : decode cX5_says 115 = .ok (.ireturn, 1) := by decide +kernel
theorem dX5_says_116 : decode cX5_says 116 = .ok (.iload 6, 2) := by decide +kernel
theorem dX5_says_118 : decode cX5_says 118 = .ok (.ireturn, 1) := by decide +kernel
theorem dX5_says_119 : decode cX5_says 119 = .ok (.iload_n 2, 1) := by decide +kernel
theorem dX5_says_120 : decode cX5_says 120 = .ok (.aload_n 3, 1) := by decide +kernel
theorem dX5_says_121 : decode cX5_says 121 = .ok (.iconst 1, 1) := by decide +kernel
theorem dX5_says_122 : decode cX5_says 122 = .ok (.iaload, 1) := by decide +kernel
theorem dX5_says_123 : decode cX5_says 123 = .ok (.isub, 1) := by decide +kernel
theorem dX5_says_124 : decode cX5_says 124 = .ok (.bipush 7, 2) := by decide +kernel
theorem dX5_says_126 : decode cX5_says 126 = .ok (.irem, 1) := by decide +kernel
theorem dX5_says_127 : decode cX5_says 127 = .ok (.ifCond .ne 7, 3) := by decide +kernel
theorem dX5_says_130 : decode cX5_says 130 = .ok (.iconst 1, 1) := by decide +kernel
theorem dX5_says_131 : decode cX5_says 131 = .ok (.goto 4, 3) := by decide +kernel
theorem dX5_says_134 : decode cX5_says 134 = .ok (.iconst 0, 1) := by decide +kernel
theorem dX5_says_135 : decode cX5_says 135 = .ok (.ireturn, 1) := by decide +kernel
theorem dX5_says_136 : decode cX5_says 136 = .ok (.iload 6, 2) := by decide +kernel
theorem dX5_says_138 : decode cX5_says 138 = .ok (.ifCond .ne 12, 3) := by decide +kernel
theorem dX5_says_141 : decode cX5_says 141 = .ok (.iload 5, 2) := by decide +kernel
theorem dX5_says_143 : decode cX5_says 143 = .ok (.ifCond .le 7, 3) := by decide +kernel
theorem dX5_says_146 : decode cX5_says 146 = .ok (.iconst 1, 1) := by decide +kernel
theorem dX5_says_147 : decode cX5_says 147 = .ok (.goto 4, 3) := by decide +kernel
theorem dX5_says_150 : decode cX5_says 150 = .ok (.iconst 0, 1) := by decide +kernel
theorem dX5_says_151 : decode cX5_says 151 = .ok (.ireturn, 1) := by decide +kernel
theorem dX5_says_152 : decode cX5_says 152 = .ok (.iconst 1, 1) := by decide +kernel
theorem dX5_says_153 : decode cX5_says 153 = .ok (.ireturn, 1) := by decide +kernel
set_option maxRecDepth 20000 in
theorem ggX5_lean_X5_says : GoodIn wsX5_lean wsX5_says := goodIn_r _ [8, 1, 9, 10, 11, 12, 13, 14, 15, 16] (by decide +kernel) (by decide +kernel)
set_option maxRecDepth 20000 in
theorem gX5_lean_X5_says : GoodIn wsX5_lean (wsV RX5 32 RX5 yX5_says wsX5_says) := goodIn_app (goodIn_of _ (by decide +kernel)) ggX5_lean_X5_says
theorem dX5_lean_0 : decode cX5_lean 0 = .ok (.iconst 0, 1) := by decide +kernel
theorem dX5_lean_1 : decode cX5_lean 1 = .ok (.istore_n 2, 1) := by decide +kernel
theorem dX5_lean_2 : decode cX5_lean 2 = .ok (.iconst 0, 1) := by decide +kernel
theorem dX5_lean_3 : decode cX5_lean 3 = .ok (.istore_n 3, 1) := by decide +kernel
theorem dX5_lean_4 : decode cX5_lean 4 = .ok (.iload_n 3, 1) := by decide +kernel
theorem dX5_lean_5 : decode cX5_lean 5 = .ok (.aload_n 0, 1) := by decide +kernel
theorem dX5_lean_6 : decode cX5_lean 6 = .ok (.getfield 18, 3) := by decide +kernel
theorem dX5_lean_9 : decode cX5_lean 9 = .ok (.arraylength, 1) := by decide +kernel
theorem dX5_lean_10 : decode cX5_lean 10 = .ok (.if_icmp .ge 38, 3) := by decide +kernel
theorem dX5_lean_13 : decode cX5_lean 13 = .ok (.iload_n 2, 1) := by decide +kernel
theorem dX5_lean_14 : decode cX5_lean 14 = .ok (.aload_n 0, 1) := by decide +kernel
theorem dX5_lean_15 : decode cX5_lean 15 = .ok (.iload_n 3, 1) := by decide +kernel
theorem dX5_lean_16 : decode cX5_lean 16 = .ok (.aload_n 0, 1) := by decide +kernel
theorem dX5_lean_17 : decode cX5_lean 17 = .ok (.getfield 28, 3) := by decide +kernel
theorem dX5_lean_20 : decode cX5_lean 20 = .ok (.invokevirtual 32, 3) := by decide +kernel
theorem dX5_lean_23 : decode cX5_lean 23 = .ok (.ifCond .eq 7, 3) := by decide +kernel
theorem dX5_lean_26 : decode cX5_lean 26 = .ok (.iconst 1, 1) := by decide +kernel
theorem dX5_lean_27 : decode cX5_lean 27 = .ok (.goto 4, 3) := by decide +kernel
theorem dX5_lean_30 : decode cX5_lean 30 = .ok (.iconst (-1), 1) := by decide +kernel
theorem dX5_lean_31 : decode cX5_lean 31 = .ok (.aload_n 0, 1) := by decide +kernel
theorem dX5_lean_32 : decode cX5_lean 32 = .ok (.getfield 25, 3) := by decide +kernel
theorem dX5_lean_35 : decode cX5_lean 35 = .ok (.iload_n 1, 1) := by decide +kernel
theorem dX5_lean_36 : decode cX5_lean 36 = .ok (.aaload, 1) := by decide +kernel
theorem dX5_lean_37 : decode cX5_lean 37 = .ok (.iload_n 3, 1) := by decide +kernel
theorem dX5_lean_38 : decode cX5_lean 38 = .ok (.iaload, 1) := by decide +kernel
theorem dX5_lean_39 : decode cX5_lean 39 = .ok (.imul, 1) := by decide +kernel
theorem dX5_lean_40 : decode cX5_lean 40 = .ok (.iadd, 1) := by decide +kernel
theorem dX5_lean_41 : decode cX5_lean 41 = .ok (.istore_n 2, 1) := by decide +kernel
theorem dX5_lean_42 : decode cX5_lean 42 = .ok (.iinc 3 1, 3) := by decide +kernel
theorem dX5_lean_45 : decode cX5_lean 45 = .ok (.goto (-41), 3) := by decide +kernel
theorem dX5_lean_48 : decode cX5_lean 48 = .ok (.iload_n 2, 1) := by decide +kernel
theorem dX5_lean_49 : decode cX5_lean 49 = .ok (.ireturn, 1) := by decide +kernel
set_option maxRecDepth 20000 in
theorem ggX5_pass_X5_lean : GoodIn wsX5_pass wsX5_lean := goodIn_r _ [10, 5, 2, 4, 11, 12, 13, 9, 14, 15, 1, 16, 17, 18, 19, 20, 21] (by decide +kernel) (by decide +kernel)
set_option maxRecDepth 20000 in
theorem gX5_pass_X5_lean : GoodIn wsX5_pass (wsV RX5 36 RX5 yX5_lean wsX5_lean) := goodIn_app (goodIn_of _ (by decide +kernel)) ggX5_pass_X5_lean
set_option maxRecDepth 20000 in
theorem ggX5_pass_X5_says : GoodIn wsX5_pass wsX5_says := goodIn_r _ [14, 5, 15, 1, 16, 17, 18, 19, 20, 21] (by decide +kernel) (by decide +kernel)
set_option maxRecDepth 20000 in
theorem gX5_pass_X5_says : GoodIn wsX5_pass (wsV RX5 32 RX5 yX5_says wsX5_says) := goodIn_app (goodIn_of _ (by decide +kernel)) ggX5_pass_X5_says
theorem dX5_pass_0 : decode cX5_pass 0 = .ok (.aload_n 0, 1) := by decide +kernel
theorem dX5_pass_1 : decode cX5_pass 1 = .ok (.getfield 13, 3) := by decide +kernel
theorem dX5_pass_4 : decode cX5_pass 4 = .ok (.aload_n 0, 1) := by decide +kernel
theorem dX5_pass_5 : decode cX5_pass 5 = .ok (.getfield 28, 3) := by decide +kernel
theorem dX5_pass_8 : decode cX5_pass 8 = .ok (.bipush 12, 2) := by decide +kernel
theorem dX5_pass_10 : decode cX5_pass 10 = .ok (.irem, 1) := by decide +kernel
theorem dX5_pass_11 : decode cX5_pass 11 = .ok (.baload, 1) := by decide +kernel
theorem dX5_pass_12 : decode cX5_pass 12 = .ok (.istore_n 1, 1) := by decide +kernel
theorem dX5_pass_13 : decode cX5_pass 13 = .ok (.iconst 0, 1) := by decide +kernel
theorem dX5_pass_14 : decode cX5_pass 14 = .ok (.istore_n 2, 1) := by decide +kernel
theorem dX5_pass_15 : decode cX5_pass 15 = .ok (.iconst 0, 1) := by decide +kernel
theorem dX5_pass_16 : decode cX5_pass 16 = .ok (.istore_n 3, 1) := by decide +kernel
theorem dX5_pass_17 : decode cX5_pass 17 = .ok (.iload_n 3, 1) := by decide +kernel
theorem dX5_pass_18 : decode cX5_pass 18 = .ok (.aload_n 0, 1) := by decide +kernel
theorem dX5_pass_19 : decode cX5_pass 19 = .ok (.getfield 22, 3) := by decide +kernel
theorem dX5_pass_22 : decode cX5_pass 22 = .ok (.arraylength, 1) := by decide +kernel
theorem dX5_pass_23 : decode cX5_pass 23 = .ok (.if_icmp .ge 63, 3) := by decide +kernel
theorem dX5_pass_26 : decode cX5_pass 26 = .ok (.aload_n 0, 1) := by decide +kernel
theorem dX5_pass_27 : decode cX5_pass 27 = .ok (.getfield 22, 3) := by decide +kernel
theorem dX5_pass_30 : decode cX5_pass 30 = .ok (.iload_n 3, 1) := by decide +kernel
theorem dX5_pass_31 : decode cX5_pass 31 = .ok (.aaload, 1) := by decide +kernel
theorem dX5_pass_32 : decode cX5_pass 32 = .ok (.astore 4, 2) := by decide +kernel
theorem dX5_pass_34 : decode cX5_pass 34 = .ok (.aload_n 0, 1) := by decide +kernel
theorem dX5_pass_35 : decode cX5_pass 35 = .ok (.iload_n 3, 1) := by decide +kernel
theorem dX5_pass_36 : decode cX5_pass 36 = .ok (.invokevirtual 36, 3) := by decide +kernel
theorem dX5_pass_39 : decode cX5_pass 39 = .ok (.ifCond .le 10, 3) := by decide +kernel
theorem dX5_pass_42 : decode cX5_pass 42 = .ok (.iload_n 1, 1) := by decide +kernel
theorem dX5_pass_43 : decode cX5_pass 43 = .ok (.ifCond .eq 32, 3) := by decide +kernel
theorem dX5_pass_46 : decode cX5_pass 46 = .ok (.goto 7, 3) := by decide +kernel
theorem dX5_pass_49 : decode cX5_pass 49 = .ok (.iload_n 1, 1) := by decide +kernel
theorem dX5_pass_50 : decode cX5_pass 50 = .ok (.ifCond .ne 25, 3) := by decide +kernel
theorem dX5_pass_53 : decode cX5_pass 53 = .ok (.aload 4, 2) := by decide +kernel
theorem dX5_pass_55 : decode cX5_pass 55 = .ok (.iconst 0, 1) := by decide +kernel
theorem dX5_pass_56 : decode cX5_pass 56 = .ok (.dup2, 1) := by decide +kernel
theorem dX5_pass_57 : decode cX5_pass 57 = .ok (.iaload, 1) := by decide +kernel
theorem dX5_pass_58 : decode cX5_pass 58 = .ok (.iconst 1, 1) := by decide +kernel
theorem dX5_pass_59 : decode cX5_pass 59 = .ok (.iadd, 1) := by decide +kernel
theorem dX5_pass_60 : decode cX5_pass 60 = .ok (.iastore, 1) := by decide +kernel
theorem dX5_pass_61 : decode cX5_pass 61 = .ok (.aload 4, 2) := by decide +kernel
theorem dX5_pass_63 : decode cX5_pass 63 = .ok (.iconst 2, 1) := by decide +kernel
theorem dX5_pass_64 : decode cX5_pass 64 = .ok (.dup2, 1) := by decide +kernel
theorem dX5_pass_65 : decode cX5_pass 65 = .ok (.iaload, 1) := by decide +kernel
theorem dX5_pass_66 : decode cX5_pass 66 = .ok (.iconst 1, 1) := by decide +kernel
theorem dX5_pass_67 : decode cX5_pass 67 = .ok (.iadd, 1) := by decide +kernel
theorem dX5_pass_68 : decode cX5_pass 68 = .ok (.iastore, 1) := by decide +kernel
theorem dX5_pass_69 : decode cX5_pass 69 = .ok (.iinc 2 1, 3) := by decide +kernel
theorem dX5_pass_72 : decode cX5_pass 72 = .ok (.goto 8, 3) := by decide +kernel
theorem dX5_pass_75 : decode cX5_pass 75 = .ok (.aload 4, 2) := by decide +kernel
theorem dX5_pass_77 : decode cX5_pass 77 = .ok (.iconst 2, 1) := by decide +kernel
theorem dX5_pass_78 : decode cX5_pass 78 = .ok (.iconst 0, 1) := by decide +kernel
theorem dX5_pass_79 : decode cX5_pass 79 = .ok (.iastore, 1) := by decide +kernel
theorem dX5_pass_80 : decode cX5_pass 80 = .ok (.iinc 3 1, 3) := by decide +kernel
theorem dX5_pass_83 : decode cX5_pass 83 = .ok (.goto (-66), 3) := by decide +kernel
theorem dX5_pass_86 : decode cX5_pass 86 = .ok (.aload_n 0, 1) := by decide +kernel
theorem dX5_pass_87 : decode cX5_pass 87 = .ok (.getfield 25, 3) := by decide +kernel
theorem dX5_pass_90 : decode cX5_pass 90 = .ok (.astore_n 3, 1) := by decide +kernel
theorem dX5_pass_91 : decode cX5_pass 91 = .ok (.aload_n 3, 1) := by decide +kernel
theorem dX5_pass_92 : decode cX5_pass 92 = .ok (.arraylength, 1) := by decide +kernel
theorem dX5_pass_93 : decode cX5_pass 93 = .ok (.istore 4, 2) := by decide +kernel
theorem dX5_pass_95 : decode cX5_pass 95 = .ok (.iconst 0, 1) := by decide +kernel
theorem dX5_pass_96 : decode cX5_pass 96 = .ok (.istore 5, 2) := by decide +kernel
theorem dX5_pass_98 : decode cX5_pass 98 = .ok (.iload 5, 2) := by decide +kernel
theorem dX5_pass_100 : decode cX5_pass 100 = .ok (.iload 4, 2) := by decide +kernel
theorem dX5_pass_102 : decode cX5_pass 102 = .ok (.if_icmp .ge 92, 3) := by decide +kernel
theorem dX5_pass_105 : decode cX5_pass 105 = .ok (.aload_n 3, 1) := by decide +kernel
theorem dX5_pass_106 : decode cX5_pass 106 = .ok (.iload 5, 2) := by decide +kernel
theorem dX5_pass_108 : decode cX5_pass 108 = .ok (.aaload, 1) := by decide +kernel
theorem dX5_pass_109 : decode cX5_pass 109 = .ok (.astore 6, 2) := by decide +kernel
theorem dX5_pass_111 : decode cX5_pass 111 = .ok (.iconst 0, 1) := by decide +kernel
theorem dX5_pass_112 : decode cX5_pass 112 = .ok (.istore 7, 2) := by decide +kernel
theorem dX5_pass_114 : decode cX5_pass 114 = .ok (.iload 7, 2) := by decide +kernel
theorem dX5_pass_116 : decode cX5_pass 116 = .ok (.aload_n 0, 1) := by decide +kernel
theorem dX5_pass_117 : decode cX5_pass 117 = .ok (.getfield 18, 3) := by decide +kernel
theorem dX5_pass_120 : decode cX5_pass 120 = .ok (.arraylength, 1) := by decide +kernel
theorem dX5_pass_121 : decode cX5_pass 121 = .ok (.if_icmp .ge 67, 3) := by decide +kernel
theorem dX5_pass_124 : decode cX5_pass 124 = .ok (.aload_n 0, 1) := by decide +kernel
theorem dX5_pass_125 : decode cX5_pass 125 = .ok (.iload 7, 2) := by decide +kernel
theorem dX5_pass_127 : decode cX5_pass 127 = .ok (.aload_n 0, 1) := by decide +kernel
theorem dX5_pass_128 : decode cX5_pass 128 = .ok (.getfield 28, 3) := by decide +kernel
theorem dX5_pass_131 : decode cX5_pass 131 = .ok (.invokevirtual 32, 3) := by decide +kernel
theorem dX5_pass_134 : decode cX5_pass 134 = .ok (.iload_n 1, 1) := by decide +kernel
theorem dX5_pass_135 : decode cX5_pass 135 = .ok (.if_icmp .ne 33, 3) := by decide +kernel
theorem dX5_pass_138 : decode cX5_pass 138 = .ok (.aload 6, 2) := by decide +kernel
theorem dX5_pass_140 : decode cX5_pass 140 = .ok (.iload 7, 2) := by decide +kernel
theorem dX5_pass_142 : decode cX5_pass 142 = .ok (.aload 6, 2) := by decide +kernel
theorem dX5_pass_144 : decode cX5_pass 144 = .ok (.iload 7, 2) := by decide +kernel
theorem dX5_pass_146 : decode cX5_pass 146 = .ok (.iaload, 1) := by decide +kernel
theorem dX5_pass_147 : decode cX5_pass 147 = .ok (.bipush 100, 2) := by decide +kernel
theorem dX5_pass_149 : decode cX5_pass 149 = .ok (.if_icmp .ne 8, 3) := by decide +kernel
theorem dX5_pass_152 : decode cX5_pass 152 = .ok (.bipush 100, 2) := by decide +kernel
theorem dX5_pass_154 : decode cX5_pass 154 = .ok (.goto 10, 3) := by decide +kernel
theorem dX5_pass_157 : decode cX5_pass 157 = .ok (.aload 6, 2) := by decide +kernel
theorem dX5_pass_159 : decode cX5_pass 159 = .ok (.iload 7, 2) := by decide +kernel
theorem dX5_pass_161 : decode cX5_pass 161 = .ok (.iaload, 1) := by decide +kernel
theorem dX5_pass_162 : decode cX5_pass 162 = .ok (.iconst 1, 1) := by decide +kernel
theorem dX5_pass_163 : decode cX5_pass 163 = .ok (.iadd, 1) := by decide +kernel
theorem dX5_pass_164 : decode cX5_pass 164 = .ok (.iastore, 1) := by decide +kernel
theorem dX5_pass_165 : decode cX5_pass 165 = .ok (.goto 17, 3) := by decide +kernel
theorem dX5_pass_168 : decode cX5_pass 168 = .ok (.aload 6, 2) := by decide +kernel
theorem dX5_pass_170 : decode cX5_pass 170 = .ok (.iload 7, 2) := by decide +kernel
theorem dX5_pass_172 : decode cX5_pass 172 = .ok (.iconst 3, 1) := by decide +kernel
theorem dX5_pass_173 : decode cX5_pass 173 = .ok (.aload 6, 2) := by decide +kernel
theorem dX5_pass_175 : decode cX5_pass 175 = .ok (.iload 7, 2) := by decide +kernel
theorem dX5_pass_177 : decode cX5_pass 177 = .ok (.iaload, 1) := by decide +kernel
theorem dX5_pass_178 : decode cX5_pass 178 = .ok (.imul, 1) := by decide +kernel
theorem dX5_pass_179 : decode cX5_pass 179 = .ok (.iconst 4, 1) := by decide +kernel
theorem dX5_pass_180 : decode cX5_pass 180 = .ok (.idiv, 1) := by decide +kernel
theorem dX5_pass_181 : decode cX5_pass 181 = .ok (.iastore, 1) := by decide +kernel
theorem dX5_pass_182 : decode cX5_pass 182 = .ok (.iinc 7 1, 3) := by decide +kernel
theorem dX5_pass_185 : decode cX5_pass 185 = .ok (.goto (-71), 3) := by decide +kernel
theorem dX5_pass_188 : decode cX5_pass 188 = .ok (.iinc 5 1, 3) := by decide +kernel
theorem dX5_pass_191 : decode cX5_pass 191 = .ok (.goto (-93), 3) := by decide +kernel
theorem dX5_pass_194 : decode cX5_pass 194 = .ok (.aload_n 0, 1) := by decide +kernel
theorem dX5_pass_195 : decode cX5_pass 195 = .ok (.getfield 22, 3) := by decide +kernel
theorem dX5_pass_198 : decode cX5_pass 198 = .ok (.astore_n 3, 1) := by decide +kernel
theorem dX5_pass_199 : decode cX5_pass 199 = .ok (.aload_n 3, 1) := by decide +kernel
theorem dX5_pass_200 : decode cX5_pass 200 = .ok (.arraylength, 1) := by decide +kernel
theorem dX5_pass_201 : decode cX5_pass 201 = .ok (.istore 4, 2) := by decide +kernel
theorem dX5_pass_203 : decode cX5_pass 203 = .ok (.iconst 0, 1) := by decide +kernel
theorem dX5_pass_204 : decode cX5_pass 204 = .ok (.istore 5, 2) := by decide +kernel
theorem dX5_pass_206 : decode cX5_pass 206 = .ok (.iload 5, 2) := by decide +kernel
theorem dX5_pass_208 : decode cX5_pass 208 = .ok (.iload 4, 2) := by decide +kernel
theorem dX5_pass_210 : decode cX5_pass 210 = .ok (.if_icmp .ge 67, 3) := by decide +kernel
theorem dX5_pass_213 : decode cX5_pass 213 = .ok (.aload_n 3, 1) := by decide +kernel
theorem dX5_pass_214 : decode cX5_pass 214 = .ok (.iload 5, 2) := by decide +kernel
theorem dX5_pass_216 : decode cX5_pass 216 = .ok (.aaload, 1) := by decide +kernel
theorem dX5_pass_217 : decode cX5_pass 217 = .ok (.astore 6, 2) := by decide +kernel
theorem dX5_pass_219 : decode cX5_pass 219 = .ok (.aload 6, 2) := by decide +kernel
theorem dX5_pass_221 : decode cX5_pass 221 = .ok (.iconst 2, 1) := by decide +kernel
theorem dX5_pass_222 : decode cX5_pass 222 = .ok (.iaload, 1) := by decide +kernel
theorem dX5_pass_223 : decode cX5_pass 223 = .ok (.ifCond .ne 25, 3) := by decide +kernel
theorem dX5_pass_226 : decode cX5_pass 226 = .ok (.aload 6, 2) := by decide +kernel
theorem dX5_pass_228 : decode cX5_pass 228 = .ok (.iconst 1, 1) := by decide +kernel
theorem dX5_pass_229 : decode cX5_pass 229 = .ok (.dup2, 1) := by decide +kernel
theorem dX5_pass_230 : decode cX5_pass 230 = .ok (.iaload, 1) := by decide +kernel
theorem dX5_pass_231 : decode cX5_pass 231 = .ok (.aload 6, 2) := by decide +kernel
theorem dX5_pass_233 : decode cX5_pass 233 = .ok (.iconst 1, 1) := by decide +kernel
theorem dX5_pass_234 : decode cX5_pass 234 = .ok (.iaload, 1) := by decide +kernel
theorem dX5_pass_235 : decode cX5_pass 235 = .ok (.ifCond .le 7, 3) := by decide +kernel
theorem dX5_pass_238 : decode cX5_pass 238 = .ok (.iconst 1, 1) := by decide +kernel
theorem dX5_pass_239 : decode cX5_pass 239 = .ok (.goto 4, 3) := by decide +kernel
theorem dX5_pass_242 : decode cX5_pass 242 = .ok (.iconst 0, 1) := by decide +kernel
theorem dX5_pass_243 : decode cX5_pass 243 = .ok (.isub, 1) := by decide +kernel
theorem dX5_pass_244 : decode cX5_pass 244 = .ok (.iastore, 1) := by decide +kernel
theorem dX5_pass_245 : decode cX5_pass 245 = .ok (.goto 26, 3) := by decide +kernel
theorem dX5_pass_248 : decode cX5_pass 248 = .ok (.aload 6, 2) := by decide +kernel
theorem dX5_pass_250 : decode cX5_pass 250 = .ok (.iconst 1, 1) := by decide +kernel
theorem dX5_pass_251 : decode cX5_pass 251 = .ok (.dup2, 1) := by decide +kernel
theorem dX5_pass_252 : decode cX5_pass 252 = .ok (.iaload, 1) := by decide +kernel
theorem dX5_pass_253 : decode cX5_pass 253 = .ok (.aload 6, 2) := by decide +kernel
theorem dX5_pass_255 : decode cX5_pass 255 = .ok (.iconst 2, 1) := by decide +kernel
theorem dX5_pass_256 : decode cX5_pass 256 = .ok (.iaload, 1) := by decide +kernel
theorem dX5_pass_257 : decode cX5_pass 257 = .ok (.iconst 5, 1) := by decide +kernel
theorem dX5_pass_258 : decode cX5_pass 258 = .ok (.if_icmp .le 7, 3) := by decide +kernel
theorem dX5_pass_261 : decode cX5_pass 261 = .ok (.iconst 5, 1) := by decide +kernel
theorem dX5_pass_262 : decode cX5_pass 262 = .ok (.goto 7, 3) := by decide +kernel
theorem dX5_pass_265 : decode cX5_pass 265 = .ok (.aload 6, 2) := by decide +kernel
theorem dX5_pass_267 : decode cX5_pass 267 = .ok (.iconst 2, 1) := by decide +kernel
theorem dX5_pass_268 : decode cX5_pass 268 = .ok (.iaload, 1) := by decide +kernel
theorem dX5_pass_269 : decode cX5_pass 269 = .ok (.iadd, 1) := by decide +kernel
theorem dX5_pass_270 : decode cX5_pass 270 = .ok (.iastore, 1) := by decide +kernel
theorem dX5_pass_271 : decode cX5_pass 271 = .ok (.iinc 5 1, 3) := by decide +kernel
theorem dX5_pass_274 : decode cX5_pass 274 = .ok (.goto (-68), 3) := by decide +kernel
theorem dX5_pass_277 : decode cX5_pass 277 = .ok (.aload_n 0, 1) := by decide +kernel
theorem dX5_pass_278 : decode cX5_pass 278 = .ok (.dup, 1) := by decide +kernel
theorem dX5_pass_279 : decode cX5_pass 279 = .ok (.getfield 28, 3) := by decide +kernel
theorem dX5_pass_282 : decode cX5_pass 282 = .ok (.iconst 1, 1) := by decide +kernel
theorem dX5_pass_283 : decode cX5_pass 283 = .ok (.iadd, 1) := by decide +kernel
theorem dX5_pass_284 : decode cX5_pass 284 = .ok (.putfield 28, 3) := by decide +kernel
theorem dX5_pass_287 : decode cX5_pass 287 = .ok (.iload_n 2, 1) := by decide +kernel
theorem dX5_pass_288 : decode cX5_pass 288 = .ok (.ireturn, 1) := by decide +kernel
set_option maxRecDepth 20000 in
theorem ggX5_pass__X5_pass : GoodIn wsX5_pass_ wsX5_pass := goodIn_r _ [5, 6, 7, 8, 9, 10, 11, 12, 13, 4, 14, 15, 16, 17, 18, 19, 20, 21, 22, 23, 24, 25] (by decide +kernel) (by decide +kernel)
set_option maxRecDepth 20000 in
theorem gX5_pass__X5_pass : GoodIn wsX5_pass_ (wsV RX5 40 RX5 yX5_pass wsX5_pass) := goodIn_app (goodIn_of _ (by decide +kernel)) ggX5_pass__X5_pass
theorem dX5_pass__0 : decode cX5_pass_ 0 = .ok (.iconst 0, 1) := by decide +kernel
theorem dX5_pass__1 : decode cX5_pass_ 1 = .ok (.istore_n 2, 1) := by decide +kernel
theorem dX5_pass__2 : decode cX5_pass_ 2 = .ok (.iconst 0, 1) := by decide +kernel
theorem dX5_pass__3 : decode cX5_pass_ 3 = .ok (.istore_n 3, 1) := by decide +kernel
theorem dX5_pass__4 : decode cX5_pass_ 4 = .ok (.iload_n 3, 1) := by decide +kernel
theorem dX5_pass__5 : decode cX5_pass_ 5 = .ok (.iload_n 1, 1) := by decide +kernel
theorem dX5_pass__6 : decode cX5_pass_ 6 = .ok (.if_icmp .ge 16, 3) := by decide +kernel
theorem dX5_pass__9 : decode cX5_pass_ 9 = .ok (.iload_n 2, 1) := by decide +kernel
theorem dX5_pass__10 : decode cX5_pass_ 10 = .ok (.aload_n 0, 1) := by decide +kernel
theorem dX5_pass__11 : decode cX5_pass_ 11 = .ok (.invokevirtual 40, 3) := by decide +kernel
theorem dX5_pass__14 : decode cX5_pass_ 14 = .ok (.iadd, 1) := by decide +kernel
theorem dX5_pass__15 : decode cX5_pass_ 15 = .ok (.istore_n 2, 1) := by decide +kernel
theorem dX5_pass__16 : decode cX5_pass_ 16 = .ok (.iinc 3 1, 3) := by decide +kernel
theorem dX5_pass__19 : decode cX5_pass_ 19 = .ok (.goto (-15), 3) := by decide +kernel
theorem dX5_pass__22 : decode cX5_pass_ 22 = .ok (.iload_n 2, 1) := by decide +kernel
theorem dX5_pass__23 : decode cX5_pass_ 23 = .ok (.ireturn, 1) := by decide +kernel
theorem dX5_isAhead_0 : decode cX5_isAhead 0 = .ok (.aload_n 0, 1) := by decide +kernel
theorem dX5_isAhead_1 : decode cX5_isAhead 1 = .ok (.getfield 22, 3) := by decide +kernel
theorem dX5_isAhead_4 : decode cX5_isAhead 4 = .ok (.iload_n 1, 1) := by decide +kernel
theorem dX5_isAhead_5 : decode cX5_isAhead 5 = .ok (.aaload, 1) := by decide +kernel
theorem dX5_isAhead_6 : decode cX5_isAhead 6 = .ok (.astore_n 3, 1) := by decide +kernel
theorem dX5_isAhead_7 : decode cX5_isAhead 7 = .ok (.aload_n 0, 1) := by decide +kernel
theorem dX5_isAhead_8 : decode cX5_isAhead 8 = .ok (.getfield 22, 3) := by decide +kernel
theorem dX5_isAhead_11 : decode cX5_isAhead 11 = .ok (.iload_n 2, 1) := by decide +kernel
theorem dX5_isAhead_12 : decode cX5_isAhead 12 = .ok (.aaload, 1) := by decide +kernel
theorem dX5_isAhead_13 : decode cX5_isAhead 13 = .ok (.astore 4, 2) := by decide +kernel
theorem dX5_isAhead_15 : decode cX5_isAhead 15 = .ok (.aload_n 3, 1) := by decide +kernel
theorem dX5_isAhead_16 : decode cX5_isAhead 16 = .ok (.iconst 0, 1) := by decide +kernel
theorem dX5_isAhead_17 : decode cX5_isAhead 17 = .ok (.iaload, 1) := by decide +kernel
theorem dX5_isAhead_18 : decode cX5_isAhead 18 = .ok (.aload 4, 2) := by decide +kernel
theorem dX5_isAhead_20 : decode cX5_isAhead 20 = .ok (.iconst 0, 1) := by decide +kernel
theorem dX5_isAhead_21 : decode cX5_isAhead 21 = .ok (.iaload, 1) := by decide +kernel
theorem dX5_isAhead_22 : decode cX5_isAhead 22 = .ok (.if_icmp .gt 38, 3) := by decide +kernel
theorem dX5_isAhead_25 : decode cX5_isAhead 25 = .ok (.aload_n 3, 1) := by decide +kernel
theorem dX5_isAhead_26 : decode cX5_isAhead 26 = .ok (.iconst 0, 1) := by decide +kernel
theorem dX5_isAhead_27 : decode cX5_isAhead 27 = .ok (.iaload, 1) := by decide +kernel
theorem dX5_isAhead_28 : decode cX5_isAhead 28 = .ok (.aload 4, 2) := by decide +kernel
theorem dX5_isAhead_30 : decode cX5_isAhead 30 = .ok (.iconst 0, 1) := by decide +kernel
theorem dX5_isAhead_31 : decode cX5_isAhead 31 = .ok (.iaload, 1) := by decide +kernel
theorem dX5_isAhead_32 : decode cX5_isAhead 32 = .ok (.if_icmp .ne 32, 3) := by decide +kernel
theorem dX5_isAhead_35 : decode cX5_isAhead 35 = .ok (.aload_n 3, 1) := by decide +kernel
theorem dX5_isAhead_36 : decode cX5_isAhead 36 = .ok (.iconst 1, 1) := by decide +kernel
theorem dX5_isAhead_37 : decode cX5_isAhead 37 = .ok (.iaload, 1) := by decide +kernel
theorem dX5_isAhead_38 : decode cX5_isAhead 38 = .ok (.aload 4, 2) := by decide +kernel
theorem dX5_isAhead_40 : decode cX5_isAhead 40 = .ok (.iconst 1, 1) := by decide +kernel
theorem dX5_isAhead_41 : decode cX5_isAhead 41 = .ok (.iaload, 1) := by decide +kernel
theorem dX5_isAhead_42 : decode cX5_isAhead 42 = .ok (.if_icmp .gt 18, 3) := by decide +kernel
theorem dX5_isAhead_45 : decode cX5_isAhead 45 = .ok (.aload_n 3, 1) := by decide +kernel
theorem dX5_isAhead_46 : decode cX5_isAhead 46 = .ok (.iconst 1, 1) := by decide +kernel
theorem dX5_isAhead_47 : decode cX5_isAhead 47 = .ok (.iaload, 1) := by decide +kernel
theorem dX5_isAhead_48 : decode cX5_isAhead 48 = .ok (.aload 4, 2) := by decide +kernel
theorem dX5_isAhead_50 : decode cX5_isAhead 50 = .ok (.iconst 1, 1) := by decide +kernel
theorem dX5_isAhead_51 : decode cX5_isAhead 51 = .ok (.iaload, 1) := by decide +kernel
theorem dX5_isAhead_52 : decode cX5_isAhead 52 = .ok (.if_icmp .ne 12, 3) := by decide +kernel
theorem dX5_isAhead_55 : decode cX5_isAhead 55 = .ok (.iload_n 1, 1) := by decide +kernel
theorem dX5_isAhead_56 : decode cX5_isAhead 56 = .ok (.iload_n 2, 1) := by decide +kernel
theorem dX5_isAhead_57 : decode cX5_isAhead 57 = .ok (.if_icmp .ge 7, 3) := by decide +kernel
theorem dX5_isAhead_60 : decode cX5_isAhead 60 = .ok (.iconst 1, 1) := by decide +kernel
theorem dX5_isAhead_61 : decode cX5_isAhead 61 = .ok (.goto 4, 3) := by decide +kernel
theorem dX5_isAhead_64 : decode cX5_isAhead 64 = .ok (.iconst 0, 1) := by decide +kernel
theorem dX5_isAhead_65 : decode cX5_isAhead 65 = .ok (.ireturn, 1) := by decide +kernel
set_option maxRecDepth 20000 in
theorem ggX5_place_X5_isAhead : GoodIn wsX5_place wsX5_isAhead := goodIn_r _ [6, 1, 7, 8, 9, 10, 11, 12] (by decide +kernel) (by decide +kernel)
set_option maxRecDepth 20000 in
theorem gX5_place_X5_isAhead : GoodIn wsX5_place (wsV RX5 55 RX5 yX5_isAhead wsX5_isAhead) := goodIn_app (goodIn_of _ (by decide +kernel)) ggX5_place_X5_isAhead
theorem dX5_place_0 : decode cX5_place 0 = .ok (.iconst 1, 1) := by decide +kernel
theorem dX5_place_1 : decode cX5_place 1 = .ok (.istore_n 2, 1) := by decide +kernel
theorem dX5_place_2 : decode cX5_place 2 = .ok (.iconst 0, 1) := by decide +kernel
theorem dX5_place_3 : decode cX5_place 3 = .ok (.istore_n 3, 1) := by decide +kernel
theorem dX5_place_4 : decode cX5_place 4 = .ok (.iload_n 3, 1) := by decide +kernel
theorem dX5_place_5 : decode cX5_place 5 = .ok (.aload_n 0, 1) := by decide +kernel
theorem dX5_place_6 : decode cX5_place 6 = .ok (.getfield 22, 3) := by decide +kernel
theorem dX5_place_9 : decode cX5_place 9 = .ok (.arraylength, 1) := by decide +kernel
theorem dX5_place_10 : decode cX5_place 10 = .ok (.if_icmp .ge 26, 3) := by decide +kernel
theorem dX5_place_13 : decode cX5_place 13 = .ok (.iload_n 2, 1) := by decide +kernel
theorem dX5_place_14 : decode cX5_place 14 = .ok (.aload_n 0, 1) := by decide +kernel
theorem dX5_place_15 : decode cX5_place 15 = .ok (.iload_n 3, 1) := by decide +kernel
theorem dX5_place_16 : decode cX5_place 16 = .ok (.iload_n 1, 1) := by decide +kernel
theorem dX5_place_17 : decode cX5_place 17 = .ok (.invokevirtual 55, 3) := by decide +kernel
theorem dX5_place_20 : decode cX5_place 20 = .ok (.ifCond .eq 7, 3) := by decide +kernel
theorem dX5_place_23 : decode cX5_place 23 = .ok (.iconst 1, 1) := by decide +kernel
theorem dX5_place_24 : decode cX5_place 24 = .ok (.goto 4, 3) := by decide +kernel
theorem dX5_place_27 : decode cX5_place 27 = .ok (.iconst 0, 1) := by decide +kernel
theorem dX5_place_28 : decode cX5_place 28 = .ok (.iadd, 1) := by decide +kernel
theorem dX5_place_29 : decode cX5_place 29 = .ok (.istore_n 2, 1) := by decide +kernel
theorem dX5_place_30 : decode cX5_place 30 = .ok (.iinc 3 1, 3) := by decide +kernel
theorem dX5_place_33 : decode cX5_place 33 = .ok (.goto (-29), 3) := by decide +kernel
theorem dX5_place_36 : decode cX5_place 36 = .ok (.iload_n 2, 1) := by decide +kernel
theorem dX5_place_37 : decode cX5_place 37 = .ok (.ireturn, 1) := by decide +kernel
set_option maxRecDepth 20000 in
theorem ggX5_right_X5_says : GoodIn wsX5_right wsX5_says := goodIn_r _ [6, 7, 8, 1, 9, 10, 11, 12, 13, 14] (by decide +kernel) (by decide +kernel)
set_option maxRecDepth 20000 in
theorem gX5_right_X5_says : GoodIn wsX5_right (wsV RX5 32 RX5 yX5_says wsX5_says) := goodIn_app (goodIn_of _ (by decide +kernel)) ggX5_right_X5_says
theorem dX5_right_0 : decode cX5_right 0 = .ok (.iconst 0, 1) := by decide +kernel
theorem dX5_right_1 : decode cX5_right 1 = .ok (.istore_n 2, 1) := by decide +kernel
theorem dX5_right_2 : decode cX5_right 2 = .ok (.iconst 0, 1) := by decide +kernel
theorem dX5_right_3 : decode cX5_right 3 = .ok (.istore_n 3, 1) := by decide +kernel
theorem dX5_right_4 : decode cX5_right 4 = .ok (.iload_n 3, 1) := by decide +kernel
theorem dX5_right_5 : decode cX5_right 5 = .ok (.bipush 12, 2) := by decide +kernel
theorem dX5_right_7 : decode cX5_right 7 = .ok (.if_icmp .ge 32, 3) := by decide +kernel
theorem dX5_right_10 : decode cX5_right 10 = .ok (.iload_n 2, 1) := by decide +kernel
theorem dX5_right_11 : decode cX5_right 11 = .ok (.aload_n 0, 1) := by decide +kernel
theorem dX5_right_12 : decode cX5_right 12 = .ok (.iload_n 1, 1) := by decide +kernel
theorem dX5_right_13 : decode cX5_right 13 = .ok (.iload_n 3, 1) := by decide +kernel
theorem dX5_right_14 : decode cX5_right 14 = .ok (.invokevirtual 32, 3) := by decide +kernel
theorem dX5_right_17 : decode cX5_right 17 = .ok (.aload_n 0, 1) := by decide +kernel
theorem dX5_right_18 : decode cX5_right 18 = .ok (.getfield 13, 3) := by decide +kernel
theorem dX5_right_21 : decode cX5_right 21 = .ok (.iload_n 3, 1) := by decide +kernel
theorem dX5_right_22 : decode cX5_right 22 = .ok (.baload, 1) := by decide +kernel
theorem dX5_right_23 : decode cX5_right 23 = .ok (.if_icmp .ne 7, 3) := by decide +kernel
theorem dX5_right_26 : decode cX5_right 26 = .ok (.iconst 1, 1) := by decide +kernel
theorem dX5_right_27 : decode cX5_right 27 = .ok (.goto 4, 3) := by decide +kernel
theorem dX5_right_30 : decode cX5_right 30 = .ok (.iconst 0, 1) := by decide +kernel
theorem dX5_right_31 : decode cX5_right 31 = .ok (.iadd, 1) := by decide +kernel
theorem dX5_right_32 : decode cX5_right 32 = .ok (.istore_n 2, 1) := by decide +kernel
theorem dX5_right_33 : decode cX5_right 33 = .ok (.iinc 3 1, 3) := by decide +kernel
theorem dX5_right_36 : decode cX5_right 36 = .ok (.goto (-32), 3) := by decide +kernel
theorem dX5_right_39 : decode cX5_right 39 = .ok (.iload_n 2, 1) := by decide +kernel
theorem dX5_right_40 : decode cX5_right 40 = .ok (.ireturn, 1) := by decide +kernel
set_option maxRecDepth 20000 in
theorem ggX5_counts_X5_lean : GoodIn wsX5_counts wsX5_lean := goodIn_r _ [10, 3, 2, 11, 12, 13, 14, 9, 15, 16, 5, 17, 18, 19, 20, 21, 22] (by decide +kernel) (by decide +kernel)
set_option maxRecDepth 20000 in
theorem gX5_counts_X5_lean : GoodIn wsX5_counts (wsV RX5 36 RX5 yX5_lean wsX5_lean) := goodIn_app (goodIn_of _ (by decide +kernel)) ggX5_counts_X5_lean
theorem dX5_counts_0 : decode cX5_counts 0 = .ok (.bipush 7, 2) := by decide +kernel
theorem dX5_counts_2 : decode cX5_counts 2 = .ok (.newarray .int, 2) := by decide +kernel
theorem dX5_counts_4 : decode cX5_counts 4 = .ok (.dup, 1) := by decide +kernel
theorem dX5_counts_5 : decode cX5_counts 5 = .ok (.iconst 0, 1) := by decide +kernel
theorem dX5_counts_6 : decode cX5_counts 6 = .ok (.aload_n 0, 1) := by decide +kernel
theorem dX5_counts_7 : decode cX5_counts 7 = .ok (.getfield 28, 3) := by decide +kernel
theorem dX5_counts_10 : decode cX5_counts 10 = .ok (.iastore, 1) := by decide +kernel
theorem dX5_counts_11 : decode cX5_counts 11 = .ok (.dup, 1) := by decide +kernel
theorem dX5_counts_12 : decode cX5_counts 12 = .ok (.iconst 1, 1) := by decide +kernel
theorem dX5_counts_13 : decode cX5_counts 13 = .ok (.aload_n 0, 1) := by decide +kernel
theorem dX5_counts_14 : decode cX5_counts 14 = .ok (.getfield 18, 3) := by decide +kernel
theorem dX5_counts_17 : decode cX5_counts 17 = .ok (.arraylength, 1) := by decide +kernel
theorem dX5_counts_18 : decode cX5_counts 18 = .ok (.iastore, 1) := by decide +kernel
theorem dX5_counts_19 : decode cX5_counts 19 = .ok (.dup, 1) := by decide +kernel
theorem dX5_counts_20 : decode cX5_counts 20 = .ok (.iconst 2, 1) := by decide +kernel
theorem dX5_counts_21 : decode cX5_counts 21 = .ok (.aload_n 0, 1) := by decide +kernel
theorem dX5_counts_22 : decode cX5_counts 22 = .ok (.getfield 22, 3) := by decide +kernel
theorem dX5_counts_25 : decode cX5_counts 25 = .ok (.arraylength, 1) := by decide +kernel
theorem dX5_counts_26 : decode cX5_counts 26 = .ok (.iastore, 1) := by decide +kernel
theorem dX5_counts_27 : decode cX5_counts 27 = .ok (.dup, 1) := by decide +kernel
theorem dX5_counts_28 : decode cX5_counts 28 = .ok (.iconst 3, 1) := by decide +kernel
theorem dX5_counts_29 : decode cX5_counts 29 = .ok (.iconst 0, 1) := by decide +kernel
theorem dX5_counts_30 : decode cX5_counts 30 = .ok (.iastore, 1) := by decide +kernel
theorem dX5_counts_31 : decode cX5_counts 31 = .ok (.dup, 1) := by decide +kernel
theorem dX5_counts_32 : decode cX5_counts 32 = .ok (.iconst 4, 1) := by decide +kernel
theorem dX5_counts_33 : decode cX5_counts 33 = .ok (.iconst 0, 1) := by decide +kernel
theorem dX5_counts_34 : decode cX5_counts 34 = .ok (.iastore, 1) := by decide +kernel
theorem dX5_counts_35 : decode cX5_counts 35 = .ok (.dup, 1) := by decide +kernel
theorem dX5_counts_36 : decode cX5_counts 36 = .ok (.iconst 5, 1) := by decide +kernel
theorem dX5_counts_37 : decode cX5_counts 37 = .ok (.iconst 0, 1) := by decide +kernel
theorem dX5_counts_38 : decode cX5_counts 38 = .ok (.iastore, 1) := by decide +kernel
theorem dX5_counts_39 : decode cX5_counts 39 = .ok (.dup, 1) := by decide +kernel
theorem dX5_counts_40 : decode cX5_counts 40 = .ok (.bipush 6, 2) := by decide +kernel
theorem dX5_counts_42 : decode cX5_counts 42 = .ok (.iconst 0, 1) := by decide +kernel
theorem dX5_counts_43 : decode cX5_counts 43 = .ok (.iastore, 1) := by decide +kernel
theorem dX5_counts_44 : decode cX5_counts 44 = .ok (.astore_n 1, 1) := by decide +kernel
theorem dX5_counts_45 : decode cX5_counts 45 = .ok (.iconst 0, 1) := by decide +kernel
theorem dX5_counts_46 : decode cX5_counts 46 = .ok (.istore_n 2, 1) := by decide +kernel
theorem dX5_counts_47 : decode cX5_counts 47 = .ok (.iload_n 2, 1) := by decide +kernel
theorem dX5_counts_48 : decode cX5_counts 48 = .ok (.aload_n 0, 1) := by decide +kernel
theorem dX5_counts_49 : decode cX5_counts 49 = .ok (.getfield 22, 3) := by decide +kernel
theorem dX5_counts_52 : decode cX5_counts 52 = .ok (.arraylength, 1) := by decide +kernel
theorem dX5_counts_53 : decode cX5_counts 53 = .ok (.if_icmp .ge 56, 3) := by decide +kernel
theorem dX5_counts_56 : decode cX5_counts 56 = .ok (.aload_n 1, 1) := by decide +kernel
theorem dX5_counts_57 : decode cX5_counts 57 = .ok (.iconst 3, 1) := by decide +kernel
theorem dX5_counts_58 : decode cX5_counts 58 = .ok (.dup2, 1) := by decide +kernel
theorem dX5_counts_59 : decode cX5_counts 59 = .ok (.iaload, 1) := by decide +kernel
theorem dX5_counts_60 : decode cX5_counts 60 = .ok (.aload_n 0, 1) := by decide +kernel
theorem dX5_counts_61 : decode cX5_counts 61 = .ok (.getfield 22, 3) := by decide +kernel
theorem dX5_counts_64 : decode cX5_counts 64 = .ok (.iload_n 2, 1) := by decide +kernel
theorem dX5_counts_65 : decode cX5_counts 65 = .ok (.aaload, 1) := by decide +kernel
theorem dX5_counts_66 : decode cX5_counts 66 = .ok (.iconst 0, 1) := by decide +kernel
theorem dX5_counts_67 : decode cX5_counts 67 = .ok (.iaload, 1) := by decide +kernel
theorem dX5_counts_68 : decode cX5_counts 68 = .ok (.iadd, 1) := by decide +kernel
theorem dX5_counts_69 : decode cX5_counts 69 = .ok (.iastore, 1) := by decide +kernel
theorem dX5_counts_70 : decode cX5_counts 70 = .ok (.aload_n 1, 1) := by decide +kernel
theorem dX5_counts_71 : decode cX5_counts 71 = .ok (.iconst 4, 1) := by decide +kernel
theorem dX5_counts_72 : decode cX5_counts 72 = .ok (.dup2, 1) := by decide +kernel
theorem dX5_counts_73 : decode cX5_counts 73 = .ok (.iaload, 1) := by decide +kernel
theorem dX5_counts_74 : decode cX5_counts 74 = .ok (.aload_n 0, 1) := by decide +kernel
theorem dX5_counts_75 : decode cX5_counts 75 = .ok (.getfield 22, 3) := by decide +kernel
theorem dX5_counts_78 : decode cX5_counts 78 = .ok (.iload_n 2, 1) := by decide +kernel
theorem dX5_counts_79 : decode cX5_counts 79 = .ok (.aaload, 1) := by decide +kernel
theorem dX5_counts_80 : decode cX5_counts 80 = .ok (.iconst 1, 1) := by decide +kernel
theorem dX5_counts_81 : decode cX5_counts 81 = .ok (.iaload, 1) := by decide +kernel
theorem dX5_counts_82 : decode cX5_counts 82 = .ok (.iadd, 1) := by decide +kernel
theorem dX5_counts_83 : decode cX5_counts 83 = .ok (.iastore, 1) := by decide +kernel
theorem dX5_counts_84 : decode cX5_counts 84 = .ok (.aload_n 1, 1) := by decide +kernel
theorem dX5_counts_85 : decode cX5_counts 85 = .ok (.iconst 5, 1) := by decide +kernel
theorem dX5_counts_86 : decode cX5_counts 86 = .ok (.dup2, 1) := by decide +kernel
theorem dX5_counts_87 : decode cX5_counts 87 = .ok (.iaload, 1) := by decide +kernel
theorem dX5_counts_88 : decode cX5_counts 88 = .ok (.aload_n 0, 1) := by decide +kernel
theorem dX5_counts_89 : decode cX5_counts 89 = .ok (.iload_n 2, 1) := by decide +kernel
theorem dX5_counts_90 : decode cX5_counts 90 = .ok (.invokevirtual 36, 3) := by decide +kernel
theorem dX5_counts_93 : decode cX5_counts 93 = .ok (.ifCond .le 7, 3) := by decide +kernel
theorem dX5_counts_96 : decode cX5_counts 96 = .ok (.iconst 1, 1) := by decide +kernel
theorem dX5_counts_97 : decode cX5_counts 97 = .ok (.goto 4, 3) := by decide +kernel
theorem dX5_counts_100 : decode cX5_counts 100 = .ok (.iconst 0, 1) := by decide +kernel
theorem dX5_counts_101 : decode cX5_counts 101 = .ok (.iadd, 1) := by decide +kernel
theorem dX5_counts_102 : decode cX5_counts 102 = .ok (.iastore, 1) := by decide +kernel
theorem dX5_counts_103 : decode cX5_counts 103 = .ok (.iinc 2 1, 3) := by decide +kernel
theorem dX5_counts_106 : decode cX5_counts 106 = .ok (.goto (-59), 3) := by decide +kernel
theorem dX5_counts_109 : decode cX5_counts 109 = .ok (.aload_n 0, 1) := by decide +kernel
theorem dX5_counts_110 : decode cX5_counts 110 = .ok (.getfield 13, 3) := by decide +kernel
theorem dX5_counts_113 : decode cX5_counts 113 = .ok (.astore_n 2, 1) := by decide +kernel
theorem dX5_counts_114 : decode cX5_counts 114 = .ok (.aload_n 2, 1) := by decide +kernel
theorem dX5_counts_115 : decode cX5_counts 115 = .ok (.arraylength, 1) := by decide +kernel
theorem dX5_counts_116 : decode cX5_counts 116 = .ok (.istore_n 3, 1) := by decide +kernel
theorem dX5_counts_117 : decode cX5_counts 117 = .ok (.iconst 0, 1) := by decide +kernel
theorem dX5_counts_118 : decode cX5_counts 118 = .ok (.istore 4, 2) := by decide +kernel
theorem dX5_counts_120 : decode cX5_counts 120 = .ok (.iload 4, 2) := by decide +kernel
theorem dX5_counts_122 : decode cX5_counts 122 = .ok (.iload_n 3, 1) := by decide +kernel
theorem dX5_counts_123 : decode cX5_counts 123 = .ok (.if_icmp .ge 32, 3) := by decide +kernel
theorem dX5_counts_126 : decode cX5_counts 126 = .ok (.aload_n 2, 1) := by decide +kernel
theorem dX5_counts_127 : decode cX5_counts 127 = .ok (.iload 4, 2) := by decide +kernel
theorem dX5_counts_129 : decode cX5_counts 129 = .ok (.baload, 1) := by decide +kernel
theorem dX5_counts_130 : decode cX5_counts 130 = .ok (.istore 5, 2) := by decide +kernel
theorem dX5_counts_132 : decode cX5_counts 132 = .ok (.aload_n 1, 1) := by decide +kernel
theorem dX5_counts_133 : decode cX5_counts 133 = .ok (.bipush 6, 2) := by decide +kernel
theorem dX5_counts_135 : decode cX5_counts 135 = .ok (.dup2, 1) := by decide +kernel
theorem dX5_counts_136 : decode cX5_counts 136 = .ok (.iaload, 1) := by decide +kernel
theorem dX5_counts_137 : decode cX5_counts 137 = .ok (.iload 5, 2) := by decide +kernel
theorem dX5_counts_139 : decode cX5_counts 139 = .ok (.ifCond .eq 7, 3) := by decide +kernel
theorem dX5_counts_142 : decode cX5_counts 142 = .ok (.iconst 1, 1) := by decide +kernel
theorem dX5_counts_143 : decode cX5_counts 143 = .ok (.goto 4, 3) := by decide +kernel
theorem dX5_counts_146 : decode cX5_counts 146 = .ok (.iconst 0, 1) := by decide +kernel
theorem dX5_counts_147 : decode cX5_counts 147 = .ok (.iadd, 1) := by decide +kernel
theorem dX5_counts_148 : decode cX5_counts 148 = .ok (.iastore, 1) := by decide +kernel
theorem dX5_counts_149 : decode cX5_counts 149 = .ok (.iinc 4 1, 3) := by decide +kernel
theorem dX5_counts_152 : decode cX5_counts 152 = .ok (.goto (-32), 3) := by decide +kernel
theorem dX5_counts_155 : decode cX5_counts 155 = .ok (.aload_n 1, 1) := by decide +kernel
theorem dX5_counts_156 : decode cX5_counts 156 = .ok (.areturn, 1) := by decide +kernel
