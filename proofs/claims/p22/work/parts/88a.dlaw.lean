theorem dL_law_0 : decode cL_law 0 = .ok (.new 10, 3) := by decide +kernel
theorem dL_law_3 : decode cL_law 3 = .ok (.dup, 1) := by decide +kernel
theorem dL_law_4 : decode cL_law 4 = .ok (.invokespecial 82, 3) := by decide +kernel
theorem dL_law_7 : decode cL_law 7 = .ok (.astore_n 1, 1) := by decide +kernel
theorem dL_law_8 : decode cL_law 8 = .ok (.aload_n 1, 1) := by decide +kernel
theorem dL_law_9 : decode cL_law 9 = .ok (.aload_n 0, 1) := by decide +kernel
theorem dL_law_10 : decode cL_law 10 = .ok (.invokestatic 83, 3) := by decide +kernel
theorem dL_law_13 : decode cL_law 13 = .ok (.astore_n 2, 1) := by decide +kernel
theorem dL_law_14 : decode cL_law 14 = .ok (.aload_n 2, 1) := by decide +kernel
theorem dL_law_15 : decode cL_law 15 = .ok (.ifnonnull 5, 3) := by decide +kernel
theorem dL_law_18 : decode cL_law 18 = .ok (.iconst 0, 1) := by decide +kernel
theorem dL_law_19 : decode cL_law 19 = .ok (.ireturn, 1) := by decide +kernel
theorem dL_law_20 : decode cL_law 20 = .ok (.iconst 0, 1) := by decide +kernel
theorem dL_law_21 : decode cL_law 21 = .ok (.istore_n 3, 1) := by decide +kernel
theorem dL_law_22 : decode cL_law 22 = .ok (.iload_n 3, 1) := by decide +kernel
theorem dL_law_23 : decode cL_law 23 = .ok (.bipush 30, 2) := by decide +kernel
theorem dL_law_25 : decode cL_law 25 = .ok (.if_icmp .ge 1152, 3) := by decide +kernel
theorem dL_law_28 : decode cL_law 28 = .ok (.aload_n 0, 1) := by decide +kernel
theorem dL_law_29 : decode cL_law 29 = .ok (.iload_n 3, 1) := by decide +kernel
theorem dL_law_30 : decode cL_law 30 = .ok (.bipush 16, 2) := by decide +kernel
theorem dL_law_32 : decode cL_law 32 = .ok (.irem, 1) := by decide +kernel
theorem dL_law_33 : decode cL_law 33 = .ok (.invokestatic 74, 3) := by decide +kernel
theorem dL_law_36 : decode cL_law 36 = .ok (.iload_n 3, 1) := by decide +kernel
theorem dL_law_37 : decode cL_law 37 = .ok (.bipush 16, 2) := by decide +kernel
theorem dL_law_39 : decode cL_law 39 = .ok (.idiv, 1) := by decide +kernel
theorem dL_law_40 : decode cL_law 40 = .ok (.bipush 6, 2) := by decide +kernel
theorem dL_law_42 : decode cL_law 42 = .ok (.imul, 1) := by decide +kernel
theorem dL_law_43 : decode cL_law 43 = .ok (.ishr, 1) := by decide +kernel
theorem dL_law_44 : decode cL_law 44 = .ok (.sipush 263, 3) := by decide +kernel
theorem dL_law_47 : decode cL_law 47 = .ok (.iload_n 3, 1) := by decide +kernel
theorem dL_law_48 : decode cL_law 48 = .ok (.imul, 1) := by decide +kernel
theorem dL_law_49 : decode cL_law 49 = .ok (.iadd, 1) := by decide +kernel
theorem dL_law_50 : decode cL_law 50 = .ok (.istore 4, 2) := by decide +kernel
theorem dL_law_52 : decode cL_law 52 = .ok (.aload_n 1, 1) := by decide +kernel
theorem dL_law_53 : decode cL_law 53 = .ok (.aload_n 2, 1) := by decide +kernel
theorem dL_law_54 : decode cL_law 54 = .ok (.iload 4, 2) := by decide +kernel
theorem dL_law_56 : decode cL_law 56 = .ok (.invokestatic 79, 3) := by decide +kernel
theorem dL_law_59 : decode cL_law 59 = .ok (.ifCond .ne 5, 3) := by decide +kernel
theorem dL_law_62 : decode cL_law 62 = .ok (.iconst 0, 1) := by decide +kernel
theorem dL_law_63 : decode cL_law 63 = .ok (.ireturn, 1) := by decide +kernel
theorem dL_law_64 : decode cL_law 64 = .ok (.aload_n 1, 1) := by decide +kernel
theorem dL_law_65 : decode cL_law 65 = .ok (.iconst 0, 1) := by decide +kernel
theorem dL_law_66 : decode cL_law 66 = .ok (.invokevirtual 87, 3) := by decide +kernel
theorem dL_law_69 : decode cL_law 69 = .ok (.istore 5, 2) := by decide +kernel
theorem dL_law_71 : decode cL_law 71 = .ok (.aload_n 1, 1) := by decide +kernel
