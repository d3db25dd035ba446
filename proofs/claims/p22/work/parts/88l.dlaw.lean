theorem dL_law_907 : decode cL_law 907 = .ok (.iload 24, 2) := by decide +kernel
theorem dL_law_909 : decode cL_law 909 = .ok (.bipush 6, 2) := by decide +kernel
theorem dL_law_911 : decode cL_law 911 = .ok (.if_icmp .ge 25, 3) := by decide +kernel
theorem dL_law_914 : decode cL_law 914 = .ok (.aload_n 1, 1) := by decide +kernel
theorem dL_law_915 : decode cL_law 915 = .ok (.iload 24, 2) := by decide +kernel
theorem dL_law_917 : decode cL_law 917 = .ok (.invokevirtual 87, 3) := by decide +kernel
theorem dL_law_920 : decode cL_law 920 = .ok (.aload 17, 2) := by decide +kernel
theorem dL_law_922 : decode cL_law 922 = .ok (.iload 24, 2) := by decide +kernel
theorem dL_law_924 : decode cL_law 924 = .ok (.iaload, 1) := by decide +kernel
theorem dL_law_925 : decode cL_law 925 = .ok (.if_icmp .eq 5, 3) := by decide +kernel
theorem dL_law_928 : decode cL_law 928 = .ok (.iconst 0, 1) := by decide +kernel
theorem dL_law_929 : decode cL_law 929 = .ok (.ireturn, 1) := by decide +kernel
theorem dL_law_930 : decode cL_law 930 = .ok (.iinc 24 1, 3) := by decide +kernel
theorem dL_law_933 : decode cL_law 933 = .ok (.goto (-26), 3) := by decide +kernel
theorem dL_law_936 : decode cL_law 936 = .ok (.aload_n 2, 1) := by decide +kernel
theorem dL_law_937 : decode cL_law 937 = .ok (.getfield 38, 3) := by decide +kernel
theorem dL_law_940 : decode cL_law 940 = .ok (.iload 5, 2) := by decide +kernel
theorem dL_law_942 : decode cL_law 942 = .ok (.bipush 12, 2) := by decide +kernel
theorem dL_law_944 : decode cL_law 944 = .ok (.irem, 1) := by decide +kernel
theorem dL_law_945 : decode cL_law 945 = .ok (.baload, 1) := by decide +kernel
theorem dL_law_946 : decode cL_law 946 = .ok (.istore 24, 2) := by decide +kernel
theorem dL_law_948 : decode cL_law 948 = .ok (.iconst 0, 1) := by decide +kernel
theorem dL_law_949 : decode cL_law 949 = .ok (.istore 25, 2) := by decide +kernel
theorem dL_law_951 : decode cL_law 951 = .ok (.iload 25, 2) := by decide +kernel
theorem dL_law_953 : decode cL_law 953 = .ok (.iload 7, 2) := by decide +kernel
theorem dL_law_955 : decode cL_law 955 = .ok (.if_icmp .ge 216, 3) := by decide +kernel
theorem dL_law_958 : decode cL_law 958 = .ok (.aload 8, 2) := by decide +kernel
theorem dL_law_960 : decode cL_law 960 = .ok (.iload 25, 2) := by decide +kernel
theorem dL_law_962 : decode cL_law 962 = .ok (.aaload, 1) := by decide +kernel
theorem dL_law_963 : decode cL_law 963 = .ok (.astore 26, 2) := by decide +kernel
theorem dL_law_965 : decode cL_law 965 = .ok (.aload 26, 2) := by decide +kernel
theorem dL_law_967 : decode cL_law 967 = .ok (.iconst 5, 1) := by decide +kernel
theorem dL_law_968 : decode cL_law 968 = .ok (.iaload, 1) := by decide +kernel
theorem dL_law_969 : decode cL_law 969 = .ok (.iconst 1, 1) := by decide +kernel
theorem dL_law_970 : decode cL_law 970 = .ok (.if_icmp .ne 7, 3) := by decide +kernel
theorem dL_law_973 : decode cL_law 973 = .ok (.iconst 1, 1) := by decide +kernel
theorem dL_law_974 : decode cL_law 974 = .ok (.goto 4, 3) := by decide +kernel
theorem dL_law_977 : decode cL_law 977 = .ok (.iconst 0, 1) := by decide +kernel
theorem dL_law_978 : decode cL_law 978 = .ok (.iload 24, 2) := by decide +kernel
theorem dL_law_980 : decode cL_law 980 = .ok (.if_icmp .ne 7, 3) := by decide +kernel
theorem dL_law_983 : decode cL_law 983 = .ok (.iconst 1, 1) := by decide +kernel
theorem dL_law_984 : decode cL_law 984 = .ok (.goto 4, 3) := by decide +kernel
theorem dL_law_987 : decode cL_law 987 = .ok (.iconst 0, 1) := by decide +kernel
theorem dL_law_988 : decode cL_law 988 = .ok (.istore 27, 2) := by decide +kernel
theorem dL_law_990 : decode cL_law 990 = .ok (.iload 27, 2) := by decide +kernel
