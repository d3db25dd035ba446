theorem dL_law_72 : decode cL_law 72 = .ok (.iconst 1, 1) := by decide +kernel
theorem dL_law_73 : decode cL_law 73 = .ok (.invokevirtual 87, 3) := by decide +kernel
theorem dL_law_76 : decode cL_law 76 = .ok (.istore 6, 2) := by decide +kernel
theorem dL_law_78 : decode cL_law 78 = .ok (.aload_n 1, 1) := by decide +kernel
theorem dL_law_79 : decode cL_law 79 = .ok (.iconst 2, 1) := by decide +kernel
theorem dL_law_80 : decode cL_law 80 = .ok (.invokevirtual 87, 3) := by decide +kernel
theorem dL_law_83 : decode cL_law 83 = .ok (.istore 7, 2) := by decide +kernel
theorem dL_law_85 : decode cL_law 85 = .ok (.iload 7, 2) := by decide +kernel
theorem dL_law_87 : decode cL_law 87 = .ok (.bipush 7, 2) := by decide +kernel
theorem dL_law_89 : decode cL_law 89 = .ok (.multianewarray 90 2, 4) := by decide +kernel
theorem dL_law_93 : decode cL_law 93 = .ok (.astore 8, 2) := by decide +kernel
theorem dL_law_95 : decode cL_law 95 = .ok (.iload 7, 2) := by decide +kernel
theorem dL_law_97 : decode cL_law 97 = .ok (.iload 6, 2) := by decide +kernel
theorem dL_law_99 : decode cL_law 99 = .ok (.multianewarray 90 2, 4) := by decide +kernel
theorem dL_law_103 : decode cL_law 103 = .ok (.astore 9, 2) := by decide +kernel
theorem dL_law_105 : decode cL_law 105 = .ok (.iconst 0, 1) := by decide +kernel
theorem dL_law_106 : decode cL_law 106 = .ok (.istore 10, 2) := by decide +kernel
theorem dL_law_108 : decode cL_law 108 = .ok (.iconst 0, 1) := by decide +kernel
theorem dL_law_109 : decode cL_law 109 = .ok (.istore 11, 2) := by decide +kernel
theorem dL_law_111 : decode cL_law 111 = .ok (.iconst 0, 1) := by decide +kernel
theorem dL_law_112 : decode cL_law 112 = .ok (.istore 12, 2) := by decide +kernel
theorem dL_law_114 : decode cL_law 114 = .ok (.iconst 0, 1) := by decide +kernel
theorem dL_law_115 : decode cL_law 115 = .ok (.istore 13, 2) := by decide +kernel
theorem dL_law_117 : decode cL_law 117 = .ok (.iconst 0, 1) := by decide +kernel
theorem dL_law_118 : decode cL_law 118 = .ok (.istore 14, 2) := by decide +kernel
theorem dL_law_120 : decode cL_law 120 = .ok (.iload 14, 2) := by decide +kernel
theorem dL_law_122 : decode cL_law 122 = .ok (.iload 7, 2) := by decide +kernel
theorem dL_law_124 : decode cL_law 124 = .ok (.if_icmp .ge 246, 3) := by decide +kernel
theorem dL_law_127 : decode cL_law 127 = .ok (.iconst 0, 1) := by decide +kernel
theorem dL_law_128 : decode cL_law 128 = .ok (.istore 15, 2) := by decide +kernel
theorem dL_law_130 : decode cL_law 130 = .ok (.iload 15, 2) := by decide +kernel
theorem dL_law_132 : decode cL_law 132 = .ok (.bipush 7, 2) := by decide +kernel
theorem dL_law_134 : decode cL_law 134 = .ok (.if_icmp .ge 25, 3) := by decide +kernel
theorem dL_law_137 : decode cL_law 137 = .ok (.aload 8, 2) := by decide +kernel
theorem dL_law_139 : decode cL_law 139 = .ok (.iload 14, 2) := by decide +kernel
theorem dL_law_141 : decode cL_law 141 = .ok (.aaload, 1) := by decide +kernel
theorem dL_law_142 : decode cL_law 142 = .ok (.iload 15, 2) := by decide +kernel
theorem dL_law_144 : decode cL_law 144 = .ok (.aload_n 1, 1) := by decide +kernel
theorem dL_law_145 : decode cL_law 145 = .ok (.iload 14, 2) := by decide +kernel
theorem dL_law_147 : decode cL_law 147 = .ok (.iload 15, 2) := by decide +kernel
theorem dL_law_149 : decode cL_law 149 = .ok (.invokevirtual 91, 3) := by decide +kernel
theorem dL_law_152 : decode cL_law 152 = .ok (.iastore, 1) := by decide +kernel
theorem dL_law_153 : decode cL_law 153 = .ok (.iinc 15 1, 3) := by decide +kernel
theorem dL_law_156 : decode cL_law 156 = .ok (.goto (-26), 3) := by decide +kernel
theorem dL_law_159 : decode cL_law 159 = .ok (.iconst 0, 1) := by decide +kernel
