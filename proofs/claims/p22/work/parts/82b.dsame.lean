theorem dX5_isSame_122 : decode cX5_isSame 122 = .ok (.dup, 1) := by decide +kernel
theorem dX5_isSame_123 : decode cX5_isSame 123 = .ok (.iconst 2, 1) := by decide +kernel
theorem dX5_isSame_124 : decode cX5_isSame 124 = .ok (.aload_n 0, 1) := by decide +kernel
theorem dX5_isSame_125 : decode cX5_isSame 125 = .ok (.iload 4, 2) := by decide +kernel
theorem dX5_isSame_127 : decode cX5_isSame 127 = .ok (.invokevirtual 67, 3) := by decide +kernel
theorem dX5_isSame_130 : decode cX5_isSame 130 = .ok (.iastore, 1) := by decide +kernel
theorem dX5_isSame_131 : decode cX5_isSame 131 = .ok (.dup, 1) := by decide +kernel
theorem dX5_isSame_132 : decode cX5_isSame 132 = .ok (.iconst 3, 1) := by decide +kernel
theorem dX5_isSame_133 : decode cX5_isSame 133 = .ok (.iload 5, 2) := by decide +kernel
theorem dX5_isSame_135 : decode cX5_isSame 135 = .ok (.iastore, 1) := by decide +kernel
theorem dX5_isSame_136 : decode cX5_isSame 136 = .ok (.astore 6, 2) := by decide +kernel
theorem dX5_isSame_138 : decode cX5_isSame 138 = .ok (.iconst 0, 1) := by decide +kernel
theorem dX5_isSame_139 : decode cX5_isSame 139 = .ok (.istore 7, 2) := by decide +kernel
theorem dX5_isSame_141 : decode cX5_isSame 141 = .ok (.iload 7, 2) := by decide +kernel
theorem dX5_isSame_143 : decode cX5_isSame 143 = .ok (.iconst 4, 1) := by decide +kernel
theorem dX5_isSame_144 : decode cX5_isSame 144 = .ok (.if_icmp .ge 27, 3) := by decide +kernel
theorem dX5_isSame_147 : decode cX5_isSame 147 = .ok (.aload_n 1, 1) := by decide +kernel
theorem dX5_isSame_148 : decode cX5_isSame 148 = .ok (.iload 4, 2) := by decide +kernel
theorem dX5_isSame_150 : decode cX5_isSame 150 = .ok (.iload 7, 2) := by decide +kernel
theorem dX5_isSame_152 : decode cX5_isSame 152 = .ok (.invokevirtual 70, 3) := by decide +kernel
theorem dX5_isSame_155 : decode cX5_isSame 155 = .ok (.aload 6, 2) := by decide +kernel
theorem dX5_isSame_157 : decode cX5_isSame 157 = .ok (.iload 7, 2) := by decide +kernel
theorem dX5_isSame_159 : decode cX5_isSame 159 = .ok (.iaload, 1) := by decide +kernel
theorem dX5_isSame_160 : decode cX5_isSame 160 = .ok (.if_icmp .eq 5, 3) := by decide +kernel
theorem dX5_isSame_163 : decode cX5_isSame 163 = .ok (.iconst 0, 1) := by decide +kernel
theorem dX5_isSame_164 : decode cX5_isSame 164 = .ok (.ireturn, 1) := by decide +kernel
theorem dX5_isSame_165 : decode cX5_isSame 165 = .ok (.iinc 7 1, 3) := by decide +kernel
theorem dX5_isSame_168 : decode cX5_isSame 168 = .ok (.goto (-27), 3) := by decide +kernel
theorem dX5_isSame_171 : decode cX5_isSame 171 = .ok (.aload_n 1, 1) := by decide +kernel
theorem dX5_isSame_172 : decode cX5_isSame 172 = .ok (.iload 4, 2) := by decide +kernel
theorem dX5_isSame_174 : decode cX5_isSame 174 = .ok (.aload_n 0, 1) := by decide +kernel
theorem dX5_isSame_175 : decode cX5_isSame 175 = .ok (.getfield 28, 3) := by decide +kernel
theorem dX5_isSame_178 : decode cX5_isSame 178 = .ok (.sipush 1000, 3) := by decide +kernel
theorem dX5_isSame_181 : decode cX5_isSame 181 = .ok (.irem, 1) := by decide +kernel
theorem dX5_isSame_182 : decode cX5_isSame 182 = .ok (.invokevirtual 74, 3) := by decide +kernel
theorem dX5_isSame_185 : decode cX5_isSame 185 = .ok (.aload_n 0, 1) := by decide +kernel
theorem dX5_isSame_186 : decode cX5_isSame 186 = .ok (.iload 4, 2) := by decide +kernel
theorem dX5_isSame_188 : decode cX5_isSame 188 = .ok (.aload_n 0, 1) := by decide +kernel
theorem dX5_isSame_189 : decode cX5_isSame 189 = .ok (.getfield 28, 3) := by decide +kernel
theorem dX5_isSame_192 : decode cX5_isSame 192 = .ok (.sipush 1000, 3) := by decide +kernel
theorem dX5_isSame_195 : decode cX5_isSame 195 = .ok (.irem, 1) := by decide +kernel
theorem dX5_isSame_196 : decode cX5_isSame 196 = .ok (.invokevirtual 32, 3) := by decide +kernel
theorem dX5_isSame_199 : decode cX5_isSame 199 = .ok (.if_icmp .eq 5, 3) := by decide +kernel
theorem dX5_isSame_202 : decode cX5_isSame 202 = .ok (.iconst 0, 1) := by decide +kernel
theorem dX5_isSame_203 : decode cX5_isSame 203 = .ok (.ireturn, 1) := by decide +kernel
theorem dX5_isSame_204 : decode cX5_isSame 204 = .ok (.iload_n 3, 1) := by decide +kernel
theorem dX5_isSame_205 : decode cX5_isSame 205 = .ok (.ifCond .lt 17, 3) := by decide +kernel
theorem dX5_isSame_208 : decode cX5_isSame 208 = .ok (.aload_n 0, 1) := by decide +kernel
theorem dX5_isSame_209 : decode cX5_isSame 209 = .ok (.iload 4, 2) := by decide +kernel
theorem dX5_isSame_211 : decode cX5_isSame 211 = .ok (.invokevirtual 67, 3) := by decide +kernel
theorem dX5_isSame_214 : decode cX5_isSame 214 = .ok (.aload_n 0, 1) := by decide +kernel
theorem dX5_isSame_215 : decode cX5_isSame 215 = .ok (.iload_n 3, 1) := by decide +kernel
theorem dX5_isSame_216 : decode cX5_isSame 216 = .ok (.invokevirtual 67, 3) := by decide +kernel
theorem dX5_isSame_219 : decode cX5_isSame 219 = .ok (.if_icmp .lt 6, 3) := by decide +kernel
theorem dX5_isSame_222 : decode cX5_isSame 222 = .ok (.iload 4, 2) := by decide +kernel
theorem dX5_isSame_224 : decode cX5_isSame 224 = .ok (.istore_n 3, 1) := by decide +kernel
theorem dX5_isSame_225 : decode cX5_isSame 225 = .ok (.iinc 4 (-1), 3) := by decide +kernel
theorem dX5_isSame_228 : decode cX5_isSame 228 = .ok (.goto (-185), 3) := by decide +kernel
theorem dX5_isSame_231 : decode cX5_isSame 231 = .ok (.iconst 0, 1) := by decide +kernel
theorem dX5_isSame_232 : decode cX5_isSame 232 = .ok (.istore 4, 2) := by decide +kernel
theorem dX5_isSame_234 : decode cX5_isSame 234 = .ok (.iconst 0, 1) := by decide +kernel
theorem dX5_isSame_235 : decode cX5_isSame 235 = .ok (.istore 5, 2) := by decide +kernel
theorem dX5_isSame_237 : decode cX5_isSame 237 = .ok (.iload 5, 2) := by decide +kernel
theorem dX5_isSame_239 : decode cX5_isSame 239 = .ok (.aload_n 0, 1) := by decide +kernel
theorem dX5_isSame_240 : decode cX5_isSame 240 = .ok (.getfield 22, 3) := by decide +kernel
theorem dX5_isSame_243 : decode cX5_isSame 243 = .ok (.arraylength, 1) := by decide +kernel
theorem dX5_isSame_244 : decode cX5_isSame 244 = .ok (.if_icmp .ge 217, 3) := by decide +kernel
theorem dX5_isSame_247 : decode cX5_isSame 247 = .ok (.iconst 0, 1) := by decide +kernel
theorem dX5_isSame_248 : decode cX5_isSame 248 = .ok (.istore 6, 2) := by decide +kernel
theorem dX5_isSame_250 : decode cX5_isSame 250 = .ok (.iconst 0, 1) := by decide +kernel
theorem dX5_isSame_251 : decode cX5_isSame 251 = .ok (.istore 7, 2) := by decide +kernel
theorem dX5_isSame_253 : decode cX5_isSame 253 = .ok (.iload 7, 2) := by decide +kernel
theorem dX5_isSame_255 : decode cX5_isSame 255 = .ok (.aload_n 0, 1) := by decide +kernel
theorem dX5_isSame_256 : decode cX5_isSame 256 = .ok (.getfield 18, 3) := by decide +kernel
theorem dX5_isSame_259 : decode cX5_isSame 259 = .ok (.arraylength, 1) := by decide +kernel
theorem dX5_isSame_260 : decode cX5_isSame 260 = .ok (.if_icmp .ge 47, 3) := by decide +kernel
theorem dX5_isSame_263 : decode cX5_isSame 263 = .ok (.iload 6, 2) := by decide +kernel
theorem dX5_isSame_265 : decode cX5_isSame 265 = .ok (.aload_n 0, 1) := by decide +kernel
theorem dX5_isSame_266 : decode cX5_isSame 266 = .ok (.getfield 25, 3) := by decide +kernel
theorem dX5_isSame_269 : decode cX5_isSame 269 = .ok (.iload 5, 2) := by decide +kernel
theorem dX5_isSame_271 : decode cX5_isSame 271 = .ok (.aaload, 1) := by decide +kernel
theorem dX5_isSame_272 : decode cX5_isSame 272 = .ok (.iload 7, 2) := by decide +kernel
theorem dX5_isSame_274 : decode cX5_isSame 274 = .ok (.iaload, 1) := by decide +kernel
theorem dX5_isSame_275 : decode cX5_isSame 275 = .ok (.iadd, 1) := by decide +kernel
theorem dX5_isSame_276 : decode cX5_isSame 276 = .ok (.istore 6, 2) := by decide +kernel
theorem dX5_isSame_278 : decode cX5_isSame 278 = .ok (.aload_n 1, 1) := by decide +kernel
theorem dX5_isSame_279 : decode cX5_isSame 279 = .ok (.iload 5, 2) := by decide +kernel
theorem dX5_isSame_281 : decode cX5_isSame 281 = .ok (.iload 7, 2) := by decide +kernel
theorem dX5_isSame_283 : decode cX5_isSame 283 = .ok (.invokevirtual 75, 3) := by decide +kernel
theorem dX5_isSame_286 : decode cX5_isSame 286 = .ok (.aload_n 0, 1) := by decide +kernel
theorem dX5_isSame_287 : decode cX5_isSame 287 = .ok (.getfield 25, 3) := by decide +kernel
theorem dX5_isSame_290 : decode cX5_isSame 290 = .ok (.iload 5, 2) := by decide +kernel
theorem dX5_isSame_292 : decode cX5_isSame 292 = .ok (.aaload, 1) := by decide +kernel
theorem dX5_isSame_293 : decode cX5_isSame 293 = .ok (.iload 7, 2) := by decide +kernel
theorem dX5_isSame_295 : decode cX5_isSame 295 = .ok (.iaload, 1) := by decide +kernel
theorem dX5_isSame_296 : decode cX5_isSame 296 = .ok (.if_icmp .eq 5, 3) := by decide +kernel
theorem dX5_isSame_299 : decode cX5_isSame 299 = .ok (.iconst 0, 1) := by decide +kernel
theorem dX5_isSame_300 : decode cX5_isSame 300 = .ok (.ireturn, 1) := by decide +kernel
theorem dX5_isSame_301 : decode cX5_isSame 301 = .ok (.iinc 7 1, 3) := by decide +kernel
theorem dX5_isSame_304 : decode cX5_isSame 304 = .ok (.goto (-51), 3) := by decide +kernel
