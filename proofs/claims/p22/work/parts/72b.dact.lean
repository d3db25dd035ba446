theorem dL_act_190 : decode cL_act 190 = .ok (.iconst 4, 1) := by decide +kernel
theorem dL_act_191 : decode cL_act 191 = .ok (.ishr, 1) := by decide +kernel
theorem dL_act_192 : decode cL_act 192 = .ok (.bipush 6, 2) := by decide +kernel
theorem dL_act_194 : decode cL_act 194 = .ok (.invokestatic 18, 3) := by decide +kernel
theorem dL_act_197 : decode cL_act 197 = .ok (.istore 6, 2) := by decide +kernel
theorem dL_act_199 : decode cL_act 199 = .ok (.iload_n 2, 1) := by decide +kernel
theorem dL_act_200 : decode cL_act 200 = .ok (.bipush 6, 2) := by decide +kernel
theorem dL_act_202 : decode cL_act 202 = .ok (.ishr, 1) := by decide +kernel
theorem dL_act_203 : decode cL_act 203 = .ok (.iload 6, 2) := by decide +kernel
theorem dL_act_205 : decode cL_act 205 = .ok (.ifCond .ne 8, 3) := by decide +kernel
theorem dL_act_208 : decode cL_act 208 = .ok (.bipush 20, 2) := by decide +kernel
theorem dL_act_210 : decode cL_act 210 = .ok (.goto 5, 3) := by decide +kernel
theorem dL_act_213 : decode cL_act 213 = .ok (.bipush 61, 2) := by decide +kernel
theorem dL_act_215 : decode cL_act 215 = .ok (.invokestatic 18, 3) := by decide +kernel
theorem dL_act_218 : decode cL_act 218 = .ok (.istore 7, 2) := by decide +kernel
theorem dL_act_220 : decode cL_act 220 = .ok (.aload_n 1, 1) := by decide +kernel
theorem dL_act_221 : decode cL_act 221 = .ok (.aload_n 1, 1) := by decide +kernel
theorem dL_act_222 : decode cL_act 222 = .ok (.getfield 24, 3) := by decide +kernel
theorem dL_act_225 : decode cL_act 225 = .ok (.iconst 2, 1) := by decide +kernel
theorem dL_act_226 : decode cL_act 226 = .ok (.newarray .int, 2) := by decide +kernel
theorem dL_act_228 : decode cL_act 228 = .ok (.dup, 1) := by decide +kernel
theorem dL_act_229 : decode cL_act 229 = .ok (.iconst 0, 1) := by decide +kernel
theorem dL_act_230 : decode cL_act 230 = .ok (.iload 6, 2) := by decide +kernel
theorem dL_act_232 : decode cL_act 232 = .ok (.iastore, 1) := by decide +kernel
theorem dL_act_233 : decode cL_act 233 = .ok (.dup, 1) := by decide +kernel
theorem dL_act_234 : decode cL_act 234 = .ok (.iconst 1, 1) := by decide +kernel
theorem dL_act_235 : decode cL_act 235 = .ok (.iload 7, 2) := by decide +kernel
theorem dL_act_237 : decode cL_act 237 = .ok (.iastore, 1) := by decide +kernel
theorem dL_act_238 : decode cL_act 238 = .ok (.invokestatic 46, 3) := by decide +kernel
theorem dL_act_241 : decode cL_act 241 = .ok (.putfield 24, 3) := by decide +kernel
theorem dL_act_244 : decode cL_act 244 = .ok (.aload_n 0, 1) := by decide +kernel
theorem dL_act_245 : decode cL_act 245 = .ok (.iload 6, 2) := by decide +kernel
theorem dL_act_247 : decode cL_act 247 = .ok (.iload 7, 2) := by decide +kernel
theorem dL_act_249 : decode cL_act 249 = .ok (.invokevirtual 50, 3) := by decide +kernel
theorem dL_act_252 : decode cL_act 252 = .ok (.iload 4, 2) := by decide +kernel
theorem dL_act_254 : decode cL_act 254 = .ok (.if_icmp .ne 7, 3) := by decide +kernel
theorem dL_act_257 : decode cL_act 257 = .ok (.iconst 1, 1) := by decide +kernel
theorem dL_act_258 : decode cL_act 258 = .ok (.goto 4, 3) := by decide +kernel
theorem dL_act_261 : decode cL_act 261 = .ok (.iconst 0, 1) := by decide +kernel
theorem dL_act_262 : decode cL_act 262 = .ok (.ireturn, 1) := by decide +kernel
theorem dL_act_263 : decode cL_act 263 = .ok (.iload 5, 2) := by decide +kernel
theorem dL_act_265 : decode cL_act 265 = .ok (.bipush 6, 2) := by decide +kernel
theorem dL_act_267 : decode cL_act 267 = .ok (.if_icmp .ne 5, 3) := by decide +kernel
theorem dL_act_270 : decode cL_act 270 = .ok (.iconst 1, 1) := by decide +kernel
theorem dL_act_271 : decode cL_act 271 = .ok (.ireturn, 1) := by decide +kernel
theorem dL_act_272 : decode cL_act 272 = .ok (.aload_n 1, 1) := by decide +kernel
theorem dL_act_273 : decode cL_act 273 = .ok (.aload_n 1, 1) := by decide +kernel
theorem dL_act_274 : decode cL_act 274 = .ok (.getfield 28, 3) := by decide +kernel
theorem dL_act_277 : decode cL_act 277 = .ok (.iconst 3, 1) := by decide +kernel
theorem dL_act_278 : decode cL_act 278 = .ok (.newarray .int, 2) := by decide +kernel
theorem dL_act_280 : decode cL_act 280 = .ok (.dup, 1) := by decide +kernel
theorem dL_act_281 : decode cL_act 281 = .ok (.iconst 0, 1) := by decide +kernel
theorem dL_act_282 : decode cL_act 282 = .ok (.iconst 0, 1) := by decide +kernel
theorem dL_act_283 : decode cL_act 283 = .ok (.iastore, 1) := by decide +kernel
theorem dL_act_284 : decode cL_act 284 = .ok (.dup, 1) := by decide +kernel
theorem dL_act_285 : decode cL_act 285 = .ok (.iconst 1, 1) := by decide +kernel
theorem dL_act_286 : decode cL_act 286 = .ok (.bipush 10, 2) := by decide +kernel
theorem dL_act_288 : decode cL_act 288 = .ok (.iastore, 1) := by decide +kernel
theorem dL_act_289 : decode cL_act 289 = .ok (.dup, 1) := by decide +kernel
theorem dL_act_290 : decode cL_act 290 = .ok (.iconst 2, 1) := by decide +kernel
theorem dL_act_291 : decode cL_act 291 = .ok (.iconst 0, 1) := by decide +kernel
theorem dL_act_292 : decode cL_act 292 = .ok (.iastore, 1) := by decide +kernel
theorem dL_act_293 : decode cL_act 293 = .ok (.invokestatic 46, 3) := by decide +kernel
theorem dL_act_296 : decode cL_act 296 = .ok (.putfield 28, 3) := by decide +kernel
theorem dL_act_299 : decode cL_act 299 = .ok (.aload_n 1, 1) := by decide +kernel
theorem dL_act_300 : decode cL_act 300 = .ok (.aload_n 1, 1) := by decide +kernel
theorem dL_act_301 : decode cL_act 301 = .ok (.getfield 53, 3) := by decide +kernel
theorem dL_act_304 : decode cL_act 304 = .ok (.bipush 8, 2) := by decide +kernel
theorem dL_act_306 : decode cL_act 306 = .ok (.newarray .int, 2) := by decide +kernel
theorem dL_act_308 : decode cL_act 308 = .ok (.dup, 1) := by decide +kernel
theorem dL_act_309 : decode cL_act 309 = .ok (.iconst 0, 1) := by decide +kernel
theorem dL_act_310 : decode cL_act 310 = .ok (.bipush 20, 2) := by decide +kernel
theorem dL_act_312 : decode cL_act 312 = .ok (.iastore, 1) := by decide +kernel
theorem dL_act_313 : decode cL_act 313 = .ok (.dup, 1) := by decide +kernel
theorem dL_act_314 : decode cL_act 314 = .ok (.iconst 1, 1) := by decide +kernel
theorem dL_act_315 : decode cL_act 315 = .ok (.bipush 20, 2) := by decide +kernel
theorem dL_act_317 : decode cL_act 317 = .ok (.iastore, 1) := by decide +kernel
theorem dL_act_318 : decode cL_act 318 = .ok (.dup, 1) := by decide +kernel
theorem dL_act_319 : decode cL_act 319 = .ok (.iconst 2, 1) := by decide +kernel
theorem dL_act_320 : decode cL_act 320 = .ok (.bipush 20, 2) := by decide +kernel
theorem dL_act_322 : decode cL_act 322 = .ok (.iastore, 1) := by decide +kernel
theorem dL_act_323 : decode cL_act 323 = .ok (.dup, 1) := by decide +kernel
theorem dL_act_324 : decode cL_act 324 = .ok (.iconst 3, 1) := by decide +kernel
theorem dL_act_325 : decode cL_act 325 = .ok (.bipush 20, 2) := by decide +kernel
theorem dL_act_327 : decode cL_act 327 = .ok (.iastore, 1) := by decide +kernel
theorem dL_act_328 : decode cL_act 328 = .ok (.dup, 1) := by decide +kernel
theorem dL_act_329 : decode cL_act 329 = .ok (.iconst 4, 1) := by decide +kernel
theorem dL_act_330 : decode cL_act 330 = .ok (.bipush 20, 2) := by decide +kernel
theorem dL_act_332 : decode cL_act 332 = .ok (.iastore, 1) := by decide +kernel
theorem dL_act_333 : decode cL_act 333 = .ok (.dup, 1) := by decide +kernel
theorem dL_act_334 : decode cL_act 334 = .ok (.iconst 5, 1) := by decide +kernel
theorem dL_act_335 : decode cL_act 335 = .ok (.bipush 20, 2) := by decide +kernel
theorem dL_act_337 : decode cL_act 337 = .ok (.iastore, 1) := by decide +kernel
theorem dL_act_338 : decode cL_act 338 = .ok (.dup, 1) := by decide +kernel
theorem dL_act_339 : decode cL_act 339 = .ok (.bipush 6, 2) := by decide +kernel
theorem dL_act_341 : decode cL_act 341 = .ok (.bipush 20, 2) := by decide +kernel
theorem dL_act_343 : decode cL_act 343 = .ok (.iastore, 1) := by decide +kernel
theorem dL_act_344 : decode cL_act 344 = .ok (.dup, 1) := by decide +kernel
theorem dL_act_345 : decode cL_act 345 = .ok (.bipush 7, 2) := by decide +kernel
theorem dL_act_347 : decode cL_act 347 = .ok (.bipush 20, 2) := by decide +kernel
