theorem dL_law_0 : decode cL_law 0 = .ok (.new 8, 3) := sorry
theorem dL_law_3 : decode cL_law 3 = .ok (.dup, 1) := sorry
theorem dL_law_4 : decode cL_law 4 = .ok (.invokespecial 69, 3) := sorry
theorem dL_law_7 : decode cL_law 7 = .ok (.astore_n 1, 1) := sorry
theorem dL_law_8 : decode cL_law 8 = .ok (.new 70, 3) := sorry
theorem dL_law_11 : decode cL_law 11 = .ok (.dup, 1) := sorry
theorem dL_law_12 : decode cL_law 12 = .ok (.invokespecial 72, 3) := sorry
theorem dL_law_15 : decode cL_law 15 = .ok (.astore_n 2, 1) := sorry
theorem dL_law_16 : decode cL_law 16 = .ok (.iconst 1, 1) := sorry
theorem dL_law_17 : decode cL_law 17 = .ok (.newarray .long, 2) := sorry
theorem dL_law_19 : decode cL_law 19 = .ok (.astore_n 3, 1) := sorry
theorem dL_law_20 : decode cL_law 20 = .ok (.iconst 0, 1) := sorry
theorem dL_law_21 : decode cL_law 21 = .ok (.istore 4, 2) := sorry
theorem dL_law_23 : decode cL_law 23 = .ok (.iload 4, 2) := sorry
theorem dL_law_25 : decode cL_law 25 = .ok (.aload_n 0, 1) := sorry
theorem dL_law_26 : decode cL_law 26 = .ok (.arraylength, 1) := sorry
theorem dL_law_27 : decode cL_law 27 = .ok (.iconst 4, 1) := sorry
theorem dL_law_28 : decode cL_law 28 = .ok (.isub, 1) := sorry
theorem dL_law_29 : decode cL_law 29 = .ok (.if_icmp .gt 1243, 3) := sorry
theorem dL_law_32 : decode cL_law 32 = .ok (.aload_n 0, 1) := sorry
theorem dL_law_33 : decode cL_law 33 = .ok (.iload 4, 2) := sorry
theorem dL_law_35 : decode cL_law 35 = .ok (.iaload, 1) := sorry
theorem dL_law_36 : decode cL_law 36 = .ok (.bipush 31, 2) := sorry
theorem dL_law_38 : decode cL_law 38 = .ok (.iand, 1) := sorry
theorem dL_law_39 : decode cL_law 39 = .ok (.tableswitch 1227 0 18 #[89, 157, 248, 316, 360, 440, 508, 583, 651, 719, 787, 843, 899, 955, 1023, 1091, 1159, 1172, 1213], 89) := sorry
theorem dL_law_128 : decode cL_law 128 = .ok (.aload_n 1, 1) := sorry
theorem dL_law_129 : decode cL_law 129 = .ok (.aload_n 0, 1) := sorry
theorem dL_law_130 : decode cL_law 130 = .ok (.iload 4, 2) := sorry
theorem dL_law_132 : decode cL_law 132 = .ok (.iconst 1, 1) := sorry
theorem dL_law_133 : decode cL_law 133 = .ok (.iadd, 1) := sorry
theorem dL_law_134 : decode cL_law 134 = .ok (.iaload, 1) := sorry
theorem dL_law_135 : decode cL_law 135 = .ok (.aload_n 0, 1) := sorry
theorem dL_law_136 : decode cL_law 136 = .ok (.iload 4, 2) := sorry
theorem dL_law_138 : decode cL_law 138 = .ok (.iconst 2, 1) := sorry
theorem dL_law_139 : decode cL_law 139 = .ok (.iadd, 1) := sorry
theorem dL_law_140 : decode cL_law 140 = .ok (.iaload, 1) := sorry
theorem dL_law_141 : decode cL_law 141 = .ok (.aload_n 3, 1) := sorry
theorem dL_law_142 : decode cL_law 142 = .ok (.invokestatic 73, 3) := sorry
theorem dL_law_145 : decode cL_law 145 = .ok (.istore 5, 2) := sorry
theorem dL_law_147 : decode cL_law 147 = .ok (.aload_n 2, 1) := sorry
theorem dL_law_148 : decode cL_law 148 = .ok (.aload_n 0, 1) := sorry
theorem dL_law_149 : decode cL_law 149 = .ok (.iload 4, 2) := sorry
theorem dL_law_151 : decode cL_law 151 = .ok (.iconst 1, 1) := sorry
theorem dL_law_152 : decode cL_law 152 = .ok (.iadd, 1) := sorry
theorem dL_law_153 : decode cL_law 153 = .ok (.iaload, 1) := sorry
theorem dL_law_154 : decode cL_law 154 = .ok (.aload_n 0, 1) := sorry
theorem dL_law_155 : decode cL_law 155 = .ok (.iload 4, 2) := sorry
theorem dL_law_157 : decode cL_law 157 = .ok (.iconst 2, 1) := sorry
theorem dL_law_158 : decode cL_law 158 = .ok (.iadd, 1) := sorry
theorem dL_law_159 : decode cL_law 159 = .ok (.iaload, 1) := sorry
theorem dL_law_160 : decode cL_law 160 = .ok (.invokevirtual 78, 3) := sorry
theorem dL_law_163 : decode cL_law 163 = .ok (.istore 6, 2) := sorry
theorem dL_law_165 : decode cL_law 165 = .ok (.aload_n 2, 1) := sorry
theorem dL_law_166 : decode cL_law 166 = .ok (.invokevirtual 79, 3) := sorry
theorem dL_law_169 : decode cL_law 169 = .ok (.iload 5, 2) := sorry
theorem dL_law_171 : decode cL_law 171 = .ok (.if_icmp .eq 5, 3) := sorry
theorem dL_law_174 : decode cL_law 174 = .ok (.iconst 0, 1) := sorry
theorem dL_law_175 : decode cL_law 175 = .ok (.ireturn, 1) := sorry
theorem dL_law_176 : decode cL_law 176 = .ok (.iload 5, 2) := sorry
theorem dL_law_178 : decode cL_law 178 = .ok (.ifCond .ne 15, 3) := sorry
theorem dL_law_181 : decode cL_law 181 = .ok (.aload_n 3, 1) := sorry
theorem dL_law_182 : decode cL_law 182 = .ok (.iconst 0, 1) := sorry
theorem dL_law_183 : decode cL_law 183 = .ok (.laload, 1) := sorry
theorem dL_law_184 : decode cL_law 184 = .ok (.iload 6, 2) := sorry
theorem dL_law_186 : decode cL_law 186 = .ok (.i2l, 1) := sorry
theorem dL_law_187 : decode cL_law 187 = .ok (.lcmp, 1) := sorry
theorem dL_law_188 : decode cL_law 188 = .ok (.ifCond .eq 5, 3) := sorry
theorem dL_law_191 : decode cL_law 191 = .ok (.iconst 0, 1) := sorry
theorem dL_law_192 : decode cL_law 192 = .ok (.ireturn, 1) := sorry
theorem dL_law_193 : decode cL_law 193 = .ok (.goto 1073, 3) := sorry
theorem dL_law_196 : decode cL_law 196 = .ok (.aload_n 1, 1) := sorry
theorem dL_law_197 : decode cL_law 197 = .ok (.aload_n 0, 1) := sorry
theorem dL_law_198 : decode cL_law 198 = .ok (.iload 4, 2) := sorry
theorem dL_law_200 : decode cL_law 200 = .ok (.iconst 1, 1) := sorry
theorem dL_law_201 : decode cL_law 201 = .ok (.iadd, 1) := sorry
theorem dL_law_202 : decode cL_law 202 = .ok (.iaload, 1) := sorry
theorem dL_law_203 : decode cL_law 203 = .ok (.aload_n 0, 1) := sorry
theorem dL_law_204 : decode cL_law 204 = .ok (.iload 4, 2) := sorry
theorem dL_law_206 : decode cL_law 206 = .ok (.iconst 2, 1) := sorry
theorem dL_law_207 : decode cL_law 207 = .ok (.iadd, 1) := sorry
theorem dL_law_208 : decode cL_law 208 = .ok (.iaload, 1) := sorry
theorem dL_law_209 : decode cL_law 209 = .ok (.ifCond .eq 7, 3) := sorry
theorem dL_law_212 : decode cL_law 212 = .ok (.iconst 1, 1) := sorry
theorem dL_law_213 : decode cL_law 213 = .ok (.goto 4, 3) := sorry
theorem dL_law_216 : decode cL_law 216 = .ok (.iconst 0, 1) := sorry
theorem dL_law_217 : decode cL_law 217 = .ok (.aload_n 3, 1) := sorry
theorem dL_law_218 : decode cL_law 218 = .ok (.invokestatic 82, 3) := sorry
theorem dL_law_221 : decode cL_law 221 = .ok (.istore 5, 2) := sorry
theorem dL_law_223 : decode cL_law 223 = .ok (.aload_n 2, 1) := sorry
theorem dL_law_224 : decode cL_law 224 = .ok (.aload_n 0, 1) := sorry
theorem dL_law_225 : decode cL_law 225 = .ok (.iload 4, 2) := sorry
theorem dL_law_227 : decode cL_law 227 = .ok (.iconst 1, 1) := sorry
theorem dL_law_228 : decode cL_law 228 = .ok (.iadd, 1) := sorry
theorem dL_law_229 : decode cL_law 229 = .ok (.iaload, 1) := sorry
theorem dL_law_230 : decode cL_law 230 = .ok (.aload_n 0, 1) := sorry
theorem dL_law_231 : decode cL_law 231 = .ok (.iload 4, 2) := sorry
theorem dL_law_233 : decode cL_law 233 = .ok (.iconst 2, 1) := sorry
theorem dL_law_234 : decode cL_law 234 = .ok (.iadd, 1) := sorry
theorem dL_law_235 : decode cL_law 235 = .ok (.iaload, 1) := sorry
theorem dL_law_236 : decode cL_law 236 = .ok (.ifCond .eq 7, 3) := sorry
theorem dL_law_239 : decode cL_law 239 = .ok (.iconst 1, 1) := sorry
theorem dL_law_240 : decode cL_law 240 = .ok (.goto 4, 3) := sorry
theorem dL_law_243 : decode cL_law 243 = .ok (.iconst 0, 1) := sorry
theorem dL_law_244 : decode cL_law 244 = .ok (.invokevirtual 85, 3) := sorry
theorem dL_law_247 : decode cL_law 247 = .ok (.istore 6, 2) := sorry
theorem dL_law_249 : decode cL_law 249 = .ok (.aload_n 2, 1) := sorry
theorem dL_law_250 : decode cL_law 250 = .ok (.invokevirtual 79, 3) := sorry
theorem dL_law_253 : decode cL_law 253 = .ok (.iload 5, 2) := sorry
theorem dL_law_255 : decode cL_law 255 = .ok (.if_icmp .eq 5, 3) := sorry
theorem dL_law_258 : decode cL_law 258 = .ok (.iconst 0, 1) := sorry
theorem dL_law_259 : decode cL_law 259 = .ok (.ireturn, 1) := sorry
theorem dL_law_260 : decode cL_law 260 = .ok (.iload 5, 2) := sorry
theorem dL_law_262 : decode cL_law 262 = .ok (.ifCond .ne 22, 3) := sorry
theorem dL_law_265 : decode cL_law 265 = .ok (.aload_n 3, 1) := sorry
theorem dL_law_266 : decode cL_law 266 = .ok (.iconst 0, 1) := sorry
theorem dL_law_267 : decode cL_law 267 = .ok (.laload, 1) := sorry
theorem dL_law_268 : decode cL_law 268 = .ok (.iload 6, 2) := sorry
theorem dL_law_270 : decode cL_law 270 = .ok (.ifCond .eq 7, 3) := sorry
theorem dL_law_273 : decode cL_law 273 = .ok (.lconst 1, 1) := sorry
theorem dL_law_274 : decode cL_law 274 = .ok (.goto 4, 3) := sorry
theorem dL_law_277 : decode cL_law 277 = .ok (.lconst 0, 1) := sorry
theorem dL_law_278 : decode cL_law 278 = .ok (.lcmp, 1) := sorry
theorem dL_law_279 : decode cL_law 279 = .ok (.ifCond .eq 5, 3) := sorry
theorem dL_law_282 : decode cL_law 282 = .ok (.iconst 0, 1) := sorry
theorem dL_law_283 : decode cL_law 283 = .ok (.ireturn, 1) := sorry
theorem dL_law_284 : decode cL_law 284 = .ok (.goto 982, 3) := sorry
theorem dL_law_287 : decode cL_law 287 = .ok (.aload_n 1, 1) := sorry
theorem dL_law_288 : decode cL_law 288 = .ok (.aload_n 0, 1) := sorry
theorem dL_law_289 : decode cL_law 289 = .ok (.iload 4, 2) := sorry
theorem dL_law_291 : decode cL_law 291 = .ok (.iconst 1, 1) := sorry
theorem dL_law_292 : decode cL_law 292 = .ok (.iadd, 1) := sorry
theorem dL_law_293 : decode cL_law 293 = .ok (.iaload, 1) := sorry
theorem dL_law_294 : decode cL_law 294 = .ok (.aload_n 0, 1) := sorry
theorem dL_law_295 : decode cL_law 295 = .ok (.iload 4, 2) := sorry
theorem dL_law_297 : decode cL_law 297 = .ok (.iconst 2, 1) := sorry
theorem dL_law_298 : decode cL_law 298 = .ok (.iadd, 1) := sorry
theorem dL_law_299 : decode cL_law 299 = .ok (.iaload, 1) := sorry
theorem dL_law_300 : decode cL_law 300 = .ok (.aload_n 3, 1) := sorry
theorem dL_law_301 : decode cL_law 301 = .ok (.invokestatic 86, 3) := sorry
theorem dL_law_304 : decode cL_law 304 = .ok (.istore 5, 2) := sorry
theorem dL_law_306 : decode cL_law 306 = .ok (.aload_n 2, 1) := sorry
theorem dL_law_307 : decode cL_law 307 = .ok (.aload_n 0, 1) := sorry
theorem dL_law_308 : decode cL_law 308 = .ok (.iload 4, 2) := sorry
theorem dL_law_310 : decode cL_law 310 = .ok (.iconst 1, 1) := sorry
theorem dL_law_311 : decode cL_law 311 = .ok (.iadd, 1) := sorry
theorem dL_law_312 : decode cL_law 312 = .ok (.iaload, 1) := sorry
theorem dL_law_313 : decode cL_law 313 = .ok (.aload_n 0, 1) := sorry
theorem dL_law_314 : decode cL_law 314 = .ok (.iload 4, 2) := sorry
theorem dL_law_316 : decode cL_law 316 = .ok (.iconst 2, 1) := sorry
theorem dL_law_317 : decode cL_law 317 = .ok (.iadd, 1) := sorry
theorem dL_law_318 : decode cL_law 318 = .ok (.iaload, 1) := sorry
theorem dL_law_319 : decode cL_law 319 = .ok (.invokevirtual 88, 3) := sorry
theorem dL_law_322 : decode cL_law 322 = .ok (.istore 6, 2) := sorry
theorem dL_law_324 : decode cL_law 324 = .ok (.aload_n 2, 1) := sorry
theorem dL_law_325 : decode cL_law 325 = .ok (.invokevirtual 79, 3) := sorry
theorem dL_law_328 : decode cL_law 328 = .ok (.iload 5, 2) := sorry
theorem dL_law_330 : decode cL_law 330 = .ok (.if_icmp .eq 5, 3) := sorry
theorem dL_law_333 : decode cL_law 333 = .ok (.iconst 0, 1) := sorry
theorem dL_law_334 : decode cL_law 334 = .ok (.ireturn, 1) := sorry
theorem dL_law_335 : decode cL_law 335 = .ok (.iload 5, 2) := sorry
theorem dL_law_337 : decode cL_law 337 = .ok (.ifCond .ne 15, 3) := sorry
theorem dL_law_340 : decode cL_law 340 = .ok (.aload_n 3, 1) := sorry
theorem dL_law_341 : decode cL_law 341 = .ok (.iconst 0, 1) := sorry
theorem dL_law_342 : decode cL_law 342 = .ok (.laload, 1) := sorry
theorem dL_law_343 : decode cL_law 343 = .ok (.iload 6, 2) := sorry
theorem dL_law_345 : decode cL_law 345 = .ok (.i2l, 1) := sorry
theorem dL_law_346 : decode cL_law 346 = .ok (.lcmp, 1) := sorry
theorem dL_law_347 : decode cL_law 347 = .ok (.ifCond .eq 5, 3) := sorry
theorem dL_law_350 : decode cL_law 350 = .ok (.iconst 0, 1) := sorry
theorem dL_law_351 : decode cL_law 351 = .ok (.ireturn, 1) := sorry
theorem dL_law_352 : decode cL_law 352 = .ok (.goto 914, 3) := sorry
theorem dL_law_355 : decode cL_law 355 = .ok (.aload_n 1, 1) := sorry
theorem dL_law_356 : decode cL_law 356 = .ok (.aload_n 3, 1) := sorry
theorem dL_law_357 : decode cL_law 357 = .ok (.invokestatic 89, 3) := sorry
theorem dL_law_360 : decode cL_law 360 = .ok (.istore 5, 2) := sorry
theorem dL_law_362 : decode cL_law 362 = .ok (.aload_n 2, 1) := sorry
theorem dL_law_363 : decode cL_law 363 = .ok (.invokevirtual 92, 3) := sorry
theorem dL_law_366 : decode cL_law 366 = .ok (.istore 6, 2) := sorry
theorem dL_law_368 : decode cL_law 368 = .ok (.aload_n 2, 1) := sorry
theorem dL_law_369 : decode cL_law 369 = .ok (.invokevirtual 79, 3) := sorry
theorem dL_law_372 : decode cL_law 372 = .ok (.iload 5, 2) := sorry
theorem dL_law_374 : decode cL_law 374 = .ok (.if_icmp .eq 5, 3) := sorry
theorem dL_law_377 : decode cL_law 377 = .ok (.iconst 0, 1) := sorry
theorem dL_law_378 : decode cL_law 378 = .ok (.ireturn, 1) := sorry
theorem dL_law_379 : decode cL_law 379 = .ok (.iload 5, 2) := sorry
theorem dL_law_381 : decode cL_law 381 = .ok (.ifCond .ne 15, 3) := sorry
theorem dL_law_384 : decode cL_law 384 = .ok (.aload_n 3, 1) := sorry
theorem dL_law_385 : decode cL_law 385 = .ok (.iconst 0, 1) := sorry
theorem dL_law_386 : decode cL_law 386 = .ok (.laload, 1) := sorry
theorem dL_law_387 : decode cL_law 387 = .ok (.iload 6, 2) := sorry
theorem dL_law_389 : decode cL_law 389 = .ok (.i2l, 1) := sorry
theorem dL_law_390 : decode cL_law 390 = .ok (.lcmp, 1) := sorry
theorem dL_law_391 : decode cL_law 391 = .ok (.ifCond .eq 5, 3) := sorry
theorem dL_law_394 : decode cL_law 394 = .ok (.iconst 0, 1) := sorry
theorem dL_law_395 : decode cL_law 395 = .ok (.ireturn, 1) := sorry
theorem dL_law_396 : decode cL_law 396 = .ok (.goto 870, 3) := sorry
theorem dL_law_399 : decode cL_law 399 = .ok (.aload_n 1, 1) := sorry
theorem dL_law_400 : decode cL_law 400 = .ok (.aload_n 0, 1) := sorry
theorem dL_law_401 : decode cL_law 401 = .ok (.iload 4, 2) := sorry
theorem dL_law_403 : decode cL_law 403 = .ok (.iconst 1, 1) := sorry
theorem dL_law_404 : decode cL_law 404 = .ok (.iadd, 1) := sorry
theorem dL_law_405 : decode cL_law 405 = .ok (.iaload, 1) := sorry
theorem dL_law_406 : decode cL_law 406 = .ok (.aload_n 0, 1) := sorry
theorem dL_law_407 : decode cL_law 407 = .ok (.iload 4, 2) := sorry
theorem dL_law_409 : decode cL_law 409 = .ok (.iconst 2, 1) := sorry
theorem dL_law_410 : decode cL_law 410 = .ok (.iadd, 1) := sorry
theorem dL_law_411 : decode cL_law 411 = .ok (.iaload, 1) := sorry
theorem dL_law_412 : decode cL_law 412 = .ok (.aload_n 0, 1) := sorry
theorem dL_law_413 : decode cL_law 413 = .ok (.iload 4, 2) := sorry
theorem dL_law_415 : decode cL_law 415 = .ok (.iconst 3, 1) := sorry
theorem dL_law_416 : decode cL_law 416 = .ok (.iadd, 1) := sorry
theorem dL_law_417 : decode cL_law 417 = .ok (.iaload, 1) := sorry
theorem dL_law_418 : decode cL_law 418 = .ok (.aload_n 3, 1) := sorry
theorem dL_law_419 : decode cL_law 419 = .ok (.invokestatic 93, 3) := sorry
theorem dL_law_422 : decode cL_law 422 = .ok (.istore 5, 2) := sorry
theorem dL_law_424 : decode cL_law 424 = .ok (.aload_n 2, 1) := sorry
theorem dL_law_425 : decode cL_law 425 = .ok (.aload_n 0, 1) := sorry
theorem dL_law_426 : decode cL_law 426 = .ok (.iload 4, 2) := sorry
theorem dL_law_428 : decode cL_law 428 = .ok (.iconst 1, 1) := sorry
theorem dL_law_429 : decode cL_law 429 = .ok (.iadd, 1) := sorry
theorem dL_law_430 : decode cL_law 430 = .ok (.iaload, 1) := sorry
theorem dL_law_431 : decode cL_law 431 = .ok (.aload_n 0, 1) := sorry
theorem dL_law_432 : decode cL_law 432 = .ok (.iload 4, 2) := sorry
theorem dL_law_434 : decode cL_law 434 = .ok (.iconst 2, 1) := sorry
theorem dL_law_435 : decode cL_law 435 = .ok (.iadd, 1) := sorry
theorem dL_law_436 : decode cL_law 436 = .ok (.iaload, 1) := sorry
theorem dL_law_437 : decode cL_law 437 = .ok (.aload_n 0, 1) := sorry
theorem dL_law_438 : decode cL_law 438 = .ok (.iload 4, 2) := sorry
theorem dL_law_440 : decode cL_law 440 = .ok (.iconst 3, 1) := sorry
theorem dL_law_441 : decode cL_law 441 = .ok (.iadd, 1) := sorry
theorem dL_law_442 : decode cL_law 442 = .ok (.iaload, 1) := sorry
theorem dL_law_443 : decode cL_law 443 = .ok (.invokevirtual 96, 3) := sorry
theorem dL_law_446 : decode cL_law 446 = .ok (.istore 6, 2) := sorry
theorem dL_law_448 : decode cL_law 448 = .ok (.aload_n 2, 1) := sorry
theorem dL_law_449 : decode cL_law 449 = .ok (.invokevirtual 79, 3) := sorry
theorem dL_law_452 : decode cL_law 452 = .ok (.iload 5, 2) := sorry
theorem dL_law_454 : decode cL_law 454 = .ok (.if_icmp .eq 5, 3) := sorry
theorem dL_law_457 : decode cL_law 457 = .ok (.iconst 0, 1) := sorry
theorem dL_law_458 : decode cL_law 458 = .ok (.ireturn, 1) := sorry
theorem dL_law_459 : decode cL_law 459 = .ok (.iload 5, 2) := sorry
theorem dL_law_461 : decode cL_law 461 = .ok (.ifCond .ne 15, 3) := sorry
theorem dL_law_464 : decode cL_law 464 = .ok (.aload_n 3, 1) := sorry
theorem dL_law_465 : decode cL_law 465 = .ok (.iconst 0, 1) := sorry
theorem dL_law_466 : decode cL_law 466 = .ok (.laload, 1) := sorry
theorem dL_law_467 : decode cL_law 467 = .ok (.iload 6, 2) := sorry
theorem dL_law_469 : decode cL_law 469 = .ok (.i2l, 1) := sorry
theorem dL_law_470 : decode cL_law 470 = .ok (.lcmp, 1) := sorry
theorem dL_law_471 : decode cL_law 471 = .ok (.ifCond .eq 5, 3) := sorry
theorem dL_law_474 : decode cL_law 474 = .ok (.iconst 0, 1) := sorry
theorem dL_law_475 : decode cL_law 475 = .ok (.ireturn, 1) := sorry
theorem dL_law_476 : decode cL_law 476 = .ok (.goto 790, 3) := sorry
theorem dL_law_479 : decode cL_law 479 = .ok (.aload_n 1, 1) := sorry
theorem dL_law_480 : decode cL_law 480 = .ok (.aload_n 0, 1) := sorry
theorem dL_law_481 : decode cL_law 481 = .ok (.iload 4, 2) := sorry
theorem dL_law_483 : decode cL_law 483 = .ok (.iconst 1, 1) := sorry
theorem dL_law_484 : decode cL_law 484 = .ok (.iadd, 1) := sorry
theorem dL_law_485 : decode cL_law 485 = .ok (.iaload, 1) := sorry
theorem dL_law_486 : decode cL_law 486 = .ok (.aload_n 0, 1) := sorry
theorem dL_law_487 : decode cL_law 487 = .ok (.iload 4, 2) := sorry
theorem dL_law_489 : decode cL_law 489 = .ok (.iconst 2, 1) := sorry
theorem dL_law_490 : decode cL_law 490 = .ok (.iadd, 1) := sorry
theorem dL_law_491 : decode cL_law 491 = .ok (.iaload, 1) := sorry
theorem dL_law_492 : decode cL_law 492 = .ok (.aload_n 3, 1) := sorry
theorem dL_law_493 : decode cL_law 493 = .ok (.invokestatic 97, 3) := sorry
theorem dL_law_496 : decode cL_law 496 = .ok (.istore 5, 2) := sorry
theorem dL_law_498 : decode cL_law 498 = .ok (.aload_n 2, 1) := sorry
theorem dL_law_499 : decode cL_law 499 = .ok (.aload_n 0, 1) := sorry
theorem dL_law_500 : decode cL_law 500 = .ok (.iload 4, 2) := sorry
theorem dL_law_502 : decode cL_law 502 = .ok (.iconst 1, 1) := sorry
theorem dL_law_503 : decode cL_law 503 = .ok (.iadd, 1) := sorry
theorem dL_law_504 : decode cL_law 504 = .ok (.iaload, 1) := sorry
theorem dL_law_505 : decode cL_law 505 = .ok (.aload_n 0, 1) := sorry
theorem dL_law_506 : decode cL_law 506 = .ok (.iload 4, 2) := sorry
theorem dL_law_508 : decode cL_law 508 = .ok (.iconst 2, 1) := sorry
theorem dL_law_509 : decode cL_law 509 = .ok (.iadd, 1) := sorry
theorem dL_law_510 : decode cL_law 510 = .ok (.iaload, 1) := sorry
theorem dL_law_511 : decode cL_law 511 = .ok (.invokevirtual 99, 3) := sorry
theorem dL_law_514 : decode cL_law 514 = .ok (.istore 6, 2) := sorry
theorem dL_law_516 : decode cL_law 516 = .ok (.aload_n 2, 1) := sorry
theorem dL_law_517 : decode cL_law 517 = .ok (.invokevirtual 79, 3) := sorry
theorem dL_law_520 : decode cL_law 520 = .ok (.iload 5, 2) := sorry
theorem dL_law_522 : decode cL_law 522 = .ok (.if_icmp .eq 5, 3) := sorry
theorem dL_law_525 : decode cL_law 525 = .ok (.iconst 0, 1) := sorry
theorem dL_law_526 : decode cL_law 526 = .ok (.ireturn, 1) := sorry
theorem dL_law_527 : decode cL_law 527 = .ok (.iload 5, 2) := sorry
theorem dL_law_529 : decode cL_law 529 = .ok (.ifCond .ne 15, 3) := sorry
theorem dL_law_532 : decode cL_law 532 = .ok (.aload_n 3, 1) := sorry
theorem dL_law_533 : decode cL_law 533 = .ok (.iconst 0, 1) := sorry
theorem dL_law_534 : decode cL_law 534 = .ok (.laload, 1) := sorry
theorem dL_law_535 : decode cL_law 535 = .ok (.iload 6, 2) := sorry
theorem dL_law_537 : decode cL_law 537 = .ok (.i2l, 1) := sorry
theorem dL_law_538 : decode cL_law 538 = .ok (.lcmp, 1) := sorry
theorem dL_law_539 : decode cL_law 539 = .ok (.ifCond .eq 5, 3) := sorry
theorem dL_law_542 : decode cL_law 542 = .ok (.iconst 0, 1) := sorry
theorem dL_law_543 : decode cL_law 543 = .ok (.ireturn, 1) := sorry
theorem dL_law_544 : decode cL_law 544 = .ok (.goto 722, 3) := sorry
theorem dL_law_547 : decode cL_law 547 = .ok (.aload_n 1, 1) := sorry
theorem dL_law_548 : decode cL_law 548 = .ok (.aload_n 0, 1) := sorry
theorem dL_law_549 : decode cL_law 549 = .ok (.iload 4, 2) := sorry
theorem dL_law_551 : decode cL_law 551 = .ok (.iconst 1, 1) := sorry
theorem dL_law_552 : decode cL_law 552 = .ok (.iadd, 1) := sorry
theorem dL_law_553 : decode cL_law 553 = .ok (.iaload, 1) := sorry
theorem dL_law_554 : decode cL_law 554 = .ok (.aload_n 0, 1) := sorry
theorem dL_law_555 : decode cL_law 555 = .ok (.iload 4, 2) := sorry
theorem dL_law_557 : decode cL_law 557 = .ok (.iconst 2, 1) := sorry
theorem dL_law_558 : decode cL_law 558 = .ok (.iadd, 1) := sorry
theorem dL_law_559 : decode cL_law 559 = .ok (.iaload, 1) := sorry
theorem dL_law_560 : decode cL_law 560 = .ok (.aload_n 3, 1) := sorry
theorem dL_law_561 : decode cL_law 561 = .ok (.invokestatic 100, 3) := sorry
theorem dL_law_564 : decode cL_law 564 = .ok (.istore 5, 2) := sorry
theorem dL_law_566 : decode cL_law 566 = .ok (.aload_n 2, 1) := sorry
theorem dL_law_567 : decode cL_law 567 = .ok (.aload_n 0, 1) := sorry
theorem dL_law_568 : decode cL_law 568 = .ok (.iload 4, 2) := sorry
theorem dL_law_570 : decode cL_law 570 = .ok (.iconst 1, 1) := sorry
theorem dL_law_571 : decode cL_law 571 = .ok (.iadd, 1) := sorry
theorem dL_law_572 : decode cL_law 572 = .ok (.iaload, 1) := sorry
theorem dL_law_573 : decode cL_law 573 = .ok (.aload_n 0, 1) := sorry
theorem dL_law_574 : decode cL_law 574 = .ok (.iload 4, 2) := sorry
theorem dL_law_576 : decode cL_law 576 = .ok (.iconst 2, 1) := sorry
theorem dL_law_577 : decode cL_law 577 = .ok (.iadd, 1) := sorry
theorem dL_law_578 : decode cL_law 578 = .ok (.iaload, 1) := sorry
theorem dL_law_579 : decode cL_law 579 = .ok (.invokevirtual 102, 3) := sorry
theorem dL_law_582 : decode cL_law 582 = .ok (.istore 6, 2) := sorry
theorem dL_law_584 : decode cL_law 584 = .ok (.aload_n 2, 1) := sorry
theorem dL_law_585 : decode cL_law 585 = .ok (.invokevirtual 79, 3) := sorry
theorem dL_law_588 : decode cL_law 588 = .ok (.iload 5, 2) := sorry
theorem dL_law_590 : decode cL_law 590 = .ok (.if_icmp .eq 5, 3) := sorry
theorem dL_law_593 : decode cL_law 593 = .ok (.iconst 0, 1) := sorry
theorem dL_law_594 : decode cL_law 594 = .ok (.ireturn, 1) := sorry
theorem dL_law_595 : decode cL_law 595 = .ok (.iload 5, 2) := sorry
theorem dL_law_597 : decode cL_law 597 = .ok (.ifCond .ne 22, 3) := sorry
theorem dL_law_600 : decode cL_law 600 = .ok (.aload_n 3, 1) := sorry
theorem dL_law_601 : decode cL_law 601 = .ok (.iconst 0, 1) := sorry
theorem dL_law_602 : decode cL_law 602 = .ok (.laload, 1) := sorry
theorem dL_law_603 : decode cL_law 603 = .ok (.iload 6, 2) := sorry
theorem dL_law_605 : decode cL_law 605 = .ok (.ifCond .eq 7, 3) := sorry
theorem dL_law_608 : decode cL_law 608 = .ok (.lconst 1, 1) := sorry
theorem dL_law_609 : decode cL_law 609 = .ok (.goto 4, 3) := sorry
theorem dL_law_612 : decode cL_law 612 = .ok (.lconst 0, 1) := sorry
theorem dL_law_613 : decode cL_law 613 = .ok (.lcmp, 1) := sorry
theorem dL_law_614 : decode cL_law 614 = .ok (.ifCond .eq 5, 3) := sorry
theorem dL_law_617 : decode cL_law 617 = .ok (.iconst 0, 1) := sorry
theorem dL_law_618 : decode cL_law 618 = .ok (.ireturn, 1) := sorry
theorem dL_law_619 : decode cL_law 619 = .ok (.goto 647, 3) := sorry
theorem dL_law_622 : decode cL_law 622 = .ok (.aload_n 1, 1) := sorry
theorem dL_law_623 : decode cL_law 623 = .ok (.aload_n 0, 1) := sorry
theorem dL_law_624 : decode cL_law 624 = .ok (.iload 4, 2) := sorry
theorem dL_law_626 : decode cL_law 626 = .ok (.iconst 1, 1) := sorry
theorem dL_law_627 : decode cL_law 627 = .ok (.iadd, 1) := sorry
theorem dL_law_628 : decode cL_law 628 = .ok (.iaload, 1) := sorry
theorem dL_law_629 : decode cL_law 629 = .ok (.aload_n 0, 1) := sorry
theorem dL_law_630 : decode cL_law 630 = .ok (.iload 4, 2) := sorry
theorem dL_law_632 : decode cL_law 632 = .ok (.iconst 2, 1) := sorry
theorem dL_law_633 : decode cL_law 633 = .ok (.iadd, 1) := sorry
theorem dL_law_634 : decode cL_law 634 = .ok (.iaload, 1) := sorry
theorem dL_law_635 : decode cL_law 635 = .ok (.aload_n 3, 1) := sorry
theorem dL_law_636 : decode cL_law 636 = .ok (.invokestatic 103, 3) := sorry
theorem dL_law_639 : decode cL_law 639 = .ok (.istore 5, 2) := sorry
theorem dL_law_641 : decode cL_law 641 = .ok (.aload_n 2, 1) := sorry
theorem dL_law_642 : decode cL_law 642 = .ok (.aload_n 0, 1) := sorry
theorem dL_law_643 : decode cL_law 643 = .ok (.iload 4, 2) := sorry
theorem dL_law_645 : decode cL_law 645 = .ok (.iconst 1, 1) := sorry
theorem dL_law_646 : decode cL_law 646 = .ok (.iadd, 1) := sorry
theorem dL_law_647 : decode cL_law 647 = .ok (.iaload, 1) := sorry
theorem dL_law_648 : decode cL_law 648 = .ok (.aload_n 0, 1) := sorry
theorem dL_law_649 : decode cL_law 649 = .ok (.iload 4, 2) := sorry
theorem dL_law_651 : decode cL_law 651 = .ok (.iconst 2, 1) := sorry
theorem dL_law_652 : decode cL_law 652 = .ok (.iadd, 1) := sorry
theorem dL_law_653 : decode cL_law 653 = .ok (.iaload, 1) := sorry
theorem dL_law_654 : decode cL_law 654 = .ok (.invokevirtual 105, 3) := sorry
theorem dL_law_657 : decode cL_law 657 = .ok (.istore 6, 2) := sorry
theorem dL_law_659 : decode cL_law 659 = .ok (.aload_n 2, 1) := sorry
theorem dL_law_660 : decode cL_law 660 = .ok (.invokevirtual 79, 3) := sorry
theorem dL_law_663 : decode cL_law 663 = .ok (.iload 5, 2) := sorry
theorem dL_law_665 : decode cL_law 665 = .ok (.if_icmp .eq 5, 3) := sorry
theorem dL_law_668 : decode cL_law 668 = .ok (.iconst 0, 1) := sorry
theorem dL_law_669 : decode cL_law 669 = .ok (.ireturn, 1) := sorry
theorem dL_law_670 : decode cL_law 670 = .ok (.iload 5, 2) := sorry
theorem dL_law_672 : decode cL_law 672 = .ok (.ifCond .ne 15, 3) := sorry
theorem dL_law_675 : decode cL_law 675 = .ok (.aload_n 3, 1) := sorry
theorem dL_law_676 : decode cL_law 676 = .ok (.iconst 0, 1) := sorry
theorem dL_law_677 : decode cL_law 677 = .ok (.laload, 1) := sorry
theorem dL_law_678 : decode cL_law 678 = .ok (.iload 6, 2) := sorry
theorem dL_law_680 : decode cL_law 680 = .ok (.i2l, 1) := sorry
theorem dL_law_681 : decode cL_law 681 = .ok (.lcmp, 1) := sorry
theorem dL_law_682 : decode cL_law 682 = .ok (.ifCond .eq 5, 3) := sorry
theorem dL_law_685 : decode cL_law 685 = .ok (.iconst 0, 1) := sorry
theorem dL_law_686 : decode cL_law 686 = .ok (.ireturn, 1) := sorry
theorem dL_law_687 : decode cL_law 687 = .ok (.goto 579, 3) := sorry
theorem dL_law_690 : decode cL_law 690 = .ok (.aload_n 1, 1) := sorry
theorem dL_law_691 : decode cL_law 691 = .ok (.aload_n 0, 1) := sorry
theorem dL_law_692 : decode cL_law 692 = .ok (.iload 4, 2) := sorry
theorem dL_law_694 : decode cL_law 694 = .ok (.iconst 1, 1) := sorry
theorem dL_law_695 : decode cL_law 695 = .ok (.iadd, 1) := sorry
theorem dL_law_696 : decode cL_law 696 = .ok (.iaload, 1) := sorry
theorem dL_law_697 : decode cL_law 697 = .ok (.aload_n 0, 1) := sorry
theorem dL_law_698 : decode cL_law 698 = .ok (.iload 4, 2) := sorry
theorem dL_law_700 : decode cL_law 700 = .ok (.iconst 2, 1) := sorry
theorem dL_law_701 : decode cL_law 701 = .ok (.iadd, 1) := sorry
theorem dL_law_702 : decode cL_law 702 = .ok (.iaload, 1) := sorry
theorem dL_law_703 : decode cL_law 703 = .ok (.aload_n 3, 1) := sorry
theorem dL_law_704 : decode cL_law 704 = .ok (.invokestatic 106, 3) := sorry
theorem dL_law_707 : decode cL_law 707 = .ok (.istore 5, 2) := sorry
theorem dL_law_709 : decode cL_law 709 = .ok (.aload_n 2, 1) := sorry
theorem dL_law_710 : decode cL_law 710 = .ok (.aload_n 0, 1) := sorry
theorem dL_law_711 : decode cL_law 711 = .ok (.iload 4, 2) := sorry
theorem dL_law_713 : decode cL_law 713 = .ok (.iconst 1, 1) := sorry
theorem dL_law_714 : decode cL_law 714 = .ok (.iadd, 1) := sorry
theorem dL_law_715 : decode cL_law 715 = .ok (.iaload, 1) := sorry
theorem dL_law_716 : decode cL_law 716 = .ok (.aload_n 0, 1) := sorry
theorem dL_law_717 : decode cL_law 717 = .ok (.iload 4, 2) := sorry
theorem dL_law_719 : decode cL_law 719 = .ok (.iconst 2, 1) := sorry
theorem dL_law_720 : decode cL_law 720 = .ok (.iadd, 1) := sorry
theorem dL_law_721 : decode cL_law 721 = .ok (.iaload, 1) := sorry
theorem dL_law_722 : decode cL_law 722 = .ok (.invokevirtual 108, 3) := sorry
theorem dL_law_725 : decode cL_law 725 = .ok (.istore 6, 2) := sorry
theorem dL_law_727 : decode cL_law 727 = .ok (.aload_n 2, 1) := sorry
theorem dL_law_728 : decode cL_law 728 = .ok (.invokevirtual 79, 3) := sorry
theorem dL_law_731 : decode cL_law 731 = .ok (.iload 5, 2) := sorry
theorem dL_law_733 : decode cL_law 733 = .ok (.if_icmp .eq 5, 3) := sorry
theorem dL_law_736 : decode cL_law 736 = .ok (.iconst 0, 1) := sorry
theorem dL_law_737 : decode cL_law 737 = .ok (.ireturn, 1) := sorry
theorem dL_law_738 : decode cL_law 738 = .ok (.iload 5, 2) := sorry
theorem dL_law_740 : decode cL_law 740 = .ok (.ifCond .ne 15, 3) := sorry
theorem dL_law_743 : decode cL_law 743 = .ok (.aload_n 3, 1) := sorry
theorem dL_law_744 : decode cL_law 744 = .ok (.iconst 0, 1) := sorry
theorem dL_law_745 : decode cL_law 745 = .ok (.laload, 1) := sorry
theorem dL_law_746 : decode cL_law 746 = .ok (.iload 6, 2) := sorry
theorem dL_law_748 : decode cL_law 748 = .ok (.i2l, 1) := sorry
theorem dL_law_749 : decode cL_law 749 = .ok (.lcmp, 1) := sorry
theorem dL_law_750 : decode cL_law 750 = .ok (.ifCond .eq 5, 3) := sorry
theorem dL_law_753 : decode cL_law 753 = .ok (.iconst 0, 1) := sorry
theorem dL_law_754 : decode cL_law 754 = .ok (.ireturn, 1) := sorry
theorem dL_law_755 : decode cL_law 755 = .ok (.goto 511, 3) := sorry
theorem dL_law_758 : decode cL_law 758 = .ok (.aload_n 1, 1) := sorry
theorem dL_law_759 : decode cL_law 759 = .ok (.aload_n 0, 1) := sorry
theorem dL_law_760 : decode cL_law 760 = .ok (.iload 4, 2) := sorry
theorem dL_law_762 : decode cL_law 762 = .ok (.iconst 1, 1) := sorry
theorem dL_law_763 : decode cL_law 763 = .ok (.iadd, 1) := sorry
theorem dL_law_764 : decode cL_law 764 = .ok (.iaload, 1) := sorry
theorem dL_law_765 : decode cL_law 765 = .ok (.aload_n 0, 1) := sorry
theorem dL_law_766 : decode cL_law 766 = .ok (.iload 4, 2) := sorry
theorem dL_law_768 : decode cL_law 768 = .ok (.iconst 2, 1) := sorry
theorem dL_law_769 : decode cL_law 769 = .ok (.iadd, 1) := sorry
theorem dL_law_770 : decode cL_law 770 = .ok (.iaload, 1) := sorry
theorem dL_law_771 : decode cL_law 771 = .ok (.aload_n 3, 1) := sorry
theorem dL_law_772 : decode cL_law 772 = .ok (.invokestatic 109, 3) := sorry
theorem dL_law_775 : decode cL_law 775 = .ok (.istore 5, 2) := sorry
theorem dL_law_777 : decode cL_law 777 = .ok (.aload_n 2, 1) := sorry
theorem dL_law_778 : decode cL_law 778 = .ok (.aload_n 0, 1) := sorry
theorem dL_law_779 : decode cL_law 779 = .ok (.iload 4, 2) := sorry
theorem dL_law_781 : decode cL_law 781 = .ok (.iconst 1, 1) := sorry
theorem dL_law_782 : decode cL_law 782 = .ok (.iadd, 1) := sorry
theorem dL_law_783 : decode cL_law 783 = .ok (.iaload, 1) := sorry
theorem dL_law_784 : decode cL_law 784 = .ok (.aload_n 0, 1) := sorry
theorem dL_law_785 : decode cL_law 785 = .ok (.iload 4, 2) := sorry
theorem dL_law_787 : decode cL_law 787 = .ok (.iconst 2, 1) := sorry
theorem dL_law_788 : decode cL_law 788 = .ok (.iadd, 1) := sorry
theorem dL_law_789 : decode cL_law 789 = .ok (.iaload, 1) := sorry
theorem dL_law_790 : decode cL_law 790 = .ok (.invokevirtual 111, 3) := sorry
theorem dL_law_793 : decode cL_law 793 = .ok (.istore 6, 2) := sorry
theorem dL_law_795 : decode cL_law 795 = .ok (.aload_n 2, 1) := sorry
theorem dL_law_796 : decode cL_law 796 = .ok (.invokevirtual 79, 3) := sorry
theorem dL_law_799 : decode cL_law 799 = .ok (.iload 5, 2) := sorry
theorem dL_law_801 : decode cL_law 801 = .ok (.if_icmp .eq 5, 3) := sorry
theorem dL_law_804 : decode cL_law 804 = .ok (.iconst 0, 1) := sorry
theorem dL_law_805 : decode cL_law 805 = .ok (.ireturn, 1) := sorry
theorem dL_law_806 : decode cL_law 806 = .ok (.iload 5, 2) := sorry
theorem dL_law_808 : decode cL_law 808 = .ok (.ifCond .ne 15, 3) := sorry
theorem dL_law_811 : decode cL_law 811 = .ok (.aload_n 3, 1) := sorry
theorem dL_law_812 : decode cL_law 812 = .ok (.iconst 0, 1) := sorry
theorem dL_law_813 : decode cL_law 813 = .ok (.laload, 1) := sorry
theorem dL_law_814 : decode cL_law 814 = .ok (.iload 6, 2) := sorry
theorem dL_law_816 : decode cL_law 816 = .ok (.i2l, 1) := sorry
theorem dL_law_817 : decode cL_law 817 = .ok (.lcmp, 1) := sorry
theorem dL_law_818 : decode cL_law 818 = .ok (.ifCond .eq 5, 3) := sorry
theorem dL_law_821 : decode cL_law 821 = .ok (.iconst 0, 1) := sorry
theorem dL_law_822 : decode cL_law 822 = .ok (.ireturn, 1) := sorry
theorem dL_law_823 : decode cL_law 823 = .ok (.goto 443, 3) := sorry
theorem dL_law_826 : decode cL_law 826 = .ok (.aload_n 1, 1) := sorry
theorem dL_law_827 : decode cL_law 827 = .ok (.aload_n 0, 1) := sorry
theorem dL_law_828 : decode cL_law 828 = .ok (.iload 4, 2) := sorry
theorem dL_law_830 : decode cL_law 830 = .ok (.iconst 1, 1) := sorry
theorem dL_law_831 : decode cL_law 831 = .ok (.iadd, 1) := sorry
theorem dL_law_832 : decode cL_law 832 = .ok (.iaload, 1) := sorry
theorem dL_law_833 : decode cL_law 833 = .ok (.aload_n 3, 1) := sorry
theorem dL_law_834 : decode cL_law 834 = .ok (.invokestatic 112, 3) := sorry
theorem dL_law_837 : decode cL_law 837 = .ok (.istore 5, 2) := sorry
theorem dL_law_839 : decode cL_law 839 = .ok (.aload_n 2, 1) := sorry
theorem dL_law_840 : decode cL_law 840 = .ok (.aload_n 0, 1) := sorry
theorem dL_law_841 : decode cL_law 841 = .ok (.iload 4, 2) := sorry
theorem dL_law_843 : decode cL_law 843 = .ok (.iconst 1, 1) := sorry
theorem dL_law_844 : decode cL_law 844 = .ok (.iadd, 1) := sorry
theorem dL_law_845 : decode cL_law 845 = .ok (.iaload, 1) := sorry
theorem dL_law_846 : decode cL_law 846 = .ok (.invokevirtual 115, 3) := sorry
theorem dL_law_849 : decode cL_law 849 = .ok (.istore 6, 2) := sorry
theorem dL_law_851 : decode cL_law 851 = .ok (.aload_n 2, 1) := sorry
theorem dL_law_852 : decode cL_law 852 = .ok (.invokevirtual 79, 3) := sorry
theorem dL_law_855 : decode cL_law 855 = .ok (.iload 5, 2) := sorry
theorem dL_law_857 : decode cL_law 857 = .ok (.if_icmp .eq 5, 3) := sorry
theorem dL_law_860 : decode cL_law 860 = .ok (.iconst 0, 1) := sorry
theorem dL_law_861 : decode cL_law 861 = .ok (.ireturn, 1) := sorry
theorem dL_law_862 : decode cL_law 862 = .ok (.iload 5, 2) := sorry
theorem dL_law_864 : decode cL_law 864 = .ok (.ifCond .ne 15, 3) := sorry
theorem dL_law_867 : decode cL_law 867 = .ok (.aload_n 3, 1) := sorry
theorem dL_law_868 : decode cL_law 868 = .ok (.iconst 0, 1) := sorry
theorem dL_law_869 : decode cL_law 869 = .ok (.laload, 1) := sorry
theorem dL_law_870 : decode cL_law 870 = .ok (.iload 6, 2) := sorry
theorem dL_law_872 : decode cL_law 872 = .ok (.i2l, 1) := sorry
theorem dL_law_873 : decode cL_law 873 = .ok (.lcmp, 1) := sorry
theorem dL_law_874 : decode cL_law 874 = .ok (.ifCond .eq 5, 3) := sorry
theorem dL_law_877 : decode cL_law 877 = .ok (.iconst 0, 1) := sorry
theorem dL_law_878 : decode cL_law 878 = .ok (.ireturn, 1) := sorry
theorem dL_law_879 : decode cL_law 879 = .ok (.goto 387, 3) := sorry
theorem dL_law_882 : decode cL_law 882 = .ok (.aload_n 1, 1) := sorry
theorem dL_law_883 : decode cL_law 883 = .ok (.aload_n 0, 1) := sorry
theorem dL_law_884 : decode cL_law 884 = .ok (.iload 4, 2) := sorry
theorem dL_law_886 : decode cL_law 886 = .ok (.iconst 1, 1) := sorry
theorem dL_law_887 : decode cL_law 887 = .ok (.iadd, 1) := sorry
theorem dL_law_888 : decode cL_law 888 = .ok (.iaload, 1) := sorry
theorem dL_law_889 : decode cL_law 889 = .ok (.aload_n 3, 1) := sorry
theorem dL_law_890 : decode cL_law 890 = .ok (.invokestatic 116, 3) := sorry
theorem dL_law_893 : decode cL_law 893 = .ok (.istore 5, 2) := sorry
theorem dL_law_895 : decode cL_law 895 = .ok (.aload_n 2, 1) := sorry
theorem dL_law_896 : decode cL_law 896 = .ok (.aload_n 0, 1) := sorry
theorem dL_law_897 : decode cL_law 897 = .ok (.iload 4, 2) := sorry
theorem dL_law_899 : decode cL_law 899 = .ok (.iconst 1, 1) := sorry
theorem dL_law_900 : decode cL_law 900 = .ok (.iadd, 1) := sorry
theorem dL_law_901 : decode cL_law 901 = .ok (.iaload, 1) := sorry
theorem dL_law_902 : decode cL_law 902 = .ok (.invokevirtual 118, 3) := sorry
theorem dL_law_905 : decode cL_law 905 = .ok (.istore 6, 2) := sorry
theorem dL_law_907 : decode cL_law 907 = .ok (.aload_n 2, 1) := sorry
theorem dL_law_908 : decode cL_law 908 = .ok (.invokevirtual 79, 3) := sorry
theorem dL_law_911 : decode cL_law 911 = .ok (.iload 5, 2) := sorry
theorem dL_law_913 : decode cL_law 913 = .ok (.if_icmp .eq 5, 3) := sorry
theorem dL_law_916 : decode cL_law 916 = .ok (.iconst 0, 1) := sorry
theorem dL_law_917 : decode cL_law 917 = .ok (.ireturn, 1) := sorry
theorem dL_law_918 : decode cL_law 918 = .ok (.iload 5, 2) := sorry
theorem dL_law_920 : decode cL_law 920 = .ok (.ifCond .ne 15, 3) := sorry
theorem dL_law_923 : decode cL_law 923 = .ok (.aload_n 3, 1) := sorry
theorem dL_law_924 : decode cL_law 924 = .ok (.iconst 0, 1) := sorry
theorem dL_law_925 : decode cL_law 925 = .ok (.laload, 1) := sorry
theorem dL_law_926 : decode cL_law 926 = .ok (.iload 6, 2) := sorry
theorem dL_law_928 : decode cL_law 928 = .ok (.i2l, 1) := sorry
theorem dL_law_929 : decode cL_law 929 = .ok (.lcmp, 1) := sorry
theorem dL_law_930 : decode cL_law 930 = .ok (.ifCond .eq 5, 3) := sorry
theorem dL_law_933 : decode cL_law 933 = .ok (.iconst 0, 1) := sorry
theorem dL_law_934 : decode cL_law 934 = .ok (.ireturn, 1) := sorry
theorem dL_law_935 : decode cL_law 935 = .ok (.goto 331, 3) := sorry
theorem dL_law_938 : decode cL_law 938 = .ok (.aload_n 1, 1) := sorry
theorem dL_law_939 : decode cL_law 939 = .ok (.aload_n 0, 1) := sorry
theorem dL_law_940 : decode cL_law 940 = .ok (.iload 4, 2) := sorry
theorem dL_law_942 : decode cL_law 942 = .ok (.iconst 1, 1) := sorry
theorem dL_law_943 : decode cL_law 943 = .ok (.iadd, 1) := sorry
theorem dL_law_944 : decode cL_law 944 = .ok (.iaload, 1) := sorry
theorem dL_law_945 : decode cL_law 945 = .ok (.aload_n 3, 1) := sorry
theorem dL_law_946 : decode cL_law 946 = .ok (.invokestatic 119, 3) := sorry
theorem dL_law_949 : decode cL_law 949 = .ok (.istore 5, 2) := sorry
theorem dL_law_951 : decode cL_law 951 = .ok (.aload_n 2, 1) := sorry
theorem dL_law_952 : decode cL_law 952 = .ok (.aload_n 0, 1) := sorry
theorem dL_law_953 : decode cL_law 953 = .ok (.iload 4, 2) := sorry
theorem dL_law_955 : decode cL_law 955 = .ok (.iconst 1, 1) := sorry
theorem dL_law_956 : decode cL_law 956 = .ok (.iadd, 1) := sorry
theorem dL_law_957 : decode cL_law 957 = .ok (.iaload, 1) := sorry
theorem dL_law_958 : decode cL_law 958 = .ok (.invokevirtual 121, 3) := sorry
theorem dL_law_961 : decode cL_law 961 = .ok (.istore 6, 2) := sorry
theorem dL_law_963 : decode cL_law 963 = .ok (.aload_n 2, 1) := sorry
theorem dL_law_964 : decode cL_law 964 = .ok (.invokevirtual 79, 3) := sorry
theorem dL_law_967 : decode cL_law 967 = .ok (.iload 5, 2) := sorry
theorem dL_law_969 : decode cL_law 969 = .ok (.if_icmp .eq 5, 3) := sorry
theorem dL_law_972 : decode cL_law 972 = .ok (.iconst 0, 1) := sorry
theorem dL_law_973 : decode cL_law 973 = .ok (.ireturn, 1) := sorry
theorem dL_law_974 : decode cL_law 974 = .ok (.iload 5, 2) := sorry
theorem dL_law_976 : decode cL_law 976 = .ok (.ifCond .ne 15, 3) := sorry
theorem dL_law_979 : decode cL_law 979 = .ok (.aload_n 3, 1) := sorry
theorem dL_law_980 : decode cL_law 980 = .ok (.iconst 0, 1) := sorry
theorem dL_law_981 : decode cL_law 981 = .ok (.laload, 1) := sorry
theorem dL_law_982 : decode cL_law 982 = .ok (.iload 6, 2) := sorry
theorem dL_law_984 : decode cL_law 984 = .ok (.i2l, 1) := sorry
theorem dL_law_985 : decode cL_law 985 = .ok (.lcmp, 1) := sorry
theorem dL_law_986 : decode cL_law 986 = .ok (.ifCond .eq 5, 3) := sorry
theorem dL_law_989 : decode cL_law 989 = .ok (.iconst 0, 1) := sorry
theorem dL_law_990 : decode cL_law 990 = .ok (.ireturn, 1) := sorry
theorem dL_law_991 : decode cL_law 991 = .ok (.goto 275, 3) := sorry
theorem dL_law_994 : decode cL_law 994 = .ok (.aload_n 1, 1) := sorry
theorem dL_law_995 : decode cL_law 995 = .ok (.aload_n 0, 1) := sorry
theorem dL_law_996 : decode cL_law 996 = .ok (.iload 4, 2) := sorry
theorem dL_law_998 : decode cL_law 998 = .ok (.iconst 1, 1) := sorry
theorem dL_law_999 : decode cL_law 999 = .ok (.iadd, 1) := sorry
theorem dL_law_1000 : decode cL_law 1000 = .ok (.iaload, 1) := sorry
theorem dL_law_1001 : decode cL_law 1001 = .ok (.aload_n 0, 1) := sorry
theorem dL_law_1002 : decode cL_law 1002 = .ok (.iload 4, 2) := sorry
theorem dL_law_1004 : decode cL_law 1004 = .ok (.iconst 2, 1) := sorry
theorem dL_law_1005 : decode cL_law 1005 = .ok (.iadd, 1) := sorry
theorem dL_law_1006 : decode cL_law 1006 = .ok (.iaload, 1) := sorry
theorem dL_law_1007 : decode cL_law 1007 = .ok (.aload_n 3, 1) := sorry
theorem dL_law_1008 : decode cL_law 1008 = .ok (.invokestatic 122, 3) := sorry
theorem dL_law_1011 : decode cL_law 1011 = .ok (.istore 5, 2) := sorry
theorem dL_law_1013 : decode cL_law 1013 = .ok (.aload_n 2, 1) := sorry
theorem dL_law_1014 : decode cL_law 1014 = .ok (.aload_n 0, 1) := sorry
theorem dL_law_1015 : decode cL_law 1015 = .ok (.iload 4, 2) := sorry
theorem dL_law_1017 : decode cL_law 1017 = .ok (.iconst 1, 1) := sorry
theorem dL_law_1018 : decode cL_law 1018 = .ok (.iadd, 1) := sorry
theorem dL_law_1019 : decode cL_law 1019 = .ok (.iaload, 1) := sorry
theorem dL_law_1020 : decode cL_law 1020 = .ok (.aload_n 0, 1) := sorry
theorem dL_law_1021 : decode cL_law 1021 = .ok (.iload 4, 2) := sorry
theorem dL_law_1023 : decode cL_law 1023 = .ok (.iconst 2, 1) := sorry
theorem dL_law_1024 : decode cL_law 1024 = .ok (.iadd, 1) := sorry
theorem dL_law_1025 : decode cL_law 1025 = .ok (.iaload, 1) := sorry
theorem dL_law_1026 : decode cL_law 1026 = .ok (.invokevirtual 124, 3) := sorry
theorem dL_law_1029 : decode cL_law 1029 = .ok (.istore 6, 2) := sorry
theorem dL_law_1031 : decode cL_law 1031 = .ok (.aload_n 2, 1) := sorry
theorem dL_law_1032 : decode cL_law 1032 = .ok (.invokevirtual 79, 3) := sorry
theorem dL_law_1035 : decode cL_law 1035 = .ok (.iload 5, 2) := sorry
theorem dL_law_1037 : decode cL_law 1037 = .ok (.if_icmp .eq 5, 3) := sorry
theorem dL_law_1040 : decode cL_law 1040 = .ok (.iconst 0, 1) := sorry
theorem dL_law_1041 : decode cL_law 1041 = .ok (.ireturn, 1) := sorry
theorem dL_law_1042 : decode cL_law 1042 = .ok (.iload 5, 2) := sorry
theorem dL_law_1044 : decode cL_law 1044 = .ok (.ifCond .ne 15, 3) := sorry
theorem dL_law_1047 : decode cL_law 1047 = .ok (.aload_n 3, 1) := sorry
theorem dL_law_1048 : decode cL_law 1048 = .ok (.iconst 0, 1) := sorry
theorem dL_law_1049 : decode cL_law 1049 = .ok (.laload, 1) := sorry
theorem dL_law_1050 : decode cL_law 1050 = .ok (.iload 6, 2) := sorry
theorem dL_law_1052 : decode cL_law 1052 = .ok (.i2l, 1) := sorry
theorem dL_law_1053 : decode cL_law 1053 = .ok (.lcmp, 1) := sorry
theorem dL_law_1054 : decode cL_law 1054 = .ok (.ifCond .eq 5, 3) := sorry
theorem dL_law_1057 : decode cL_law 1057 = .ok (.iconst 0, 1) := sorry
theorem dL_law_1058 : decode cL_law 1058 = .ok (.ireturn, 1) := sorry
theorem dL_law_1059 : decode cL_law 1059 = .ok (.goto 207, 3) := sorry
theorem dL_law_1062 : decode cL_law 1062 = .ok (.aload_n 1, 1) := sorry
theorem dL_law_1063 : decode cL_law 1063 = .ok (.aload_n 0, 1) := sorry
theorem dL_law_1064 : decode cL_law 1064 = .ok (.iload 4, 2) := sorry
theorem dL_law_1066 : decode cL_law 1066 = .ok (.iconst 1, 1) := sorry
theorem dL_law_1067 : decode cL_law 1067 = .ok (.iadd, 1) := sorry
theorem dL_law_1068 : decode cL_law 1068 = .ok (.iaload, 1) := sorry
theorem dL_law_1069 : decode cL_law 1069 = .ok (.aload_n 0, 1) := sorry
theorem dL_law_1070 : decode cL_law 1070 = .ok (.iload 4, 2) := sorry
theorem dL_law_1072 : decode cL_law 1072 = .ok (.iconst 2, 1) := sorry
theorem dL_law_1073 : decode cL_law 1073 = .ok (.iadd, 1) := sorry
theorem dL_law_1074 : decode cL_law 1074 = .ok (.iaload, 1) := sorry
theorem dL_law_1075 : decode cL_law 1075 = .ok (.aload_n 3, 1) := sorry
theorem dL_law_1076 : decode cL_law 1076 = .ok (.invokestatic 125, 3) := sorry
theorem dL_law_1079 : decode cL_law 1079 = .ok (.istore 5, 2) := sorry
theorem dL_law_1081 : decode cL_law 1081 = .ok (.aload_n 2, 1) := sorry
theorem dL_law_1082 : decode cL_law 1082 = .ok (.aload_n 0, 1) := sorry
theorem dL_law_1083 : decode cL_law 1083 = .ok (.iload 4, 2) := sorry
theorem dL_law_1085 : decode cL_law 1085 = .ok (.iconst 1, 1) := sorry
theorem dL_law_1086 : decode cL_law 1086 = .ok (.iadd, 1) := sorry
theorem dL_law_1087 : decode cL_law 1087 = .ok (.iaload, 1) := sorry
theorem dL_law_1088 : decode cL_law 1088 = .ok (.aload_n 0, 1) := sorry
theorem dL_law_1089 : decode cL_law 1089 = .ok (.iload 4, 2) := sorry
theorem dL_law_1091 : decode cL_law 1091 = .ok (.iconst 2, 1) := sorry
theorem dL_law_1092 : decode cL_law 1092 = .ok (.iadd, 1) := sorry
theorem dL_law_1093 : decode cL_law 1093 = .ok (.iaload, 1) := sorry
theorem dL_law_1094 : decode cL_law 1094 = .ok (.invokevirtual 127, 3) := sorry
theorem dL_law_1097 : decode cL_law 1097 = .ok (.istore 6, 2) := sorry
theorem dL_law_1099 : decode cL_law 1099 = .ok (.aload_n 2, 1) := sorry
theorem dL_law_1100 : decode cL_law 1100 = .ok (.invokevirtual 79, 3) := sorry
theorem dL_law_1103 : decode cL_law 1103 = .ok (.iload 5, 2) := sorry
theorem dL_law_1105 : decode cL_law 1105 = .ok (.if_icmp .eq 5, 3) := sorry
theorem dL_law_1108 : decode cL_law 1108 = .ok (.iconst 0, 1) := sorry
theorem dL_law_1109 : decode cL_law 1109 = .ok (.ireturn, 1) := sorry
theorem dL_law_1110 : decode cL_law 1110 = .ok (.iload 5, 2) := sorry
theorem dL_law_1112 : decode cL_law 1112 = .ok (.ifCond .ne 15, 3) := sorry
theorem dL_law_1115 : decode cL_law 1115 = .ok (.aload_n 3, 1) := sorry
theorem dL_law_1116 : decode cL_law 1116 = .ok (.iconst 0, 1) := sorry
theorem dL_law_1117 : decode cL_law 1117 = .ok (.laload, 1) := sorry
theorem dL_law_1118 : decode cL_law 1118 = .ok (.iload 6, 2) := sorry
theorem dL_law_1120 : decode cL_law 1120 = .ok (.i2l, 1) := sorry
theorem dL_law_1121 : decode cL_law 1121 = .ok (.lcmp, 1) := sorry
theorem dL_law_1122 : decode cL_law 1122 = .ok (.ifCond .eq 5, 3) := sorry
theorem dL_law_1125 : decode cL_law 1125 = .ok (.iconst 0, 1) := sorry
theorem dL_law_1126 : decode cL_law 1126 = .ok (.ireturn, 1) := sorry
theorem dL_law_1127 : decode cL_law 1127 = .ok (.goto 139, 3) := sorry
theorem dL_law_1130 : decode cL_law 1130 = .ok (.aload_n 1, 1) := sorry
theorem dL_law_1131 : decode cL_law 1131 = .ok (.aload_n 0, 1) := sorry
theorem dL_law_1132 : decode cL_law 1132 = .ok (.iload 4, 2) := sorry
theorem dL_law_1134 : decode cL_law 1134 = .ok (.iconst 1, 1) := sorry
theorem dL_law_1135 : decode cL_law 1135 = .ok (.iadd, 1) := sorry
theorem dL_law_1136 : decode cL_law 1136 = .ok (.iaload, 1) := sorry
theorem dL_law_1137 : decode cL_law 1137 = .ok (.aload_n 0, 1) := sorry
theorem dL_law_1138 : decode cL_law 1138 = .ok (.iload 4, 2) := sorry
theorem dL_law_1140 : decode cL_law 1140 = .ok (.iconst 2, 1) := sorry
theorem dL_law_1141 : decode cL_law 1141 = .ok (.iadd, 1) := sorry
theorem dL_law_1142 : decode cL_law 1142 = .ok (.iaload, 1) := sorry
theorem dL_law_1143 : decode cL_law 1143 = .ok (.aload_n 3, 1) := sorry
theorem dL_law_1144 : decode cL_law 1144 = .ok (.invokestatic 128, 3) := sorry
theorem dL_law_1147 : decode cL_law 1147 = .ok (.istore 5, 2) := sorry
theorem dL_law_1149 : decode cL_law 1149 = .ok (.aload_n 2, 1) := sorry
theorem dL_law_1150 : decode cL_law 1150 = .ok (.aload_n 0, 1) := sorry
theorem dL_law_1151 : decode cL_law 1151 = .ok (.iload 4, 2) := sorry
theorem dL_law_1153 : decode cL_law 1153 = .ok (.iconst 1, 1) := sorry
theorem dL_law_1154 : decode cL_law 1154 = .ok (.iadd, 1) := sorry
theorem dL_law_1155 : decode cL_law 1155 = .ok (.iaload, 1) := sorry
theorem dL_law_1156 : decode cL_law 1156 = .ok (.aload_n 0, 1) := sorry
theorem dL_law_1157 : decode cL_law 1157 = .ok (.iload 4, 2) := sorry
theorem dL_law_1159 : decode cL_law 1159 = .ok (.iconst 2, 1) := sorry
theorem dL_law_1160 : decode cL_law 1160 = .ok (.iadd, 1) := sorry
theorem dL_law_1161 : decode cL_law 1161 = .ok (.iaload, 1) := sorry
theorem dL_law_1162 : decode cL_law 1162 = .ok (.invokevirtual 130, 3) := sorry
theorem dL_law_1165 : decode cL_law 1165 = .ok (.istore 6, 2) := sorry
theorem dL_law_1167 : decode cL_law 1167 = .ok (.aload_n 2, 1) := sorry
theorem dL_law_1168 : decode cL_law 1168 = .ok (.invokevirtual 79, 3) := sorry
theorem dL_law_1171 : decode cL_law 1171 = .ok (.iload 5, 2) := sorry
theorem dL_law_1173 : decode cL_law 1173 = .ok (.if_icmp .eq 5, 3) := sorry
theorem dL_law_1176 : decode cL_law 1176 = .ok (.iconst 0, 1) := sorry
theorem dL_law_1177 : decode cL_law 1177 = .ok (.ireturn, 1) := sorry
theorem dL_law_1178 : decode cL_law 1178 = .ok (.iload 5, 2) := sorry
theorem dL_law_1180 : decode cL_law 1180 = .ok (.ifCond .ne 15, 3) := sorry
theorem dL_law_1183 : decode cL_law 1183 = .ok (.aload_n 3, 1) := sorry
theorem dL_law_1184 : decode cL_law 1184 = .ok (.iconst 0, 1) := sorry
theorem dL_law_1185 : decode cL_law 1185 = .ok (.laload, 1) := sorry
theorem dL_law_1186 : decode cL_law 1186 = .ok (.iload 6, 2) := sorry
theorem dL_law_1188 : decode cL_law 1188 = .ok (.i2l, 1) := sorry
theorem dL_law_1189 : decode cL_law 1189 = .ok (.lcmp, 1) := sorry
theorem dL_law_1190 : decode cL_law 1190 = .ok (.ifCond .eq 5, 3) := sorry
theorem dL_law_1193 : decode cL_law 1193 = .ok (.iconst 0, 1) := sorry
theorem dL_law_1194 : decode cL_law 1194 = .ok (.ireturn, 1) := sorry
theorem dL_law_1195 : decode cL_law 1195 = .ok (.goto 71, 3) := sorry
theorem dL_law_1198 : decode cL_law 1198 = .ok (.aload_n 1, 1) := sorry
theorem dL_law_1199 : decode cL_law 1199 = .ok (.invokevirtual 131, 3) := sorry
theorem dL_law_1202 : decode cL_law 1202 = .ok (.aload_n 2, 1) := sorry
theorem dL_law_1203 : decode cL_law 1203 = .ok (.invokevirtual 134, 3) := sorry
theorem dL_law_1206 : decode cL_law 1206 = .ok (.if_icmp .eq 60, 3) := sorry
theorem dL_law_1209 : decode cL_law 1209 = .ok (.iconst 0, 1) := sorry
theorem dL_law_1210 : decode cL_law 1210 = .ok (.ireturn, 1) := sorry
theorem dL_law_1211 : decode cL_law 1211 = .ok (.aload_n 1, 1) := sorry
theorem dL_law_1212 : decode cL_law 1212 = .ok (.invokevirtual 135, 3) := sorry
theorem dL_law_1215 : decode cL_law 1215 = .ok (.dstore 5, 2) := sorry
theorem dL_law_1217 : decode cL_law 1217 = .ok (.aload_n 2, 1) := sorry
theorem dL_law_1218 : decode cL_law 1218 = .ok (.invokevirtual 139, 3) := sorry
theorem dL_law_1221 : decode cL_law 1221 = .ok (.dstore 7, 2) := sorry
theorem dL_law_1223 : decode cL_law 1223 = .ok (.dload 5, 2) := sorry
theorem dL_law_1225 : decode cL_law 1225 = .ok (.dload 7, 2) := sorry
theorem dL_law_1227 : decode cL_law 1227 = .ok (.dcmp .l, 1) := sorry
theorem dL_law_1228 : decode cL_law 1228 = .ok (.ifCond .eq 21, 3) := sorry
theorem dL_law_1231 : decode cL_law 1231 = .ok (.dload 5, 2) := sorry
theorem dL_law_1233 : decode cL_law 1233 = .ok (.dload 5, 2) := sorry
theorem dL_law_1235 : decode cL_law 1235 = .ok (.dcmp .l, 1) := sorry
theorem dL_law_1236 : decode cL_law 1236 = .ok (.ifCond .eq 11, 3) := sorry
theorem dL_law_1239 : decode cL_law 1239 = .ok (.dload 7, 2) := sorry
theorem dL_law_1241 : decode cL_law 1241 = .ok (.dload 7, 2) := sorry
theorem dL_law_1243 : decode cL_law 1243 = .ok (.dcmp .l, 1) := sorry
theorem dL_law_1244 : decode cL_law 1244 = .ok (.ifCond .ne 5, 3) := sorry
theorem dL_law_1247 : decode cL_law 1247 = .ok (.iconst 0, 1) := sorry
theorem dL_law_1248 : decode cL_law 1248 = .ok (.ireturn, 1) := sorry
theorem dL_law_1249 : decode cL_law 1249 = .ok (.goto 17, 3) := sorry
theorem dL_law_1252 : decode cL_law 1252 = .ok (.aload_n 1, 1) := sorry
theorem dL_law_1253 : decode cL_law 1253 = .ok (.invokevirtual 140, 3) := sorry
theorem dL_law_1256 : decode cL_law 1256 = .ok (.aload_n 2, 1) := sorry
theorem dL_law_1257 : decode cL_law 1257 = .ok (.invokevirtual 144, 3) := sorry
theorem dL_law_1260 : decode cL_law 1260 = .ok (.lcmp, 1) := sorry
theorem dL_law_1261 : decode cL_law 1261 = .ok (.ifCond .eq 5, 3) := sorry
theorem dL_law_1264 : decode cL_law 1264 = .ok (.iconst 0, 1) := sorry
theorem dL_law_1265 : decode cL_law 1265 = .ok (.ireturn, 1) := sorry
theorem dL_law_1266 : decode cL_law 1266 = .ok (.iinc 4 4, 3) := sorry
theorem dL_law_1269 : decode cL_law 1269 = .ok (.goto (-1246), 3) := sorry
theorem dL_law_1272 : decode cL_law 1272 = .ok (.iconst 1, 1) := sorry
theorem dL_law_1273 : decode cL_law 1273 = .ok (.ireturn, 1) := sorry
