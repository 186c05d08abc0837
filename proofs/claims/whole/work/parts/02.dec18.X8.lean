theorem dX8_ways_193 : decode cX8_ways 193 = .ok (.iload 4, 2) := by decide +kernel
theorem dX8_ways_195 : decode cX8_ways 195 = .ok (.if_icmp .gt 81, 3) := by decide +kernel
theorem dX8_ways_198 : decode cX8_ways 198 = .ok (.aload_n 0, 1) := by decide +kernel
theorem dX8_ways_199 : decode cX8_ways 199 = .ok (.getfield 43, 3) := by decide +kernel
theorem dX8_ways_202 : decode cX8_ways 202 = .ok (.iload 11, 2) := by decide +kernel
theorem dX8_ways_204 : decode cX8_ways 204 = .ok (.laload, 1) := by decide +kernel
theorem dX8_ways_205 : decode cX8_ways 205 = .ok (.iload 12, 2) := by decide +kernel
theorem dX8_ways_207 : decode cX8_ways 207 = .ok (.i2l, 1) := by decide +kernel
theorem dX8_ways_208 : decode cX8_ways 208 = .ok (.lload 9, 2) := by decide +kernel
theorem dX8_ways_210 : decode cX8_ways 210 = .ok (.lmul, 1) := by decide +kernel
theorem dX8_ways_211 : decode cX8_ways 211 = .ok (.lcmp, 1) := by decide +kernel
theorem dX8_ways_212 : decode cX8_ways 212 = .ok (.ifCond .lt 64, 3) := by decide +kernel
theorem dX8_ways_215 : decode cX8_ways 215 = .ok (.aload_n 0, 1) := by decide +kernel
theorem dX8_ways_216 : decode cX8_ways 216 = .ok (.getfield 43, 3) := by decide +kernel
theorem dX8_ways_219 : decode cX8_ways 219 = .ok (.iload 11, 2) := by decide +kernel
theorem dX8_ways_221 : decode cX8_ways 221 = .ok (.laload, 1) := by decide +kernel
theorem dX8_ways_222 : decode cX8_ways 222 = .ok (.iload 12, 2) := by decide +kernel
theorem dX8_ways_224 : decode cX8_ways 224 = .ok (.i2l, 1) := by decide +kernel
theorem dX8_ways_225 : decode cX8_ways 225 = .ok (.lload 9, 2) := by decide +kernel
theorem dX8_ways_227 : decode cX8_ways 227 = .ok (.lmul, 1) := by decide +kernel
theorem dX8_ways_228 : decode cX8_ways 228 = .ok (.lsub, 1) := by decide +kernel
theorem dX8_ways_229 : decode cX8_ways 229 = .ok (.lload 6, 2) := by decide +kernel
theorem dX8_ways_231 : decode cX8_ways 231 = .ok (.lcmp, 1) := by decide +kernel
theorem dX8_ways_232 : decode cX8_ways 232 = .ok (.ifCond .gt 38, 3) := by decide +kernel
theorem dX8_ways_235 : decode cX8_ways 235 = .ok (.aload_n 0, 1) := by decide +kernel
theorem dX8_ways_236 : decode cX8_ways 236 = .ok (.aload_n 0, 1) := by decide +kernel
theorem dX8_ways_237 : decode cX8_ways 237 = .ok (.getfield 43, 3) := by decide +kernel
theorem dX8_ways_240 : decode cX8_ways 240 = .ok (.iload 11, 2) := by decide +kernel
theorem dX8_ways_242 : decode cX8_ways 242 = .ok (.laload, 1) := by decide +kernel
theorem dX8_ways_243 : decode cX8_ways 243 = .ok (.iload 12, 2) := by decide +kernel
theorem dX8_ways_245 : decode cX8_ways 245 = .ok (.i2l, 1) := by decide +kernel
theorem dX8_ways_246 : decode cX8_ways 246 = .ok (.lload 9, 2) := by decide +kernel
theorem dX8_ways_248 : decode cX8_ways 248 = .ok (.lmul, 1) := by decide +kernel
theorem dX8_ways_249 : decode cX8_ways 249 = .ok (.lsub, 1) := by decide +kernel
theorem dX8_ways_250 : decode cX8_ways 250 = .ok (.aload_n 0, 1) := by decide +kernel
theorem dX8_ways_251 : decode cX8_ways 251 = .ok (.getfield 46, 3) := by decide +kernel
theorem dX8_ways_254 : decode cX8_ways 254 = .ok (.iload 11, 2) := by decide +kernel
theorem dX8_ways_256 : decode cX8_ways 256 = .ok (.laload, 1) := by decide +kernel
theorem dX8_ways_257 : decode cX8_ways 257 = .ok (.aload_n 0, 1) := by decide +kernel
theorem dX8_ways_258 : decode cX8_ways 258 = .ok (.getfield 49, 3) := by decide +kernel
theorem dX8_ways_261 : decode cX8_ways 261 = .ok (.iload 11, 2) := by decide +kernel
theorem dX8_ways_263 : decode cX8_ways 263 = .ok (.iaload, 1) := by decide +kernel
theorem dX8_ways_264 : decode cX8_ways 264 = .ok (.iload 12, 2) := by decide +kernel
theorem dX8_ways_266 : decode cX8_ways 266 = .ok (.iadd, 1) := by decide +kernel
theorem dX8_ways_267 : decode cX8_ways 267 = .ok (.invokevirtual 225, 3) := by decide +kernel
theorem dX8_ways_270 : decode cX8_ways 270 = .ok (.iinc 12 1, 3) := by decide +kernel
theorem dX8_ways_273 : decode cX8_ways 273 = .ok (.goto (-82), 3) := by decide +kernel
theorem dX8_ways_276 : decode cX8_ways 276 = .ok (.iinc 11 1, 3) := by decide +kernel
theorem dX8_ways_279 : decode cX8_ways 279 = .ok (.goto (-100), 3) := by decide +kernel
theorem dX8_ways_282 : decode cX8_ways 282 = .ok (.aload_n 0, 1) := by decide +kernel
theorem dX8_ways_283 : decode cX8_ways 283 = .ok (.aload_n 0, 1) := by decide +kernel
theorem dX8_ways_284 : decode cX8_ways 284 = .ok (.getfield 219, 3) := by decide +kernel
theorem dX8_ways_287 : decode cX8_ways 287 = .ok (.putfield 222, 3) := by decide +kernel
theorem dX8_ways_290 : decode cX8_ways 290 = .ok (.iconst 0, 1) := by decide +kernel
theorem dX8_ways_291 : decode cX8_ways 291 = .ok (.istore 11, 2) := by decide +kernel
theorem dX8_ways_293 : decode cX8_ways 293 = .ok (.iload 11, 2) := by decide +kernel
theorem dX8_ways_295 : decode cX8_ways 295 = .ok (.aload_n 0, 1) := by decide +kernel
theorem dX8_ways_296 : decode cX8_ways 296 = .ok (.getfield 222, 3) := by decide +kernel
theorem dX8_ways_299 : decode cX8_ways 299 = .ok (.if_icmp .ge 51, 3) := by decide +kernel
theorem dX8_ways_302 : decode cX8_ways 302 = .ok (.aload_n 0, 1) := by decide +kernel
theorem dX8_ways_303 : decode cX8_ways 303 = .ok (.getfield 43, 3) := by decide +kernel
theorem dX8_ways_306 : decode cX8_ways 306 = .ok (.iload 11, 2) := by decide +kernel
theorem dX8_ways_308 : decode cX8_ways 308 = .ok (.aload_n 0, 1) := by decide +kernel
theorem dX8_ways_309 : decode cX8_ways 309 = .ok (.getfield 55, 3) := by decide +kernel
theorem dX8_ways_312 : decode cX8_ways 312 = .ok (.iload 11, 2) := by decide +kernel
theorem dX8_ways_314 : decode cX8_ways 314 = .ok (.laload, 1) := by decide +kernel
theorem dX8_ways_315 : decode cX8_ways 315 = .ok (.lastore, 1) := by decide +kernel
theorem dX8_ways_316 : decode cX8_ways 316 = .ok (.aload_n 0, 1) := by decide +kernel
theorem dX8_ways_317 : decode cX8_ways 317 = .ok (.getfield 46, 3) := by decide +kernel
theorem dX8_ways_320 : decode cX8_ways 320 = .ok (.iload 11, 2) := by decide +kernel
theorem dX8_ways_322 : decode cX8_ways 322 = .ok (.aload_n 0, 1) := by decide +kernel
theorem dX8_ways_323 : decode cX8_ways 323 = .ok (.getfield 58, 3) := by decide +kernel
theorem dX8_ways_326 : decode cX8_ways 326 = .ok (.iload 11, 2) := by decide +kernel
theorem dX8_ways_328 : decode cX8_ways 328 = .ok (.laload, 1) := by decide +kernel
theorem dX8_ways_329 : decode cX8_ways 329 = .ok (.lastore, 1) := by decide +kernel
theorem dX8_ways_330 : decode cX8_ways 330 = .ok (.aload_n 0, 1) := by decide +kernel
theorem dX8_ways_331 : decode cX8_ways 331 = .ok (.getfield 49, 3) := by decide +kernel
theorem dX8_ways_334 : decode cX8_ways 334 = .ok (.iload 11, 2) := by decide +kernel
theorem dX8_ways_336 : decode cX8_ways 336 = .ok (.aload_n 0, 1) := by decide +kernel
theorem dX8_ways_337 : decode cX8_ways 337 = .ok (.getfield 61, 3) := by decide +kernel
theorem dX8_ways_340 : decode cX8_ways 340 = .ok (.iload 11, 2) := by decide +kernel
theorem dX8_ways_342 : decode cX8_ways 342 = .ok (.iaload, 1) := by decide +kernel
theorem dX8_ways_343 : decode cX8_ways 343 = .ok (.iastore, 1) := by decide +kernel
theorem dX8_ways_344 : decode cX8_ways 344 = .ok (.iinc 11 1, 3) := by decide +kernel
theorem dX8_ways_347 : decode cX8_ways 347 = .ok (.goto (-54), 3) := by decide +kernel
theorem dX8_ways_350 : decode cX8_ways 350 = .ok (.iinc 8 (-1), 3) := by decide +kernel
theorem dX8_ways_353 : decode cX8_ways 353 = .ok (.goto (-232), 3) := by decide +kernel
theorem dX8_ways_356 : decode cX8_ways 356 = .ok (.aload_n 0, 1) := by decide +kernel
theorem dX8_ways_357 : decode cX8_ways 357 = .ok (.getfield 222, 3) := by decide +kernel
theorem dX8_ways_360 : decode cX8_ways 360 = .ok (.ifCond .ne 18, 3) := by decide +kernel
theorem dX8_ways_363 : decode cX8_ways 363 = .ok (.iload 5, 2) := by decide +kernel
theorem dX8_ways_365 : decode cX8_ways 365 = .ok (.ifCond .ne 7, 3) := by decide +kernel
theorem dX8_ways_368 : decode cX8_ways 368 = .ok (.lconst 0, 1) := by decide +kernel
theorem dX8_ways_369 : decode cX8_ways 369 = .ok (.goto 30, 3) := by decide +kernel
theorem dX8_ways_372 : decode cX8_ways 372 = .ok (.ldc2_w 207, 3) := by decide +kernel
theorem dX8_ways_375 : decode cX8_ways 375 = .ok (.goto 24, 3) := by decide +kernel
theorem dX8_ways_378 : decode cX8_ways 378 = .ok (.iload 5, 2) := by decide +kernel
theorem dX8_ways_380 : decode cX8_ways 380 = .ok (.ifCond .ne 12, 3) := by decide +kernel
theorem dX8_ways_383 : decode cX8_ways 383 = .ok (.aload_n 0, 1) := by decide +kernel
theorem dX8_ways_384 : decode cX8_ways 384 = .ok (.getfield 46, 3) := by decide +kernel
theorem dX8_ways_387 : decode cX8_ways 387 = .ok (.iconst 0, 1) := by decide +kernel
theorem dX8_ways_388 : decode cX8_ways 388 = .ok (.laload, 1) := by decide +kernel
theorem dX8_ways_389 : decode cX8_ways 389 = .ok (.goto 10, 3) := by decide +kernel
theorem dX8_ways_392 : decode cX8_ways 392 = .ok (.aload_n 0, 1) := by decide +kernel
theorem dX8_ways_393 : decode cX8_ways 393 = .ok (.getfield 49, 3) := by decide +kernel
theorem dX8_ways_396 : decode cX8_ways 396 = .ok (.iconst 0, 1) := by decide +kernel
theorem dX8_ways_397 : decode cX8_ways 397 = .ok (.iaload, 1) := by decide +kernel
theorem dX8_ways_398 : decode cX8_ways 398 = .ok (.i2l, 1) := by decide +kernel
theorem dX8_ways_399 : decode cX8_ways 399 = .ok (.lreturn, 1) := by decide +kernel
theorem dX8_crossed_0 : decode cX8_crossed 0 = .ok (.iload_n 1, 1) := by decide +kernel
theorem dX8_crossed_1 : decode cX8_crossed 1 = .ok (.invokestatic 114, 3) := by decide +kernel
theorem dX8_crossed_4 : decode cX8_crossed 4 = .ok (.ifCond .eq 16, 3) := by decide +kernel
theorem dX8_crossed_7 : decode cX8_crossed 7 = .ok (.iload_n 2, 1) := by decide +kernel
theorem dX8_crossed_8 : decode cX8_crossed 8 = .ok (.invokestatic 114, 3) := by decide +kernel
theorem dX8_crossed_11 : decode cX8_crossed 11 = .ok (.ifCond .eq 9, 3) := by decide +kernel
theorem dX8_crossed_14 : decode cX8_crossed 14 = .ok (.lload_n 3, 1) := by decide +kernel
theorem dX8_crossed_15 : decode cX8_crossed 15 = .ok (.lconst 0, 1) := by decide +kernel
theorem dX8_crossed_16 : decode cX8_crossed 16 = .ok (.lcmp, 1) := by decide +kernel
theorem dX8_crossed_17 : decode cX8_crossed 17 = .ok (.ifCond .ge 6, 3) := by decide +kernel
theorem dX8_crossed_20 : decode cX8_crossed 20 = .ok (.bipush (-2), 2) := by decide +kernel
theorem dX8_crossed_22 : decode cX8_crossed 22 = .ok (.ireturn, 1) := by decide +kernel
theorem dX8_crossed_23 : decode cX8_crossed 23 = .ok (.lload_n 3, 1) := by decide +kernel
theorem dX8_crossed_24 : decode cX8_crossed 24 = .ok (.aload_n 0, 1) := by decide +kernel
theorem dX8_crossed_25 : decode cX8_crossed 25 = .ok (.getfield 25, 3) := by decide +kernel
theorem dX8_crossed_28 : decode cX8_crossed 28 = .ok (.iload_n 1, 1) := by decide +kernel
theorem dX8_crossed_29 : decode cX8_crossed 29 = .ok (.laload, 1) := by decide +kernel
theorem dX8_crossed_30 : decode cX8_crossed 30 = .ok (.lcmp, 1) := by decide +kernel
theorem dX8_crossed_31 : decode cX8_crossed 31 = .ok (.ifCond .gt 14, 3) := by decide +kernel
theorem dX8_crossed_34 : decode cX8_crossed 34 = .ok (.lload_n 3, 1) := by decide +kernel
theorem dX8_crossed_35 : decode cX8_crossed 35 = .ok (.aload_n 0, 1) := by decide +kernel
theorem dX8_crossed_36 : decode cX8_crossed 36 = .ok (.getfield 25, 3) := by decide +kernel
theorem dX8_crossed_39 : decode cX8_crossed 39 = .ok (.iload_n 2, 1) := by decide +kernel
theorem dX8_crossed_40 : decode cX8_crossed 40 = .ok (.laload, 1) := by decide +kernel
theorem dX8_crossed_41 : decode cX8_crossed 41 = .ok (.lcmp, 1) := by decide +kernel
theorem dX8_crossed_42 : decode cX8_crossed 42 = .ok (.ifCond .le 6, 3) := by decide +kernel
theorem dX8_crossed_45 : decode cX8_crossed 45 = .ok (.bipush (-3), 2) := by decide +kernel
theorem dX8_crossed_47 : decode cX8_crossed 47 = .ok (.ireturn, 1) := by decide +kernel
theorem dX8_crossed_48 : decode cX8_crossed 48 = .ok (.aload_n 0, 1) := by decide +kernel
theorem dX8_crossed_49 : decode cX8_crossed 49 = .ok (.iload_n 1, 1) := by decide +kernel
theorem dX8_crossed_50 : decode cX8_crossed 50 = .ok (.lload_n 3, 1) := by decide +kernel
theorem dX8_crossed_51 : decode cX8_crossed 51 = .ok (.invokevirtual 152, 3) := by decide +kernel
theorem dX8_crossed_54 : decode cX8_crossed 54 = .ok (.iconst 0, 1) := by decide +kernel
theorem dX8_crossed_55 : decode cX8_crossed 55 = .ok (.istore 5, 2) := by decide +kernel
theorem dX8_crossed_57 : decode cX8_crossed 57 = .ok (.iload 5, 2) := by decide +kernel
theorem dX8_crossed_59 : decode cX8_crossed 59 = .ok (.aload_n 0, 1) := by decide +kernel
theorem dX8_crossed_60 : decode cX8_crossed 60 = .ok (.getfield 18, 3) := by decide +kernel
theorem dX8_crossed_63 : decode cX8_crossed 63 = .ok (.iload_n 1, 1) := by decide +kernel
theorem dX8_crossed_64 : decode cX8_crossed 64 = .ok (.iaload, 1) := by decide +kernel
theorem dX8_crossed_65 : decode cX8_crossed 65 = .ok (.if_icmp .ge 23, 3) := by decide +kernel
theorem dX8_crossed_68 : decode cX8_crossed 68 = .ok (.aload_n 0, 1) := by decide +kernel
theorem dX8_crossed_69 : decode cX8_crossed 69 = .ok (.getfield 64, 3) := by decide +kernel
theorem dX8_crossed_72 : decode cX8_crossed 72 = .ok (.iload 5, 2) := by decide +kernel
theorem dX8_crossed_74 : decode cX8_crossed 74 = .ok (.aload_n 0, 1) := by decide +kernel
theorem dX8_crossed_75 : decode cX8_crossed 75 = .ok (.getfield 34, 3) := by decide +kernel
theorem dX8_crossed_78 : decode cX8_crossed 78 = .ok (.iload 5, 2) := by decide +kernel
theorem dX8_crossed_80 : decode cX8_crossed 80 = .ok (.iaload, 1) := by decide +kernel
theorem dX8_crossed_81 : decode cX8_crossed 81 = .ok (.iastore, 1) := by decide +kernel
theorem dX8_crossed_82 : decode cX8_crossed 82 = .ok (.iinc 5 1, 3) := by decide +kernel
theorem dX8_crossed_85 : decode cX8_crossed 85 = .ok (.goto (-28), 3) := by decide +kernel
theorem dX8_crossed_88 : decode cX8_crossed 88 = .ok (.aload_n 0, 1) := by decide +kernel
theorem dX8_crossed_89 : decode cX8_crossed 89 = .ok (.iload_n 2, 1) := by decide +kernel
theorem dX8_crossed_90 : decode cX8_crossed 90 = .ok (.lload_n 3, 1) := by decide +kernel
theorem dX8_crossed_91 : decode cX8_crossed 91 = .ok (.invokevirtual 152, 3) := by decide +kernel
theorem dX8_crossed_94 : decode cX8_crossed 94 = .ok (.iconst 0, 1) := by decide +kernel
theorem dX8_crossed_95 : decode cX8_crossed 95 = .ok (.istore 5, 2) := by decide +kernel
theorem dX8_crossed_97 : decode cX8_crossed 97 = .ok (.iconst 0, 1) := by decide +kernel
theorem dX8_crossed_98 : decode cX8_crossed 98 = .ok (.istore 6, 2) := by decide +kernel
theorem dX8_crossed_100 : decode cX8_crossed 100 = .ok (.iload 6, 2) := by decide +kernel
theorem dX8_crossed_102 : decode cX8_crossed 102 = .ok (.aload_n 0, 1) := by decide +kernel
theorem dX8_crossed_103 : decode cX8_crossed 103 = .ok (.getfield 18, 3) := by decide +kernel
theorem dX8_crossed_106 : decode cX8_crossed 106 = .ok (.iload_n 1, 1) := by decide +kernel
theorem dX8_crossed_107 : decode cX8_crossed 107 = .ok (.iaload, 1) := by decide +kernel
theorem dX8_crossed_108 : decode cX8_crossed 108 = .ok (.if_icmp .ge 47, 3) := by decide +kernel
theorem dX8_crossed_111 : decode cX8_crossed 111 = .ok (.iload 6, 2) := by decide +kernel
theorem dX8_crossed_113 : decode cX8_crossed 113 = .ok (.aload_n 0, 1) := by decide +kernel
theorem dX8_crossed_114 : decode cX8_crossed 114 = .ok (.getfield 18, 3) := by decide +kernel
theorem dX8_crossed_117 : decode cX8_crossed 117 = .ok (.iload_n 2, 1) := by decide +kernel
theorem dX8_crossed_118 : decode cX8_crossed 118 = .ok (.iaload, 1) := by decide +kernel
theorem dX8_crossed_119 : decode cX8_crossed 119 = .ok (.if_icmp .ge 36, 3) := by decide +kernel
theorem dX8_crossed_122 : decode cX8_crossed 122 = .ok (.iload 5, 2) := by decide +kernel
theorem dX8_crossed_124 : decode cX8_crossed 124 = .ok (.aload_n 0, 1) := by decide +kernel
theorem dX8_crossed_125 : decode cX8_crossed 125 = .ok (.getfield 34, 3) := by decide +kernel
theorem dX8_crossed_128 : decode cX8_crossed 128 = .ok (.iload 6, 2) := by decide +kernel
theorem dX8_crossed_130 : decode cX8_crossed 130 = .ok (.iaload, 1) := by decide +kernel
theorem dX8_crossed_131 : decode cX8_crossed 131 = .ok (.aload_n 0, 1) := by decide +kernel
theorem dX8_crossed_132 : decode cX8_crossed 132 = .ok (.getfield 64, 3) := by decide +kernel
theorem dX8_crossed_135 : decode cX8_crossed 135 = .ok (.iload 6, 2) := by decide +kernel
theorem dX8_crossed_137 : decode cX8_crossed 137 = .ok (.iaload, 1) := by decide +kernel
theorem dX8_crossed_138 : decode cX8_crossed 138 = .ok (.if_icmp .ne 7, 3) := by decide +kernel
theorem dX8_crossed_141 : decode cX8_crossed 141 = .ok (.iconst 1, 1) := by decide +kernel
theorem dX8_crossed_142 : decode cX8_crossed 142 = .ok (.goto 4, 3) := by decide +kernel
theorem dX8_crossed_145 : decode cX8_crossed 145 = .ok (.iconst 0, 1) := by decide +kernel
theorem dX8_crossed_146 : decode cX8_crossed 146 = .ok (.iadd, 1) := by decide +kernel
theorem dX8_crossed_147 : decode cX8_crossed 147 = .ok (.istore 5, 2) := by decide +kernel
theorem dX8_crossed_149 : decode cX8_crossed 149 = .ok (.iinc 6 1, 3) := by decide +kernel
theorem dX8_crossed_152 : decode cX8_crossed 152 = .ok (.goto (-52), 3) := by decide +kernel
theorem dX8_crossed_155 : decode cX8_crossed 155 = .ok (.iload 5, 2) := by decide +kernel
theorem dX8_crossed_157 : decode cX8_crossed 157 = .ok (.ireturn, 1) := by decide +kernel
theorem dX8_prints_0 : decode cX8_prints 0 = .ok (.iconst 0, 1) := by decide +kernel
theorem dX8_prints_1 : decode cX8_prints 1 = .ok (.istore_n 2, 1) := by decide +kernel
theorem dX8_prints_2 : decode cX8_prints 2 = .ok (.aload_n 0, 1) := by decide +kernel
theorem dX8_prints_3 : decode cX8_prints 3 = .ok (.iload_n 1, 1) := by decide +kernel
theorem dX8_prints_4 : decode cX8_prints 4 = .ok (.invokevirtual 168, 3) := by decide +kernel
theorem dX8_prints_7 : decode cX8_prints 7 = .ok (.ifCond .ge 7, 3) := by decide +kernel
theorem dX8_prints_10 : decode cX8_prints 10 = .ok (.iconst 0, 1) := by decide +kernel
theorem dX8_prints_11 : decode cX8_prints 11 = .ok (.goto 8, 3) := by decide +kernel
theorem dX8_prints_14 : decode cX8_prints 14 = .ok (.aload_n 0, 1) := by decide +kernel
theorem dX8_prints_15 : decode cX8_prints 15 = .ok (.iload_n 1, 1) := by decide +kernel
theorem dX8_prints_16 : decode cX8_prints 16 = .ok (.invokevirtual 168, 3) := by decide +kernel
theorem dX8_prints_19 : decode cX8_prints 19 = .ok (.istore_n 3, 1) := by decide +kernel
theorem dX8_prints_20 : decode cX8_prints 20 = .ok (.iload_n 3, 1) := by decide +kernel
theorem dX8_prints_21 : decode cX8_prints 21 = .ok (.ifCond .lt 77, 3) := by decide +kernel
theorem dX8_prints_24 : decode cX8_prints 24 = .ok (.aload_n 0, 1) := by decide +kernel
theorem dX8_prints_25 : decode cX8_prints 25 = .ok (.iload_n 1, 1) := by decide +kernel
theorem dX8_prints_26 : decode cX8_prints 26 = .ok (.iload_n 3, 1) := by decide +kernel
theorem dX8_prints_27 : decode cX8_prints 27 = .ok (.invokevirtual 140, 3) := by decide +kernel
theorem dX8_prints_30 : decode cX8_prints 30 = .ok (.bipush 9, 2) := by decide +kernel
theorem dX8_prints_32 : decode cX8_prints 32 = .ok (.if_icmp .le 24, 3) := by decide +kernel
theorem dX8_prints_35 : decode cX8_prints 35 = .ok (.aload_n 0, 1) := by decide +kernel
theorem dX8_prints_36 : decode cX8_prints 36 = .ok (.getfield 67, 3) := by decide +kernel
theorem dX8_prints_39 : decode cX8_prints 39 = .ok (.iload_n 2, 1) := by decide +kernel
theorem dX8_prints_40 : decode cX8_prints 40 = .ok (.bipush 48, 2) := by decide +kernel
theorem dX8_prints_42 : decode cX8_prints 42 = .ok (.aload_n 0, 1) := by decide +kernel
theorem dX8_prints_43 : decode cX8_prints 43 = .ok (.iload_n 1, 1) := by decide +kernel
theorem dX8_prints_44 : decode cX8_prints 44 = .ok (.iload_n 3, 1) := by decide +kernel
theorem dX8_prints_45 : decode cX8_prints 45 = .ok (.invokevirtual 140, 3) := by decide +kernel
theorem dX8_prints_48 : decode cX8_prints 48 = .ok (.bipush 10, 2) := by decide +kernel
theorem dX8_prints_50 : decode cX8_prints 50 = .ok (.idiv, 1) := by decide +kernel
theorem dX8_prints_51 : decode cX8_prints 51 = .ok (.iadd, 1) := by decide +kernel
theorem dX8_prints_52 : decode cX8_prints 52 = .ok (.iastore, 1) := by decide +kernel
theorem dX8_prints_53 : decode cX8_prints 53 = .ok (.iinc 2 1, 3) := by decide +kernel
theorem dX8_prints_56 : decode cX8_prints 56 = .ok (.aload_n 0, 1) := by decide +kernel
theorem dX8_prints_57 : decode cX8_prints 57 = .ok (.getfield 67, 3) := by decide +kernel
theorem dX8_prints_60 : decode cX8_prints 60 = .ok (.iload_n 2, 1) := by decide +kernel
theorem dX8_prints_61 : decode cX8_prints 61 = .ok (.bipush 48, 2) := by decide +kernel
theorem dX8_prints_63 : decode cX8_prints 63 = .ok (.aload_n 0, 1) := by decide +kernel
theorem dX8_prints_64 : decode cX8_prints 64 = .ok (.iload_n 1, 1) := by decide +kernel
theorem dX8_prints_65 : decode cX8_prints 65 = .ok (.iload_n 3, 1) := by decide +kernel
theorem dX8_prints_66 : decode cX8_prints 66 = .ok (.invokevirtual 140, 3) := by decide +kernel
theorem dX8_prints_69 : decode cX8_prints 69 = .ok (.bipush 10, 2) := by decide +kernel
theorem dX8_prints_71 : decode cX8_prints 71 = .ok (.irem, 1) := by decide +kernel
theorem dX8_prints_72 : decode cX8_prints 72 = .ok (.iadd, 1) := by decide +kernel
theorem dX8_prints_73 : decode cX8_prints 73 = .ok (.iastore, 1) := by decide +kernel
theorem dX8_prints_74 : decode cX8_prints 74 = .ok (.iinc 2 1, 3) := by decide +kernel
theorem dX8_prints_77 : decode cX8_prints 77 = .ok (.iload_n 3, 1) := by decide +kernel
theorem dX8_prints_78 : decode cX8_prints 78 = .ok (.ifCond .le 14, 3) := by decide +kernel
theorem dX8_prints_81 : decode cX8_prints 81 = .ok (.aload_n 0, 1) := by decide +kernel
theorem dX8_prints_82 : decode cX8_prints 82 = .ok (.getfield 67, 3) := by decide +kernel
theorem dX8_prints_85 : decode cX8_prints 85 = .ok (.iload_n 2, 1) := by decide +kernel
theorem dX8_prints_86 : decode cX8_prints 86 = .ok (.bipush 46, 2) := by decide +kernel
theorem dX8_prints_88 : decode cX8_prints 88 = .ok (.iastore, 1) := by decide +kernel
theorem dX8_prints_89 : decode cX8_prints 89 = .ok (.iinc 2 1, 3) := by decide +kernel
theorem dX8_prints_92 : decode cX8_prints 92 = .ok (.iinc 3 (-1), 3) := by decide +kernel
theorem dX8_prints_95 : decode cX8_prints 95 = .ok (.goto (-75), 3) := by decide +kernel
theorem dX8_prints_98 : decode cX8_prints 98 = .ok (.iload_n 2, 1) := by decide +kernel
theorem dX8_prints_99 : decode cX8_prints 99 = .ok (.ireturn, 1) := by decide +kernel
theorem dX8_print_0 : decode cX8_print 0 = .ok (.iload_n 1, 1) := by decide +kernel
theorem dX8_print_1 : decode cX8_print 1 = .ok (.invokestatic 149, 3) := by decide +kernel
theorem dX8_print_4 : decode cX8_print 4 = .ok (.ifCond .eq 8, 3) := by decide +kernel
theorem dX8_print_7 : decode cX8_print 7 = .ok (.iload_n 2, 1) := by decide +kernel
theorem dX8_print_8 : decode cX8_print 8 = .ok (.iconst (-1), 1) := by decide +kernel
theorem dX8_print_9 : decode cX8_print 9 = .ok (.if_icmp .ge 6, 3) := by decide +kernel
theorem dX8_print_12 : decode cX8_print 12 = .ok (.bipush (-2), 2) := by decide +kernel
theorem dX8_print_14 : decode cX8_print 14 = .ok (.ireturn, 1) := by decide +kernel
theorem dX8_print_15 : decode cX8_print 15 = .ok (.aload_n 0, 1) := by decide +kernel
theorem dX8_print_16 : decode cX8_print 16 = .ok (.iload_n 1, 1) := by decide +kernel
theorem dX8_print_17 : decode cX8_print 17 = .ok (.invokevirtual 159, 3) := by decide +kernel
theorem dX8_print_20 : decode cX8_print 20 = .ok (.ifCond .eq 6, 3) := by decide +kernel
theorem dX8_print_23 : decode cX8_print 23 = .ok (.bipush (-11), 2) := by decide +kernel
theorem dX8_print_25 : decode cX8_print 25 = .ok (.ireturn, 1) := by decide +kernel
theorem dX8_print_26 : decode cX8_print 26 = .ok (.aload_n 0, 1) := by decide +kernel
theorem dX8_print_27 : decode cX8_print 27 = .ok (.iload_n 1, 1) := by decide +kernel
theorem dX8_print_28 : decode cX8_print 28 = .ok (.invokevirtual 229, 3) := by decide +kernel
theorem dX8_print_31 : decode cX8_print 31 = .ok (.istore_n 3, 1) := by decide +kernel
theorem dX8_print_32 : decode cX8_print 32 = .ok (.iload_n 2, 1) := by decide +kernel
theorem dX8_print_33 : decode cX8_print 33 = .ok (.iconst (-1), 1) := by decide +kernel
theorem dX8_print_34 : decode cX8_print 34 = .ok (.if_icmp .ne 7, 3) := by decide +kernel
theorem dX8_print_37 : decode cX8_print 37 = .ok (.iload_n 3, 1) := by decide +kernel
theorem dX8_print_38 : decode cX8_print 38 = .ok (.goto 19, 3) := by decide +kernel
theorem dX8_print_41 : decode cX8_print 41 = .ok (.iload_n 2, 1) := by decide +kernel
theorem dX8_print_42 : decode cX8_print 42 = .ok (.iload_n 3, 1) := by decide +kernel
theorem dX8_print_43 : decode cX8_print 43 = .ok (.if_icmp .ge 12, 3) := by decide +kernel
theorem dX8_print_46 : decode cX8_print 46 = .ok (.aload_n 0, 1) := by decide +kernel
theorem dX8_print_47 : decode cX8_print 47 = .ok (.getfield 67, 3) := by decide +kernel
theorem dX8_print_50 : decode cX8_print 50 = .ok (.iload_n 2, 1) := by decide +kernel
theorem dX8_print_51 : decode cX8_print 51 = .ok (.iaload, 1) := by decide +kernel
theorem dX8_print_52 : decode cX8_print 52 = .ok (.goto 5, 3) := by decide +kernel
theorem dX8_print_55 : decode cX8_print 55 = .ok (.bipush (-12), 2) := by decide +kernel
theorem dX8_print_57 : decode cX8_print 57 = .ok (.ireturn, 1) := by decide +kernel
theorem dX8_feed_0 : decode cX8_feed 0 = .ok (.iload_n 1, 1) := by decide +kernel
theorem dX8_feed_1 : decode cX8_feed 1 = .ok (.i2l, 1) := by decide +kernel
theorem dX8_feed_2 : decode cX8_feed 2 = .ok (.lconst 0, 1) := by decide +kernel
theorem dX8_feed_3 : decode cX8_feed 3 = .ok (.ldc2_w 232, 3) := by decide +kernel
theorem dX8_feed_6 : decode cX8_feed 6 = .ok (.invokestatic 104, 3) := by decide +kernel
theorem dX8_feed_9 : decode cX8_feed 9 = .ok (.ifCond .ne 6, 3) := by decide +kernel
theorem dX8_feed_12 : decode cX8_feed 12 = .ok (.bipush (-2), 2) := by decide +kernel
theorem dX8_feed_14 : decode cX8_feed 14 = .ok (.ireturn, 1) := by decide +kernel
theorem dX8_feed_15 : decode cX8_feed 15 = .ok (.aload_n 0, 1) := by decide +kernel
theorem dX8_feed_16 : decode cX8_feed 16 = .ok (.getfield 234, 3) := by decide +kernel
theorem dX8_feed_19 : decode cX8_feed 19 = .ok (.bipush 80, 2) := by decide +kernel
theorem dX8_feed_21 : decode cX8_feed 21 = .ok (.if_icmp .ne 6, 3) := by decide +kernel
theorem dX8_feed_24 : decode cX8_feed 24 = .ok (.bipush (-4), 2) := by decide +kernel
theorem dX8_feed_26 : decode cX8_feed 26 = .ok (.ireturn, 1) := by decide +kernel
theorem dX8_feed_27 : decode cX8_feed 27 = .ok (.aload_n 0, 1) := by decide +kernel
theorem dX8_feed_28 : decode cX8_feed 28 = .ok (.getfield 70, 3) := by decide +kernel
theorem dX8_feed_31 : decode cX8_feed 31 = .ok (.aload_n 0, 1) := by decide +kernel
theorem dX8_feed_32 : decode cX8_feed 32 = .ok (.getfield 234, 3) := by decide +kernel
theorem dX8_feed_35 : decode cX8_feed 35 = .ok (.iload_n 1, 1) := by decide +kernel
theorem dX8_feed_36 : decode cX8_feed 36 = .ok (.iastore, 1) := by decide +kernel
theorem dX8_feed_37 : decode cX8_feed 37 = .ok (.aload_n 0, 1) := by decide +kernel
theorem dX8_feed_38 : decode cX8_feed 38 = .ok (.dup, 1) := by decide +kernel
theorem dX8_feed_39 : decode cX8_feed 39 = .ok (.getfield 234, 3) := by decide +kernel
theorem dX8_feed_42 : decode cX8_feed 42 = .ok (.iconst 1, 1) := by decide +kernel
theorem dX8_feed_43 : decode cX8_feed 43 = .ok (.iadd, 1) := by decide +kernel
theorem dX8_feed_44 : decode cX8_feed 44 = .ok (.putfield 234, 3) := by decide +kernel
theorem dX8_feed_47 : decode cX8_feed 47 = .ok (.aload_n 0, 1) := by decide +kernel
theorem dX8_feed_48 : decode cX8_feed 48 = .ok (.getfield 234, 3) := by decide +kernel
theorem dX8_feed_51 : decode cX8_feed 51 = .ok (.ireturn, 1) := by decide +kernel
theorem dX8_isFigure_0 : decode cX8_isFigure 0 = .ok (.aload_n 0, 1) := by decide +kernel
theorem dX8_isFigure_1 : decode cX8_isFigure 1 = .ok (.getfield 237, 3) := by decide +kernel
theorem dX8_isFigure_4 : decode cX8_isFigure 4 = .ok (.aload_n 0, 1) := by decide +kernel
theorem dX8_isFigure_5 : decode cX8_isFigure 5 = .ok (.getfield 234, 3) := by decide +kernel
theorem dX8_isFigure_8 : decode cX8_isFigure 8 = .ok (.if_icmp .ge 29, 3) := by decide +kernel
theorem dX8_isFigure_11 : decode cX8_isFigure 11 = .ok (.aload_n 0, 1) := by decide +kernel
theorem dX8_isFigure_12 : decode cX8_isFigure 12 = .ok (.getfield 70, 3) := by decide +kernel
theorem dX8_isFigure_15 : decode cX8_isFigure 15 = .ok (.aload_n 0, 1) := by decide +kernel
theorem dX8_isFigure_16 : decode cX8_isFigure 16 = .ok (.getfield 237, 3) := by decide +kernel
theorem dX8_isFigure_19 : decode cX8_isFigure 19 = .ok (.iaload, 1) := by decide +kernel
theorem dX8_isFigure_20 : decode cX8_isFigure 20 = .ok (.i2l, 1) := by decide +kernel
theorem dX8_isFigure_21 : decode cX8_isFigure 21 = .ok (.ldc2_w 240, 3) := by decide +kernel
theorem dX8_isFigure_24 : decode cX8_isFigure 24 = .ok (.ldc2_w 242, 3) := by decide +kernel
theorem dX8_isFigure_27 : decode cX8_isFigure 27 = .ok (.invokestatic 104, 3) := by decide +kernel
theorem dX8_isFigure_30 : decode cX8_isFigure 30 = .ok (.ifCond .eq 7, 3) := by decide +kernel
theorem dX8_isFigure_33 : decode cX8_isFigure 33 = .ok (.iconst 1, 1) := by decide +kernel
theorem dX8_isFigure_34 : decode cX8_isFigure 34 = .ok (.goto 4, 3) := by decide +kernel
theorem dX8_isFigure_37 : decode cX8_isFigure 37 = .ok (.iconst 0, 1) := by decide +kernel
theorem dX8_isFigure_38 : decode cX8_isFigure 38 = .ok (.ireturn, 1) := by decide +kernel
theorem dX8_reads_0 : decode cX8_reads 0 = .ok (.aload_n 0, 1) := by decide +kernel
theorem dX8_reads_1 : decode cX8_reads 1 = .ok (.iconst 0, 1) := by decide +kernel
theorem dX8_reads_2 : decode cX8_reads 2 = .ok (.putfield 237, 3) := by decide +kernel
theorem dX8_reads_5 : decode cX8_reads 5 = .ok (.iconst 0, 1) := by decide +kernel
theorem dX8_reads_6 : decode cX8_reads 6 = .ok (.istore_n 2, 1) := by decide +kernel
theorem dX8_reads_7 : decode cX8_reads 7 = .ok (.iload_n 2, 1) := by decide +kernel
theorem dX8_reads_8 : decode cX8_reads 8 = .ok (.iload_n 1, 1) := by decide +kernel
theorem dX8_reads_9 : decode cX8_reads 9 = .ok (.if_icmp .eq 10, 3) := by decide +kernel
theorem dX8_reads_12 : decode cX8_reads 12 = .ok (.aload_n 0, 1) := by decide +kernel
theorem dX8_reads_13 : decode cX8_reads 13 = .ok (.invokevirtual 244, 3) := by decide +kernel
theorem dX8_reads_16 : decode cX8_reads 16 = .ok (.ifCond .ne 5, 3) := by decide +kernel
theorem dX8_reads_19 : decode cX8_reads 19 = .ok (.iconst (-1), 1) := by decide +kernel
theorem dX8_reads_20 : decode cX8_reads 20 = .ok (.ireturn, 1) := by decide +kernel
theorem dX8_reads_21 : decode cX8_reads 21 = .ok (.aload_n 0, 1) := by decide +kernel
theorem dX8_reads_22 : decode cX8_reads 22 = .ok (.getfield 70, 3) := by decide +kernel
theorem dX8_reads_25 : decode cX8_reads 25 = .ok (.aload_n 0, 1) := by decide +kernel
theorem dX8_reads_26 : decode cX8_reads 26 = .ok (.getfield 237, 3) := by decide +kernel
theorem dX8_reads_29 : decode cX8_reads 29 = .ok (.iaload, 1) := by decide +kernel
theorem dX8_reads_30 : decode cX8_reads 30 = .ok (.bipush 48, 2) := by decide +kernel
theorem dX8_reads_32 : decode cX8_reads 32 = .ok (.isub, 1) := by decide +kernel
theorem dX8_reads_33 : decode cX8_reads 33 = .ok (.istore_n 3, 1) := by decide +kernel
theorem dX8_reads_34 : decode cX8_reads 34 = .ok (.aload_n 0, 1) := by decide +kernel
theorem dX8_reads_35 : decode cX8_reads 35 = .ok (.dup, 1) := by decide +kernel
theorem dX8_reads_36 : decode cX8_reads 36 = .ok (.getfield 237, 3) := by decide +kernel
theorem dX8_reads_39 : decode cX8_reads 39 = .ok (.iconst 1, 1) := by decide +kernel
theorem dX8_reads_40 : decode cX8_reads 40 = .ok (.iadd, 1) := by decide +kernel
theorem dX8_reads_41 : decode cX8_reads 41 = .ok (.putfield 237, 3) := by decide +kernel
theorem dX8_reads_44 : decode cX8_reads 44 = .ok (.aload_n 0, 1) := by decide +kernel
theorem dX8_reads_45 : decode cX8_reads 45 = .ok (.invokevirtual 244, 3) := by decide +kernel
theorem dX8_reads_48 : decode cX8_reads 48 = .ok (.ifCond .eq 31, 3) := by decide +kernel
theorem dX8_reads_51 : decode cX8_reads 51 = .ok (.bipush 10, 2) := by decide +kernel
theorem dX8_reads_53 : decode cX8_reads 53 = .ok (.iload_n 3, 1) := by decide +kernel
theorem dX8_reads_54 : decode cX8_reads 54 = .ok (.imul, 1) := by decide +kernel
theorem dX8_reads_55 : decode cX8_reads 55 = .ok (.aload_n 0, 1) := by decide +kernel
theorem dX8_reads_56 : decode cX8_reads 56 = .ok (.getfield 70, 3) := by decide +kernel
theorem dX8_reads_59 : decode cX8_reads 59 = .ok (.aload_n 0, 1) := by decide +kernel
theorem dX8_reads_60 : decode cX8_reads 60 = .ok (.getfield 237, 3) := by decide +kernel
theorem dX8_reads_63 : decode cX8_reads 63 = .ok (.iaload, 1) := by decide +kernel
theorem dX8_reads_64 : decode cX8_reads 64 = .ok (.iadd, 1) := by decide +kernel
theorem dX8_reads_65 : decode cX8_reads 65 = .ok (.bipush 48, 2) := by decide +kernel
theorem dX8_reads_67 : decode cX8_reads 67 = .ok (.isub, 1) := by decide +kernel
theorem dX8_reads_68 : decode cX8_reads 68 = .ok (.istore_n 3, 1) := by decide +kernel
theorem dX8_reads_69 : decode cX8_reads 69 = .ok (.aload_n 0, 1) := by decide +kernel
theorem dX8_reads_70 : decode cX8_reads 70 = .ok (.dup, 1) := by decide +kernel
theorem dX8_reads_71 : decode cX8_reads 71 = .ok (.getfield 237, 3) := by decide +kernel
theorem dX8_reads_74 : decode cX8_reads 74 = .ok (.iconst 1, 1) := by decide +kernel
theorem dX8_reads_75 : decode cX8_reads 75 = .ok (.iadd, 1) := by decide +kernel
theorem dX8_reads_76 : decode cX8_reads 76 = .ok (.putfield 237, 3) := by decide +kernel
theorem dX8_reads_79 : decode cX8_reads 79 = .ok (.aload_n 0, 1) := by decide +kernel
theorem dX8_reads_80 : decode cX8_reads 80 = .ok (.getfield 64, 3) := by decide +kernel
theorem dX8_reads_83 : decode cX8_reads 83 = .ok (.iload_n 2, 1) := by decide +kernel
theorem dX8_reads_84 : decode cX8_reads 84 = .ok (.iload_n 3, 1) := by decide +kernel
theorem dX8_reads_85 : decode cX8_reads 85 = .ok (.iastore, 1) := by decide +kernel
theorem dX8_reads_86 : decode cX8_reads 86 = .ok (.iinc 2 1, 3) := by decide +kernel
theorem dX8_reads_89 : decode cX8_reads 89 = .ok (.aload_n 0, 1) := by decide +kernel
theorem dX8_reads_90 : decode cX8_reads 90 = .ok (.getfield 237, 3) := by decide +kernel
theorem dX8_reads_93 : decode cX8_reads 93 = .ok (.aload_n 0, 1) := by decide +kernel
theorem dX8_reads_94 : decode cX8_reads 94 = .ok (.getfield 234, 3) := by decide +kernel
theorem dX8_reads_97 : decode cX8_reads 97 = .ok (.if_icmp .ne 5, 3) := by decide +kernel
theorem dX8_reads_100 : decode cX8_reads 100 = .ok (.iload_n 2, 1) := by decide +kernel
theorem dX8_reads_101 : decode cX8_reads 101 = .ok (.ireturn, 1) := by decide +kernel
theorem dX8_reads_102 : decode cX8_reads 102 = .ok (.aload_n 0, 1) := by decide +kernel
theorem dX8_reads_103 : decode cX8_reads 103 = .ok (.getfield 70, 3) := by decide +kernel
