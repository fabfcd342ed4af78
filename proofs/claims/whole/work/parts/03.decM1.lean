theorem d_M_row_231 : decode md_M_row.2.1 231 = .ok (.lastore, 1) := by decide +kernel
theorem d_M_row_232 : decode md_M_row.2.1 232 = .ok (.aload_n 0, 1) := by decide +kernel
theorem d_M_row_233 : decode md_M_row.2.1 233 = .ok (.dup, 1) := by decide +kernel
theorem d_M_row_234 : decode md_M_row.2.1 234 = .ok (.getfield 77, 3) := by decide +kernel
theorem d_M_row_237 : decode md_M_row.2.1 237 = .ok (.iconst 1, 1) := by decide +kernel
theorem d_M_row_238 : decode md_M_row.2.1 238 = .ok (.iadd, 1) := by decide +kernel
theorem d_M_row_239 : decode md_M_row.2.1 239 = .ok (.putfield 77, 3) := by decide +kernel
theorem d_M_row_242 : decode md_M_row.2.1 242 = .ok (.aload_n 0, 1) := by decide +kernel
theorem d_M_row_243 : decode md_M_row.2.1 243 = .ok (.getfield 94, 3) := by decide +kernel
theorem d_M_row_246 : decode md_M_row.2.1 246 = .ok (.iconst 1, 1) := by decide +kernel
theorem d_M_row_247 : decode md_M_row.2.1 247 = .ok (.if_icmp .ne 13, 3) := by decide +kernel
theorem d_M_row_250 : decode md_M_row.2.1 250 = .ok (.aload_n 0, 1) := by decide +kernel
theorem d_M_row_251 : decode md_M_row.2.1 251 = .ok (.lload_n 1, 1) := by decide +kernel
theorem d_M_row_252 : decode md_M_row.2.1 252 = .ok (.lload_n 3, 1) := by decide +kernel
theorem d_M_row_253 : decode md_M_row.2.1 253 = .ok (.lload 5, 2) := by decide +kernel
theorem d_M_row_255 : decode md_M_row.2.1 255 = .ok (.iload 9, 2) := by decide +kernel
theorem d_M_row_257 : decode md_M_row.2.1 257 = .ok (.invokevirtual 121, 3) := by decide +kernel
theorem d_M_row_260 : decode md_M_row.2.1 260 = .ok (.iconst 4, 1) := by decide +kernel
theorem d_M_row_261 : decode md_M_row.2.1 261 = .ok (.aload_n 0, 1) := by decide +kernel
theorem d_M_row_262 : decode md_M_row.2.1 262 = .ok (.getfield 94, 3) := by decide +kernel
theorem d_M_row_265 : decode md_M_row.2.1 265 = .ok (.iadd, 1) := by decide +kernel
theorem d_M_row_266 : decode md_M_row.2.1 266 = .ok (.ireturn, 1) := by decide +kernel
theorem d_M_row_267 : decode md_M_row.2.1 267 = .ok (.aload_n 0, 1) := by decide +kernel
theorem d_M_row_268 : decode md_M_row.2.1 268 = .ok (.iload 8, 2) := by decide +kernel
theorem d_M_row_270 : decode md_M_row.2.1 270 = .ok (.iconst (-1), 1) := by decide +kernel
theorem d_M_row_271 : decode md_M_row.2.1 271 = .ok (.if_icmp .ne 20, 3) := by decide +kernel
theorem d_M_row_274 : decode md_M_row.2.1 274 = .ok (.aload_n 0, 1) := by decide +kernel
theorem d_M_row_275 : decode md_M_row.2.1 275 = .ok (.getfield 74, 3) := by decide +kernel
theorem d_M_row_278 : decode md_M_row.2.1 278 = .ok (.bipush 30, 2) := by decide +kernel
theorem d_M_row_280 : decode md_M_row.2.1 280 = .ok (.if_icmp .ne 7, 3) := by decide +kernel
theorem d_M_row_283 : decode md_M_row.2.1 283 = .ok (.iconst 2, 1) := by decide +kernel
theorem d_M_row_284 : decode md_M_row.2.1 284 = .ok (.goto 24, 3) := by decide +kernel
theorem d_M_row_287 : decode md_M_row.2.1 287 = .ok (.iconst 0, 1) := by decide +kernel
theorem d_M_row_288 : decode md_M_row.2.1 288 = .ok (.goto 20, 3) := by decide +kernel
theorem d_M_row_291 : decode md_M_row.2.1 291 = .ok (.aload_n 0, 1) := by decide +kernel
theorem d_M_row_292 : decode md_M_row.2.1 292 = .ok (.getfield 29, 3) := by decide +kernel
theorem d_M_row_295 : decode md_M_row.2.1 295 = .ok (.iload 8, 2) := by decide +kernel
theorem d_M_row_297 : decode md_M_row.2.1 297 = .ok (.iaload, 1) := by decide +kernel
theorem d_M_row_298 : decode md_M_row.2.1 298 = .ok (.bipush 60, 2) := by decide +kernel
theorem d_M_row_300 : decode md_M_row.2.1 300 = .ok (.if_icmp .ne 7, 3) := by decide +kernel
theorem d_M_row_303 : decode md_M_row.2.1 303 = .ok (.iconst 2, 1) := by decide +kernel
theorem d_M_row_304 : decode md_M_row.2.1 304 = .ok (.goto 4, 3) := by decide +kernel
theorem d_M_row_307 : decode md_M_row.2.1 307 = .ok (.iconst 0, 1) := by decide +kernel
theorem d_M_row_308 : decode md_M_row.2.1 308 = .ok (.putfield 67, 3) := by decide +kernel
theorem d_M_row_311 : decode md_M_row.2.1 311 = .ok (.aload_n 0, 1) := by decide +kernel
theorem d_M_row_312 : decode md_M_row.2.1 312 = .ok (.getfield 67, 3) := by decide +kernel
theorem d_M_row_315 : decode md_M_row.2.1 315 = .ok (.ifCond .le 5, 3) := by decide +kernel
theorem d_M_row_318 : decode md_M_row.2.1 318 = .ok (.iconst 0, 1) := by decide +kernel
theorem d_M_row_319 : decode md_M_row.2.1 319 = .ok (.ireturn, 1) := by decide +kernel
theorem d_M_row_320 : decode md_M_row.2.1 320 = .ok (.iload 8, 2) := by decide +kernel
theorem d_M_row_322 : decode md_M_row.2.1 322 = .ok (.iconst (-1), 1) := by decide +kernel
theorem d_M_row_323 : decode md_M_row.2.1 323 = .ok (.if_icmp .ne 27, 3) := by decide +kernel
theorem d_M_row_326 : decode md_M_row.2.1 326 = .ok (.aload_n 0, 1) := by decide +kernel
theorem d_M_row_327 : decode md_M_row.2.1 327 = .ok (.getfield 74, 3) := by decide +kernel
theorem d_M_row_330 : decode md_M_row.2.1 330 = .ok (.istore 8, 2) := by decide +kernel
theorem d_M_row_332 : decode md_M_row.2.1 332 = .ok (.aload_n 0, 1) := by decide +kernel
theorem d_M_row_333 : decode md_M_row.2.1 333 = .ok (.getfield 26, 3) := by decide +kernel
theorem d_M_row_336 : decode md_M_row.2.1 336 = .ok (.iload 8, 2) := by decide +kernel
theorem d_M_row_338 : decode md_M_row.2.1 338 = .ok (.lload_n 1, 1) := by decide +kernel
theorem d_M_row_339 : decode md_M_row.2.1 339 = .ok (.lastore, 1) := by decide +kernel
theorem d_M_row_340 : decode md_M_row.2.1 340 = .ok (.aload_n 0, 1) := by decide +kernel
theorem d_M_row_341 : decode md_M_row.2.1 341 = .ok (.dup, 1) := by decide +kernel
theorem d_M_row_342 : decode md_M_row.2.1 342 = .ok (.getfield 74, 3) := by decide +kernel
theorem d_M_row_345 : decode md_M_row.2.1 345 = .ok (.iconst 1, 1) := by decide +kernel
theorem d_M_row_346 : decode md_M_row.2.1 346 = .ok (.iadd, 1) := by decide +kernel
theorem d_M_row_347 : decode md_M_row.2.1 347 = .ok (.putfield 74, 3) := by decide +kernel
theorem d_M_row_350 : decode md_M_row.2.1 350 = .ok (.aload_n 0, 1) := by decide +kernel
theorem d_M_row_351 : decode md_M_row.2.1 351 = .ok (.dup, 1) := by decide +kernel
theorem d_M_row_352 : decode md_M_row.2.1 352 = .ok (.getfield 118, 3) := by decide +kernel
theorem d_M_row_355 : decode md_M_row.2.1 355 = .ok (.iload 7, 2) := by decide +kernel
theorem d_M_row_357 : decode md_M_row.2.1 357 = .ok (.ifCond .eq 7, 3) := by decide +kernel
theorem d_M_row_360 : decode md_M_row.2.1 360 = .ok (.iconst 1, 1) := by decide +kernel
theorem d_M_row_361 : decode md_M_row.2.1 361 = .ok (.goto 4, 3) := by decide +kernel
theorem d_M_row_364 : decode md_M_row.2.1 364 = .ok (.iconst 0, 1) := by decide +kernel
theorem d_M_row_365 : decode md_M_row.2.1 365 = .ok (.iadd, 1) := by decide +kernel
theorem d_M_row_366 : decode md_M_row.2.1 366 = .ok (.putfield 118, 3) := by decide +kernel
theorem d_M_row_369 : decode md_M_row.2.1 369 = .ok (.aload_n 0, 1) := by decide +kernel
theorem d_M_row_370 : decode md_M_row.2.1 370 = .ok (.iload 8, 2) := by decide +kernel
theorem d_M_row_372 : decode md_M_row.2.1 372 = .ok (.lload_n 3, 1) := by decide +kernel
theorem d_M_row_373 : decode md_M_row.2.1 373 = .ok (.lload 5, 2) := by decide +kernel
theorem d_M_row_375 : decode md_M_row.2.1 375 = .ok (.invokevirtual 141, 3) := by decide +kernel
theorem d_M_row_378 : decode md_M_row.2.1 378 = .ok (.iconst 0, 1) := by decide +kernel
theorem d_M_row_379 : decode md_M_row.2.1 379 = .ok (.ireturn, 1) := by decide +kernel
theorem d_M_stopOf_0 : decode md_M_stopOf.2.1 0 = .ok (.iconst 0, 1) := by decide +kernel
theorem d_M_stopOf_1 : decode md_M_stopOf.2.1 1 = .ok (.istore_n 3, 1) := by decide +kernel
theorem d_M_stopOf_2 : decode md_M_stopOf.2.1 2 = .ok (.iload_n 3, 1) := by decide +kernel
theorem d_M_stopOf_3 : decode md_M_stopOf.2.1 3 = .ok (.aload_n 0, 1) := by decide +kernel
theorem d_M_stopOf_4 : decode md_M_stopOf.2.1 4 = .ok (.getfield 77, 3) := by decide +kernel
theorem d_M_stopOf_7 : decode md_M_stopOf.2.1 7 = .ok (.if_icmp .ge 20, 3) := by decide +kernel
theorem d_M_stopOf_10 : decode md_M_stopOf.2.1 10 = .ok (.aload_n 0, 1) := by decide +kernel
theorem d_M_stopOf_11 : decode md_M_stopOf.2.1 11 = .ok (.getfield 41, 3) := by decide +kernel
theorem d_M_stopOf_14 : decode md_M_stopOf.2.1 14 = .ok (.iload_n 3, 1) := by decide +kernel
theorem d_M_stopOf_15 : decode md_M_stopOf.2.1 15 = .ok (.laload, 1) := by decide +kernel
theorem d_M_stopOf_16 : decode md_M_stopOf.2.1 16 = .ok (.lload_n 1, 1) := by decide +kernel
theorem d_M_stopOf_17 : decode md_M_stopOf.2.1 17 = .ok (.lcmp, 1) := by decide +kernel
theorem d_M_stopOf_18 : decode md_M_stopOf.2.1 18 = .ok (.ifCond .eq 9, 3) := by decide +kernel
theorem d_M_stopOf_21 : decode md_M_stopOf.2.1 21 = .ok (.iinc 3 1, 3) := by decide +kernel
theorem d_M_stopOf_24 : decode md_M_stopOf.2.1 24 = .ok (.goto (-22), 3) := by decide +kernel
theorem d_M_stopOf_27 : decode md_M_stopOf.2.1 27 = .ok (.iload_n 3, 1) := by decide +kernel
theorem d_M_stopOf_28 : decode md_M_stopOf.2.1 28 = .ok (.aload_n 0, 1) := by decide +kernel
theorem d_M_stopOf_29 : decode md_M_stopOf.2.1 29 = .ok (.getfield 77, 3) := by decide +kernel
theorem d_M_stopOf_32 : decode md_M_stopOf.2.1 32 = .ok (.if_icmp .ge 7, 3) := by decide +kernel
theorem d_M_stopOf_35 : decode md_M_stopOf.2.1 35 = .ok (.iload_n 3, 1) := by decide +kernel
theorem d_M_stopOf_36 : decode md_M_stopOf.2.1 36 = .ok (.goto 4, 3) := by decide +kernel
theorem d_M_stopOf_39 : decode md_M_stopOf.2.1 39 = .ok (.iconst (-1), 1) := by decide +kernel
theorem d_M_stopOf_40 : decode md_M_stopOf.2.1 40 = .ok (.ireturn, 1) := by decide +kernel
theorem d_M_putAside_0 : decode md_M_putAside.2.1 0 = .ok (.aload_n 0, 1) := by decide +kernel
theorem d_M_putAside_1 : decode md_M_putAside.2.1 1 = .ok (.getfield 101, 3) := by decide +kernel
theorem d_M_putAside_4 : decode md_M_putAside.2.1 4 = .ok (.bipush 100, 2) := by decide +kernel
theorem d_M_putAside_6 : decode md_M_putAside.2.1 6 = .ok (.if_icmp .ge 60, 3) := by decide +kernel
theorem d_M_putAside_9 : decode md_M_putAside.2.1 9 = .ok (.aload_n 0, 1) := by decide +kernel
theorem d_M_putAside_10 : decode md_M_putAside.2.1 10 = .ok (.getfield 44, 3) := by decide +kernel
theorem d_M_putAside_13 : decode md_M_putAside.2.1 13 = .ok (.iconst 4, 1) := by decide +kernel
theorem d_M_putAside_14 : decode md_M_putAside.2.1 14 = .ok (.aload_n 0, 1) := by decide +kernel
theorem d_M_putAside_15 : decode md_M_putAside.2.1 15 = .ok (.getfield 101, 3) := by decide +kernel
theorem d_M_putAside_18 : decode md_M_putAside.2.1 18 = .ok (.imul, 1) := by decide +kernel
theorem d_M_putAside_19 : decode md_M_putAside.2.1 19 = .ok (.lload_n 1, 1) := by decide +kernel
theorem d_M_putAside_20 : decode md_M_putAside.2.1 20 = .ok (.lastore, 1) := by decide +kernel
theorem d_M_putAside_21 : decode md_M_putAside.2.1 21 = .ok (.aload_n 0, 1) := by decide +kernel
theorem d_M_putAside_22 : decode md_M_putAside.2.1 22 = .ok (.getfield 44, 3) := by decide +kernel
theorem d_M_putAside_25 : decode md_M_putAside.2.1 25 = .ok (.iconst 4, 1) := by decide +kernel
theorem d_M_putAside_26 : decode md_M_putAside.2.1 26 = .ok (.aload_n 0, 1) := by decide +kernel
theorem d_M_putAside_27 : decode md_M_putAside.2.1 27 = .ok (.getfield 101, 3) := by decide +kernel
theorem d_M_putAside_30 : decode md_M_putAside.2.1 30 = .ok (.imul, 1) := by decide +kernel
theorem d_M_putAside_31 : decode md_M_putAside.2.1 31 = .ok (.iconst 1, 1) := by decide +kernel
theorem d_M_putAside_32 : decode md_M_putAside.2.1 32 = .ok (.iadd, 1) := by decide +kernel
theorem d_M_putAside_33 : decode md_M_putAside.2.1 33 = .ok (.lload_n 3, 1) := by decide +kernel
theorem d_M_putAside_34 : decode md_M_putAside.2.1 34 = .ok (.lastore, 1) := by decide +kernel
theorem d_M_putAside_35 : decode md_M_putAside.2.1 35 = .ok (.aload_n 0, 1) := by decide +kernel
theorem d_M_putAside_36 : decode md_M_putAside.2.1 36 = .ok (.getfield 44, 3) := by decide +kernel
theorem d_M_putAside_39 : decode md_M_putAside.2.1 39 = .ok (.iconst 4, 1) := by decide +kernel
theorem d_M_putAside_40 : decode md_M_putAside.2.1 40 = .ok (.aload_n 0, 1) := by decide +kernel
theorem d_M_putAside_41 : decode md_M_putAside.2.1 41 = .ok (.getfield 101, 3) := by decide +kernel
theorem d_M_putAside_44 : decode md_M_putAside.2.1 44 = .ok (.imul, 1) := by decide +kernel
theorem d_M_putAside_45 : decode md_M_putAside.2.1 45 = .ok (.iconst 2, 1) := by decide +kernel
theorem d_M_putAside_46 : decode md_M_putAside.2.1 46 = .ok (.iadd, 1) := by decide +kernel
theorem d_M_putAside_47 : decode md_M_putAside.2.1 47 = .ok (.lload 5, 2) := by decide +kernel
theorem d_M_putAside_49 : decode md_M_putAside.2.1 49 = .ok (.lastore, 1) := by decide +kernel
theorem d_M_putAside_50 : decode md_M_putAside.2.1 50 = .ok (.aload_n 0, 1) := by decide +kernel
theorem d_M_putAside_51 : decode md_M_putAside.2.1 51 = .ok (.getfield 44, 3) := by decide +kernel
theorem d_M_putAside_54 : decode md_M_putAside.2.1 54 = .ok (.iconst 4, 1) := by decide +kernel
theorem d_M_putAside_55 : decode md_M_putAside.2.1 55 = .ok (.aload_n 0, 1) := by decide +kernel
theorem d_M_putAside_56 : decode md_M_putAside.2.1 56 = .ok (.getfield 101, 3) := by decide +kernel
theorem d_M_putAside_59 : decode md_M_putAside.2.1 59 = .ok (.imul, 1) := by decide +kernel
theorem d_M_putAside_60 : decode md_M_putAside.2.1 60 = .ok (.iconst 3, 1) := by decide +kernel
theorem d_M_putAside_61 : decode md_M_putAside.2.1 61 = .ok (.iadd, 1) := by decide +kernel
theorem d_M_putAside_62 : decode md_M_putAside.2.1 62 = .ok (.iload 7, 2) := by decide +kernel
theorem d_M_putAside_64 : decode md_M_putAside.2.1 64 = .ok (.i2l, 1) := by decide +kernel
theorem d_M_putAside_65 : decode md_M_putAside.2.1 65 = .ok (.lastore, 1) := by decide +kernel
theorem d_M_putAside_66 : decode md_M_putAside.2.1 66 = .ok (.aload_n 0, 1) := by decide +kernel
theorem d_M_putAside_67 : decode md_M_putAside.2.1 67 = .ok (.dup, 1) := by decide +kernel
theorem d_M_putAside_68 : decode md_M_putAside.2.1 68 = .ok (.getfield 101, 3) := by decide +kernel
theorem d_M_putAside_71 : decode md_M_putAside.2.1 71 = .ok (.iconst 1, 1) := by decide +kernel
theorem d_M_putAside_72 : decode md_M_putAside.2.1 72 = .ok (.iadd, 1) := by decide +kernel
theorem d_M_putAside_73 : decode md_M_putAside.2.1 73 = .ok (.putfield 101, 3) := by decide +kernel
theorem d_M_putAside_76 : decode md_M_putAside.2.1 76 = .ok (.return_, 1) := by decide +kernel
theorem d_M_keyOf_0 : decode md_M_keyOf.2.1 0 = .ok (.iconst 0, 1) := by decide +kernel
theorem d_M_keyOf_1 : decode md_M_keyOf.2.1 1 = .ok (.istore_n 3, 1) := by decide +kernel
theorem d_M_keyOf_2 : decode md_M_keyOf.2.1 2 = .ok (.iload_n 3, 1) := by decide +kernel
theorem d_M_keyOf_3 : decode md_M_keyOf.2.1 3 = .ok (.aload_n 0, 1) := by decide +kernel
theorem d_M_keyOf_4 : decode md_M_keyOf.2.1 4 = .ok (.getfield 74, 3) := by decide +kernel
theorem d_M_keyOf_7 : decode md_M_keyOf.2.1 7 = .ok (.if_icmp .ge 20, 3) := by decide +kernel
theorem d_M_keyOf_10 : decode md_M_keyOf.2.1 10 = .ok (.aload_n 0, 1) := by decide +kernel
theorem d_M_keyOf_11 : decode md_M_keyOf.2.1 11 = .ok (.getfield 26, 3) := by decide +kernel
theorem d_M_keyOf_14 : decode md_M_keyOf.2.1 14 = .ok (.iload_n 3, 1) := by decide +kernel
theorem d_M_keyOf_15 : decode md_M_keyOf.2.1 15 = .ok (.laload, 1) := by decide +kernel
theorem d_M_keyOf_16 : decode md_M_keyOf.2.1 16 = .ok (.lload_n 1, 1) := by decide +kernel
theorem d_M_keyOf_17 : decode md_M_keyOf.2.1 17 = .ok (.lcmp, 1) := by decide +kernel
theorem d_M_keyOf_18 : decode md_M_keyOf.2.1 18 = .ok (.ifCond .eq 9, 3) := by decide +kernel
theorem d_M_keyOf_21 : decode md_M_keyOf.2.1 21 = .ok (.iinc 3 1, 3) := by decide +kernel
theorem d_M_keyOf_24 : decode md_M_keyOf.2.1 24 = .ok (.goto (-22), 3) := by decide +kernel
theorem d_M_keyOf_27 : decode md_M_keyOf.2.1 27 = .ok (.iload_n 3, 1) := by decide +kernel
theorem d_M_keyOf_28 : decode md_M_keyOf.2.1 28 = .ok (.aload_n 0, 1) := by decide +kernel
theorem d_M_keyOf_29 : decode md_M_keyOf.2.1 29 = .ok (.getfield 74, 3) := by decide +kernel
theorem d_M_keyOf_32 : decode md_M_keyOf.2.1 32 = .ok (.if_icmp .ge 7, 3) := by decide +kernel
theorem d_M_keyOf_35 : decode md_M_keyOf.2.1 35 = .ok (.iload_n 3, 1) := by decide +kernel
theorem d_M_keyOf_36 : decode md_M_keyOf.2.1 36 = .ok (.goto 4, 3) := by decide +kernel
theorem d_M_keyOf_39 : decode md_M_keyOf.2.1 39 = .ok (.iconst (-1), 1) := by decide +kernel
theorem d_M_keyOf_40 : decode md_M_keyOf.2.1 40 = .ok (.ireturn, 1) := by decide +kernel
theorem d_M_isDouble_0 : decode md_M_isDouble.2.1 0 = .ok (.iconst 0, 1) := by decide +kernel
theorem d_M_isDouble_1 : decode md_M_isDouble.2.1 1 = .ok (.istore 6, 2) := by decide +kernel
theorem d_M_isDouble_3 : decode md_M_isDouble.2.1 3 = .ok (.iconst 0, 1) := by decide +kernel
theorem d_M_isDouble_4 : decode md_M_isDouble.2.1 4 = .ok (.istore 7, 2) := by decide +kernel
theorem d_M_isDouble_6 : decode md_M_isDouble.2.1 6 = .ok (.iload_n 1, 1) := by decide +kernel
theorem d_M_isDouble_7 : decode md_M_isDouble.2.1 7 = .ok (.iconst (-1), 1) := by decide +kernel
theorem d_M_isDouble_8 : decode md_M_isDouble.2.1 8 = .ok (.if_icmp .eq 88, 3) := by decide +kernel
theorem d_M_isDouble_11 : decode md_M_isDouble.2.1 11 = .ok (.iload 7, 2) := by decide +kernel
theorem d_M_isDouble_13 : decode md_M_isDouble.2.1 13 = .ok (.aload_n 0, 1) := by decide +kernel
theorem d_M_isDouble_14 : decode md_M_isDouble.2.1 14 = .ok (.getfield 29, 3) := by decide +kernel
theorem d_M_isDouble_17 : decode md_M_isDouble.2.1 17 = .ok (.iload_n 1, 1) := by decide +kernel
theorem d_M_isDouble_18 : decode md_M_isDouble.2.1 18 = .ok (.iaload, 1) := by decide +kernel
theorem d_M_isDouble_19 : decode md_M_isDouble.2.1 19 = .ok (.if_icmp .ge 77, 3) := by decide +kernel
theorem d_M_isDouble_22 : decode md_M_isDouble.2.1 22 = .ok (.lload_n 2, 1) := by decide +kernel
theorem d_M_isDouble_23 : decode md_M_isDouble.2.1 23 = .ok (.aload_n 0, 1) := by decide +kernel
theorem d_M_isDouble_24 : decode md_M_isDouble.2.1 24 = .ok (.getfield 35, 3) := by decide +kernel
theorem d_M_isDouble_27 : decode md_M_isDouble.2.1 27 = .ok (.bipush 62, 2) := by decide +kernel
theorem d_M_isDouble_29 : decode md_M_isDouble.2.1 29 = .ok (.iload_n 1, 1) := by decide +kernel
theorem d_M_isDouble_30 : decode md_M_isDouble.2.1 30 = .ok (.imul, 1) := by decide +kernel
theorem d_M_isDouble_31 : decode md_M_isDouble.2.1 31 = .ok (.iload 7, 2) := by decide +kernel
theorem d_M_isDouble_33 : decode md_M_isDouble.2.1 33 = .ok (.iadd, 1) := by decide +kernel
theorem d_M_isDouble_34 : decode md_M_isDouble.2.1 34 = .ok (.laload, 1) := by decide +kernel
theorem d_M_isDouble_35 : decode md_M_isDouble.2.1 35 = .ok (.lsub, 1) := by decide +kernel
theorem d_M_isDouble_36 : decode md_M_isDouble.2.1 36 = .ok (.lstore 8, 2) := by decide +kernel
theorem d_M_isDouble_38 : decode md_M_isDouble.2.1 38 = .ok (.iload 6, 2) := by decide +kernel
theorem d_M_isDouble_40 : decode md_M_isDouble.2.1 40 = .ok (.aload_n 0, 1) := by decide +kernel
theorem d_M_isDouble_41 : decode md_M_isDouble.2.1 41 = .ok (.getfield 38, 3) := by decide +kernel
theorem d_M_isDouble_44 : decode md_M_isDouble.2.1 44 = .ok (.bipush 62, 2) := by decide +kernel
theorem d_M_isDouble_46 : decode md_M_isDouble.2.1 46 = .ok (.iload_n 1, 1) := by decide +kernel
theorem d_M_isDouble_47 : decode md_M_isDouble.2.1 47 = .ok (.imul, 1) := by decide +kernel
theorem d_M_isDouble_48 : decode md_M_isDouble.2.1 48 = .ok (.iload 7, 2) := by decide +kernel
theorem d_M_isDouble_50 : decode md_M_isDouble.2.1 50 = .ok (.iadd, 1) := by decide +kernel
theorem d_M_isDouble_51 : decode md_M_isDouble.2.1 51 = .ok (.laload, 1) := by decide +kernel
theorem d_M_isDouble_52 : decode md_M_isDouble.2.1 52 = .ok (.lload 4, 2) := by decide +kernel
theorem d_M_isDouble_54 : decode md_M_isDouble.2.1 54 = .ok (.lcmp, 1) := by decide +kernel
theorem d_M_isDouble_55 : decode md_M_isDouble.2.1 55 = .ok (.ifCond .ne 31, 3) := by decide +kernel
theorem d_M_isDouble_58 : decode md_M_isDouble.2.1 58 = .ok (.lload 8, 2) := by decide +kernel
theorem d_M_isDouble_60 : decode md_M_isDouble.2.1 60 = .ok (.lconst 0, 1) := by decide +kernel
theorem d_M_isDouble_61 : decode md_M_isDouble.2.1 61 = .ok (.lcmp, 1) := by decide +kernel
theorem d_M_isDouble_62 : decode md_M_isDouble.2.1 62 = .ok (.ifCond .ge 9, 3) := by decide +kernel
theorem d_M_isDouble_65 : decode md_M_isDouble.2.1 65 = .ok (.lload 8, 2) := by decide +kernel
theorem d_M_isDouble_67 : decode md_M_isDouble.2.1 67 = .ok (.lneg, 1) := by decide +kernel
theorem d_M_isDouble_68 : decode md_M_isDouble.2.1 68 = .ok (.goto 5, 3) := by decide +kernel
theorem d_M_isDouble_71 : decode md_M_isDouble.2.1 71 = .ok (.lload 8, 2) := by decide +kernel
theorem d_M_isDouble_73 : decode md_M_isDouble.2.1 73 = .ok (.aload_n 0, 1) := by decide +kernel
theorem d_M_isDouble_74 : decode md_M_isDouble.2.1 74 = .ok (.getfield 61, 3) := by decide +kernel
theorem d_M_isDouble_77 : decode md_M_isDouble.2.1 77 = .ok (.i2l, 1) := by decide +kernel
theorem d_M_isDouble_78 : decode md_M_isDouble.2.1 78 = .ok (.lcmp, 1) := by decide +kernel
theorem d_M_isDouble_79 : decode md_M_isDouble.2.1 79 = .ok (.ifCond .ge 7, 3) := by decide +kernel
theorem d_M_isDouble_82 : decode md_M_isDouble.2.1 82 = .ok (.iconst 1, 1) := by decide +kernel
theorem d_M_isDouble_83 : decode md_M_isDouble.2.1 83 = .ok (.goto 4, 3) := by decide +kernel
theorem d_M_isDouble_86 : decode md_M_isDouble.2.1 86 = .ok (.iconst 0, 1) := by decide +kernel
theorem d_M_isDouble_87 : decode md_M_isDouble.2.1 87 = .ok (.ior, 1) := by decide +kernel
theorem d_M_isDouble_88 : decode md_M_isDouble.2.1 88 = .ok (.istore 6, 2) := by decide +kernel
theorem d_M_isDouble_90 : decode md_M_isDouble.2.1 90 = .ok (.iinc 7 1, 3) := by decide +kernel
theorem d_M_isDouble_93 : decode md_M_isDouble.2.1 93 = .ok (.goto (-87), 3) := by decide +kernel
theorem d_M_isDouble_96 : decode md_M_isDouble.2.1 96 = .ok (.iload 6, 2) := by decide +kernel
theorem d_M_isDouble_98 : decode md_M_isDouble.2.1 98 = .ok (.ireturn, 1) := by decide +kernel
theorem d_M_causeOf_0 : decode md_M_causeOf.2.1 0 = .ok (.iconst 0, 1) := by decide +kernel
theorem d_M_causeOf_1 : decode md_M_causeOf.2.1 1 = .ok (.istore_n 3, 1) := by decide +kernel
theorem d_M_causeOf_2 : decode md_M_causeOf.2.1 2 = .ok (.iload_n 3, 1) := by decide +kernel
theorem d_M_causeOf_3 : decode md_M_causeOf.2.1 3 = .ok (.aload_n 0, 1) := by decide +kernel
theorem d_M_causeOf_4 : decode md_M_causeOf.2.1 4 = .ok (.getfield 71, 3) := by decide +kernel
theorem d_M_causeOf_7 : decode md_M_causeOf.2.1 7 = .ok (.if_icmp .ge 20, 3) := by decide +kernel
theorem d_M_causeOf_10 : decode md_M_causeOf.2.1 10 = .ok (.aload_n 0, 1) := by decide +kernel
theorem d_M_causeOf_11 : decode md_M_causeOf.2.1 11 = .ok (.iload_n 3, 1) := by decide +kernel
theorem d_M_causeOf_12 : decode md_M_causeOf.2.1 12 = .ok (.lload_n 1, 1) := by decide +kernel
theorem d_M_causeOf_13 : decode md_M_causeOf.2.1 13 = .ok (.invokevirtual 87, 3) := by decide +kernel
theorem d_M_causeOf_16 : decode md_M_causeOf.2.1 16 = .ok (.ifCond .eq 5, 3) := by decide +kernel
theorem d_M_causeOf_19 : decode md_M_causeOf.2.1 19 = .ok (.iload_n 3, 1) := by decide +kernel
theorem d_M_causeOf_20 : decode md_M_causeOf.2.1 20 = .ok (.ireturn, 1) := by decide +kernel
theorem d_M_causeOf_21 : decode md_M_causeOf.2.1 21 = .ok (.iinc 3 1, 3) := by decide +kernel
theorem d_M_causeOf_24 : decode md_M_causeOf.2.1 24 = .ok (.goto (-22), 3) := by decide +kernel
theorem d_M_causeOf_27 : decode md_M_causeOf.2.1 27 = .ok (.iconst (-1), 1) := by decide +kernel
theorem d_M_causeOf_28 : decode md_M_causeOf.2.1 28 = .ok (.ireturn, 1) := by decide +kernel
theorem d_M_take_0 : decode md_M_take.2.1 0 = .ok (.aload_n 0, 1) := by decide +kernel
theorem d_M_take_1 : decode md_M_take.2.1 1 = .ok (.dup, 1) := by decide +kernel
theorem d_M_take_2 : decode md_M_take.2.1 2 = .ok (.getfield 80, 3) := by decide +kernel
theorem d_M_take_5 : decode md_M_take.2.1 5 = .ok (.iconst 1, 1) := by decide +kernel
theorem d_M_take_6 : decode md_M_take.2.1 6 = .ok (.iadd, 1) := by decide +kernel
theorem d_M_take_7 : decode md_M_take.2.1 7 = .ok (.putfield 80, 3) := by decide +kernel
theorem d_M_take_10 : decode md_M_take.2.1 10 = .ok (.aload_n 0, 1) := by decide +kernel
theorem d_M_take_11 : decode md_M_take.2.1 11 = .ok (.getfield 29, 3) := by decide +kernel
theorem d_M_take_14 : decode md_M_take.2.1 14 = .ok (.iload_n 1, 1) := by decide +kernel
theorem d_M_take_15 : decode md_M_take.2.1 15 = .ok (.iaload, 1) := by decide +kernel
theorem d_M_take_16 : decode md_M_take.2.1 16 = .ok (.istore 6, 2) := by decide +kernel
theorem d_M_take_18 : decode md_M_take.2.1 18 = .ok (.iload 6, 2) := by decide +kernel
theorem d_M_take_20 : decode md_M_take.2.1 20 = .ok (.ifCond .le 80, 3) := by decide +kernel
theorem d_M_take_23 : decode md_M_take.2.1 23 = .ok (.aload_n 0, 1) := by decide +kernel
theorem d_M_take_24 : decode md_M_take.2.1 24 = .ok (.getfield 35, 3) := by decide +kernel
theorem d_M_take_27 : decode md_M_take.2.1 27 = .ok (.bipush 62, 2) := by decide +kernel
theorem d_M_take_29 : decode md_M_take.2.1 29 = .ok (.iload_n 1, 1) := by decide +kernel
theorem d_M_take_30 : decode md_M_take.2.1 30 = .ok (.imul, 1) := by decide +kernel
theorem d_M_take_31 : decode md_M_take.2.1 31 = .ok (.iload 6, 2) := by decide +kernel
theorem d_M_take_33 : decode md_M_take.2.1 33 = .ok (.iadd, 1) := by decide +kernel
theorem d_M_take_34 : decode md_M_take.2.1 34 = .ok (.iconst 1, 1) := by decide +kernel
theorem d_M_take_35 : decode md_M_take.2.1 35 = .ok (.isub, 1) := by decide +kernel
theorem d_M_take_36 : decode md_M_take.2.1 36 = .ok (.laload, 1) := by decide +kernel
theorem d_M_take_37 : decode md_M_take.2.1 37 = .ok (.lload_n 2, 1) := by decide +kernel
theorem d_M_take_38 : decode md_M_take.2.1 38 = .ok (.lcmp, 1) := by decide +kernel
theorem d_M_take_39 : decode md_M_take.2.1 39 = .ok (.ifCond .le 61, 3) := by decide +kernel
theorem d_M_take_42 : decode md_M_take.2.1 42 = .ok (.aload_n 0, 1) := by decide +kernel
theorem d_M_take_43 : decode md_M_take.2.1 43 = .ok (.getfield 35, 3) := by decide +kernel
theorem d_M_take_46 : decode md_M_take.2.1 46 = .ok (.bipush 62, 2) := by decide +kernel
theorem d_M_take_48 : decode md_M_take.2.1 48 = .ok (.iload_n 1, 1) := by decide +kernel
theorem d_M_take_49 : decode md_M_take.2.1 49 = .ok (.imul, 1) := by decide +kernel
theorem d_M_take_50 : decode md_M_take.2.1 50 = .ok (.iload 6, 2) := by decide +kernel
theorem d_M_take_52 : decode md_M_take.2.1 52 = .ok (.iadd, 1) := by decide +kernel
theorem d_M_take_53 : decode md_M_take.2.1 53 = .ok (.aload_n 0, 1) := by decide +kernel
theorem d_M_take_54 : decode md_M_take.2.1 54 = .ok (.getfield 35, 3) := by decide +kernel
theorem d_M_take_57 : decode md_M_take.2.1 57 = .ok (.bipush 62, 2) := by decide +kernel
theorem d_M_take_59 : decode md_M_take.2.1 59 = .ok (.iload_n 1, 1) := by decide +kernel
theorem d_M_take_60 : decode md_M_take.2.1 60 = .ok (.imul, 1) := by decide +kernel
theorem d_M_take_61 : decode md_M_take.2.1 61 = .ok (.iload 6, 2) := by decide +kernel
theorem d_M_take_63 : decode md_M_take.2.1 63 = .ok (.iadd, 1) := by decide +kernel
theorem d_M_take_64 : decode md_M_take.2.1 64 = .ok (.iconst 1, 1) := by decide +kernel
theorem d_M_take_65 : decode md_M_take.2.1 65 = .ok (.isub, 1) := by decide +kernel
theorem d_M_take_66 : decode md_M_take.2.1 66 = .ok (.laload, 1) := by decide +kernel
theorem d_M_take_67 : decode md_M_take.2.1 67 = .ok (.lastore, 1) := by decide +kernel
theorem d_M_take_68 : decode md_M_take.2.1 68 = .ok (.aload_n 0, 1) := by decide +kernel
theorem d_M_take_69 : decode md_M_take.2.1 69 = .ok (.getfield 38, 3) := by decide +kernel
theorem d_M_take_72 : decode md_M_take.2.1 72 = .ok (.bipush 62, 2) := by decide +kernel
theorem d_M_take_74 : decode md_M_take.2.1 74 = .ok (.iload_n 1, 1) := by decide +kernel
theorem d_M_take_75 : decode md_M_take.2.1 75 = .ok (.imul, 1) := by decide +kernel
theorem d_M_take_76 : decode md_M_take.2.1 76 = .ok (.iload 6, 2) := by decide +kernel
theorem d_M_take_78 : decode md_M_take.2.1 78 = .ok (.iadd, 1) := by decide +kernel
theorem d_M_take_79 : decode md_M_take.2.1 79 = .ok (.aload_n 0, 1) := by decide +kernel
theorem d_M_take_80 : decode md_M_take.2.1 80 = .ok (.getfield 38, 3) := by decide +kernel
theorem d_M_take_83 : decode md_M_take.2.1 83 = .ok (.bipush 62, 2) := by decide +kernel
theorem d_M_take_85 : decode md_M_take.2.1 85 = .ok (.iload_n 1, 1) := by decide +kernel
theorem d_M_take_86 : decode md_M_take.2.1 86 = .ok (.imul, 1) := by decide +kernel
theorem d_M_take_87 : decode md_M_take.2.1 87 = .ok (.iload 6, 2) := by decide +kernel
theorem d_M_take_89 : decode md_M_take.2.1 89 = .ok (.iadd, 1) := by decide +kernel
theorem d_M_take_90 : decode md_M_take.2.1 90 = .ok (.iconst 1, 1) := by decide +kernel
theorem d_M_take_91 : decode md_M_take.2.1 91 = .ok (.isub, 1) := by decide +kernel
theorem d_M_take_92 : decode md_M_take.2.1 92 = .ok (.laload, 1) := by decide +kernel
theorem d_M_take_93 : decode md_M_take.2.1 93 = .ok (.lastore, 1) := by decide +kernel
theorem d_M_take_94 : decode md_M_take.2.1 94 = .ok (.iinc 6 (-1), 3) := by decide +kernel
theorem d_M_take_97 : decode md_M_take.2.1 97 = .ok (.goto (-79), 3) := by decide +kernel
theorem d_M_take_100 : decode md_M_take.2.1 100 = .ok (.aload_n 0, 1) := by decide +kernel
theorem d_M_take_101 : decode md_M_take.2.1 101 = .ok (.getfield 35, 3) := by decide +kernel
theorem d_M_take_104 : decode md_M_take.2.1 104 = .ok (.bipush 62, 2) := by decide +kernel
theorem d_M_take_106 : decode md_M_take.2.1 106 = .ok (.iload_n 1, 1) := by decide +kernel
theorem d_M_take_107 : decode md_M_take.2.1 107 = .ok (.imul, 1) := by decide +kernel
theorem d_M_take_108 : decode md_M_take.2.1 108 = .ok (.iload 6, 2) := by decide +kernel
theorem d_M_take_110 : decode md_M_take.2.1 110 = .ok (.iadd, 1) := by decide +kernel
theorem d_M_take_111 : decode md_M_take.2.1 111 = .ok (.lload_n 2, 1) := by decide +kernel
theorem d_M_take_112 : decode md_M_take.2.1 112 = .ok (.lastore, 1) := by decide +kernel
theorem d_M_take_113 : decode md_M_take.2.1 113 = .ok (.aload_n 0, 1) := by decide +kernel
theorem d_M_take_114 : decode md_M_take.2.1 114 = .ok (.getfield 38, 3) := by decide +kernel
theorem d_M_take_117 : decode md_M_take.2.1 117 = .ok (.bipush 62, 2) := by decide +kernel
theorem d_M_take_119 : decode md_M_take.2.1 119 = .ok (.iload_n 1, 1) := by decide +kernel
theorem d_M_take_120 : decode md_M_take.2.1 120 = .ok (.imul, 1) := by decide +kernel
theorem d_M_take_121 : decode md_M_take.2.1 121 = .ok (.iload 6, 2) := by decide +kernel
theorem d_M_take_123 : decode md_M_take.2.1 123 = .ok (.iadd, 1) := by decide +kernel
theorem d_M_take_124 : decode md_M_take.2.1 124 = .ok (.lload 4, 2) := by decide +kernel
theorem d_M_take_126 : decode md_M_take.2.1 126 = .ok (.lastore, 1) := by decide +kernel
theorem d_M_take_127 : decode md_M_take.2.1 127 = .ok (.aload_n 0, 1) := by decide +kernel
theorem d_M_take_128 : decode md_M_take.2.1 128 = .ok (.getfield 29, 3) := by decide +kernel
theorem d_M_take_131 : decode md_M_take.2.1 131 = .ok (.iload_n 1, 1) := by decide +kernel
theorem d_M_take_132 : decode md_M_take.2.1 132 = .ok (.dup2, 1) := by decide +kernel
theorem d_M_take_133 : decode md_M_take.2.1 133 = .ok (.iaload, 1) := by decide +kernel
theorem d_M_take_134 : decode md_M_take.2.1 134 = .ok (.iconst 1, 1) := by decide +kernel
theorem d_M_take_135 : decode md_M_take.2.1 135 = .ok (.iadd, 1) := by decide +kernel
theorem d_M_take_136 : decode md_M_take.2.1 136 = .ok (.iastore, 1) := by decide +kernel
theorem d_M_take_137 : decode md_M_take.2.1 137 = .ok (.iload 6, 2) := by decide +kernel
theorem d_M_take_139 : decode md_M_take.2.1 139 = .ok (.aload_n 0, 1) := by decide +kernel
theorem d_M_take_140 : decode md_M_take.2.1 140 = .ok (.getfield 29, 3) := by decide +kernel
theorem d_M_take_143 : decode md_M_take.2.1 143 = .ok (.iload_n 1, 1) := by decide +kernel
theorem d_M_take_144 : decode md_M_take.2.1 144 = .ok (.iaload, 1) := by decide +kernel
theorem d_M_take_145 : decode md_M_take.2.1 145 = .ok (.iconst 1, 1) := by decide +kernel
theorem d_M_take_146 : decode md_M_take.2.1 146 = .ok (.isub, 1) := by decide +kernel
theorem d_M_take_147 : decode md_M_take.2.1 147 = .ok (.if_icmp .ne 7, 3) := by decide +kernel
theorem d_M_take_150 : decode md_M_take.2.1 150 = .ok (.iconst 1, 1) := by decide +kernel
theorem d_M_take_151 : decode md_M_take.2.1 151 = .ok (.goto 4, 3) := by decide +kernel
theorem d_M_take_154 : decode md_M_take.2.1 154 = .ok (.iconst 0, 1) := by decide +kernel
theorem d_M_take_155 : decode md_M_take.2.1 155 = .ok (.istore 7, 2) := by decide +kernel
theorem d_M_take_157 : decode md_M_take.2.1 157 = .ok (.iconst 0, 1) := by decide +kernel
theorem d_M_take_158 : decode md_M_take.2.1 158 = .ok (.istore 8, 2) := by decide +kernel
theorem d_M_take_160 : decode md_M_take.2.1 160 = .ok (.iload 8, 2) := by decide +kernel
theorem d_M_take_162 : decode md_M_take.2.1 162 = .ok (.aload_n 0, 1) := by decide +kernel
theorem d_M_take_163 : decode md_M_take.2.1 163 = .ok (.getfield 71, 3) := by decide +kernel
theorem d_M_take_166 : decode md_M_take.2.1 166 = .ok (.if_icmp .ge 47, 3) := by decide +kernel
theorem d_M_take_169 : decode md_M_take.2.1 169 = .ok (.aload_n 0, 1) := by decide +kernel
theorem d_M_take_170 : decode md_M_take.2.1 170 = .ok (.getfield 32, 3) := by decide +kernel
theorem d_M_take_173 : decode md_M_take.2.1 173 = .ok (.iload_n 1, 1) := by decide +kernel
theorem d_M_take_174 : decode md_M_take.2.1 174 = .ok (.dup2, 1) := by decide +kernel
theorem d_M_take_175 : decode md_M_take.2.1 175 = .ok (.iaload, 1) := by decide +kernel
theorem d_M_take_176 : decode md_M_take.2.1 176 = .ok (.iload 7, 2) := by decide +kernel
theorem d_M_take_178 : decode md_M_take.2.1 178 = .ok (.ifCond .ne 17, 3) := by decide +kernel
theorem d_M_take_181 : decode md_M_take.2.1 181 = .ok (.aload_n 0, 1) := by decide +kernel
theorem d_M_take_182 : decode md_M_take.2.1 182 = .ok (.aload_n 0, 1) := by decide +kernel
theorem d_M_take_183 : decode md_M_take.2.1 183 = .ok (.getfield 7, 3) := by decide +kernel
theorem d_M_take_186 : decode md_M_take.2.1 186 = .ok (.iload 8, 2) := by decide +kernel
theorem d_M_take_188 : decode md_M_take.2.1 188 = .ok (.iaload, 1) := by decide +kernel
theorem d_M_take_189 : decode md_M_take.2.1 189 = .ok (.invokevirtual 145, 3) := by decide +kernel
theorem d_M_take_192 : decode md_M_take.2.1 192 = .ok (.ifCond .eq 7, 3) := by decide +kernel
theorem d_M_take_195 : decode md_M_take.2.1 195 = .ok (.iconst 1, 1) := by decide +kernel
theorem d_M_take_196 : decode md_M_take.2.1 196 = .ok (.goto 9, 3) := by decide +kernel
theorem d_M_take_199 : decode md_M_take.2.1 199 = .ok (.aload_n 0, 1) := by decide +kernel
theorem d_M_take_200 : decode md_M_take.2.1 200 = .ok (.getfield 29, 3) := by decide +kernel
theorem d_M_take_203 : decode md_M_take.2.1 203 = .ok (.iload_n 1, 1) := by decide +kernel
theorem d_M_take_204 : decode md_M_take.2.1 204 = .ok (.iaload, 1) := by decide +kernel
theorem d_M_take_205 : decode md_M_take.2.1 205 = .ok (.iadd, 1) := by decide +kernel
theorem d_M_take_206 : decode md_M_take.2.1 206 = .ok (.iastore, 1) := by decide +kernel
theorem d_M_take_207 : decode md_M_take.2.1 207 = .ok (.iinc 8 1, 3) := by decide +kernel
theorem d_M_take_210 : decode md_M_take.2.1 210 = .ok (.goto (-50), 3) := by decide +kernel
theorem d_M_take_213 : decode md_M_take.2.1 213 = .ok (.lload_n 2, 1) := by decide +kernel
theorem d_M_take_214 : decode md_M_take.2.1 214 = .ok (.aload_n 0, 1) := by decide +kernel
theorem d_M_take_215 : decode md_M_take.2.1 215 = .ok (.getfield 54, 3) := by decide +kernel
theorem d_M_take_218 : decode md_M_take.2.1 218 = .ok (.i2l, 1) := by decide +kernel
theorem d_M_take_219 : decode md_M_take.2.1 219 = .ok (.lsub, 1) := by decide +kernel
theorem d_M_take_220 : decode md_M_take.2.1 220 = .ok (.lstore 8, 2) := by decide +kernel
theorem d_M_take_222 : decode md_M_take.2.1 222 = .ok (.aload_n 0, 1) := by decide +kernel
theorem d_M_take_223 : decode md_M_take.2.1 223 = .ok (.getfield 110, 3) := by decide +kernel
theorem d_M_take_226 : decode md_M_take.2.1 226 = .ok (.ifCond .eq 13, 3) := by decide +kernel
theorem d_M_take_229 : decode md_M_take.2.1 229 = .ok (.lload 8, 2) := by decide +kernel
theorem d_M_take_231 : decode md_M_take.2.1 231 = .ok (.aload_n 0, 1) := by decide +kernel
theorem d_M_take_232 : decode md_M_take.2.1 232 = .ok (.getfield 114, 3) := by decide +kernel
theorem d_M_take_235 : decode md_M_take.2.1 235 = .ok (.lcmp, 1) := by decide +kernel
theorem d_M_take_236 : decode md_M_take.2.1 236 = .ok (.ifCond .le 9, 3) := by decide +kernel
