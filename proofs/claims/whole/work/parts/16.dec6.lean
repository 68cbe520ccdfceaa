theorem dMO_instruction_237 : decode prog_10_method_37_code 237 = .ok (.aload_n 0, 1) := by decide +kernel
theorem dMO_instruction_238 : decode prog_10_method_37_code 238 = .ok (.getfield 113, 3) := by decide +kernel
theorem dMO_instruction_241 : decode prog_10_method_37_code 241 = .ok (.iload_n 1, 1) := by decide +kernel
theorem dMO_instruction_242 : decode prog_10_method_37_code 242 = .ok (.iastore, 1) := by decide +kernel
theorem dMO_instruction_243 : decode prog_10_method_37_code 243 = .ok (.aload_n 0, 1) := by decide +kernel
theorem dMO_instruction_244 : decode prog_10_method_37_code 244 = .ok (.getfield 44, 3) := by decide +kernel
theorem dMO_instruction_247 : decode prog_10_method_37_code 247 = .ok (.aload_n 0, 1) := by decide +kernel
theorem dMO_instruction_248 : decode prog_10_method_37_code 248 = .ok (.getfield 113, 3) := by decide +kernel
theorem dMO_instruction_251 : decode prog_10_method_37_code 251 = .ok (.aload_n 0, 1) := by decide +kernel
theorem dMO_instruction_252 : decode prog_10_method_37_code 252 = .ok (.getfield 68, 3) := by decide +kernel
theorem dMO_instruction_255 : decode prog_10_method_37_code 255 = .ok (.iastore, 1) := by decide +kernel
theorem dMO_instruction_256 : decode prog_10_method_37_code 256 = .ok (.aload_n 0, 1) := by decide +kernel
theorem dMO_instruction_257 : decode prog_10_method_37_code 257 = .ok (.getfield 41, 3) := by decide +kernel
theorem dMO_instruction_260 : decode prog_10_method_37_code 260 = .ok (.aload_n 0, 1) := by decide +kernel
theorem dMO_instruction_261 : decode prog_10_method_37_code 261 = .ok (.getfield 113, 3) := by decide +kernel
theorem dMO_instruction_264 : decode prog_10_method_37_code 264 = .ok (.iconst 0, 1) := by decide +kernel
theorem dMO_instruction_265 : decode prog_10_method_37_code 265 = .ok (.iastore, 1) := by decide +kernel
theorem dMO_instruction_266 : decode prog_10_method_37_code 266 = .ok (.return_, 1) := by decide +kernel
theorem dMO_instruction_267 : decode prog_10_method_37_code 267 = .ok (.aload_n 0, 1) := by decide +kernel
theorem dMO_instruction_268 : decode prog_10_method_37_code 268 = .ok (.getfield 23, 3) := by decide +kernel
theorem dMO_instruction_271 : decode prog_10_method_37_code 271 = .ok (.aload_n 0, 1) := by decide +kernel
theorem dMO_instruction_272 : decode prog_10_method_37_code 272 = .ok (.getfield 113, 3) := by decide +kernel
theorem dMO_instruction_275 : decode prog_10_method_37_code 275 = .ok (.iaload, 1) := by decide +kernel
theorem dMO_instruction_276 : decode prog_10_method_37_code 276 = .ok (.iconst 2, 1) := by decide +kernel
theorem dMO_instruction_277 : decode prog_10_method_37_code 277 = .ok (.if_icmp .ne 13, 3) := by decide +kernel
theorem dMO_instruction_280 : decode prog_10_method_37_code 280 = .ok (.aload_n 0, 1) := by decide +kernel
theorem dMO_instruction_281 : decode prog_10_method_37_code 281 = .ok (.aload_n 0, 1) := by decide +kernel
theorem dMO_instruction_282 : decode prog_10_method_37_code 282 = .ok (.getfield 113, 3) := by decide +kernel
theorem dMO_instruction_285 : decode prog_10_method_37_code 285 = .ok (.iconst 2, 1) := by decide +kernel
theorem dMO_instruction_286 : decode prog_10_method_37_code 286 = .ok (.invokevirtual 132, 3) := by decide +kernel
theorem dMO_instruction_289 : decode prog_10_method_37_code 289 = .ok (.return_, 1) := by decide +kernel
theorem dMO_instruction_290 : decode prog_10_method_37_code 290 = .ok (.aload_n 0, 1) := by decide +kernel
theorem dMO_instruction_291 : decode prog_10_method_37_code 291 = .ok (.getfield 32, 3) := by decide +kernel
theorem dMO_instruction_294 : decode prog_10_method_37_code 294 = .ok (.aload_n 0, 1) := by decide +kernel
theorem dMO_instruction_295 : decode prog_10_method_37_code 295 = .ok (.getfield 113, 3) := by decide +kernel
theorem dMO_instruction_298 : decode prog_10_method_37_code 298 = .ok (.aload_n 0, 1) := by decide +kernel
theorem dMO_instruction_299 : decode prog_10_method_37_code 299 = .ok (.getfield 98, 3) := by decide +kernel
theorem dMO_instruction_302 : decode prog_10_method_37_code 302 = .ok (.iastore, 1) := by decide +kernel
theorem dMO_instruction_303 : decode prog_10_method_37_code 303 = .ok (.iconst 0, 1) := by decide +kernel
theorem dMO_instruction_304 : decode prog_10_method_37_code 304 = .ok (.istore 5, 2) := by decide +kernel
theorem dMO_instruction_306 : decode prog_10_method_37_code 306 = .ok (.iload 5, 2) := by decide +kernel
theorem dMO_instruction_308 : decode prog_10_method_37_code 308 = .ok (.bipush 8, 2) := by decide +kernel
theorem dMO_instruction_310 : decode prog_10_method_37_code 310 = .ok (.if_icmp .ge 31, 3) := by decide +kernel
theorem dMO_instruction_313 : decode prog_10_method_37_code 313 = .ok (.aload_n 0, 1) := by decide +kernel
theorem dMO_instruction_314 : decode prog_10_method_37_code 314 = .ok (.getfield 35, 3) := by decide +kernel
theorem dMO_instruction_317 : decode prog_10_method_37_code 317 = .ok (.bipush 8, 2) := by decide +kernel
theorem dMO_instruction_319 : decode prog_10_method_37_code 319 = .ok (.aload_n 0, 1) := by decide +kernel
theorem dMO_instruction_320 : decode prog_10_method_37_code 320 = .ok (.getfield 113, 3) := by decide +kernel
theorem dMO_instruction_323 : decode prog_10_method_37_code 323 = .ok (.imul, 1) := by decide +kernel
theorem dMO_instruction_324 : decode prog_10_method_37_code 324 = .ok (.iload 5, 2) := by decide +kernel
theorem dMO_instruction_326 : decode prog_10_method_37_code 326 = .ok (.iadd, 1) := by decide +kernel
theorem dMO_instruction_327 : decode prog_10_method_37_code 327 = .ok (.aload_n 0, 1) := by decide +kernel
theorem dMO_instruction_328 : decode prog_10_method_37_code 328 = .ok (.getfield 57, 3) := by decide +kernel
theorem dMO_instruction_331 : decode prog_10_method_37_code 331 = .ok (.iload 5, 2) := by decide +kernel
theorem dMO_instruction_333 : decode prog_10_method_37_code 333 = .ok (.iaload, 1) := by decide +kernel
theorem dMO_instruction_334 : decode prog_10_method_37_code 334 = .ok (.iastore, 1) := by decide +kernel
theorem dMO_instruction_335 : decode prog_10_method_37_code 335 = .ok (.iinc 5 1, 3) := by decide +kernel
theorem dMO_instruction_338 : decode prog_10_method_37_code 338 = .ok (.goto (-32), 3) := by decide +kernel
theorem dMO_instruction_341 : decode prog_10_method_37_code 341 = .ok (.aload_n 0, 1) := by decide +kernel
theorem dMO_instruction_342 : decode prog_10_method_37_code 342 = .ok (.getfield 23, 3) := by decide +kernel
theorem dMO_instruction_345 : decode prog_10_method_37_code 345 = .ok (.aload_n 0, 1) := by decide +kernel
theorem dMO_instruction_346 : decode prog_10_method_37_code 346 = .ok (.getfield 113, 3) := by decide +kernel
theorem dMO_instruction_349 : decode prog_10_method_37_code 349 = .ok (.iaload, 1) := by decide +kernel
theorem dMO_instruction_350 : decode prog_10_method_37_code 350 = .ok (.iconst 3, 1) := by decide +kernel
theorem dMO_instruction_351 : decode prog_10_method_37_code 351 = .ok (.if_icmp .ne 12, 3) := by decide +kernel
theorem dMO_instruction_354 : decode prog_10_method_37_code 354 = .ok (.aload_n 0, 1) := by decide +kernel
theorem dMO_instruction_355 : decode prog_10_method_37_code 355 = .ok (.aload_n 0, 1) := by decide +kernel
theorem dMO_instruction_356 : decode prog_10_method_37_code 356 = .ok (.getfield 113, 3) := by decide +kernel
theorem dMO_instruction_359 : decode prog_10_method_37_code 359 = .ok (.iconst 3, 1) := by decide +kernel
theorem dMO_instruction_360 : decode prog_10_method_37_code 360 = .ok (.invokevirtual 132, 3) := by decide +kernel
theorem dMO_instruction_363 : decode prog_10_method_37_code 363 = .ok (.aload_n 0, 1) := by decide +kernel
theorem dMO_instruction_364 : decode prog_10_method_37_code 364 = .ok (.getfield 187, 3) := by decide +kernel
theorem dMO_instruction_367 : decode prog_10_method_37_code 367 = .ok (.ifCond .eq 11, 3) := by decide +kernel
theorem dMO_instruction_370 : decode prog_10_method_37_code 370 = .ok (.aload_n 0, 1) := by decide +kernel
theorem dMO_instruction_371 : decode prog_10_method_37_code 371 = .ok (.aload_n 0, 1) := by decide +kernel
theorem dMO_instruction_372 : decode prog_10_method_37_code 372 = .ok (.getfield 113, 3) := by decide +kernel
theorem dMO_instruction_375 : decode prog_10_method_37_code 375 = .ok (.invokevirtual 135, 3) := by decide +kernel
theorem dMO_instruction_378 : decode prog_10_method_37_code 378 = .ok (.aload_n 0, 1) := by decide +kernel
theorem dMO_instruction_379 : decode prog_10_method_37_code 379 = .ok (.invokevirtual 215, 3) := by decide +kernel
theorem dMO_instruction_382 : decode prog_10_method_37_code 382 = .ok (.aload_n 0, 1) := by decide +kernel
theorem dMO_instruction_383 : decode prog_10_method_37_code 383 = .ok (.getfield 200, 3) := by decide +kernel
theorem dMO_instruction_386 : decode prog_10_method_37_code 386 = .ok (.ifCond .lt 19, 3) := by decide +kernel
theorem dMO_instruction_389 : decode prog_10_method_37_code 389 = .ok (.aload_n 0, 1) := by decide +kernel
theorem dMO_instruction_390 : decode prog_10_method_37_code 390 = .ok (.aload_n 0, 1) := by decide +kernel
theorem dMO_instruction_391 : decode prog_10_method_37_code 391 = .ok (.getfield 200, 3) := by decide +kernel
theorem dMO_instruction_394 : decode prog_10_method_37_code 394 = .ok (.aload_n 0, 1) := by decide +kernel
theorem dMO_instruction_395 : decode prog_10_method_37_code 395 = .ok (.getfield 203, 3) := by decide +kernel
theorem dMO_instruction_398 : decode prog_10_method_37_code 398 = .ok (.aload_n 0, 1) := by decide +kernel
theorem dMO_instruction_399 : decode prog_10_method_37_code 399 = .ok (.getfield 206, 3) := by decide +kernel
theorem dMO_instruction_402 : decode prog_10_method_37_code 402 = .ok (.invokevirtual 218, 3) := by decide +kernel
theorem dMO_instruction_405 : decode prog_10_method_37_code 405 = .ok (.return_, 1) := by decide +kernel
theorem dMO_run_0 : decode prog_10_method_38_code 0 = .ok (.aload_n 0, 1) := by decide +kernel
theorem dMO_run_1 : decode prog_10_method_38_code 1 = .ok (.iload_n 1, 1) := by decide +kernel
theorem dMO_run_2 : decode prog_10_method_38_code 2 = .ok (.ifCond .lt 10, 3) := by decide +kernel
theorem dMO_run_5 : decode prog_10_method_38_code 5 = .ok (.iload_n 1, 1) := by decide +kernel
theorem dMO_run_6 : decode prog_10_method_38_code 6 = .ok (.sipush 500, 3) := by decide +kernel
theorem dMO_run_9 : decode prog_10_method_38_code 9 = .ok (.if_icmp .le 7, 3) := by decide +kernel
theorem dMO_run_12 : decode prog_10_method_38_code 12 = .ok (.iconst 1, 1) := by decide +kernel
theorem dMO_run_13 : decode prog_10_method_38_code 13 = .ok (.goto 4, 3) := by decide +kernel
theorem dMO_run_16 : decode prog_10_method_38_code 16 = .ok (.iconst 0, 1) := by decide +kernel
theorem dMO_run_17 : decode prog_10_method_38_code 17 = .ok (.putfield 63, 3) := by decide +kernel
theorem dMO_run_20 : decode prog_10_method_38_code 20 = .ok (.iconst 0, 1) := by decide +kernel
theorem dMO_run_21 : decode prog_10_method_38_code 21 = .ok (.istore_n 2, 1) := by decide +kernel
theorem dMO_run_22 : decode prog_10_method_38_code 22 = .ok (.aload_n 0, 1) := by decide +kernel
theorem dMO_run_23 : decode prog_10_method_38_code 23 = .ok (.getfield 63, 3) := by decide +kernel
theorem dMO_run_26 : decode prog_10_method_38_code 26 = .ok (.ifCond .ne 33, 3) := by decide +kernel
theorem dMO_run_29 : decode prog_10_method_38_code 29 = .ok (.iload_n 2, 1) := by decide +kernel
theorem dMO_run_30 : decode prog_10_method_38_code 30 = .ok (.iload_n 1, 1) := by decide +kernel
theorem dMO_run_31 : decode prog_10_method_38_code 31 = .ok (.if_icmp .ge 28, 3) := by decide +kernel
theorem dMO_run_34 : decode prog_10_method_38_code 34 = .ok (.aload_n 0, 1) := by decide +kernel
theorem dMO_run_35 : decode prog_10_method_38_code 35 = .ok (.invokevirtual 222, 3) := by decide +kernel
theorem dMO_run_38 : decode prog_10_method_38_code 38 = .ok (.ifCond .lt 21, 3) := by decide +kernel
theorem dMO_run_41 : decode prog_10_method_38_code 41 = .ok (.aload_n 0, 1) := by decide +kernel
theorem dMO_run_42 : decode prog_10_method_38_code 42 = .ok (.aload_n 0, 1) := by decide +kernel
theorem dMO_run_43 : decode prog_10_method_38_code 43 = .ok (.invokevirtual 222, 3) := by decide +kernel
theorem dMO_run_46 : decode prog_10_method_38_code 46 = .ok (.putfield 113, 3) := by decide +kernel
theorem dMO_run_49 : decode prog_10_method_38_code 49 = .ok (.aload_n 0, 1) := by decide +kernel
theorem dMO_run_50 : decode prog_10_method_38_code 50 = .ok (.invokevirtual 225, 3) := by decide +kernel
theorem dMO_run_53 : decode prog_10_method_38_code 53 = .ok (.iinc 2 1, 3) := by decide +kernel
theorem dMO_run_56 : decode prog_10_method_38_code 56 = .ok (.goto (-34), 3) := by decide +kernel
theorem dMO_run_59 : decode prog_10_method_38_code 59 = .ok (.iload_n 2, 1) := by decide +kernel
theorem dMO_run_60 : decode prog_10_method_38_code 60 = .ok (.ireturn, 1) := by decide +kernel
theorem dMO_isNumber_0 : decode prog_10_method_39_code 0 = .ok (.iload_n 0, 1) := by decide +kernel
theorem dMO_isNumber_1 : decode prog_10_method_39_code 1 = .ok (.ifCond .lt 12, 3) := by decide +kernel
theorem dMO_isNumber_4 : decode prog_10_method_39_code 4 = .ok (.iload_n 0, 1) := by decide +kernel
theorem dMO_isNumber_5 : decode prog_10_method_39_code 5 = .ok (.iload_n 1, 1) := by decide +kernel
theorem dMO_isNumber_6 : decode prog_10_method_39_code 6 = .ok (.if_icmp .ge 7, 3) := by decide +kernel
theorem dMO_isNumber_9 : decode prog_10_method_39_code 9 = .ok (.iconst 1, 1) := by decide +kernel
theorem dMO_isNumber_10 : decode prog_10_method_39_code 10 = .ok (.goto 4, 3) := by decide +kernel
theorem dMO_isNumber_13 : decode prog_10_method_39_code 13 = .ok (.iconst 0, 1) := by decide +kernel
theorem dMO_isNumber_14 : decode prog_10_method_39_code 14 = .ok (.ireturn, 1) := by decide +kernel
theorem dMO_map_0 : decode prog_10_method_40_code 0 = .ok (.aload_n 0, 1) := by decide +kernel
theorem dMO_map_1 : decode prog_10_method_40_code 1 = .ok (.iload_n 1, 1) := by decide +kernel
theorem dMO_map_2 : decode prog_10_method_40_code 2 = .ok (.bipush 16, 2) := by decide +kernel
theorem dMO_map_4 : decode prog_10_method_40_code 4 = .ok (.invokestatic 228, 3) := by decide +kernel
theorem dMO_map_7 : decode prog_10_method_40_code 7 = .ok (.ifCond .eq 14, 3) := by decide +kernel
theorem dMO_map_10 : decode prog_10_method_40_code 10 = .ok (.iload_n 2, 1) := by decide +kernel
theorem dMO_map_11 : decode prog_10_method_40_code 11 = .ok (.iconst (-1), 1) := by decide +kernel
theorem dMO_map_12 : decode prog_10_method_40_code 12 = .ok (.if_icmp .lt 9, 3) := by decide +kernel
theorem dMO_map_15 : decode prog_10_method_40_code 15 = .ok (.iload_n 2, 1) := by decide +kernel
theorem dMO_map_16 : decode prog_10_method_40_code 16 = .ok (.bipush 11, 2) := by decide +kernel
theorem dMO_map_18 : decode prog_10_method_40_code 18 = .ok (.if_icmp .le 7, 3) := by decide +kernel
theorem dMO_map_21 : decode prog_10_method_40_code 21 = .ok (.iconst 1, 1) := by decide +kernel
theorem dMO_map_22 : decode prog_10_method_40_code 22 = .ok (.goto 4, 3) := by decide +kernel
theorem dMO_map_25 : decode prog_10_method_40_code 25 = .ok (.iconst 0, 1) := by decide +kernel
theorem dMO_map_26 : decode prog_10_method_40_code 26 = .ok (.putfield 63, 3) := by decide +kernel
theorem dMO_map_29 : decode prog_10_method_40_code 29 = .ok (.aload_n 0, 1) := by decide +kernel
theorem dMO_map_30 : decode prog_10_method_40_code 30 = .ok (.getfield 63, 3) := by decide +kernel
theorem dMO_map_33 : decode prog_10_method_40_code 33 = .ok (.ifCond .ne 10, 3) := by decide +kernel
theorem dMO_map_36 : decode prog_10_method_40_code 36 = .ok (.aload_n 0, 1) := by decide +kernel
theorem dMO_map_37 : decode prog_10_method_40_code 37 = .ok (.getfield 7, 3) := by decide +kernel
theorem dMO_map_40 : decode prog_10_method_40_code 40 = .ok (.iload_n 1, 1) := by decide +kernel
theorem dMO_map_41 : decode prog_10_method_40_code 41 = .ok (.iload_n 2, 1) := by decide +kernel
theorem dMO_map_42 : decode prog_10_method_40_code 42 = .ok (.iastore, 1) := by decide +kernel
theorem dMO_map_43 : decode prog_10_method_40_code 43 = .ok (.return_, 1) := by decide +kernel
theorem dMO_protect_0 : decode prog_10_method_41_code 0 = .ok (.aload_n 0, 1) := by decide +kernel
theorem dMO_protect_1 : decode prog_10_method_41_code 1 = .ok (.iload_n 1, 1) := by decide +kernel
theorem dMO_protect_2 : decode prog_10_method_41_code 2 = .ok (.bipush 16, 2) := by decide +kernel
theorem dMO_protect_4 : decode prog_10_method_41_code 4 = .ok (.invokestatic 228, 3) := by decide +kernel
theorem dMO_protect_7 : decode prog_10_method_41_code 7 = .ok (.ifCond .eq 7, 3) := by decide +kernel
theorem dMO_protect_10 : decode prog_10_method_41_code 10 = .ok (.iconst 0, 1) := by decide +kernel
theorem dMO_protect_11 : decode prog_10_method_41_code 11 = .ok (.goto 4, 3) := by decide +kernel
theorem dMO_protect_14 : decode prog_10_method_41_code 14 = .ok (.iconst 1, 1) := by decide +kernel
theorem dMO_protect_15 : decode prog_10_method_41_code 15 = .ok (.putfield 63, 3) := by decide +kernel
theorem dMO_protect_18 : decode prog_10_method_41_code 18 = .ok (.aload_n 0, 1) := by decide +kernel
theorem dMO_protect_19 : decode prog_10_method_41_code 19 = .ok (.getfield 63, 3) := by decide +kernel
theorem dMO_protect_22 : decode prog_10_method_41_code 22 = .ok (.ifCond .ne 10, 3) := by decide +kernel
theorem dMO_protect_25 : decode prog_10_method_41_code 25 = .ok (.aload_n 0, 1) := by decide +kernel
theorem dMO_protect_26 : decode prog_10_method_41_code 26 = .ok (.getfield 19, 3) := by decide +kernel
theorem dMO_protect_29 : decode prog_10_method_41_code 29 = .ok (.iload_n 1, 1) := by decide +kernel
theorem dMO_protect_30 : decode prog_10_method_41_code 30 = .ok (.iload_n 2, 1) := by decide +kernel
theorem dMO_protect_31 : decode prog_10_method_41_code 31 = .ok (.bastore, 1) := by decide +kernel
theorem dMO_protect_32 : decode prog_10_method_41_code 32 = .ok (.return_, 1) := by decide +kernel
theorem dMO_noted_0 : decode prog_10_method_42_code 0 = .ok (.aload_n 0, 1) := by decide +kernel
theorem dMO_noted_1 : decode prog_10_method_42_code 1 = .ok (.iload_n 1, 1) := by decide +kernel
theorem dMO_noted_2 : decode prog_10_method_42_code 2 = .ok (.bipush 12, 2) := by decide +kernel
theorem dMO_noted_4 : decode prog_10_method_42_code 4 = .ok (.invokestatic 228, 3) := by decide +kernel
theorem dMO_noted_7 : decode prog_10_method_42_code 7 = .ok (.ifCond .eq 7, 3) := by decide +kernel
theorem dMO_noted_10 : decode prog_10_method_42_code 10 = .ok (.iconst 0, 1) := by decide +kernel
theorem dMO_noted_11 : decode prog_10_method_42_code 11 = .ok (.goto 4, 3) := by decide +kernel
theorem dMO_noted_14 : decode prog_10_method_42_code 14 = .ok (.iconst 1, 1) := by decide +kernel
theorem dMO_noted_15 : decode prog_10_method_42_code 15 = .ok (.putfield 63, 3) := by decide +kernel
theorem dMO_noted_18 : decode prog_10_method_42_code 18 = .ok (.aload_n 0, 1) := by decide +kernel
theorem dMO_noted_19 : decode prog_10_method_42_code 19 = .ok (.getfield 63, 3) := by decide +kernel
theorem dMO_noted_22 : decode prog_10_method_42_code 22 = .ok (.ifCond .le 5, 3) := by decide +kernel
theorem dMO_noted_25 : decode prog_10_method_42_code 25 = .ok (.iconst 0, 1) := by decide +kernel
theorem dMO_noted_26 : decode prog_10_method_42_code 26 = .ok (.ireturn, 1) := by decide +kernel
theorem dMO_noted_27 : decode prog_10_method_42_code 27 = .ok (.aload_n 0, 1) := by decide +kernel
theorem dMO_noted_28 : decode prog_10_method_42_code 28 = .ok (.getfield 13, 3) := by decide +kernel
theorem dMO_noted_31 : decode prog_10_method_42_code 31 = .ok (.iload_n 1, 1) := by decide +kernel
theorem dMO_noted_32 : decode prog_10_method_42_code 32 = .ok (.iaload, 1) := by decide +kernel
theorem dMO_noted_33 : decode prog_10_method_42_code 33 = .ok (.istore_n 2, 1) := by decide +kernel
theorem dMO_noted_34 : decode prog_10_method_42_code 34 = .ok (.aload_n 0, 1) := by decide +kernel
theorem dMO_noted_35 : decode prog_10_method_42_code 35 = .ok (.getfield 13, 3) := by decide +kernel
theorem dMO_noted_38 : decode prog_10_method_42_code 38 = .ok (.iload_n 1, 1) := by decide +kernel
theorem dMO_noted_39 : decode prog_10_method_42_code 39 = .ok (.iconst 0, 1) := by decide +kernel
theorem dMO_noted_40 : decode prog_10_method_42_code 40 = .ok (.iastore, 1) := by decide +kernel
theorem dMO_noted_41 : decode prog_10_method_42_code 41 = .ok (.iload_n 2, 1) := by decide +kernel
theorem dMO_noted_42 : decode prog_10_method_42_code 42 = .ok (.ireturn, 1) := by decide +kernel
theorem dMO_poke_0 : decode prog_10_method_43_code 0 = .ok (.aload_n 0, 1) := by decide +kernel
theorem dMO_poke_1 : decode prog_10_method_43_code 1 = .ok (.iload_n 1, 1) := by decide +kernel
theorem dMO_poke_2 : decode prog_10_method_43_code 2 = .ok (.sipush 4096, 3) := by decide +kernel
theorem dMO_poke_5 : decode prog_10_method_43_code 5 = .ok (.invokestatic 228, 3) := by decide +kernel
theorem dMO_poke_8 : decode prog_10_method_43_code 8 = .ok (.ifCond .ne 7, 3) := by decide +kernel
theorem dMO_poke_11 : decode prog_10_method_43_code 11 = .ok (.iconst 1, 1) := by decide +kernel
theorem dMO_poke_12 : decode prog_10_method_43_code 12 = .ok (.goto 16, 3) := by decide +kernel
theorem dMO_poke_15 : decode prog_10_method_43_code 15 = .ok (.aload_n 0, 1) := by decide +kernel
theorem dMO_poke_16 : decode prog_10_method_43_code 16 = .ok (.iload_n 1, 1) := by decide +kernel
theorem dMO_poke_17 : decode prog_10_method_43_code 17 = .ok (.invokevirtual 71, 3) := by decide +kernel
theorem dMO_poke_20 : decode prog_10_method_43_code 20 = .ok (.ifCond .ge 7, 3) := by decide +kernel
theorem dMO_poke_23 : decode prog_10_method_43_code 23 = .ok (.iconst 2, 1) := by decide +kernel
theorem dMO_poke_24 : decode prog_10_method_43_code 24 = .ok (.goto 4, 3) := by decide +kernel
theorem dMO_poke_27 : decode prog_10_method_43_code 27 = .ok (.iconst 0, 1) := by decide +kernel
theorem dMO_poke_28 : decode prog_10_method_43_code 28 = .ok (.putfield 63, 3) := by decide +kernel
theorem dMO_poke_31 : decode prog_10_method_43_code 31 = .ok (.aload_n 0, 1) := by decide +kernel
theorem dMO_poke_32 : decode prog_10_method_43_code 32 = .ok (.getfield 63, 3) := by decide +kernel
theorem dMO_poke_35 : decode prog_10_method_43_code 35 = .ok (.ifCond .ne 17, 3) := by decide +kernel
theorem dMO_poke_38 : decode prog_10_method_43_code 38 = .ok (.aload_n 0, 1) := by decide +kernel
theorem dMO_poke_39 : decode prog_10_method_43_code 39 = .ok (.getfield 16, 3) := by decide +kernel
theorem dMO_poke_42 : decode prog_10_method_43_code 42 = .ok (.aload_n 0, 1) := by decide +kernel
theorem dMO_poke_43 : decode prog_10_method_43_code 43 = .ok (.iload_n 1, 1) := by decide +kernel
theorem dMO_poke_44 : decode prog_10_method_43_code 44 = .ok (.invokevirtual 71, 3) := by decide +kernel
theorem dMO_poke_47 : decode prog_10_method_43_code 47 = .ok (.iload_n 2, 1) := by decide +kernel
theorem dMO_poke_48 : decode prog_10_method_43_code 48 = .ok (.invokestatic 82, 3) := by decide +kernel
theorem dMO_poke_51 : decode prog_10_method_43_code 51 = .ok (.iastore, 1) := by decide +kernel
theorem dMO_poke_52 : decode prog_10_method_43_code 52 = .ok (.return_, 1) := by decide +kernel
theorem dMO_peek_0 : decode prog_10_method_44_code 0 = .ok (.aload_n 0, 1) := by decide +kernel
theorem dMO_peek_1 : decode prog_10_method_44_code 1 = .ok (.iload_n 1, 1) := by decide +kernel
theorem dMO_peek_2 : decode prog_10_method_44_code 2 = .ok (.sipush 4096, 3) := by decide +kernel
theorem dMO_peek_5 : decode prog_10_method_44_code 5 = .ok (.invokestatic 228, 3) := by decide +kernel
theorem dMO_peek_8 : decode prog_10_method_44_code 8 = .ok (.ifCond .ne 7, 3) := by decide +kernel
theorem dMO_peek_11 : decode prog_10_method_44_code 11 = .ok (.iconst 1, 1) := by decide +kernel
theorem dMO_peek_12 : decode prog_10_method_44_code 12 = .ok (.goto 16, 3) := by decide +kernel
theorem dMO_peek_15 : decode prog_10_method_44_code 15 = .ok (.aload_n 0, 1) := by decide +kernel
theorem dMO_peek_16 : decode prog_10_method_44_code 16 = .ok (.iload_n 1, 1) := by decide +kernel
theorem dMO_peek_17 : decode prog_10_method_44_code 17 = .ok (.invokevirtual 71, 3) := by decide +kernel
theorem dMO_peek_20 : decode prog_10_method_44_code 20 = .ok (.ifCond .ge 7, 3) := by decide +kernel
theorem dMO_peek_23 : decode prog_10_method_44_code 23 = .ok (.iconst 2, 1) := by decide +kernel
theorem dMO_peek_24 : decode prog_10_method_44_code 24 = .ok (.goto 4, 3) := by decide +kernel
theorem dMO_peek_27 : decode prog_10_method_44_code 27 = .ok (.iconst 0, 1) := by decide +kernel
theorem dMO_peek_28 : decode prog_10_method_44_code 28 = .ok (.putfield 63, 3) := by decide +kernel
theorem dMO_peek_31 : decode prog_10_method_44_code 31 = .ok (.aload_n 0, 1) := by decide +kernel
theorem dMO_peek_32 : decode prog_10_method_44_code 32 = .ok (.getfield 63, 3) := by decide +kernel
theorem dMO_peek_35 : decode prog_10_method_44_code 35 = .ok (.ifCond .ne 16, 3) := by decide +kernel
theorem dMO_peek_38 : decode prog_10_method_44_code 38 = .ok (.aload_n 0, 1) := by decide +kernel
theorem dMO_peek_39 : decode prog_10_method_44_code 39 = .ok (.getfield 16, 3) := by decide +kernel
theorem dMO_peek_42 : decode prog_10_method_44_code 42 = .ok (.aload_n 0, 1) := by decide +kernel
theorem dMO_peek_43 : decode prog_10_method_44_code 43 = .ok (.iload_n 1, 1) := by decide +kernel
theorem dMO_peek_44 : decode prog_10_method_44_code 44 = .ok (.invokevirtual 71, 3) := by decide +kernel
theorem dMO_peek_47 : decode prog_10_method_44_code 47 = .ok (.iaload, 1) := by decide +kernel
theorem dMO_peek_48 : decode prog_10_method_44_code 48 = .ok (.goto 4, 3) := by decide +kernel
theorem dMO_peek_51 : decode prog_10_method_44_code 51 = .ok (.iconst 0, 1) := by decide +kernel
theorem dMO_peek_52 : decode prog_10_method_44_code 52 = .ok (.ireturn, 1) := by decide +kernel
theorem dMO_start_0 : decode prog_10_method_45_code 0 = .ok (.aload_n 0, 1) := by decide +kernel
theorem dMO_start_1 : decode prog_10_method_45_code 1 = .ok (.iconst 0, 1) := by decide +kernel
theorem dMO_start_2 : decode prog_10_method_45_code 2 = .ok (.putfield 68, 3) := by decide +kernel
theorem dMO_start_5 : decode prog_10_method_45_code 5 = .ok (.aload_n 0, 1) := by decide +kernel
theorem dMO_start_6 : decode prog_10_method_45_code 6 = .ok (.iconst 0, 1) := by decide +kernel
theorem dMO_start_7 : decode prog_10_method_45_code 7 = .ok (.putfield 79, 3) := by decide +kernel
theorem dMO_start_10 : decode prog_10_method_45_code 10 = .ok (.aload_n 0, 1) := by decide +kernel
theorem dMO_start_11 : decode prog_10_method_45_code 11 = .ok (.invokevirtual 194, 3) := by decide +kernel
theorem dMO_start_14 : decode prog_10_method_45_code 14 = .ok (.istore_n 3, 1) := by decide +kernel
theorem dMO_start_15 : decode prog_10_method_45_code 15 = .ok (.iload_n 3, 1) := by decide +kernel
theorem dMO_start_16 : decode prog_10_method_45_code 16 = .ok (.ifCond .ge 9, 3) := by decide +kernel
theorem dMO_start_19 : decode prog_10_method_45_code 19 = .ok (.aload_n 0, 1) := by decide +kernel
theorem dMO_start_20 : decode prog_10_method_45_code 20 = .ok (.bipush 8, 2) := by decide +kernel
theorem dMO_start_22 : decode prog_10_method_45_code 22 = .ok (.invokevirtual 75, 3) := by decide +kernel
theorem dMO_start_25 : decode prog_10_method_45_code 25 = .ok (.aload_n 0, 1) := by decide +kernel
theorem dMO_start_26 : decode prog_10_method_45_code 26 = .ok (.getfield 68, 3) := by decide +kernel
theorem dMO_start_29 : decode prog_10_method_45_code 29 = .ok (.ifCond .le 7, 3) := by decide +kernel
theorem dMO_start_32 : decode prog_10_method_45_code 32 = .ok (.iconst 0, 1) := by decide +kernel
theorem dMO_start_33 : decode prog_10_method_45_code 33 = .ok (.goto 11, 3) := by decide +kernel
theorem dMO_start_36 : decode prog_10_method_45_code 36 = .ok (.aload_n 0, 1) := by decide +kernel
theorem dMO_start_37 : decode prog_10_method_45_code 37 = .ok (.iload_n 1, 1) := by decide +kernel
theorem dMO_start_38 : decode prog_10_method_45_code 38 = .ok (.invokestatic 82, 3) := by decide +kernel
theorem dMO_start_41 : decode prog_10_method_45_code 41 = .ok (.invokevirtual 197, 3) := by decide +kernel
theorem dMO_start_44 : decode prog_10_method_45_code 44 = .ok (.istore 4, 2) := by decide +kernel
theorem dMO_start_46 : decode prog_10_method_45_code 46 = .ok (.aload_n 0, 1) := by decide +kernel
theorem dMO_start_47 : decode prog_10_method_45_code 47 = .ok (.aload_n 0, 1) := by decide +kernel
theorem dMO_start_48 : decode prog_10_method_45_code 48 = .ok (.getfield 68, 3) := by decide +kernel
theorem dMO_start_51 : decode prog_10_method_45_code 51 = .ok (.ifCond .le 7, 3) := by decide +kernel
theorem dMO_start_54 : decode prog_10_method_45_code 54 = .ok (.iconst 1, 1) := by decide +kernel
theorem dMO_start_55 : decode prog_10_method_45_code 55 = .ok (.goto 4, 3) := by decide +kernel
theorem dMO_start_58 : decode prog_10_method_45_code 58 = .ok (.iconst 0, 1) := by decide +kernel
theorem dMO_start_59 : decode prog_10_method_45_code 59 = .ok (.putfield 63, 3) := by decide +kernel
theorem dMO_start_62 : decode prog_10_method_45_code 62 = .ok (.aload_n 0, 1) := by decide +kernel
theorem dMO_start_63 : decode prog_10_method_45_code 63 = .ok (.getfield 68, 3) := by decide +kernel
theorem dMO_start_66 : decode prog_10_method_45_code 66 = .ok (.ifCond .le 9, 3) := by decide +kernel
theorem dMO_start_69 : decode prog_10_method_45_code 69 = .ok (.aload_n 0, 1) := by decide +kernel
theorem dMO_start_70 : decode prog_10_method_45_code 70 = .ok (.invokevirtual 212, 3) := by decide +kernel
theorem dMO_start_73 : decode prog_10_method_45_code 73 = .ok (.iconst 0, 1) := by decide +kernel
theorem dMO_start_74 : decode prog_10_method_45_code 74 = .ok (.ireturn, 1) := by decide +kernel
theorem dMO_start_75 : decode prog_10_method_45_code 75 = .ok (.aload_n 0, 1) := by decide +kernel
theorem dMO_start_76 : decode prog_10_method_45_code 76 = .ok (.iload_n 3, 1) := by decide +kernel
theorem dMO_start_77 : decode prog_10_method_45_code 77 = .ok (.iload 4, 2) := by decide +kernel
theorem dMO_start_79 : decode prog_10_method_45_code 79 = .ok (.iload_n 2, 1) := by decide +kernel
theorem dMO_start_80 : decode prog_10_method_45_code 80 = .ok (.invokevirtual 218, 3) := by decide +kernel
theorem dMO_start_83 : decode prog_10_method_45_code 83 = .ok (.iload_n 3, 1) := by decide +kernel
theorem dMO_start_84 : decode prog_10_method_45_code 84 = .ok (.ireturn, 1) := by decide +kernel
theorem dMO_resume_0 : decode prog_10_method_46_code 0 = .ok (.aload_n 0, 1) := by decide +kernel
theorem dMO_resume_1 : decode prog_10_method_46_code 1 = .ok (.iload_n 1, 1) := by decide +kernel
theorem dMO_resume_2 : decode prog_10_method_46_code 2 = .ok (.bipush 6, 2) := by decide +kernel
theorem dMO_resume_4 : decode prog_10_method_46_code 4 = .ok (.invokestatic 228, 3) := by decide +kernel
theorem dMO_resume_7 : decode prog_10_method_46_code 7 = .ok (.ifCond .ne 7, 3) := by decide +kernel
theorem dMO_resume_10 : decode prog_10_method_46_code 10 = .ok (.iconst 1, 1) := by decide +kernel
theorem dMO_resume_11 : decode prog_10_method_46_code 11 = .ok (.goto 18, 3) := by decide +kernel
theorem dMO_resume_14 : decode prog_10_method_46_code 14 = .ok (.aload_n 0, 1) := by decide +kernel
theorem dMO_resume_15 : decode prog_10_method_46_code 15 = .ok (.getfield 23, 3) := by decide +kernel
theorem dMO_resume_18 : decode prog_10_method_46_code 18 = .ok (.iload_n 1, 1) := by decide +kernel
theorem dMO_resume_19 : decode prog_10_method_46_code 19 = .ok (.iaload, 1) := by decide +kernel
theorem dMO_resume_20 : decode prog_10_method_46_code 20 = .ok (.iconst 4, 1) := by decide +kernel
theorem dMO_resume_21 : decode prog_10_method_46_code 21 = .ok (.if_icmp .eq 7, 3) := by decide +kernel
theorem dMO_resume_24 : decode prog_10_method_46_code 24 = .ok (.iconst 2, 1) := by decide +kernel
theorem dMO_resume_25 : decode prog_10_method_46_code 25 = .ok (.goto 4, 3) := by decide +kernel
theorem dMO_resume_28 : decode prog_10_method_46_code 28 = .ok (.iconst 0, 1) := by decide +kernel
theorem dMO_resume_29 : decode prog_10_method_46_code 29 = .ok (.putfield 63, 3) := by decide +kernel
theorem dMO_resume_32 : decode prog_10_method_46_code 32 = .ok (.aload_n 0, 1) := by decide +kernel
theorem dMO_resume_33 : decode prog_10_method_46_code 33 = .ok (.getfield 63, 3) := by decide +kernel
theorem dMO_resume_36 : decode prog_10_method_46_code 36 = .ok (.ifCond .ne 8, 3) := by decide +kernel
theorem dMO_resume_39 : decode prog_10_method_46_code 39 = .ok (.aload_n 0, 1) := by decide +kernel
theorem dMO_resume_40 : decode prog_10_method_46_code 40 = .ok (.iload_n 1, 1) := by decide +kernel
theorem dMO_resume_41 : decode prog_10_method_46_code 41 = .ok (.invokevirtual 135, 3) := by decide +kernel
theorem dMO_resume_44 : decode prog_10_method_46_code 44 = .ok (.return_, 1) := by decide +kernel
theorem dMO_kill_0 : decode prog_10_method_47_code 0 = .ok (.aload_n 0, 1) := by decide +kernel
theorem dMO_kill_1 : decode prog_10_method_47_code 1 = .ok (.iload_n 1, 1) := by decide +kernel
theorem dMO_kill_2 : decode prog_10_method_47_code 2 = .ok (.bipush 6, 2) := by decide +kernel
theorem dMO_kill_4 : decode prog_10_method_47_code 4 = .ok (.invokestatic 228, 3) := by decide +kernel
theorem dMO_kill_7 : decode prog_10_method_47_code 7 = .ok (.ifCond .ne 7, 3) := by decide +kernel
theorem dMO_kill_10 : decode prog_10_method_47_code 10 = .ok (.iconst 1, 1) := by decide +kernel
theorem dMO_kill_11 : decode prog_10_method_47_code 11 = .ok (.goto 17, 3) := by decide +kernel
theorem dMO_kill_14 : decode prog_10_method_47_code 14 = .ok (.aload_n 0, 1) := by decide +kernel
theorem dMO_kill_15 : decode prog_10_method_47_code 15 = .ok (.getfield 23, 3) := by decide +kernel
theorem dMO_kill_18 : decode prog_10_method_47_code 18 = .ok (.iload_n 1, 1) := by decide +kernel
theorem dMO_kill_19 : decode prog_10_method_47_code 19 = .ok (.iaload, 1) := by decide +kernel
theorem dMO_kill_20 : decode prog_10_method_47_code 20 = .ok (.ifCond .ne 7, 3) := by decide +kernel
theorem dMO_kill_23 : decode prog_10_method_47_code 23 = .ok (.iconst 2, 1) := by decide +kernel
theorem dMO_kill_24 : decode prog_10_method_47_code 24 = .ok (.goto 4, 3) := by decide +kernel
theorem dMO_kill_27 : decode prog_10_method_47_code 27 = .ok (.iconst 0, 1) := by decide +kernel
theorem dMO_kill_28 : decode prog_10_method_47_code 28 = .ok (.putfield 63, 3) := by decide +kernel
theorem dMO_kill_31 : decode prog_10_method_47_code 31 = .ok (.aload_n 0, 1) := by decide +kernel
theorem dMO_kill_32 : decode prog_10_method_47_code 32 = .ok (.getfield 63, 3) := by decide +kernel
theorem dMO_kill_35 : decode prog_10_method_47_code 35 = .ok (.ifCond .ne 10, 3) := by decide +kernel
theorem dMO_kill_38 : decode prog_10_method_47_code 38 = .ok (.aload_n 0, 1) := by decide +kernel
theorem dMO_kill_39 : decode prog_10_method_47_code 39 = .ok (.getfield 23, 3) := by decide +kernel
theorem dMO_kill_42 : decode prog_10_method_47_code 42 = .ok (.iload_n 1, 1) := by decide +kernel
theorem dMO_kill_43 : decode prog_10_method_47_code 43 = .ok (.iconst 0, 1) := by decide +kernel
theorem dMO_kill_44 : decode prog_10_method_47_code 44 = .ok (.iastore, 1) := by decide +kernel
theorem dMO_kill_45 : decode prog_10_method_47_code 45 = .ok (.return_, 1) := by decide +kernel
theorem dMO_interrupt_0 : decode prog_10_method_48_code 0 = .ok (.aload_n 0, 1) := by decide +kernel
theorem dMO_interrupt_1 : decode prog_10_method_48_code 1 = .ok (.iload_n 1, 1) := by decide +kernel
theorem dMO_interrupt_2 : decode prog_10_method_48_code 2 = .ok (.sipush 4096, 3) := by decide +kernel
theorem dMO_interrupt_5 : decode prog_10_method_48_code 5 = .ok (.invokestatic 228, 3) := by decide +kernel
theorem dMO_interrupt_8 : decode prog_10_method_48_code 8 = .ok (.ifCond .eq 7, 3) := by decide +kernel
theorem dMO_interrupt_11 : decode prog_10_method_48_code 11 = .ok (.iconst 0, 1) := by decide +kernel
theorem dMO_interrupt_12 : decode prog_10_method_48_code 12 = .ok (.goto 4, 3) := by decide +kernel
theorem dMO_interrupt_15 : decode prog_10_method_48_code 15 = .ok (.iconst 1, 1) := by decide +kernel
theorem dMO_interrupt_16 : decode prog_10_method_48_code 16 = .ok (.putfield 63, 3) := by decide +kernel
theorem dMO_interrupt_19 : decode prog_10_method_48_code 19 = .ok (.aload_n 0, 1) := by decide +kernel
theorem dMO_interrupt_20 : decode prog_10_method_48_code 20 = .ok (.getfield 63, 3) := by decide +kernel
theorem dMO_interrupt_23 : decode prog_10_method_48_code 23 = .ok (.ifCond .le 5, 3) := by decide +kernel
theorem dMO_interrupt_26 : decode prog_10_method_48_code 26 = .ok (.iconst 0, 1) := by decide +kernel
theorem dMO_interrupt_27 : decode prog_10_method_48_code 27 = .ok (.ireturn, 1) := by decide +kernel
theorem dMO_interrupt_28 : decode prog_10_method_48_code 28 = .ok (.aload_n 0, 1) := by decide +kernel
theorem dMO_interrupt_29 : decode prog_10_method_48_code 29 = .ok (.iconst 0, 1) := by decide +kernel
theorem dMO_interrupt_30 : decode prog_10_method_48_code 30 = .ok (.putfield 126, 3) := by decide +kernel
theorem dMO_interrupt_33 : decode prog_10_method_48_code 33 = .ok (.aload_n 0, 1) := by decide +kernel
theorem dMO_interrupt_34 : decode prog_10_method_48_code 34 = .ok (.iconst 3, 1) := by decide +kernel
theorem dMO_interrupt_35 : decode prog_10_method_48_code 35 = .ok (.iload_n 1, 1) := by decide +kernel
theorem dMO_interrupt_36 : decode prog_10_method_48_code 36 = .ok (.invokevirtual 129, 3) := by decide +kernel
theorem dMO_interrupt_39 : decode prog_10_method_48_code 39 = .ok (.istore_n 2, 1) := by decide +kernel
theorem dMO_interrupt_40 : decode prog_10_method_48_code 40 = .ok (.iload_n 2, 1) := by decide +kernel
theorem dMO_interrupt_41 : decode prog_10_method_48_code 41 = .ok (.ifCond .lt 10, 3) := by decide +kernel
theorem dMO_interrupt_44 : decode prog_10_method_48_code 44 = .ok (.aload_n 0, 1) := by decide +kernel
theorem dMO_interrupt_45 : decode prog_10_method_48_code 45 = .ok (.iload_n 2, 1) := by decide +kernel
theorem dMO_interrupt_46 : decode prog_10_method_48_code 46 = .ok (.invokevirtual 135, 3) := by decide +kernel
theorem dMO_interrupt_49 : decode prog_10_method_48_code 49 = .ok (.iload_n 2, 1) := by decide +kernel
theorem dMO_interrupt_50 : decode prog_10_method_48_code 50 = .ok (.ireturn, 1) := by decide +kernel
theorem dMO_interrupt_51 : decode prog_10_method_48_code 51 = .ok (.aload_n 0, 1) := by decide +kernel
theorem dMO_interrupt_52 : decode prog_10_method_48_code 52 = .ok (.iload_n 1, 1) := by decide +kernel
theorem dMO_interrupt_53 : decode prog_10_method_48_code 53 = .ok (.invokevirtual 71, 3) := by decide +kernel
theorem dMO_interrupt_56 : decode prog_10_method_48_code 56 = .ok (.istore_n 3, 1) := by decide +kernel
theorem dMO_interrupt_57 : decode prog_10_method_48_code 57 = .ok (.iload_n 3, 1) := by decide +kernel
theorem dMO_interrupt_58 : decode prog_10_method_48_code 58 = .ok (.ifCond .lt 28, 3) := by decide +kernel
theorem dMO_interrupt_61 : decode prog_10_method_48_code 61 = .ok (.aload_n 0, 1) := by decide +kernel
theorem dMO_interrupt_62 : decode prog_10_method_48_code 62 = .ok (.getfield 19, 3) := by decide +kernel
theorem dMO_interrupt_65 : decode prog_10_method_48_code 65 = .ok (.iload_n 1, 1) := by decide +kernel
theorem dMO_interrupt_66 : decode prog_10_method_48_code 66 = .ok (.sipush 256, 3) := by decide +kernel
theorem dMO_interrupt_69 : decode prog_10_method_48_code 69 = .ok (.idiv, 1) := by decide +kernel
theorem dMO_interrupt_70 : decode prog_10_method_48_code 70 = .ok (.baload, 1) := by decide +kernel
theorem dMO_interrupt_71 : decode prog_10_method_48_code 71 = .ok (.ifCond .ne 15, 3) := by decide +kernel
theorem dMO_interrupt_74 : decode prog_10_method_48_code 74 = .ok (.aload_n 0, 1) := by decide +kernel
theorem dMO_interrupt_75 : decode prog_10_method_48_code 75 = .ok (.getfield 16, 3) := by decide +kernel
theorem dMO_interrupt_78 : decode prog_10_method_48_code 78 = .ok (.iload_n 3, 1) := by decide +kernel
theorem dMO_interrupt_79 : decode prog_10_method_48_code 79 = .ok (.iaload, 1) := by decide +kernel
theorem dMO_interrupt_80 : decode prog_10_method_48_code 80 = .ok (.iconst 2, 1) := by decide +kernel
theorem dMO_interrupt_81 : decode prog_10_method_48_code 81 = .ok (.irem, 1) := by decide +kernel
theorem dMO_interrupt_82 : decode prog_10_method_48_code 82 = .ok (.iconst 1, 1) := by decide +kernel
theorem dMO_interrupt_83 : decode prog_10_method_48_code 83 = .ok (.if_icmp .ne 5, 3) := by decide +kernel
theorem dMO_interrupt_86 : decode prog_10_method_48_code 86 = .ok (.iconst (-1), 1) := by decide +kernel
theorem dMO_interrupt_87 : decode prog_10_method_48_code 87 = .ok (.ireturn, 1) := by decide +kernel
theorem dMO_interrupt_88 : decode prog_10_method_48_code 88 = .ok (.aload_n 0, 1) := by decide +kernel
theorem dMO_interrupt_89 : decode prog_10_method_48_code 89 = .ok (.getfield 16, 3) := by decide +kernel
theorem dMO_interrupt_92 : decode prog_10_method_48_code 92 = .ok (.iload_n 3, 1) := by decide +kernel
theorem dMO_interrupt_93 : decode prog_10_method_48_code 93 = .ok (.dup2, 1) := by decide +kernel
theorem dMO_interrupt_94 : decode prog_10_method_48_code 94 = .ok (.iaload, 1) := by decide +kernel
theorem dMO_interrupt_95 : decode prog_10_method_48_code 95 = .ok (.iconst 1, 1) := by decide +kernel
theorem dMO_interrupt_96 : decode prog_10_method_48_code 96 = .ok (.iadd, 1) := by decide +kernel
theorem dMO_interrupt_97 : decode prog_10_method_48_code 97 = .ok (.iastore, 1) := by decide +kernel
theorem dMO_interrupt_98 : decode prog_10_method_48_code 98 = .ok (.aload_n 0, 1) := by decide +kernel
theorem dMO_interrupt_99 : decode prog_10_method_48_code 99 = .ok (.getfield 13, 3) := by decide +kernel
theorem dMO_interrupt_102 : decode prog_10_method_48_code 102 = .ok (.iload_n 3, 1) := by decide +kernel
theorem dMO_interrupt_103 : decode prog_10_method_48_code 103 = .ok (.sipush 256, 3) := by decide +kernel
theorem dMO_interrupt_106 : decode prog_10_method_48_code 106 = .ok (.idiv, 1) := by decide +kernel
theorem dMO_interrupt_107 : decode prog_10_method_48_code 107 = .ok (.iconst 3, 1) := by decide +kernel
theorem dMO_interrupt_108 : decode prog_10_method_48_code 108 = .ok (.iastore, 1) := by decide +kernel
theorem dMO_interrupt_109 : decode prog_10_method_48_code 109 = .ok (.iconst (-1), 1) := by decide +kernel
theorem dMO_interrupt_110 : decode prog_10_method_48_code 110 = .ok (.ireturn, 1) := by decide +kernel
theorem dMO_tick_0 : decode prog_10_method_49_code 0 = .ok (.aload_n 0, 1) := by decide +kernel
theorem dMO_tick_1 : decode prog_10_method_49_code 1 = .ok (.iload_n 1, 1) := by decide +kernel
theorem dMO_tick_2 : decode prog_10_method_49_code 2 = .ok (.ifCond .lt 9, 3) := by decide +kernel
theorem dMO_tick_5 : decode prog_10_method_49_code 5 = .ok (.iload_n 1, 1) := by decide +kernel
theorem dMO_tick_6 : decode prog_10_method_49_code 6 = .ok (.ldc 231, 2) := by decide +kernel
theorem dMO_tick_8 : decode prog_10_method_49_code 8 = .ok (.if_icmp .le 7, 3) := by decide +kernel
theorem dMO_tick_11 : decode prog_10_method_49_code 11 = .ok (.iconst 1, 1) := by decide +kernel
theorem dMO_tick_12 : decode prog_10_method_49_code 12 = .ok (.goto 4, 3) := by decide +kernel
theorem dMO_tick_15 : decode prog_10_method_49_code 15 = .ok (.iconst 0, 1) := by decide +kernel
theorem dMO_tick_16 : decode prog_10_method_49_code 16 = .ok (.putfield 63, 3) := by decide +kernel
theorem dMO_tick_19 : decode prog_10_method_49_code 19 = .ok (.aload_n 0, 1) := by decide +kernel
theorem dMO_tick_20 : decode prog_10_method_49_code 20 = .ok (.getfield 63, 3) := by decide +kernel
theorem dMO_tick_23 : decode prog_10_method_49_code 23 = .ok (.ifCond .le 7, 3) := by decide +kernel
theorem dMO_tick_26 : decode prog_10_method_49_code 26 = .ok (.iconst 0, 1) := by decide +kernel
theorem dMO_tick_27 : decode prog_10_method_49_code 27 = .ok (.goto 4, 3) := by decide +kernel
theorem dMO_tick_30 : decode prog_10_method_49_code 30 = .ok (.iload_n 1, 1) := by decide +kernel
theorem dMO_tick_31 : decode prog_10_method_49_code 31 = .ok (.istore_n 2, 1) := by decide +kernel
theorem dMO_tick_32 : decode prog_10_method_49_code 32 = .ok (.iconst 0, 1) := by decide +kernel
theorem dMO_tick_33 : decode prog_10_method_49_code 33 = .ok (.istore_n 3, 1) := by decide +kernel
theorem dMO_tick_34 : decode prog_10_method_49_code 34 = .ok (.iload_n 2, 1) := by decide +kernel
theorem dMO_tick_35 : decode prog_10_method_49_code 35 = .ok (.ifCond .le 7, 3) := by decide +kernel
theorem dMO_tick_38 : decode prog_10_method_49_code 38 = .ok (.iconst 1, 1) := by decide +kernel
theorem dMO_tick_39 : decode prog_10_method_49_code 39 = .ok (.goto 4, 3) := by decide +kernel
theorem dMO_tick_42 : decode prog_10_method_49_code 42 = .ok (.iconst 0, 1) := by decide +kernel
theorem dMO_tick_43 : decode prog_10_method_49_code 43 = .ok (.istore 4, 2) := by decide +kernel
theorem dMO_tick_45 : decode prog_10_method_49_code 45 = .ok (.iload 4, 2) := by decide +kernel
theorem dMO_tick_47 : decode prog_10_method_49_code 47 = .ok (.ifCond .eq 168, 3) := by decide +kernel
theorem dMO_tick_50 : decode prog_10_method_49_code 50 = .ok (.iload_n 2, 1) := by decide +kernel
theorem dMO_tick_51 : decode prog_10_method_49_code 51 = .ok (.istore 5, 2) := by decide +kernel
theorem dMO_tick_53 : decode prog_10_method_49_code 53 = .ok (.iconst 0, 1) := by decide +kernel
theorem dMO_tick_54 : decode prog_10_method_49_code 54 = .ok (.istore 4, 2) := by decide +kernel
theorem dMO_tick_56 : decode prog_10_method_49_code 56 = .ok (.iconst 0, 1) := by decide +kernel
theorem dMO_tick_57 : decode prog_10_method_49_code 57 = .ok (.istore 6, 2) := by decide +kernel
theorem dMO_tick_59 : decode prog_10_method_49_code 59 = .ok (.iload 6, 2) := by decide +kernel
theorem dMO_tick_61 : decode prog_10_method_49_code 61 = .ok (.bipush 6, 2) := by decide +kernel
theorem dMO_tick_63 : decode prog_10_method_49_code 63 = .ok (.if_icmp .ge 51, 3) := by decide +kernel
theorem dMO_tick_66 : decode prog_10_method_49_code 66 = .ok (.aload_n 0, 1) := by decide +kernel
theorem dMO_tick_67 : decode prog_10_method_49_code 67 = .ok (.getfield 23, 3) := by decide +kernel
theorem dMO_tick_70 : decode prog_10_method_49_code 70 = .ok (.iload 6, 2) := by decide +kernel
theorem dMO_tick_72 : decode prog_10_method_49_code 72 = .ok (.iaload, 1) := by decide +kernel
theorem dMO_tick_73 : decode prog_10_method_49_code 73 = .ok (.iconst 3, 1) := by decide +kernel
theorem dMO_tick_74 : decode prog_10_method_49_code 74 = .ok (.if_icmp .ne 34, 3) := by decide +kernel
theorem dMO_tick_77 : decode prog_10_method_49_code 77 = .ok (.aload_n 0, 1) := by decide +kernel
theorem dMO_tick_78 : decode prog_10_method_49_code 78 = .ok (.getfield 41, 3) := by decide +kernel
theorem dMO_tick_81 : decode prog_10_method_49_code 81 = .ok (.iload 6, 2) := by decide +kernel
theorem dMO_tick_83 : decode prog_10_method_49_code 83 = .ok (.iaload, 1) := by decide +kernel
theorem dMO_tick_84 : decode prog_10_method_49_code 84 = .ok (.ifCond .le 24, 3) := by decide +kernel
theorem dMO_tick_87 : decode prog_10_method_49_code 87 = .ok (.aload_n 0, 1) := by decide +kernel
theorem dMO_tick_88 : decode prog_10_method_49_code 88 = .ok (.getfield 41, 3) := by decide +kernel
theorem dMO_tick_91 : decode prog_10_method_49_code 91 = .ok (.iload 6, 2) := by decide +kernel
theorem dMO_tick_93 : decode prog_10_method_49_code 93 = .ok (.iaload, 1) := by decide +kernel
theorem dMO_tick_94 : decode prog_10_method_49_code 94 = .ok (.iload 5, 2) := by decide +kernel
theorem dMO_tick_96 : decode prog_10_method_49_code 96 = .ok (.if_icmp .gt 12, 3) := by decide +kernel
theorem dMO_tick_99 : decode prog_10_method_49_code 99 = .ok (.aload_n 0, 1) := by decide +kernel
theorem dMO_tick_100 : decode prog_10_method_49_code 100 = .ok (.getfield 41, 3) := by decide +kernel
theorem dMO_tick_103 : decode prog_10_method_49_code 103 = .ok (.iload 6, 2) := by decide +kernel
theorem dMO_tick_105 : decode prog_10_method_49_code 105 = .ok (.iaload, 1) := by decide +kernel
theorem dMO_tick_106 : decode prog_10_method_49_code 106 = .ok (.istore 5, 2) := by decide +kernel
theorem dMO_tick_108 : decode prog_10_method_49_code 108 = .ok (.iinc 6 1, 3) := by decide +kernel
theorem dMO_tick_111 : decode prog_10_method_49_code 111 = .ok (.goto (-52), 3) := by decide +kernel
theorem dMO_tick_114 : decode prog_10_method_49_code 114 = .ok (.iconst 0, 1) := by decide +kernel
theorem dMO_tick_115 : decode prog_10_method_49_code 115 = .ok (.istore 6, 2) := by decide +kernel
theorem dMO_tick_117 : decode prog_10_method_49_code 117 = .ok (.iload 6, 2) := by decide +kernel
theorem dMO_tick_119 : decode prog_10_method_49_code 119 = .ok (.bipush 6, 2) := by decide +kernel
theorem dMO_tick_121 : decode prog_10_method_49_code 121 = .ok (.if_icmp .ge 70, 3) := by decide +kernel
theorem dMO_tick_124 : decode prog_10_method_49_code 124 = .ok (.aload_n 0, 1) := by decide +kernel
theorem dMO_tick_125 : decode prog_10_method_49_code 125 = .ok (.getfield 23, 3) := by decide +kernel
theorem dMO_tick_128 : decode prog_10_method_49_code 128 = .ok (.iload 6, 2) := by decide +kernel
theorem dMO_tick_130 : decode prog_10_method_49_code 130 = .ok (.iaload, 1) := by decide +kernel
theorem dMO_tick_131 : decode prog_10_method_49_code 131 = .ok (.iconst 3, 1) := by decide +kernel
theorem dMO_tick_132 : decode prog_10_method_49_code 132 = .ok (.if_icmp .ne 53, 3) := by decide +kernel
theorem dMO_tick_135 : decode prog_10_method_49_code 135 = .ok (.aload_n 0, 1) := by decide +kernel
theorem dMO_tick_136 : decode prog_10_method_49_code 136 = .ok (.getfield 41, 3) := by decide +kernel
theorem dMO_tick_139 : decode prog_10_method_49_code 139 = .ok (.iload 6, 2) := by decide +kernel
theorem dMO_tick_141 : decode prog_10_method_49_code 141 = .ok (.iaload, 1) := by decide +kernel
theorem dMO_tick_142 : decode prog_10_method_49_code 142 = .ok (.ifCond .ne 6, 3) := by decide +kernel
theorem dMO_tick_145 : decode prog_10_method_49_code 145 = .ok (.goto 40, 3) := by decide +kernel
theorem dMO_tick_148 : decode prog_10_method_49_code 148 = .ok (.aload_n 0, 1) := by decide +kernel
theorem dMO_tick_149 : decode prog_10_method_49_code 149 = .ok (.getfield 41, 3) := by decide +kernel
theorem dMO_tick_152 : decode prog_10_method_49_code 152 = .ok (.iload 6, 2) := by decide +kernel
theorem dMO_tick_154 : decode prog_10_method_49_code 154 = .ok (.dup2, 1) := by decide +kernel
theorem dMO_tick_155 : decode prog_10_method_49_code 155 = .ok (.iaload, 1) := by decide +kernel
theorem dMO_tick_156 : decode prog_10_method_49_code 156 = .ok (.iload 5, 2) := by decide +kernel
theorem dMO_tick_158 : decode prog_10_method_49_code 158 = .ok (.isub, 1) := by decide +kernel
theorem dMO_tick_159 : decode prog_10_method_49_code 159 = .ok (.iastore, 1) := by decide +kernel
theorem dMO_tick_160 : decode prog_10_method_49_code 160 = .ok (.iconst 1, 1) := by decide +kernel
theorem dMO_tick_161 : decode prog_10_method_49_code 161 = .ok (.istore 4, 2) := by decide +kernel
theorem dMO_tick_163 : decode prog_10_method_49_code 163 = .ok (.aload_n 0, 1) := by decide +kernel
theorem dMO_tick_164 : decode prog_10_method_49_code 164 = .ok (.getfield 41, 3) := by decide +kernel
theorem dMO_tick_167 : decode prog_10_method_49_code 167 = .ok (.iload 6, 2) := by decide +kernel
theorem dMO_tick_169 : decode prog_10_method_49_code 169 = .ok (.iaload, 1) := by decide +kernel
theorem dMO_tick_170 : decode prog_10_method_49_code 170 = .ok (.ifCond .le 6, 3) := by decide +kernel
theorem dMO_tick_173 : decode prog_10_method_49_code 173 = .ok (.goto 12, 3) := by decide +kernel
theorem dMO_tick_176 : decode prog_10_method_49_code 176 = .ok (.aload_n 0, 1) := by decide +kernel
theorem dMO_tick_177 : decode prog_10_method_49_code 177 = .ok (.iload 6, 2) := by decide +kernel
theorem dMO_tick_179 : decode prog_10_method_49_code 179 = .ok (.invokevirtual 135, 3) := by decide +kernel
theorem dMO_tick_182 : decode prog_10_method_49_code 182 = .ok (.iinc 3 1, 3) := by decide +kernel
theorem dMO_tick_185 : decode prog_10_method_49_code 185 = .ok (.iinc 6 1, 3) := by decide +kernel
theorem dMO_tick_188 : decode prog_10_method_49_code 188 = .ok (.goto (-71), 3) := by decide +kernel
theorem dMO_tick_191 : decode prog_10_method_49_code 191 = .ok (.iload_n 2, 1) := by decide +kernel
theorem dMO_tick_192 : decode prog_10_method_49_code 192 = .ok (.iload 5, 2) := by decide +kernel
theorem dMO_tick_194 : decode prog_10_method_49_code 194 = .ok (.isub, 1) := by decide +kernel
theorem dMO_tick_195 : decode prog_10_method_49_code 195 = .ok (.istore_n 2, 1) := by decide +kernel
theorem dMO_tick_196 : decode prog_10_method_49_code 196 = .ok (.iload 4, 2) := by decide +kernel
theorem dMO_tick_198 : decode prog_10_method_49_code 198 = .ok (.ifCond .eq 11, 3) := by decide +kernel
theorem dMO_tick_201 : decode prog_10_method_49_code 201 = .ok (.iload_n 2, 1) := by decide +kernel
theorem dMO_tick_202 : decode prog_10_method_49_code 202 = .ok (.ifCond .le 7, 3) := by decide +kernel
theorem dMO_tick_205 : decode prog_10_method_49_code 205 = .ok (.iconst 1, 1) := by decide +kernel
theorem dMO_tick_206 : decode prog_10_method_49_code 206 = .ok (.goto 4, 3) := by decide +kernel
theorem dMO_tick_209 : decode prog_10_method_49_code 209 = .ok (.iconst 0, 1) := by decide +kernel
theorem dMO_tick_210 : decode prog_10_method_49_code 210 = .ok (.istore 4, 2) := by decide +kernel
theorem dMO_tick_212 : decode prog_10_method_49_code 212 = .ok (.goto (-167), 3) := by decide +kernel
theorem dMO_tick_215 : decode prog_10_method_49_code 215 = .ok (.iload_n 3, 1) := by decide +kernel
theorem dMO_tick_216 : decode prog_10_method_49_code 216 = .ok (.ireturn, 1) := by decide +kernel
theorem dMO_running_0 : decode prog_10_method_50_code 0 = .ok (.aload_n 0, 1) := by decide +kernel
theorem dMO_running_1 : decode prog_10_method_50_code 1 = .ok (.iconst 0, 1) := by decide +kernel
theorem dMO_running_2 : decode prog_10_method_50_code 2 = .ok (.putfield 63, 3) := by decide +kernel
theorem dMO_running_5 : decode prog_10_method_50_code 5 = .ok (.aload_n 0, 1) := by decide +kernel
theorem dMO_running_6 : decode prog_10_method_50_code 6 = .ok (.invokevirtual 222, 3) := by decide +kernel
theorem dMO_running_9 : decode prog_10_method_50_code 9 = .ok (.ireturn, 1) := by decide +kernel
theorem dMO_process_0 : decode prog_10_method_51_code 0 = .ok (.aload_n 0, 1) := by decide +kernel
theorem dMO_process_1 : decode prog_10_method_51_code 1 = .ok (.iconst 0, 1) := by decide +kernel
theorem dMO_process_2 : decode prog_10_method_51_code 2 = .ok (.putfield 63, 3) := by decide +kernel
theorem dMO_process_5 : decode prog_10_method_51_code 5 = .ok (.iload_n 1, 1) := by decide +kernel
theorem dMO_process_6 : decode prog_10_method_51_code 6 = .ok (.bipush 6, 2) := by decide +kernel
theorem dMO_process_8 : decode prog_10_method_51_code 8 = .ok (.invokestatic 228, 3) := by decide +kernel
theorem dMO_process_11 : decode prog_10_method_51_code 11 = .ok (.ifCond .eq 13, 3) := by decide +kernel
theorem dMO_process_14 : decode prog_10_method_51_code 14 = .ok (.iload_n 2, 1) := by decide +kernel
theorem dMO_process_15 : decode prog_10_method_51_code 15 = .ok (.ifCond .lt 9, 3) := by decide +kernel
theorem dMO_process_18 : decode prog_10_method_51_code 18 = .ok (.iload_n 2, 1) := by decide +kernel
theorem dMO_process_19 : decode prog_10_method_51_code 19 = .ok (.bipush 7, 2) := by decide +kernel
theorem dMO_process_21 : decode prog_10_method_51_code 21 = .ok (.if_icmp .le 5, 3) := by decide +kernel
theorem dMO_process_24 : decode prog_10_method_51_code 24 = .ok (.iconst (-1), 1) := by decide +kernel
theorem dMO_process_25 : decode prog_10_method_51_code 25 = .ok (.ireturn, 1) := by decide +kernel
theorem dMO_process_26 : decode prog_10_method_51_code 26 = .ok (.aload_n 0, 1) := by decide +kernel
theorem dMO_process_27 : decode prog_10_method_51_code 27 = .ok (.getfield 23, 3) := by decide +kernel
theorem dMO_process_30 : decode prog_10_method_51_code 30 = .ok (.iload_n 1, 1) := by decide +kernel
theorem dMO_process_31 : decode prog_10_method_51_code 31 = .ok (.iaload, 1) := by decide +kernel
theorem dMO_process_32 : decode prog_10_method_51_code 32 = .ok (.istore_n 3, 1) := by decide +kernel
theorem dMO_process_33 : decode prog_10_method_51_code 33 = .ok (.iload_n 2, 1) := by decide +kernel
theorem dMO_process_34 : decode prog_10_method_51_code 34 = .ok (.ifCond .ne 5, 3) := by decide +kernel
theorem dMO_process_37 : decode prog_10_method_51_code 37 = .ok (.iload_n 3, 1) := by decide +kernel
theorem dMO_process_38 : decode prog_10_method_51_code 38 = .ok (.ireturn, 1) := by decide +kernel
theorem dMO_process_39 : decode prog_10_method_51_code 39 = .ok (.iload_n 2, 1) := by decide +kernel
theorem dMO_process_40 : decode prog_10_method_51_code 40 = .ok (.iconst 4, 1) := by decide +kernel
theorem dMO_process_41 : decode prog_10_method_51_code 41 = .ok (.if_icmp .ge 46, 3) := by decide +kernel
theorem dMO_process_44 : decode prog_10_method_51_code 44 = .ok (.iload_n 3, 1) := by decide +kernel
theorem dMO_process_45 : decode prog_10_method_51_code 45 = .ok (.ifCond .ne 7, 3) := by decide +kernel
theorem dMO_process_48 : decode prog_10_method_51_code 48 = .ok (.iconst 0, 1) := by decide +kernel
theorem dMO_process_49 : decode prog_10_method_51_code 49 = .ok (.goto 37, 3) := by decide +kernel
theorem dMO_process_52 : decode prog_10_method_51_code 52 = .ok (.iload_n 2, 1) := by decide +kernel
theorem dMO_process_53 : decode prog_10_method_51_code 53 = .ok (.iconst 1, 1) := by decide +kernel
theorem dMO_process_54 : decode prog_10_method_51_code 54 = .ok (.if_icmp .ne 12, 3) := by decide +kernel
theorem dMO_process_57 : decode prog_10_method_51_code 57 = .ok (.aload_n 0, 1) := by decide +kernel
theorem dMO_process_58 : decode prog_10_method_51_code 58 = .ok (.getfield 26, 3) := by decide +kernel
theorem dMO_process_61 : decode prog_10_method_51_code 61 = .ok (.iload_n 1, 1) := by decide +kernel
theorem dMO_process_62 : decode prog_10_method_51_code 62 = .ok (.iaload, 1) := by decide +kernel
theorem dMO_process_63 : decode prog_10_method_51_code 63 = .ok (.goto 23, 3) := by decide +kernel
theorem dMO_process_66 : decode prog_10_method_51_code 66 = .ok (.iload_n 2, 1) := by decide +kernel
theorem dMO_process_67 : decode prog_10_method_51_code 67 = .ok (.iconst 2, 1) := by decide +kernel
theorem dMO_process_68 : decode prog_10_method_51_code 68 = .ok (.if_icmp .ne 12, 3) := by decide +kernel
theorem dMO_process_71 : decode prog_10_method_51_code 71 = .ok (.aload_n 0, 1) := by decide +kernel
theorem dMO_process_72 : decode prog_10_method_51_code 72 = .ok (.getfield 29, 3) := by decide +kernel
theorem dMO_process_75 : decode prog_10_method_51_code 75 = .ok (.iload_n 1, 1) := by decide +kernel
theorem dMO_process_76 : decode prog_10_method_51_code 76 = .ok (.iaload, 1) := by decide +kernel
theorem dMO_process_77 : decode prog_10_method_51_code 77 = .ok (.goto 9, 3) := by decide +kernel
theorem dMO_process_80 : decode prog_10_method_51_code 80 = .ok (.aload_n 0, 1) := by decide +kernel
theorem dMO_process_81 : decode prog_10_method_51_code 81 = .ok (.getfield 32, 3) := by decide +kernel
theorem dMO_process_84 : decode prog_10_method_51_code 84 = .ok (.iload_n 1, 1) := by decide +kernel
theorem dMO_process_85 : decode prog_10_method_51_code 85 = .ok (.iaload, 1) := by decide +kernel
theorem dMO_process_86 : decode prog_10_method_51_code 86 = .ok (.ireturn, 1) := by decide +kernel
theorem dMO_process_87 : decode prog_10_method_51_code 87 = .ok (.iload_n 2, 1) := by decide +kernel
theorem dMO_process_88 : decode prog_10_method_51_code 88 = .ok (.iconst 4, 1) := by decide +kernel
theorem dMO_process_89 : decode prog_10_method_51_code 89 = .ok (.if_icmp .ne 24, 3) := by decide +kernel
theorem dMO_process_92 : decode prog_10_method_51_code 92 = .ok (.iload_n 3, 1) := by decide +kernel
theorem dMO_process_93 : decode prog_10_method_51_code 93 = .ok (.iconst 2, 1) := by decide +kernel
theorem dMO_process_94 : decode prog_10_method_51_code 94 = .ok (.if_icmp .eq 8, 3) := by decide +kernel
theorem dMO_process_97 : decode prog_10_method_51_code 97 = .ok (.iload_n 3, 1) := by decide +kernel
theorem dMO_process_98 : decode prog_10_method_51_code 98 = .ok (.iconst 3, 1) := by decide +kernel
theorem dMO_process_99 : decode prog_10_method_51_code 99 = .ok (.if_icmp .ne 12, 3) := by decide +kernel
theorem dMO_process_102 : decode prog_10_method_51_code 102 = .ok (.aload_n 0, 1) := by decide +kernel
theorem dMO_process_103 : decode prog_10_method_51_code 103 = .ok (.getfield 38, 3) := by decide +kernel
theorem dMO_process_106 : decode prog_10_method_51_code 106 = .ok (.iload_n 1, 1) := by decide +kernel
