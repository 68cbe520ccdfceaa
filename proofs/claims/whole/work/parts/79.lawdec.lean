theorem dLA_law_0 : decode code 0 = .ok (.new 8, 3) := by decide +kernel
theorem dLA_law_3 : decode code 3 = .ok (.dup, 1) := by decide +kernel
theorem dLA_law_4 : decode code 4 = .ok (.invokespecial 53, 3) := by decide +kernel
theorem dLA_law_7 : decode code 7 = .ok (.astore_n 1, 1) := by decide +kernel
theorem dLA_law_8 : decode code 8 = .ok (.new 54, 3) := by decide +kernel
theorem dLA_law_11 : decode code 11 = .ok (.dup, 1) := by decide +kernel
theorem dLA_law_12 : decode code 12 = .ok (.invokespecial 56, 3) := by decide +kernel
theorem dLA_law_15 : decode code 15 = .ok (.astore_n 2, 1) := by decide +kernel
theorem dLA_law_16 : decode code 16 = .ok (.iconst 1, 1) := by decide +kernel
theorem dLA_law_17 : decode code 17 = .ok (.newarray .long, 2) := by decide +kernel
theorem dLA_law_19 : decode code 19 = .ok (.astore_n 3, 1) := by decide +kernel
theorem dLA_law_20 : decode code 20 = .ok (.iconst 0, 1) := by decide +kernel
theorem dLA_law_21 : decode code 21 = .ok (.istore 4, 2) := by decide +kernel
theorem dLA_law_23 : decode code 23 = .ok (.iload 4, 2) := by decide +kernel
theorem dLA_law_25 : decode code 25 = .ok (.aload_n 0, 1) := by decide +kernel
theorem dLA_law_26 : decode code 26 = .ok (.arraylength, 1) := by decide +kernel
theorem dLA_law_27 : decode code 27 = .ok (.iconst 3, 1) := by decide +kernel
theorem dLA_law_28 : decode code 28 = .ok (.isub, 1) := by decide +kernel
theorem dLA_law_29 : decode code 29 = .ok (.if_icmp .gt 822, 3) := by decide +kernel
theorem dLA_law_32 : decode code 32 = .ok (.aload_n 0, 1) := by decide +kernel
theorem dLA_law_33 : decode code 33 = .ok (.iload 4, 2) := by decide +kernel
theorem dLA_law_35 : decode code 35 = .ok (.iaload, 1) := by decide +kernel
theorem dLA_law_36 : decode code 36 = .ok (.bipush 15, 2) := by decide +kernel
theorem dLA_law_38 : decode code 38 = .ok (.iand, 1) := by decide +kernel
theorem dLA_law_39 : decode code 39 = .ok (.tableswitch 806 0 15 #[77, 125, 189, 245, 293, 349, 417, 473, 509, 545, 601, 657, 670, 707, 744, 781], 77) := by decide +kernel
theorem dLA_law_116 : decode code 116 = .ok (.aload_n 1, 1) := by decide +kernel
theorem dLA_law_117 : decode code 117 = .ok (.aload_n 0, 1) := by decide +kernel
theorem dLA_law_118 : decode code 118 = .ok (.iload 4, 2) := by decide +kernel
theorem dLA_law_120 : decode code 120 = .ok (.iconst 1, 1) := by decide +kernel
theorem dLA_law_121 : decode code 121 = .ok (.iadd, 1) := by decide +kernel
theorem dLA_law_122 : decode code 122 = .ok (.iaload, 1) := by decide +kernel
theorem dLA_law_123 : decode code 123 = .ok (.aload_n 0, 1) := by decide +kernel
theorem dLA_law_124 : decode code 124 = .ok (.iload 4, 2) := by decide +kernel
theorem dLA_law_126 : decode code 126 = .ok (.iconst 2, 1) := by decide +kernel
theorem dLA_law_127 : decode code 127 = .ok (.iadd, 1) := by decide +kernel
theorem dLA_law_128 : decode code 128 = .ok (.iaload, 1) := by decide +kernel
theorem dLA_law_129 : decode code 129 = .ok (.invokestatic 57, 3) := by decide +kernel
theorem dLA_law_132 : decode code 132 = .ok (.istore 5, 2) := by decide +kernel
theorem dLA_law_134 : decode code 134 = .ok (.aload_n 2, 1) := by decide +kernel
theorem dLA_law_135 : decode code 135 = .ok (.aload_n 0, 1) := by decide +kernel
theorem dLA_law_136 : decode code 136 = .ok (.iload 4, 2) := by decide +kernel
theorem dLA_law_138 : decode code 138 = .ok (.iconst 1, 1) := by decide +kernel
theorem dLA_law_139 : decode code 139 = .ok (.iadd, 1) := by decide +kernel
theorem dLA_law_140 : decode code 140 = .ok (.iaload, 1) := by decide +kernel
theorem dLA_law_141 : decode code 141 = .ok (.aload_n 0, 1) := by decide +kernel
theorem dLA_law_142 : decode code 142 = .ok (.iload 4, 2) := by decide +kernel
theorem dLA_law_144 : decode code 144 = .ok (.iconst 2, 1) := by decide +kernel
theorem dLA_law_145 : decode code 145 = .ok (.iadd, 1) := by decide +kernel
theorem dLA_law_146 : decode code 146 = .ok (.iaload, 1) := by decide +kernel
theorem dLA_law_147 : decode code 147 = .ok (.invokevirtual 62, 3) := by decide +kernel
theorem dLA_law_150 : decode code 150 = .ok (.aload_n 2, 1) := by decide +kernel
theorem dLA_law_151 : decode code 151 = .ok (.invokevirtual 63, 3) := by decide +kernel
theorem dLA_law_154 : decode code 154 = .ok (.iload 5, 2) := by decide +kernel
theorem dLA_law_156 : decode code 156 = .ok (.if_icmp .eq 5, 3) := by decide +kernel
theorem dLA_law_159 : decode code 159 = .ok (.iconst 0, 1) := by decide +kernel
theorem dLA_law_160 : decode code 160 = .ok (.ireturn, 1) := by decide +kernel
theorem dLA_law_161 : decode code 161 = .ok (.goto 684, 3) := by decide +kernel
theorem dLA_law_164 : decode code 164 = .ok (.aload_n 1, 1) := by decide +kernel
theorem dLA_law_165 : decode code 165 = .ok (.aload_n 0, 1) := by decide +kernel
theorem dLA_law_166 : decode code 166 = .ok (.iload 4, 2) := by decide +kernel
theorem dLA_law_168 : decode code 168 = .ok (.iconst 1, 1) := by decide +kernel
theorem dLA_law_169 : decode code 169 = .ok (.iadd, 1) := by decide +kernel
theorem dLA_law_170 : decode code 170 = .ok (.iaload, 1) := by decide +kernel
theorem dLA_law_171 : decode code 171 = .ok (.aload_n 0, 1) := by decide +kernel
theorem dLA_law_172 : decode code 172 = .ok (.iload 4, 2) := by decide +kernel
theorem dLA_law_174 : decode code 174 = .ok (.iconst 2, 1) := by decide +kernel
theorem dLA_law_175 : decode code 175 = .ok (.iadd, 1) := by decide +kernel
theorem dLA_law_176 : decode code 176 = .ok (.iaload, 1) := by decide +kernel
theorem dLA_law_177 : decode code 177 = .ok (.ifCond .eq 7, 3) := by decide +kernel
theorem dLA_law_180 : decode code 180 = .ok (.iconst 1, 1) := by decide +kernel
theorem dLA_law_181 : decode code 181 = .ok (.goto 4, 3) := by decide +kernel
theorem dLA_law_184 : decode code 184 = .ok (.iconst 0, 1) := by decide +kernel
theorem dLA_law_185 : decode code 185 = .ok (.invokestatic 67, 3) := by decide +kernel
theorem dLA_law_188 : decode code 188 = .ok (.istore 5, 2) := by decide +kernel
theorem dLA_law_190 : decode code 190 = .ok (.aload_n 2, 1) := by decide +kernel
theorem dLA_law_191 : decode code 191 = .ok (.aload_n 0, 1) := by decide +kernel
theorem dLA_law_192 : decode code 192 = .ok (.iload 4, 2) := by decide +kernel
theorem dLA_law_194 : decode code 194 = .ok (.iconst 1, 1) := by decide +kernel
theorem dLA_law_195 : decode code 195 = .ok (.iadd, 1) := by decide +kernel
theorem dLA_law_196 : decode code 196 = .ok (.iaload, 1) := by decide +kernel
theorem dLA_law_197 : decode code 197 = .ok (.aload_n 0, 1) := by decide +kernel
theorem dLA_law_198 : decode code 198 = .ok (.iload 4, 2) := by decide +kernel
theorem dLA_law_200 : decode code 200 = .ok (.iconst 2, 1) := by decide +kernel
theorem dLA_law_201 : decode code 201 = .ok (.iadd, 1) := by decide +kernel
theorem dLA_law_202 : decode code 202 = .ok (.iaload, 1) := by decide +kernel
theorem dLA_law_203 : decode code 203 = .ok (.ifCond .eq 7, 3) := by decide +kernel
theorem dLA_law_206 : decode code 206 = .ok (.iconst 1, 1) := by decide +kernel
theorem dLA_law_207 : decode code 207 = .ok (.goto 4, 3) := by decide +kernel
theorem dLA_law_210 : decode code 210 = .ok (.iconst 0, 1) := by decide +kernel
theorem dLA_law_211 : decode code 211 = .ok (.invokevirtual 70, 3) := by decide +kernel
theorem dLA_law_214 : decode code 214 = .ok (.aload_n 2, 1) := by decide +kernel
theorem dLA_law_215 : decode code 215 = .ok (.invokevirtual 63, 3) := by decide +kernel
theorem dLA_law_218 : decode code 218 = .ok (.iload 5, 2) := by decide +kernel
theorem dLA_law_220 : decode code 220 = .ok (.if_icmp .eq 5, 3) := by decide +kernel
theorem dLA_law_223 : decode code 223 = .ok (.iconst 0, 1) := by decide +kernel
theorem dLA_law_224 : decode code 224 = .ok (.ireturn, 1) := by decide +kernel
theorem dLA_law_225 : decode code 225 = .ok (.goto 620, 3) := by decide +kernel
theorem dLA_law_228 : decode code 228 = .ok (.aload_n 1, 1) := by decide +kernel
theorem dLA_law_229 : decode code 229 = .ok (.aload_n 0, 1) := by decide +kernel
theorem dLA_law_230 : decode code 230 = .ok (.iload 4, 2) := by decide +kernel
theorem dLA_law_232 : decode code 232 = .ok (.iconst 1, 1) := by decide +kernel
theorem dLA_law_233 : decode code 233 = .ok (.iadd, 1) := by decide +kernel
theorem dLA_law_234 : decode code 234 = .ok (.iaload, 1) := by decide +kernel
theorem dLA_law_235 : decode code 235 = .ok (.aload_n 3, 1) := by decide +kernel
theorem dLA_law_236 : decode code 236 = .ok (.invokestatic 71, 3) := by decide +kernel
theorem dLA_law_239 : decode code 239 = .ok (.istore 5, 2) := by decide +kernel
theorem dLA_law_241 : decode code 241 = .ok (.aload_n 2, 1) := by decide +kernel
theorem dLA_law_242 : decode code 242 = .ok (.aload_n 0, 1) := by decide +kernel
theorem dLA_law_243 : decode code 243 = .ok (.iload 4, 2) := by decide +kernel
theorem dLA_law_245 : decode code 245 = .ok (.iconst 1, 1) := by decide +kernel
theorem dLA_law_246 : decode code 246 = .ok (.iadd, 1) := by decide +kernel
theorem dLA_law_247 : decode code 247 = .ok (.iaload, 1) := by decide +kernel
theorem dLA_law_248 : decode code 248 = .ok (.invokevirtual 74, 3) := by decide +kernel
theorem dLA_law_251 : decode code 251 = .ok (.istore 6, 2) := by decide +kernel
theorem dLA_law_253 : decode code 253 = .ok (.aload_n 2, 1) := by decide +kernel
theorem dLA_law_254 : decode code 254 = .ok (.invokevirtual 63, 3) := by decide +kernel
theorem dLA_law_257 : decode code 257 = .ok (.iload 5, 2) := by decide +kernel
theorem dLA_law_259 : decode code 259 = .ok (.if_icmp .eq 5, 3) := by decide +kernel
theorem dLA_law_262 : decode code 262 = .ok (.iconst 0, 1) := by decide +kernel
theorem dLA_law_263 : decode code 263 = .ok (.ireturn, 1) := by decide +kernel
theorem dLA_law_264 : decode code 264 = .ok (.iload 5, 2) := by decide +kernel
theorem dLA_law_266 : decode code 266 = .ok (.ifCond .ne 15, 3) := by decide +kernel
theorem dLA_law_269 : decode code 269 = .ok (.aload_n 3, 1) := by decide +kernel
theorem dLA_law_270 : decode code 270 = .ok (.iconst 0, 1) := by decide +kernel
theorem dLA_law_271 : decode code 271 = .ok (.laload, 1) := by decide +kernel
theorem dLA_law_272 : decode code 272 = .ok (.iload 6, 2) := by decide +kernel
theorem dLA_law_274 : decode code 274 = .ok (.i2l, 1) := by decide +kernel
theorem dLA_law_275 : decode code 275 = .ok (.lcmp, 1) := by decide +kernel
theorem dLA_law_276 : decode code 276 = .ok (.ifCond .eq 5, 3) := by decide +kernel
theorem dLA_law_279 : decode code 279 = .ok (.iconst 0, 1) := by decide +kernel
theorem dLA_law_280 : decode code 280 = .ok (.ireturn, 1) := by decide +kernel
theorem dLA_law_281 : decode code 281 = .ok (.goto 564, 3) := by decide +kernel
theorem dLA_law_284 : decode code 284 = .ok (.aload_n 1, 1) := by decide +kernel
theorem dLA_law_285 : decode code 285 = .ok (.aload_n 0, 1) := by decide +kernel
theorem dLA_law_286 : decode code 286 = .ok (.iload 4, 2) := by decide +kernel
theorem dLA_law_288 : decode code 288 = .ok (.iconst 1, 1) := by decide +kernel
theorem dLA_law_289 : decode code 289 = .ok (.iadd, 1) := by decide +kernel
theorem dLA_law_290 : decode code 290 = .ok (.iaload, 1) := by decide +kernel
theorem dLA_law_291 : decode code 291 = .ok (.aload_n 0, 1) := by decide +kernel
theorem dLA_law_292 : decode code 292 = .ok (.iload 4, 2) := by decide +kernel
theorem dLA_law_294 : decode code 294 = .ok (.iconst 2, 1) := by decide +kernel
theorem dLA_law_295 : decode code 295 = .ok (.iadd, 1) := by decide +kernel
theorem dLA_law_296 : decode code 296 = .ok (.iaload, 1) := by decide +kernel
theorem dLA_law_297 : decode code 297 = .ok (.invokestatic 75, 3) := by decide +kernel
theorem dLA_law_300 : decode code 300 = .ok (.istore 5, 2) := by decide +kernel
theorem dLA_law_302 : decode code 302 = .ok (.aload_n 2, 1) := by decide +kernel
theorem dLA_law_303 : decode code 303 = .ok (.aload_n 0, 1) := by decide +kernel
theorem dLA_law_304 : decode code 304 = .ok (.iload 4, 2) := by decide +kernel
theorem dLA_law_306 : decode code 306 = .ok (.iconst 1, 1) := by decide +kernel
theorem dLA_law_307 : decode code 307 = .ok (.iadd, 1) := by decide +kernel
theorem dLA_law_308 : decode code 308 = .ok (.iaload, 1) := by decide +kernel
theorem dLA_law_309 : decode code 309 = .ok (.aload_n 0, 1) := by decide +kernel
theorem dLA_law_310 : decode code 310 = .ok (.iload 4, 2) := by decide +kernel
theorem dLA_law_312 : decode code 312 = .ok (.iconst 2, 1) := by decide +kernel
theorem dLA_law_313 : decode code 313 = .ok (.iadd, 1) := by decide +kernel
theorem dLA_law_314 : decode code 314 = .ok (.iaload, 1) := by decide +kernel
theorem dLA_law_315 : decode code 315 = .ok (.invokevirtual 77, 3) := by decide +kernel
theorem dLA_law_318 : decode code 318 = .ok (.aload_n 2, 1) := by decide +kernel
theorem dLA_law_319 : decode code 319 = .ok (.invokevirtual 63, 3) := by decide +kernel
theorem dLA_law_322 : decode code 322 = .ok (.iload 5, 2) := by decide +kernel
theorem dLA_law_324 : decode code 324 = .ok (.if_icmp .eq 5, 3) := by decide +kernel
theorem dLA_law_327 : decode code 327 = .ok (.iconst 0, 1) := by decide +kernel
theorem dLA_law_328 : decode code 328 = .ok (.ireturn, 1) := by decide +kernel
theorem dLA_law_329 : decode code 329 = .ok (.goto 516, 3) := by decide +kernel
theorem dLA_law_332 : decode code 332 = .ok (.aload_n 1, 1) := by decide +kernel
theorem dLA_law_333 : decode code 333 = .ok (.aload_n 0, 1) := by decide +kernel
theorem dLA_law_334 : decode code 334 = .ok (.iload 4, 2) := by decide +kernel
theorem dLA_law_336 : decode code 336 = .ok (.iconst 1, 1) := by decide +kernel
theorem dLA_law_337 : decode code 337 = .ok (.iadd, 1) := by decide +kernel
theorem dLA_law_338 : decode code 338 = .ok (.iaload, 1) := by decide +kernel
theorem dLA_law_339 : decode code 339 = .ok (.aload_n 3, 1) := by decide +kernel
theorem dLA_law_340 : decode code 340 = .ok (.invokestatic 78, 3) := by decide +kernel
theorem dLA_law_343 : decode code 343 = .ok (.istore 5, 2) := by decide +kernel
theorem dLA_law_345 : decode code 345 = .ok (.aload_n 2, 1) := by decide +kernel
theorem dLA_law_346 : decode code 346 = .ok (.aload_n 0, 1) := by decide +kernel
theorem dLA_law_347 : decode code 347 = .ok (.iload 4, 2) := by decide +kernel
theorem dLA_law_349 : decode code 349 = .ok (.iconst 1, 1) := by decide +kernel
theorem dLA_law_350 : decode code 350 = .ok (.iadd, 1) := by decide +kernel
theorem dLA_law_351 : decode code 351 = .ok (.iaload, 1) := by decide +kernel
theorem dLA_law_352 : decode code 352 = .ok (.invokevirtual 80, 3) := by decide +kernel
theorem dLA_law_355 : decode code 355 = .ok (.istore 6, 2) := by decide +kernel
theorem dLA_law_357 : decode code 357 = .ok (.aload_n 2, 1) := by decide +kernel
theorem dLA_law_358 : decode code 358 = .ok (.invokevirtual 63, 3) := by decide +kernel
theorem dLA_law_361 : decode code 361 = .ok (.iload 5, 2) := by decide +kernel
theorem dLA_law_363 : decode code 363 = .ok (.if_icmp .eq 5, 3) := by decide +kernel
theorem dLA_law_366 : decode code 366 = .ok (.iconst 0, 1) := by decide +kernel
theorem dLA_law_367 : decode code 367 = .ok (.ireturn, 1) := by decide +kernel
theorem dLA_law_368 : decode code 368 = .ok (.iload 5, 2) := by decide +kernel
theorem dLA_law_370 : decode code 370 = .ok (.ifCond .ne 15, 3) := by decide +kernel
theorem dLA_law_373 : decode code 373 = .ok (.aload_n 3, 1) := by decide +kernel
theorem dLA_law_374 : decode code 374 = .ok (.iconst 0, 1) := by decide +kernel
theorem dLA_law_375 : decode code 375 = .ok (.laload, 1) := by decide +kernel
theorem dLA_law_376 : decode code 376 = .ok (.iload 6, 2) := by decide +kernel
theorem dLA_law_378 : decode code 378 = .ok (.i2l, 1) := by decide +kernel
theorem dLA_law_379 : decode code 379 = .ok (.lcmp, 1) := by decide +kernel
theorem dLA_law_380 : decode code 380 = .ok (.ifCond .eq 5, 3) := by decide +kernel
theorem dLA_law_383 : decode code 383 = .ok (.iconst 0, 1) := by decide +kernel
theorem dLA_law_384 : decode code 384 = .ok (.ireturn, 1) := by decide +kernel
theorem dLA_law_385 : decode code 385 = .ok (.goto 460, 3) := by decide +kernel
theorem dLA_law_388 : decode code 388 = .ok (.aload_n 1, 1) := by decide +kernel
theorem dLA_law_389 : decode code 389 = .ok (.aload_n 0, 1) := by decide +kernel
theorem dLA_law_390 : decode code 390 = .ok (.iload 4, 2) := by decide +kernel
theorem dLA_law_392 : decode code 392 = .ok (.iconst 1, 1) := by decide +kernel
theorem dLA_law_393 : decode code 393 = .ok (.iadd, 1) := by decide +kernel
theorem dLA_law_394 : decode code 394 = .ok (.iaload, 1) := by decide +kernel
theorem dLA_law_395 : decode code 395 = .ok (.aload_n 0, 1) := by decide +kernel
theorem dLA_law_396 : decode code 396 = .ok (.iload 4, 2) := by decide +kernel
theorem dLA_law_398 : decode code 398 = .ok (.iconst 2, 1) := by decide +kernel
theorem dLA_law_399 : decode code 399 = .ok (.iadd, 1) := by decide +kernel
theorem dLA_law_400 : decode code 400 = .ok (.iaload, 1) := by decide +kernel
theorem dLA_law_401 : decode code 401 = .ok (.aload_n 3, 1) := by decide +kernel
theorem dLA_law_402 : decode code 402 = .ok (.invokestatic 81, 3) := by decide +kernel
theorem dLA_law_405 : decode code 405 = .ok (.istore 5, 2) := by decide +kernel
theorem dLA_law_407 : decode code 407 = .ok (.aload_n 2, 1) := by decide +kernel
theorem dLA_law_408 : decode code 408 = .ok (.aload_n 0, 1) := by decide +kernel
theorem dLA_law_409 : decode code 409 = .ok (.iload 4, 2) := by decide +kernel
theorem dLA_law_411 : decode code 411 = .ok (.iconst 1, 1) := by decide +kernel
theorem dLA_law_412 : decode code 412 = .ok (.iadd, 1) := by decide +kernel
theorem dLA_law_413 : decode code 413 = .ok (.iaload, 1) := by decide +kernel
theorem dLA_law_414 : decode code 414 = .ok (.aload_n 0, 1) := by decide +kernel
theorem dLA_law_415 : decode code 415 = .ok (.iload 4, 2) := by decide +kernel
theorem dLA_law_417 : decode code 417 = .ok (.iconst 2, 1) := by decide +kernel
theorem dLA_law_418 : decode code 418 = .ok (.iadd, 1) := by decide +kernel
theorem dLA_law_419 : decode code 419 = .ok (.iaload, 1) := by decide +kernel
theorem dLA_law_420 : decode code 420 = .ok (.invokevirtual 84, 3) := by decide +kernel
theorem dLA_law_423 : decode code 423 = .ok (.istore 6, 2) := by decide +kernel
theorem dLA_law_425 : decode code 425 = .ok (.aload_n 2, 1) := by decide +kernel
theorem dLA_law_426 : decode code 426 = .ok (.invokevirtual 63, 3) := by decide +kernel
theorem dLA_law_429 : decode code 429 = .ok (.iload 5, 2) := by decide +kernel
theorem dLA_law_431 : decode code 431 = .ok (.if_icmp .eq 5, 3) := by decide +kernel
theorem dLA_law_434 : decode code 434 = .ok (.iconst 0, 1) := by decide +kernel
theorem dLA_law_435 : decode code 435 = .ok (.ireturn, 1) := by decide +kernel
theorem dLA_law_436 : decode code 436 = .ok (.iload 5, 2) := by decide +kernel
theorem dLA_law_438 : decode code 438 = .ok (.ifCond .ne 15, 3) := by decide +kernel
theorem dLA_law_441 : decode code 441 = .ok (.aload_n 3, 1) := by decide +kernel
theorem dLA_law_442 : decode code 442 = .ok (.iconst 0, 1) := by decide +kernel
theorem dLA_law_443 : decode code 443 = .ok (.laload, 1) := by decide +kernel
theorem dLA_law_444 : decode code 444 = .ok (.iload 6, 2) := by decide +kernel
theorem dLA_law_446 : decode code 446 = .ok (.i2l, 1) := by decide +kernel
theorem dLA_law_447 : decode code 447 = .ok (.lcmp, 1) := by decide +kernel
theorem dLA_law_448 : decode code 448 = .ok (.ifCond .eq 5, 3) := by decide +kernel
theorem dLA_law_451 : decode code 451 = .ok (.iconst 0, 1) := by decide +kernel
theorem dLA_law_452 : decode code 452 = .ok (.ireturn, 1) := by decide +kernel
theorem dLA_law_453 : decode code 453 = .ok (.goto 392, 3) := by decide +kernel
theorem dLA_law_456 : decode code 456 = .ok (.aload_n 1, 1) := by decide +kernel
theorem dLA_law_457 : decode code 457 = .ok (.aload_n 0, 1) := by decide +kernel
theorem dLA_law_458 : decode code 458 = .ok (.iload 4, 2) := by decide +kernel
theorem dLA_law_460 : decode code 460 = .ok (.iconst 1, 1) := by decide +kernel
theorem dLA_law_461 : decode code 461 = .ok (.iadd, 1) := by decide +kernel
theorem dLA_law_462 : decode code 462 = .ok (.iaload, 1) := by decide +kernel
theorem dLA_law_463 : decode code 463 = .ok (.aload_n 3, 1) := by decide +kernel
theorem dLA_law_464 : decode code 464 = .ok (.invokestatic 85, 3) := by decide +kernel
theorem dLA_law_467 : decode code 467 = .ok (.istore 5, 2) := by decide +kernel
theorem dLA_law_469 : decode code 469 = .ok (.aload_n 2, 1) := by decide +kernel
theorem dLA_law_470 : decode code 470 = .ok (.aload_n 0, 1) := by decide +kernel
theorem dLA_law_471 : decode code 471 = .ok (.iload 4, 2) := by decide +kernel
theorem dLA_law_473 : decode code 473 = .ok (.iconst 1, 1) := by decide +kernel
theorem dLA_law_474 : decode code 474 = .ok (.iadd, 1) := by decide +kernel
theorem dLA_law_475 : decode code 475 = .ok (.iaload, 1) := by decide +kernel
theorem dLA_law_476 : decode code 476 = .ok (.invokevirtual 87, 3) := by decide +kernel
theorem dLA_law_479 : decode code 479 = .ok (.istore 6, 2) := by decide +kernel
theorem dLA_law_481 : decode code 481 = .ok (.aload_n 2, 1) := by decide +kernel
theorem dLA_law_482 : decode code 482 = .ok (.invokevirtual 63, 3) := by decide +kernel
theorem dLA_law_485 : decode code 485 = .ok (.iload 5, 2) := by decide +kernel
theorem dLA_law_487 : decode code 487 = .ok (.if_icmp .eq 5, 3) := by decide +kernel
theorem dLA_law_490 : decode code 490 = .ok (.iconst 0, 1) := by decide +kernel
theorem dLA_law_491 : decode code 491 = .ok (.ireturn, 1) := by decide +kernel
theorem dLA_law_492 : decode code 492 = .ok (.iload 5, 2) := by decide +kernel
theorem dLA_law_494 : decode code 494 = .ok (.ifCond .ne 15, 3) := by decide +kernel
theorem dLA_law_497 : decode code 497 = .ok (.aload_n 3, 1) := by decide +kernel
theorem dLA_law_498 : decode code 498 = .ok (.iconst 0, 1) := by decide +kernel
theorem dLA_law_499 : decode code 499 = .ok (.laload, 1) := by decide +kernel
theorem dLA_law_500 : decode code 500 = .ok (.iload 6, 2) := by decide +kernel
theorem dLA_law_502 : decode code 502 = .ok (.i2l, 1) := by decide +kernel
theorem dLA_law_503 : decode code 503 = .ok (.lcmp, 1) := by decide +kernel
theorem dLA_law_504 : decode code 504 = .ok (.ifCond .eq 5, 3) := by decide +kernel
theorem dLA_law_507 : decode code 507 = .ok (.iconst 0, 1) := by decide +kernel
theorem dLA_law_508 : decode code 508 = .ok (.ireturn, 1) := by decide +kernel
theorem dLA_law_509 : decode code 509 = .ok (.goto 336, 3) := by decide +kernel
theorem dLA_law_512 : decode code 512 = .ok (.aload_n 1, 1) := by decide +kernel
theorem dLA_law_513 : decode code 513 = .ok (.aload_n 0, 1) := by decide +kernel
theorem dLA_law_514 : decode code 514 = .ok (.iload 4, 2) := by decide +kernel
theorem dLA_law_516 : decode code 516 = .ok (.iconst 1, 1) := by decide +kernel
theorem dLA_law_517 : decode code 517 = .ok (.iadd, 1) := by decide +kernel
theorem dLA_law_518 : decode code 518 = .ok (.iaload, 1) := by decide +kernel
theorem dLA_law_519 : decode code 519 = .ok (.invokestatic 88, 3) := by decide +kernel
theorem dLA_law_522 : decode code 522 = .ok (.istore 5, 2) := by decide +kernel
theorem dLA_law_524 : decode code 524 = .ok (.aload_n 2, 1) := by decide +kernel
theorem dLA_law_525 : decode code 525 = .ok (.aload_n 0, 1) := by decide +kernel
theorem dLA_law_526 : decode code 526 = .ok (.iload 4, 2) := by decide +kernel
theorem dLA_law_528 : decode code 528 = .ok (.iconst 1, 1) := by decide +kernel
theorem dLA_law_529 : decode code 529 = .ok (.iadd, 1) := by decide +kernel
theorem dLA_law_530 : decode code 530 = .ok (.iaload, 1) := by decide +kernel
theorem dLA_law_531 : decode code 531 = .ok (.invokevirtual 91, 3) := by decide +kernel
theorem dLA_law_534 : decode code 534 = .ok (.aload_n 2, 1) := by decide +kernel
theorem dLA_law_535 : decode code 535 = .ok (.invokevirtual 63, 3) := by decide +kernel
theorem dLA_law_538 : decode code 538 = .ok (.iload 5, 2) := by decide +kernel
theorem dLA_law_540 : decode code 540 = .ok (.if_icmp .eq 5, 3) := by decide +kernel
theorem dLA_law_543 : decode code 543 = .ok (.iconst 0, 1) := by decide +kernel
theorem dLA_law_544 : decode code 544 = .ok (.ireturn, 1) := by decide +kernel
theorem dLA_law_545 : decode code 545 = .ok (.goto 300, 3) := by decide +kernel
theorem dLA_law_548 : decode code 548 = .ok (.aload_n 1, 1) := by decide +kernel
theorem dLA_law_549 : decode code 549 = .ok (.aload_n 0, 1) := by decide +kernel
theorem dLA_law_550 : decode code 550 = .ok (.iload 4, 2) := by decide +kernel
theorem dLA_law_552 : decode code 552 = .ok (.iconst 1, 1) := by decide +kernel
theorem dLA_law_553 : decode code 553 = .ok (.iadd, 1) := by decide +kernel
theorem dLA_law_554 : decode code 554 = .ok (.iaload, 1) := by decide +kernel
theorem dLA_law_555 : decode code 555 = .ok (.invokestatic 92, 3) := by decide +kernel
theorem dLA_law_558 : decode code 558 = .ok (.istore 5, 2) := by decide +kernel
theorem dLA_law_560 : decode code 560 = .ok (.aload_n 2, 1) := by decide +kernel
theorem dLA_law_561 : decode code 561 = .ok (.aload_n 0, 1) := by decide +kernel
theorem dLA_law_562 : decode code 562 = .ok (.iload 4, 2) := by decide +kernel
theorem dLA_law_564 : decode code 564 = .ok (.iconst 1, 1) := by decide +kernel
theorem dLA_law_565 : decode code 565 = .ok (.iadd, 1) := by decide +kernel
theorem dLA_law_566 : decode code 566 = .ok (.iaload, 1) := by decide +kernel
theorem dLA_law_567 : decode code 567 = .ok (.invokevirtual 94, 3) := by decide +kernel
theorem dLA_law_570 : decode code 570 = .ok (.aload_n 2, 1) := by decide +kernel
theorem dLA_law_571 : decode code 571 = .ok (.invokevirtual 63, 3) := by decide +kernel
theorem dLA_law_574 : decode code 574 = .ok (.iload 5, 2) := by decide +kernel
theorem dLA_law_576 : decode code 576 = .ok (.if_icmp .eq 5, 3) := by decide +kernel
theorem dLA_law_579 : decode code 579 = .ok (.iconst 0, 1) := by decide +kernel
theorem dLA_law_580 : decode code 580 = .ok (.ireturn, 1) := by decide +kernel
theorem dLA_law_581 : decode code 581 = .ok (.goto 264, 3) := by decide +kernel
theorem dLA_law_584 : decode code 584 = .ok (.aload_n 1, 1) := by decide +kernel
theorem dLA_law_585 : decode code 585 = .ok (.aload_n 0, 1) := by decide +kernel
theorem dLA_law_586 : decode code 586 = .ok (.iload 4, 2) := by decide +kernel
theorem dLA_law_588 : decode code 588 = .ok (.iconst 1, 1) := by decide +kernel
theorem dLA_law_589 : decode code 589 = .ok (.iadd, 1) := by decide +kernel
theorem dLA_law_590 : decode code 590 = .ok (.iaload, 1) := by decide +kernel
theorem dLA_law_591 : decode code 591 = .ok (.aload_n 3, 1) := by decide +kernel
theorem dLA_law_592 : decode code 592 = .ok (.invokestatic 95, 3) := by decide +kernel
theorem dLA_law_595 : decode code 595 = .ok (.istore 5, 2) := by decide +kernel
theorem dLA_law_597 : decode code 597 = .ok (.aload_n 2, 1) := by decide +kernel
theorem dLA_law_598 : decode code 598 = .ok (.aload_n 0, 1) := by decide +kernel
theorem dLA_law_599 : decode code 599 = .ok (.iload 4, 2) := by decide +kernel
theorem dLA_law_601 : decode code 601 = .ok (.iconst 1, 1) := by decide +kernel
theorem dLA_law_602 : decode code 602 = .ok (.iadd, 1) := by decide +kernel
theorem dLA_law_603 : decode code 603 = .ok (.iaload, 1) := by decide +kernel
theorem dLA_law_604 : decode code 604 = .ok (.invokevirtual 97, 3) := by decide +kernel
theorem dLA_law_607 : decode code 607 = .ok (.istore 6, 2) := by decide +kernel
theorem dLA_law_609 : decode code 609 = .ok (.aload_n 2, 1) := by decide +kernel
theorem dLA_law_610 : decode code 610 = .ok (.invokevirtual 63, 3) := by decide +kernel
theorem dLA_law_613 : decode code 613 = .ok (.iload 5, 2) := by decide +kernel
theorem dLA_law_615 : decode code 615 = .ok (.if_icmp .eq 5, 3) := by decide +kernel
theorem dLA_law_618 : decode code 618 = .ok (.iconst 0, 1) := by decide +kernel
theorem dLA_law_619 : decode code 619 = .ok (.ireturn, 1) := by decide +kernel
theorem dLA_law_620 : decode code 620 = .ok (.iload 5, 2) := by decide +kernel
theorem dLA_law_622 : decode code 622 = .ok (.ifCond .ne 15, 3) := by decide +kernel
theorem dLA_law_625 : decode code 625 = .ok (.aload_n 3, 1) := by decide +kernel
theorem dLA_law_626 : decode code 626 = .ok (.iconst 0, 1) := by decide +kernel
theorem dLA_law_627 : decode code 627 = .ok (.laload, 1) := by decide +kernel
theorem dLA_law_628 : decode code 628 = .ok (.iload 6, 2) := by decide +kernel
theorem dLA_law_630 : decode code 630 = .ok (.i2l, 1) := by decide +kernel
theorem dLA_law_631 : decode code 631 = .ok (.lcmp, 1) := by decide +kernel
theorem dLA_law_632 : decode code 632 = .ok (.ifCond .eq 5, 3) := by decide +kernel
theorem dLA_law_635 : decode code 635 = .ok (.iconst 0, 1) := by decide +kernel
theorem dLA_law_636 : decode code 636 = .ok (.ireturn, 1) := by decide +kernel
theorem dLA_law_637 : decode code 637 = .ok (.goto 208, 3) := by decide +kernel
theorem dLA_law_640 : decode code 640 = .ok (.aload_n 1, 1) := by decide +kernel
theorem dLA_law_641 : decode code 641 = .ok (.aload_n 0, 1) := by decide +kernel
theorem dLA_law_642 : decode code 642 = .ok (.iload 4, 2) := by decide +kernel
theorem dLA_law_644 : decode code 644 = .ok (.iconst 1, 1) := by decide +kernel
theorem dLA_law_645 : decode code 645 = .ok (.iadd, 1) := by decide +kernel
theorem dLA_law_646 : decode code 646 = .ok (.iaload, 1) := by decide +kernel
theorem dLA_law_647 : decode code 647 = .ok (.aload_n 3, 1) := by decide +kernel
theorem dLA_law_648 : decode code 648 = .ok (.invokestatic 98, 3) := by decide +kernel
theorem dLA_law_651 : decode code 651 = .ok (.istore 5, 2) := by decide +kernel
theorem dLA_law_653 : decode code 653 = .ok (.aload_n 2, 1) := by decide +kernel
theorem dLA_law_654 : decode code 654 = .ok (.aload_n 0, 1) := by decide +kernel
theorem dLA_law_655 : decode code 655 = .ok (.iload 4, 2) := by decide +kernel
theorem dLA_law_657 : decode code 657 = .ok (.iconst 1, 1) := by decide +kernel
theorem dLA_law_658 : decode code 658 = .ok (.iadd, 1) := by decide +kernel
theorem dLA_law_659 : decode code 659 = .ok (.iaload, 1) := by decide +kernel
theorem dLA_law_660 : decode code 660 = .ok (.invokevirtual 100, 3) := by decide +kernel
theorem dLA_law_663 : decode code 663 = .ok (.istore 6, 2) := by decide +kernel
theorem dLA_law_665 : decode code 665 = .ok (.aload_n 2, 1) := by decide +kernel
theorem dLA_law_666 : decode code 666 = .ok (.invokevirtual 63, 3) := by decide +kernel
theorem dLA_law_669 : decode code 669 = .ok (.iload 5, 2) := by decide +kernel
theorem dLA_law_671 : decode code 671 = .ok (.if_icmp .eq 5, 3) := by decide +kernel
theorem dLA_law_674 : decode code 674 = .ok (.iconst 0, 1) := by decide +kernel
theorem dLA_law_675 : decode code 675 = .ok (.ireturn, 1) := by decide +kernel
theorem dLA_law_676 : decode code 676 = .ok (.iload 5, 2) := by decide +kernel
theorem dLA_law_678 : decode code 678 = .ok (.ifCond .ne 15, 3) := by decide +kernel
theorem dLA_law_681 : decode code 681 = .ok (.aload_n 3, 1) := by decide +kernel
theorem dLA_law_682 : decode code 682 = .ok (.iconst 0, 1) := by decide +kernel
theorem dLA_law_683 : decode code 683 = .ok (.laload, 1) := by decide +kernel
theorem dLA_law_684 : decode code 684 = .ok (.iload 6, 2) := by decide +kernel
theorem dLA_law_686 : decode code 686 = .ok (.i2l, 1) := by decide +kernel
theorem dLA_law_687 : decode code 687 = .ok (.lcmp, 1) := by decide +kernel
theorem dLA_law_688 : decode code 688 = .ok (.ifCond .eq 5, 3) := by decide +kernel
theorem dLA_law_691 : decode code 691 = .ok (.iconst 0, 1) := by decide +kernel
theorem dLA_law_692 : decode code 692 = .ok (.ireturn, 1) := by decide +kernel
theorem dLA_law_693 : decode code 693 = .ok (.goto 152, 3) := by decide +kernel
theorem dLA_law_696 : decode code 696 = .ok (.aload_n 1, 1) := by decide +kernel
theorem dLA_law_697 : decode code 697 = .ok (.invokevirtual 101, 3) := by decide +kernel
theorem dLA_law_700 : decode code 700 = .ok (.aload_n 2, 1) := by decide +kernel
theorem dLA_law_701 : decode code 701 = .ok (.invokevirtual 104, 3) := by decide +kernel
theorem dLA_law_704 : decode code 704 = .ok (.if_icmp .eq 141, 3) := by decide +kernel
theorem dLA_law_707 : decode code 707 = .ok (.iconst 0, 1) := by decide +kernel
theorem dLA_law_708 : decode code 708 = .ok (.ireturn, 1) := by decide +kernel
theorem dLA_law_709 : decode code 709 = .ok (.aload_n 1, 1) := by decide +kernel
theorem dLA_law_710 : decode code 710 = .ok (.aload_n 0, 1) := by decide +kernel
theorem dLA_law_711 : decode code 711 = .ok (.iload 4, 2) := by decide +kernel
theorem dLA_law_713 : decode code 713 = .ok (.iconst 1, 1) := by decide +kernel
theorem dLA_law_714 : decode code 714 = .ok (.iadd, 1) := by decide +kernel
theorem dLA_law_715 : decode code 715 = .ok (.iaload, 1) := by decide +kernel
theorem dLA_law_716 : decode code 716 = .ok (.aload_n 0, 1) := by decide +kernel
theorem dLA_law_717 : decode code 717 = .ok (.iload 4, 2) := by decide +kernel
theorem dLA_law_719 : decode code 719 = .ok (.iconst 2, 1) := by decide +kernel
theorem dLA_law_720 : decode code 720 = .ok (.iadd, 1) := by decide +kernel
theorem dLA_law_721 : decode code 721 = .ok (.iaload, 1) := by decide +kernel
theorem dLA_law_722 : decode code 722 = .ok (.invokevirtual 105, 3) := by decide +kernel
theorem dLA_law_725 : decode code 725 = .ok (.aload_n 2, 1) := by decide +kernel
theorem dLA_law_726 : decode code 726 = .ok (.aload_n 0, 1) := by decide +kernel
theorem dLA_law_727 : decode code 727 = .ok (.iload 4, 2) := by decide +kernel
theorem dLA_law_729 : decode code 729 = .ok (.iconst 1, 1) := by decide +kernel
theorem dLA_law_730 : decode code 730 = .ok (.iadd, 1) := by decide +kernel
theorem dLA_law_731 : decode code 731 = .ok (.iaload, 1) := by decide +kernel
theorem dLA_law_732 : decode code 732 = .ok (.aload_n 0, 1) := by decide +kernel
theorem dLA_law_733 : decode code 733 = .ok (.iload 4, 2) := by decide +kernel
theorem dLA_law_735 : decode code 735 = .ok (.iconst 2, 1) := by decide +kernel
theorem dLA_law_736 : decode code 736 = .ok (.iadd, 1) := by decide +kernel
theorem dLA_law_737 : decode code 737 = .ok (.iaload, 1) := by decide +kernel
theorem dLA_law_738 : decode code 738 = .ok (.invokevirtual 108, 3) := by decide +kernel
theorem dLA_law_741 : decode code 741 = .ok (.if_icmp .eq 104, 3) := by decide +kernel
theorem dLA_law_744 : decode code 744 = .ok (.iconst 0, 1) := by decide +kernel
theorem dLA_law_745 : decode code 745 = .ok (.ireturn, 1) := by decide +kernel
theorem dLA_law_746 : decode code 746 = .ok (.aload_n 1, 1) := by decide +kernel
theorem dLA_law_747 : decode code 747 = .ok (.aload_n 0, 1) := by decide +kernel
theorem dLA_law_748 : decode code 748 = .ok (.iload 4, 2) := by decide +kernel
theorem dLA_law_750 : decode code 750 = .ok (.iconst 1, 1) := by decide +kernel
theorem dLA_law_751 : decode code 751 = .ok (.iadd, 1) := by decide +kernel
theorem dLA_law_752 : decode code 752 = .ok (.iaload, 1) := by decide +kernel
theorem dLA_law_753 : decode code 753 = .ok (.aload_n 0, 1) := by decide +kernel
theorem dLA_law_754 : decode code 754 = .ok (.iload 4, 2) := by decide +kernel
theorem dLA_law_756 : decode code 756 = .ok (.iconst 2, 1) := by decide +kernel
theorem dLA_law_757 : decode code 757 = .ok (.iadd, 1) := by decide +kernel
theorem dLA_law_758 : decode code 758 = .ok (.iaload, 1) := by decide +kernel
theorem dLA_law_759 : decode code 759 = .ok (.invokevirtual 109, 3) := by decide +kernel
theorem dLA_law_762 : decode code 762 = .ok (.aload_n 2, 1) := by decide +kernel
theorem dLA_law_763 : decode code 763 = .ok (.aload_n 0, 1) := by decide +kernel
theorem dLA_law_764 : decode code 764 = .ok (.iload 4, 2) := by decide +kernel
theorem dLA_law_766 : decode code 766 = .ok (.iconst 1, 1) := by decide +kernel
theorem dLA_law_767 : decode code 767 = .ok (.iadd, 1) := by decide +kernel
theorem dLA_law_768 : decode code 768 = .ok (.iaload, 1) := by decide +kernel
theorem dLA_law_769 : decode code 769 = .ok (.aload_n 0, 1) := by decide +kernel
theorem dLA_law_770 : decode code 770 = .ok (.iload 4, 2) := by decide +kernel
theorem dLA_law_772 : decode code 772 = .ok (.iconst 2, 1) := by decide +kernel
theorem dLA_law_773 : decode code 773 = .ok (.iadd, 1) := by decide +kernel
theorem dLA_law_774 : decode code 774 = .ok (.iaload, 1) := by decide +kernel
theorem dLA_law_775 : decode code 775 = .ok (.invokevirtual 112, 3) := by decide +kernel
theorem dLA_law_778 : decode code 778 = .ok (.if_icmp .eq 67, 3) := by decide +kernel
theorem dLA_law_781 : decode code 781 = .ok (.iconst 0, 1) := by decide +kernel
theorem dLA_law_782 : decode code 782 = .ok (.ireturn, 1) := by decide +kernel
theorem dLA_law_783 : decode code 783 = .ok (.aload_n 1, 1) := by decide +kernel
theorem dLA_law_784 : decode code 784 = .ok (.aload_n 0, 1) := by decide +kernel
theorem dLA_law_785 : decode code 785 = .ok (.iload 4, 2) := by decide +kernel
theorem dLA_law_787 : decode code 787 = .ok (.iconst 1, 1) := by decide +kernel
theorem dLA_law_788 : decode code 788 = .ok (.iadd, 1) := by decide +kernel
theorem dLA_law_789 : decode code 789 = .ok (.iaload, 1) := by decide +kernel
theorem dLA_law_790 : decode code 790 = .ok (.aload_n 0, 1) := by decide +kernel
theorem dLA_law_791 : decode code 791 = .ok (.iload 4, 2) := by decide +kernel
theorem dLA_law_793 : decode code 793 = .ok (.iconst 2, 1) := by decide +kernel
theorem dLA_law_794 : decode code 794 = .ok (.iadd, 1) := by decide +kernel
theorem dLA_law_795 : decode code 795 = .ok (.iaload, 1) := by decide +kernel
theorem dLA_law_796 : decode code 796 = .ok (.invokevirtual 113, 3) := by decide +kernel
theorem dLA_law_799 : decode code 799 = .ok (.aload_n 2, 1) := by decide +kernel
theorem dLA_law_800 : decode code 800 = .ok (.aload_n 0, 1) := by decide +kernel
theorem dLA_law_801 : decode code 801 = .ok (.iload 4, 2) := by decide +kernel
theorem dLA_law_803 : decode code 803 = .ok (.iconst 1, 1) := by decide +kernel
theorem dLA_law_804 : decode code 804 = .ok (.iadd, 1) := by decide +kernel
theorem dLA_law_805 : decode code 805 = .ok (.iaload, 1) := by decide +kernel
theorem dLA_law_806 : decode code 806 = .ok (.aload_n 0, 1) := by decide +kernel
theorem dLA_law_807 : decode code 807 = .ok (.iload 4, 2) := by decide +kernel
theorem dLA_law_809 : decode code 809 = .ok (.iconst 2, 1) := by decide +kernel
theorem dLA_law_810 : decode code 810 = .ok (.iadd, 1) := by decide +kernel
theorem dLA_law_811 : decode code 811 = .ok (.iaload, 1) := by decide +kernel
theorem dLA_law_812 : decode code 812 = .ok (.invokevirtual 116, 3) := by decide +kernel
theorem dLA_law_815 : decode code 815 = .ok (.if_icmp .eq 30, 3) := by decide +kernel
theorem dLA_law_818 : decode code 818 = .ok (.iconst 0, 1) := by decide +kernel
theorem dLA_law_819 : decode code 819 = .ok (.ireturn, 1) := by decide +kernel
theorem dLA_law_820 : decode code 820 = .ok (.aload_n 1, 1) := by decide +kernel
theorem dLA_law_821 : decode code 821 = .ok (.aload_n 0, 1) := by decide +kernel
theorem dLA_law_822 : decode code 822 = .ok (.iload 4, 2) := by decide +kernel
theorem dLA_law_824 : decode code 824 = .ok (.iconst 1, 1) := by decide +kernel
theorem dLA_law_825 : decode code 825 = .ok (.iadd, 1) := by decide +kernel
theorem dLA_law_826 : decode code 826 = .ok (.iaload, 1) := by decide +kernel
theorem dLA_law_827 : decode code 827 = .ok (.invokevirtual 117, 3) := by decide +kernel
theorem dLA_law_830 : decode code 830 = .ok (.aload_n 2, 1) := by decide +kernel
theorem dLA_law_831 : decode code 831 = .ok (.aload_n 0, 1) := by decide +kernel
theorem dLA_law_832 : decode code 832 = .ok (.iload 4, 2) := by decide +kernel
theorem dLA_law_834 : decode code 834 = .ok (.iconst 1, 1) := by decide +kernel
theorem dLA_law_835 : decode code 835 = .ok (.iadd, 1) := by decide +kernel
theorem dLA_law_836 : decode code 836 = .ok (.iaload, 1) := by decide +kernel
theorem dLA_law_837 : decode code 837 = .ok (.invokevirtual 120, 3) := by decide +kernel
theorem dLA_law_840 : decode code 840 = .ok (.if_icmp .eq 5, 3) := by decide +kernel
theorem dLA_law_843 : decode code 843 = .ok (.iconst 0, 1) := by decide +kernel
theorem dLA_law_844 : decode code 844 = .ok (.ireturn, 1) := by decide +kernel
theorem dLA_law_845 : decode code 845 = .ok (.iinc 4 3, 3) := by decide +kernel
theorem dLA_law_848 : decode code 848 = .ok (.goto (-825), 3) := by decide +kernel
theorem dLA_law_851 : decode code 851 = .ok (.iconst 1, 1) := by decide +kernel
theorem dLA_law_852 : decode code 852 = .ok (.ireturn, 1) := by decide +kernel
theorem zm_LA_70 : Cond.methodLink "FrameProcessorLaw" 70 yMO_protect ∈ zt_T := zt_of5 69 (by decide +kernel) rfl
theorem zm_LA_63 : Cond.methodLink "FrameProcessorLaw" 63 yMO_thrown ∈ zt_T := zt_of4 155 (by decide +kernel) rfl
theorem zm_LA_67 : Cond.methodLink "FrameProcessorLaw" 67 yLA_protect ∈ zt_T := zt_of2 157 (by decide +kernel) rfl
theorem zm_LA_57 : Cond.methodLink "FrameProcessorLaw" 57 yLA_map ∈ zt_T := zt_of2 79 (by decide +kernel) rfl
theorem zm_LA_62 : Cond.methodLink "FrameProcessorLaw" 62 yMO_map ∈ zt_T := zt_of5 62 (by decide +kernel) rfl
theorem zm_LA_71 : Cond.methodLink "FrameProcessorLaw" 71 yLA_noted ∈ zt_T := zt_of2 168 (by decide +kernel) rfl
theorem zm_LA_74 : Cond.methodLink "FrameProcessorLaw" 74 yMO_noted ∈ zt_T := zt_of5 73 (by decide +kernel) rfl
theorem zm_LA_75 : Cond.methodLink "FrameProcessorLaw" 75 yLA_poke ∈ zt_T := zt_of2 179 (by decide +kernel) rfl
theorem zm_LA_77 : Cond.methodLink "FrameProcessorLaw" 77 yMO_poke ∈ zt_T := zt_of5 77 (by decide +kernel) rfl
theorem zm_LA_78 : Cond.methodLink "FrameProcessorLaw" 78 yLA_peek ∈ zt_T := zt_of2 214 (by decide +kernel) rfl
theorem zm_LA_80 : Cond.methodLink "FrameProcessorLaw" 80 yMO_peek ∈ zt_T := zt_of5 81 (by decide +kernel) rfl
theorem zm_LA_81 : Cond.methodLink "FrameProcessorLaw" 81 yLA_start ∈ zt_T := zt_of2 221 (by decide +kernel) rfl
theorem zm_LA_84 : Cond.methodLink "FrameProcessorLaw" 84 yMO_start ∈ zt_T := zt_of5 85 (by decide +kernel) rfl
theorem zm_LA_85 : Cond.methodLink "FrameProcessorLaw" 85 yLA_run ∈ zt_T := zt_of3 65 (by decide +kernel) rfl
theorem zm_LA_87 : Cond.methodLink "FrameProcessorLaw" 87 yMO_run ∈ zt_T := zt_of4 159 (by decide +kernel) rfl
theorem zm_LA_88 : Cond.methodLink "FrameProcessorLaw" 88 yLA_resume ∈ zt_T := zt_of4 1 (by decide +kernel) rfl
theorem zm_LA_91 : Cond.methodLink "FrameProcessorLaw" 91 yMO_resume ∈ zt_T := zt_of5 89 (by decide +kernel) rfl
theorem zm_LA_92 : Cond.methodLink "FrameProcessorLaw" 92 yLA_kill ∈ zt_T := zt_of4 9 (by decide +kernel) rfl
theorem zm_LA_94 : Cond.methodLink "FrameProcessorLaw" 94 yMO_kill ∈ zt_T := zt_of5 93 (by decide +kernel) rfl
theorem zm_LA_95 : Cond.methodLink "FrameProcessorLaw" 95 yLA_interrupt ∈ zt_T := zt_of4 17 (by decide +kernel) rfl
theorem zm_LA_97 : Cond.methodLink "FrameProcessorLaw" 97 yMO_interrupt ∈ zt_T := zt_of5 97 (by decide +kernel) rfl
theorem zm_LA_98 : Cond.methodLink "FrameProcessorLaw" 98 yLA_tick ∈ zt_T := zt_of4 31 (by decide +kernel) rfl
theorem zm_LA_100 : Cond.methodLink "FrameProcessorLaw" 100 yMO_tick ∈ zt_T := zt_of5 101 (by decide +kernel) rfl
theorem zm_LA_101 : Cond.methodLink "FrameProcessorLaw" 101 yFP_running ∈ zt_T := zt_of2 20 (by decide +kernel) rfl
theorem zm_LA_104 : Cond.methodLink "FrameProcessorLaw" 104 yMO_running ∈ zt_T := zt_of5 106 (by decide +kernel) rfl
theorem zm_LA_105 : Cond.methodLink "FrameProcessorLaw" 105 yFP_process ∈ zt_T := zt_of2 36 (by decide +kernel) rfl
theorem zm_LA_108 : Cond.methodLink "FrameProcessorLaw" 108 yMO_process ∈ zt_T := zt_of5 110 (by decide +kernel) rfl
theorem zm_LA_109 : Cond.methodLink "FrameProcessorLaw" 109 yFP_stack ∈ zt_T := zt_of2 48 (by decide +kernel) rfl
theorem zm_LA_112 : Cond.methodLink "FrameProcessorLaw" 112 yMO_stack ∈ zt_T := zt_of5 114 (by decide +kernel) rfl
theorem zm_LA_113 : Cond.methodLink "FrameProcessorLaw" 113 yFP_page ∈ zt_T := zt_of2 56 (by decide +kernel) rfl
theorem zm_LA_116 : Cond.methodLink "FrameProcessorLaw" 116 yMO_page ∈ zt_T := zt_of5 118 (by decide +kernel) rfl
theorem zm_LA_117 : Cond.methodLink "FrameProcessorLaw" 117 yFP_free ∈ zt_T := zt_of2 71 (by decide +kernel) rfl
theorem zm_LA_120 : Cond.methodLink "FrameProcessorLaw" 120 yMO_free ∈ zt_T := zt_of5 122 (by decide +kernel) rfl
