theorem dL_refusals_230 : decode cL_refusals 230 = .ok (.istore 11, 2) := by decide +kernel
theorem dL_refusals_232 : decode cL_refusals 232 = .ok (.iload 15, 2) := by decide +kernel
theorem dL_refusals_234 : decode cL_refusals 234 = .ok (.istore 12, 2) := by decide +kernel
theorem dL_refusals_236 : decode cL_refusals 236 = .ok (.iinc 13 (-1), 3) := by decide +kernel
theorem dL_refusals_239 : decode cL_refusals 239 = .ok (.goto (-129), 3) := by decide +kernel
theorem dL_refusals_242 : decode cL_refusals 242 = .ok (.iload 4, 2) := by decide +kernel
theorem dL_refusals_244 : decode cL_refusals 244 = .ok (.aload_n 0, 1) := by decide +kernel
theorem dL_refusals_245 : decode cL_refusals 245 = .ok (.iload_n 1, 1) := by decide +kernel
theorem dL_refusals_246 : decode cL_refusals 246 = .ok (.invokevirtual 134, 3) := by decide +kernel
theorem dL_refusals_249 : decode cL_refusals 249 = .ok (.isub, 1) := by decide +kernel
theorem dL_refusals_250 : decode cL_refusals 250 = .ok (.istore 13, 2) := by decide +kernel
theorem dL_refusals_252 : decode cL_refusals 252 = .ok (.iload_n 3, 1) := by decide +kernel
theorem dL_refusals_253 : decode cL_refusals 253 = .ok (.ifCond .lt 7, 3) := by decide +kernel
theorem dL_refusals_256 : decode cL_refusals 256 = .ok (.iconst 1, 1) := by decide +kernel
theorem dL_refusals_257 : decode cL_refusals 257 = .ok (.goto 44, 3) := by decide +kernel
theorem dL_refusals_260 : decode cL_refusals 260 = .ok (.iload 9, 2) := by decide +kernel
theorem dL_refusals_262 : decode cL_refusals 262 = .ok (.ifCond .lt 7, 3) := by decide +kernel
theorem dL_refusals_265 : decode cL_refusals 265 = .ok (.iconst 2, 1) := by decide +kernel
theorem dL_refusals_266 : decode cL_refusals 266 = .ok (.goto 35, 3) := by decide +kernel
theorem dL_refusals_269 : decode cL_refusals 269 = .ok (.iload 10, 2) := by decide +kernel
theorem dL_refusals_271 : decode cL_refusals 271 = .ok (.ifCond .lt 7, 3) := by decide +kernel
theorem dL_refusals_274 : decode cL_refusals 274 = .ok (.iconst 3, 1) := by decide +kernel
theorem dL_refusals_275 : decode cL_refusals 275 = .ok (.goto 26, 3) := by decide +kernel
theorem dL_refusals_278 : decode cL_refusals 278 = .ok (.iload 13, 2) := by decide +kernel
theorem dL_refusals_280 : decode cL_refusals 280 = .ok (.ifCond .le 7, 3) := by decide +kernel
theorem dL_refusals_283 : decode cL_refusals 283 = .ok (.iconst 4, 1) := by decide +kernel
theorem dL_refusals_284 : decode cL_refusals 284 = .ok (.goto 17, 3) := by decide +kernel
theorem dL_refusals_287 : decode cL_refusals 287 = .ok (.aload_n 0, 1) := by decide +kernel
theorem dL_refusals_288 : decode cL_refusals 288 = .ok (.invokevirtual 110, 3) := by decide +kernel
theorem dL_refusals_291 : decode cL_refusals 291 = .ok (.bipush 30, 2) := by decide +kernel
theorem dL_refusals_293 : decode cL_refusals 293 = .ok (.if_icmp .ne 7, 3) := by decide +kernel
theorem dL_refusals_296 : decode cL_refusals 296 = .ok (.iconst 5, 1) := by decide +kernel
theorem dL_refusals_297 : decode cL_refusals 297 = .ok (.goto 4, 3) := by decide +kernel
theorem dL_refusals_300 : decode cL_refusals 300 = .ok (.iconst 0, 1) := by decide +kernel
theorem dL_refusals_301 : decode cL_refusals 301 = .ok (.istore 14, 2) := by decide +kernel
theorem dL_refusals_303 : decode cL_refusals 303 = .ok (.iload 14, 2) := by decide +kernel
theorem dL_refusals_305 : decode cL_refusals 305 = .ok (.iconst 1, 1) := by decide +kernel
theorem dL_refusals_306 : decode cL_refusals 306 = .ok (.if_icmp .ne 7, 3) := by decide +kernel
theorem dL_refusals_309 : decode cL_refusals 309 = .ok (.iload_n 3, 1) := by decide +kernel
theorem dL_refusals_310 : decode cL_refusals 310 = .ok (.goto 37, 3) := by decide +kernel
theorem dL_refusals_313 : decode cL_refusals 313 = .ok (.iload 14, 2) := by decide +kernel
theorem dL_refusals_315 : decode cL_refusals 315 = .ok (.iconst 2, 1) := by decide +kernel
theorem dL_refusals_316 : decode cL_refusals 316 = .ok (.if_icmp .ne 8, 3) := by decide +kernel
theorem dL_refusals_319 : decode cL_refusals 319 = .ok (.iload 9, 2) := by decide +kernel
theorem dL_refusals_321 : decode cL_refusals 321 = .ok (.goto 26, 3) := by decide +kernel
theorem dL_refusals_324 : decode cL_refusals 324 = .ok (.iload 14, 2) := by decide +kernel
theorem dL_refusals_326 : decode cL_refusals 326 = .ok (.iconst 3, 1) := by decide +kernel
theorem dL_refusals_327 : decode cL_refusals 327 = .ok (.if_icmp .ne 8, 3) := by decide +kernel
theorem dL_refusals_330 : decode cL_refusals 330 = .ok (.iload 10, 2) := by decide +kernel
theorem dL_refusals_332 : decode cL_refusals 332 = .ok (.goto 15, 3) := by decide +kernel
theorem dL_refusals_335 : decode cL_refusals 335 = .ok (.iload 14, 2) := by decide +kernel
theorem dL_refusals_337 : decode cL_refusals 337 = .ok (.iconst 4, 1) := by decide +kernel
theorem dL_refusals_338 : decode cL_refusals 338 = .ok (.if_icmp .ne 8, 3) := by decide +kernel
theorem dL_refusals_341 : decode cL_refusals 341 = .ok (.iload 13, 2) := by decide +kernel
theorem dL_refusals_343 : decode cL_refusals 343 = .ok (.goto 4, 3) := by decide +kernel
theorem dL_refusals_346 : decode cL_refusals 346 = .ok (.iconst (-1), 1) := by decide +kernel
theorem dL_refusals_347 : decode cL_refusals 347 = .ok (.istore 15, 2) := by decide +kernel
theorem dL_refusals_349 : decode cL_refusals 349 = .ok (.aload_n 0, 1) := by decide +kernel
theorem dL_refusals_350 : decode cL_refusals 350 = .ok (.iload_n 1, 1) := by decide +kernel
theorem dL_refusals_351 : decode cL_refusals 351 = .ok (.iload 8, 2) := by decide +kernel
theorem dL_refusals_353 : decode cL_refusals 353 = .ok (.iload_n 2, 1) := by decide +kernel
theorem dL_refusals_354 : decode cL_refusals 354 = .ok (.invokestatic 182, 3) := by decide +kernel
theorem dL_refusals_357 : decode cL_refusals 357 = .ok (.iload 14, 2) := by decide +kernel
theorem dL_refusals_359 : decode cL_refusals 359 = .ok (.if_icmp .ne 42, 3) := by decide +kernel
theorem dL_refusals_362 : decode cL_refusals 362 = .ok (.aload_n 0, 1) := by decide +kernel
theorem dL_refusals_363 : decode cL_refusals 363 = .ok (.iload_n 1, 1) := by decide +kernel
theorem dL_refusals_364 : decode cL_refusals 364 = .ok (.iload 8, 2) := by decide +kernel
theorem dL_refusals_366 : decode cL_refusals 366 = .ok (.iload_n 2, 1) := by decide +kernel
theorem dL_refusals_367 : decode cL_refusals 367 = .ok (.invokevirtual 186, 3) := by decide +kernel
theorem dL_refusals_370 : decode cL_refusals 370 = .ok (.iload 15, 2) := by decide +kernel
theorem dL_refusals_372 : decode cL_refusals 372 = .ok (.if_icmp .ne 29, 3) := by decide +kernel
theorem dL_refusals_375 : decode cL_refusals 375 = .ok (.aload_n 0, 1) := by decide +kernel
theorem dL_refusals_376 : decode cL_refusals 376 = .ok (.iload_n 1, 1) := by decide +kernel
theorem dL_refusals_377 : decode cL_refusals 377 = .ok (.iload 8, 2) := by decide +kernel
theorem dL_refusals_379 : decode cL_refusals 379 = .ok (.iload_n 2, 1) := by decide +kernel
theorem dL_refusals_380 : decode cL_refusals 380 = .ok (.invokevirtual 189, 3) := by decide +kernel
theorem dL_refusals_383 : decode cL_refusals 383 = .ok (.iload 14, 2) := by decide +kernel
theorem dL_refusals_385 : decode cL_refusals 385 = .ok (.ifCond .ne 8, 3) := by decide +kernel
theorem dL_refusals_388 : decode cL_refusals 388 = .ok (.iload 11, 2) := by decide +kernel
theorem dL_refusals_390 : decode cL_refusals 390 = .ok (.goto 4, 3) := by decide +kernel
theorem dL_refusals_393 : decode cL_refusals 393 = .ok (.iconst (-1), 1) := by decide +kernel
theorem dL_refusals_394 : decode cL_refusals 394 = .ok (.if_icmp .ne 7, 3) := by decide +kernel
theorem dL_refusals_397 : decode cL_refusals 397 = .ok (.iconst 1, 1) := by decide +kernel
theorem dL_refusals_398 : decode cL_refusals 398 = .ok (.goto 4, 3) := by decide +kernel
theorem dL_refusals_401 : decode cL_refusals 401 = .ok (.iconst 0, 1) := by decide +kernel
theorem dL_refusals_402 : decode cL_refusals 402 = .ok (.istore 7, 2) := by decide +kernel
theorem dL_refusals_404 : decode cL_refusals 404 = .ok (.iload 14, 2) := by decide +kernel
theorem dL_refusals_406 : decode cL_refusals 406 = .ok (.ifCond .ne 8, 3) := by decide +kernel
theorem dL_refusals_409 : decode cL_refusals 409 = .ok (.iload 8, 2) := by decide +kernel
theorem dL_refusals_411 : decode cL_refusals 411 = .ok (.goto 5, 3) := by decide +kernel
theorem dL_refusals_414 : decode cL_refusals 414 = .ok (.iload 5, 2) := by decide +kernel
theorem dL_refusals_416 : decode cL_refusals 416 = .ok (.istore 5, 2) := by decide +kernel
theorem dL_refusals_418 : decode cL_refusals 418 = .ok (.iload 14, 2) := by decide +kernel
theorem dL_refusals_420 : decode cL_refusals 420 = .ok (.ifCond .ne 13, 3) := by decide +kernel
theorem dL_refusals_423 : decode cL_refusals 423 = .ok (.iload 11, 2) := by decide +kernel
theorem dL_refusals_425 : decode cL_refusals 425 = .ok (.ifCond .ne 8, 3) := by decide +kernel
theorem dL_refusals_428 : decode cL_refusals 428 = .ok (.iload 8, 2) := by decide +kernel
theorem dL_refusals_430 : decode cL_refusals 430 = .ok (.goto 5, 3) := by decide +kernel
theorem dL_refusals_433 : decode cL_refusals 433 = .ok (.iload 6, 2) := by decide +kernel
theorem dL_refusals_435 : decode cL_refusals 435 = .ok (.istore 6, 2) := by decide +kernel
theorem dL_refusals_437 : decode cL_refusals 437 = .ok (.iinc 8 (-1), 3) := by decide +kernel
theorem dL_refusals_440 : decode cL_refusals 440 = .ok (.goto (-364), 3) := by decide +kernel
theorem dL_refusals_443 : decode cL_refusals 443 = .ok (.iload 7, 2) := by decide +kernel
theorem dL_refusals_445 : decode cL_refusals 445 = .ok (.ifCond .eq 29, 3) := by decide +kernel
theorem dL_refusals_448 : decode cL_refusals 448 = .ok (.aload_n 0, 1) := by decide +kernel
theorem dL_refusals_449 : decode cL_refusals 449 = .ok (.iload_n 1, 1) := by decide +kernel
theorem dL_refusals_450 : decode cL_refusals 450 = .ok (.iload_n 2, 1) := by decide +kernel
theorem dL_refusals_451 : decode cL_refusals 451 = .ok (.invokevirtual 192, 3) := by decide +kernel
theorem dL_refusals_454 : decode cL_refusals 454 = .ok (.iload 5, 2) := by decide +kernel
theorem dL_refusals_456 : decode cL_refusals 456 = .ok (.if_icmp .ne 18, 3) := by decide +kernel
theorem dL_refusals_459 : decode cL_refusals 459 = .ok (.aload_n 0, 1) := by decide +kernel
theorem dL_refusals_460 : decode cL_refusals 460 = .ok (.iload_n 1, 1) := by decide +kernel
theorem dL_refusals_461 : decode cL_refusals 461 = .ok (.iload_n 2, 1) := by decide +kernel
theorem dL_refusals_462 : decode cL_refusals 462 = .ok (.invokevirtual 195, 3) := by decide +kernel
theorem dL_refusals_465 : decode cL_refusals 465 = .ok (.iload 6, 2) := by decide +kernel
theorem dL_refusals_467 : decode cL_refusals 467 = .ok (.if_icmp .ne 7, 3) := by decide +kernel
theorem dL_refusals_470 : decode cL_refusals 470 = .ok (.iconst 1, 1) := by decide +kernel
theorem dL_refusals_471 : decode cL_refusals 471 = .ok (.goto 4, 3) := by decide +kernel
theorem dL_refusals_474 : decode cL_refusals 474 = .ok (.iconst 0, 1) := by decide +kernel
theorem dL_refusals_475 : decode cL_refusals 475 = .ok (.ireturn, 1) := by decide +kernel
theorem dL_act_0 : decode cL_act 0 = .ok (.aload_n 0, 1) := by decide +kernel
theorem dL_act_1 : decode cL_act 1 = .ok (.invokevirtual 110, 3) := by decide +kernel
theorem dL_act_4 : decode cL_act 4 = .ok (.istore_n 2, 1) := by decide +kernel
theorem dL_act_5 : decode cL_act 5 = .ok (.aload_n 1, 1) := by decide +kernel
theorem dL_act_6 : decode cL_act 6 = .ok (.invokestatic 79, 3) := by decide +kernel
theorem dL_act_9 : decode cL_act 9 = .ok (.aload_n 0, 1) := by decide +kernel
theorem dL_act_10 : decode cL_act 10 = .ok (.invokevirtual 125, 3) := by decide +kernel
theorem dL_act_13 : decode cL_act 13 = .ok (.irem, 1) := by decide +kernel
theorem dL_act_14 : decode cL_act 14 = .ok (.istore_n 3, 1) := by decide +kernel
theorem dL_act_15 : decode cL_act 15 = .ok (.aload_n 1, 1) := by decide +kernel
theorem dL_act_16 : decode cL_act 16 = .ok (.invokestatic 79, 3) := by decide +kernel
theorem dL_act_19 : decode cL_act 19 = .ok (.aload_n 0, 1) := by decide +kernel
theorem dL_act_20 : decode cL_act 20 = .ok (.invokevirtual 113, 3) := by decide +kernel
theorem dL_act_23 : decode cL_act 23 = .ok (.irem, 1) := by decide +kernel
theorem dL_act_24 : decode cL_act 24 = .ok (.istore 4, 2) := by decide +kernel
theorem dL_act_26 : decode cL_act 26 = .ok (.iload_n 2, 1) := by decide +kernel
theorem dL_act_27 : decode cL_act 27 = .ok (.ifCond .ne 7, 3) := by decide +kernel
theorem dL_act_30 : decode cL_act 30 = .ok (.iconst 0, 1) := by decide +kernel
theorem dL_act_31 : decode cL_act 31 = .ok (.goto 9, 3) := by decide +kernel
theorem dL_act_34 : decode cL_act 34 = .ok (.aload_n 1, 1) := by decide +kernel
theorem dL_act_35 : decode cL_act 35 = .ok (.invokestatic 79, 3) := by decide +kernel
theorem dL_act_38 : decode cL_act 38 = .ok (.iload_n 2, 1) := by decide +kernel
theorem dL_act_39 : decode cL_act 39 = .ok (.irem, 1) := by decide +kernel
theorem dL_act_40 : decode cL_act 40 = .ok (.istore 5, 2) := by decide +kernel
theorem dL_act_42 : decode cL_act 42 = .ok (.iload_n 2, 1) := by decide +kernel
theorem dL_act_43 : decode cL_act 43 = .ok (.ifCond .ne 7, 3) := by decide +kernel
theorem dL_act_46 : decode cL_act 46 = .ok (.iconst (-1), 1) := by decide +kernel
theorem dL_act_47 : decode cL_act 47 = .ok (.goto 9, 3) := by decide +kernel
theorem dL_act_50 : decode cL_act 50 = .ok (.aload_n 0, 1) := by decide +kernel
theorem dL_act_51 : decode cL_act 51 = .ok (.iload 5, 2) := by decide +kernel
theorem dL_act_53 : decode cL_act 53 = .ok (.invokevirtual 152, 3) := by decide +kernel
theorem dL_act_56 : decode cL_act 56 = .ok (.istore 6, 2) := by decide +kernel
theorem dL_act_58 : decode cL_act 58 = .ok (.aload_n 0, 1) := by decide +kernel
theorem dL_act_59 : decode cL_act 59 = .ok (.invokevirtual 104, 3) := by decide +kernel
theorem dL_act_62 : decode cL_act 62 = .ok (.aload_n 1, 1) := by decide +kernel
theorem dL_act_63 : decode cL_act 63 = .ok (.invokestatic 79, 3) := by decide +kernel
theorem dL_act_66 : decode cL_act 66 = .ok (.bipush 20, 2) := by decide +kernel
theorem dL_act_68 : decode cL_act 68 = .ok (.irem, 1) := by decide +kernel
theorem dL_act_69 : decode cL_act 69 = .ok (.iadd, 1) := by decide +kernel
theorem dL_act_70 : decode cL_act 70 = .ok (.istore 7, 2) := by decide +kernel
theorem dL_act_72 : decode cL_act 72 = .ok (.aload_n 1, 1) := by decide +kernel
theorem dL_act_73 : decode cL_act 73 = .ok (.invokestatic 79, 3) := by decide +kernel
theorem dL_act_76 : decode cL_act 76 = .ok (.bipush 9, 2) := by decide +kernel
theorem dL_act_78 : decode cL_act 78 = .ok (.irem, 1) := by decide +kernel
theorem dL_act_79 : decode cL_act 79 = .ok (.tableswitch 577 0 6 #[41, 41, 41, 175, 266, 365, 524], 41) := by decide +kernel
theorem dL_act_120 : decode cL_act 120 = .ok (.iconst 1, 1) := by decide +kernel
theorem dL_act_121 : decode cL_act 121 = .ok (.aload_n 1, 1) := by decide +kernel
theorem dL_act_122 : decode cL_act 122 = .ok (.invokestatic 79, 3) := by decide +kernel
theorem dL_act_125 : decode cL_act 125 = .ok (.bipush 6, 2) := by decide +kernel
theorem dL_act_127 : decode cL_act 127 = .ok (.irem, 1) := by decide +kernel
theorem dL_act_128 : decode cL_act 128 = .ok (.iadd, 1) := by decide +kernel
theorem dL_act_129 : decode cL_act 129 = .ok (.istore 8, 2) := by decide +kernel
theorem dL_act_131 : decode cL_act 131 = .ok (.aload_n 0, 1) := by decide +kernel
theorem dL_act_132 : decode cL_act 132 = .ok (.iload_n 3, 1) := by decide +kernel
theorem dL_act_133 : decode cL_act 133 = .ok (.iload 7, 2) := by decide +kernel
theorem dL_act_135 : decode cL_act 135 = .ok (.iload 8, 2) := by decide +kernel
theorem dL_act_137 : decode cL_act 137 = .ok (.invokestatic 182, 3) := by decide +kernel
theorem dL_act_140 : decode cL_act 140 = .ok (.istore 9, 2) := by decide +kernel
theorem dL_act_142 : decode cL_act 142 = .ok (.aload_n 0, 1) := by decide +kernel
theorem dL_act_143 : decode cL_act 143 = .ok (.iload_n 3, 1) := by decide +kernel
theorem dL_act_144 : decode cL_act 144 = .ok (.iload 8, 2) := by decide +kernel
theorem dL_act_146 : decode cL_act 146 = .ok (.invokevirtual 179, 3) := by decide +kernel
theorem dL_act_149 : decode cL_act 149 = .ok (.istore 10, 2) := by decide +kernel
theorem dL_act_151 : decode cL_act 151 = .ok (.aload_n 0, 1) := by decide +kernel
theorem dL_act_152 : decode cL_act 152 = .ok (.iload_n 3, 1) := by decide +kernel
theorem dL_act_153 : decode cL_act 153 = .ok (.invokevirtual 134, 3) := by decide +kernel
theorem dL_act_156 : decode cL_act 156 = .ok (.istore 11, 2) := by decide +kernel
theorem dL_act_158 : decode cL_act 158 = .ok (.aload_n 0, 1) := by decide +kernel
theorem dL_act_159 : decode cL_act 159 = .ok (.iload_n 3, 1) := by decide +kernel
theorem dL_act_160 : decode cL_act 160 = .ok (.iload 7, 2) := by decide +kernel
theorem dL_act_162 : decode cL_act 162 = .ok (.iload 8, 2) := by decide +kernel
theorem dL_act_164 : decode cL_act 164 = .ok (.invokestatic 198, 3) := by decide +kernel
theorem dL_act_167 : decode cL_act 167 = .ok (.istore 12, 2) := by decide +kernel
theorem dL_act_169 : decode cL_act 169 = .ok (.iload 9, 2) := by decide +kernel
theorem dL_act_171 : decode cL_act 171 = .ok (.ifCond .eq 31, 3) := by decide +kernel
theorem dL_act_174 : decode cL_act 174 = .ok (.iload 12, 2) := by decide +kernel
theorem dL_act_176 : decode cL_act 176 = .ok (.bipush (-3), 2) := by decide +kernel
theorem dL_act_178 : decode cL_act 178 = .ok (.if_icmp .ne 20, 3) := by decide +kernel
theorem dL_act_181 : decode cL_act 181 = .ok (.aload_n 0, 1) := by decide +kernel
theorem dL_act_182 : decode cL_act 182 = .ok (.iload_n 3, 1) := by decide +kernel
