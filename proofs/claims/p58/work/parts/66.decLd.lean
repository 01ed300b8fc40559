theorem dL_horizon_243 : decode cL_horizon 243 = .ok (.iload 5, 2) := by decide +kernel
theorem dL_horizon_245 : decode cL_horizon 245 = .ok (.if_icmp .ne 7, 3) := by decide +kernel
theorem dL_horizon_248 : decode cL_horizon 248 = .ok (.iconst 1, 1) := by decide +kernel
theorem dL_horizon_249 : decode cL_horizon 249 = .ok (.goto 4, 3) := by decide +kernel
theorem dL_horizon_252 : decode cL_horizon 252 = .ok (.iconst 0, 1) := by decide +kernel
theorem dL_horizon_253 : decode cL_horizon 253 = .ok (.istore 7, 2) := by decide +kernel
theorem dL_horizon_255 : decode cL_horizon 255 = .ok (.aload_n 0, 1) := by decide +kernel
theorem dL_horizon_256 : decode cL_horizon 256 = .ok (.iload 5, 2) := by decide +kernel
theorem dL_horizon_258 : decode cL_horizon 258 = .ok (.iload_n 3, 1) := by decide +kernel
theorem dL_horizon_259 : decode cL_horizon 259 = .ok (.invokevirtual 155, 3) := by decide +kernel
theorem dL_horizon_262 : decode cL_horizon 262 = .ok (.ifCond .lt 7, 3) := by decide +kernel
theorem dL_horizon_265 : decode cL_horizon 265 = .ok (.iconst 1, 1) := by decide +kernel
theorem dL_horizon_266 : decode cL_horizon 266 = .ok (.goto 4, 3) := by decide +kernel
theorem dL_horizon_269 : decode cL_horizon 269 = .ok (.iconst 0, 1) := by decide +kernel
theorem dL_horizon_270 : decode cL_horizon 270 = .ok (.istore 8, 2) := by decide +kernel
theorem dL_horizon_272 : decode cL_horizon 272 = .ok (.iload 7, 2) := by decide +kernel
theorem dL_horizon_274 : decode cL_horizon 274 = .ok (.ifCond .eq 21, 3) := by decide +kernel
theorem dL_horizon_277 : decode cL_horizon 277 = .ok (.iload 6, 2) := by decide +kernel
theorem dL_horizon_279 : decode cL_horizon 279 = .ok (.ifCond .ne 12, 3) := by decide +kernel
theorem dL_horizon_282 : decode cL_horizon 282 = .ok (.iload 8, 2) := by decide +kernel
theorem dL_horizon_284 : decode cL_horizon 284 = .ok (.ifCond .ne 7, 3) := by decide +kernel
theorem dL_horizon_287 : decode cL_horizon 287 = .ok (.iconst 1, 1) := by decide +kernel
theorem dL_horizon_288 : decode cL_horizon 288 = .ok (.goto 39, 3) := by decide +kernel
theorem dL_horizon_291 : decode cL_horizon 291 = .ok (.iconst 0, 1) := by decide +kernel
theorem dL_horizon_292 : decode cL_horizon 292 = .ok (.goto 35, 3) := by decide +kernel
theorem dL_horizon_295 : decode cL_horizon 295 = .ok (.iload 8, 2) := by decide +kernel
theorem dL_horizon_297 : decode cL_horizon 297 = .ok (.ifCond .eq 18, 3) := by decide +kernel
theorem dL_horizon_300 : decode cL_horizon 300 = .ok (.iload 6, 2) := by decide +kernel
theorem dL_horizon_302 : decode cL_horizon 302 = .ok (.bipush 40, 2) := by decide +kernel
theorem dL_horizon_304 : decode cL_horizon 304 = .ok (.if_icmp .lt 7, 3) := by decide +kernel
theorem dL_horizon_307 : decode cL_horizon 307 = .ok (.iconst 1, 1) := by decide +kernel
theorem dL_horizon_308 : decode cL_horizon 308 = .ok (.goto 19, 3) := by decide +kernel
theorem dL_horizon_311 : decode cL_horizon 311 = .ok (.iconst 0, 1) := by decide +kernel
theorem dL_horizon_312 : decode cL_horizon 312 = .ok (.goto 15, 3) := by decide +kernel
theorem dL_horizon_315 : decode cL_horizon 315 = .ok (.iload 6, 2) := by decide +kernel
theorem dL_horizon_317 : decode cL_horizon 317 = .ok (.bipush 99, 2) := by decide +kernel
theorem dL_horizon_319 : decode cL_horizon 319 = .ok (.if_icmp .gt 7, 3) := by decide +kernel
theorem dL_horizon_322 : decode cL_horizon 322 = .ok (.iconst 1, 1) := by decide +kernel
theorem dL_horizon_323 : decode cL_horizon 323 = .ok (.goto 4, 3) := by decide +kernel
theorem dL_horizon_326 : decode cL_horizon 326 = .ok (.iconst 0, 1) := by decide +kernel
theorem dL_horizon_327 : decode cL_horizon 327 = .ok (.istore_n 2, 1) := by decide +kernel
theorem dL_horizon_328 : decode cL_horizon 328 = .ok (.iload_n 2, 1) := by decide +kernel
theorem dL_horizon_329 : decode cL_horizon 329 = .ok (.ifCond .eq 26, 3) := by decide +kernel
theorem dL_horizon_332 : decode cL_horizon 332 = .ok (.iload_n 3, 1) := by decide +kernel
theorem dL_horizon_333 : decode cL_horizon 333 = .ok (.aload_n 0, 1) := by decide +kernel
theorem dL_horizon_334 : decode cL_horizon 334 = .ok (.invokevirtual 104, 3) := by decide +kernel
theorem dL_horizon_337 : decode cL_horizon 337 = .ok (.if_icmp .ne 14, 3) := by decide +kernel
theorem dL_horizon_340 : decode cL_horizon 340 = .ok (.iload 6, 2) := by decide +kernel
theorem dL_horizon_342 : decode cL_horizon 342 = .ok (.aload_n 0, 1) := by decide +kernel
theorem dL_horizon_343 : decode cL_horizon 343 = .ok (.iload 5, 2) := by decide +kernel
theorem dL_horizon_345 : decode cL_horizon 345 = .ok (.invokevirtual 122, 3) := by decide +kernel
theorem dL_horizon_348 : decode cL_horizon 348 = .ok (.if_icmp .ne 7, 3) := by decide +kernel
theorem dL_horizon_351 : decode cL_horizon 351 = .ok (.iconst 1, 1) := by decide +kernel
theorem dL_horizon_352 : decode cL_horizon 352 = .ok (.goto 4, 3) := by decide +kernel
theorem dL_horizon_355 : decode cL_horizon 355 = .ok (.iconst 0, 1) := by decide +kernel
theorem dL_horizon_356 : decode cL_horizon 356 = .ok (.istore_n 2, 1) := by decide +kernel
theorem dL_horizon_357 : decode cL_horizon 357 = .ok (.iinc 5 1, 3) := by decide +kernel
theorem dL_horizon_360 : decode cL_horizon 360 = .ok (.goto (-154), 3) := by decide +kernel
theorem dL_horizon_363 : decode cL_horizon 363 = .ok (.iinc 3 1, 3) := by decide +kernel
theorem dL_horizon_366 : decode cL_horizon 366 = .ok (.goto (-310), 3) := by decide +kernel
theorem dL_horizon_369 : decode cL_horizon 369 = .ok (.iload_n 2, 1) := by decide +kernel
theorem dL_horizon_370 : decode cL_horizon 370 = .ok (.ifCond .eq 31, 3) := by decide +kernel
theorem dL_horizon_373 : decode cL_horizon 373 = .ok (.aload_n 0, 1) := by decide +kernel
theorem dL_horizon_374 : decode cL_horizon 374 = .ok (.invokevirtual 171, 3) := by decide +kernel
theorem dL_horizon_377 : decode cL_horizon 377 = .ok (.iload_n 1, 1) := by decide +kernel
theorem dL_horizon_378 : decode cL_horizon 378 = .ok (.if_icmp .ne 23, 3) := by decide +kernel
theorem dL_horizon_381 : decode cL_horizon 381 = .ok (.aload_n 0, 1) := by decide +kernel
theorem dL_horizon_382 : decode cL_horizon 382 = .ok (.invokevirtual 174, 3) := by decide +kernel
theorem dL_horizon_385 : decode cL_horizon 385 = .ok (.bipush 48, 2) := by decide +kernel
theorem dL_horizon_387 : decode cL_horizon 387 = .ok (.iload_n 1, 1) := by decide +kernel
theorem dL_horizon_388 : decode cL_horizon 388 = .ok (.isub, 1) := by decide +kernel
theorem dL_horizon_389 : decode cL_horizon 389 = .ok (.i2f, 1) := by decide +kernel
theorem dL_horizon_390 : decode cL_horizon 390 = .ok (.ldc 178, 2) := by decide +kernel
theorem dL_horizon_392 : decode cL_horizon 392 = .ok (.fdiv, 1) := by decide +kernel
theorem dL_horizon_393 : decode cL_horizon 393 = .ok (.fcmp .l, 1) := by decide +kernel
theorem dL_horizon_394 : decode cL_horizon 394 = .ok (.ifCond .ne 7, 3) := by decide +kernel
theorem dL_horizon_397 : decode cL_horizon 397 = .ok (.iconst 1, 1) := by decide +kernel
theorem dL_horizon_398 : decode cL_horizon 398 = .ok (.goto 4, 3) := by decide +kernel
theorem dL_horizon_401 : decode cL_horizon 401 = .ok (.iconst 0, 1) := by decide +kernel
theorem dL_horizon_402 : decode cL_horizon 402 = .ok (.ireturn, 1) := by decide +kernel
theorem dL_refusals_0 : decode cL_refusals 0 = .ok (.iconst (-1), 1) := by decide +kernel
theorem dL_refusals_1 : decode cL_refusals 1 = .ok (.istore_n 3, 1) := by decide +kernel
theorem dL_refusals_2 : decode cL_refusals 2 = .ok (.aload_n 0, 1) := by decide +kernel
theorem dL_refusals_3 : decode cL_refusals 3 = .ok (.invokevirtual 110, 3) := by decide +kernel
theorem dL_refusals_6 : decode cL_refusals 6 = .ok (.iconst 1, 1) := by decide +kernel
theorem dL_refusals_7 : decode cL_refusals 7 = .ok (.isub, 1) := by decide +kernel
theorem dL_refusals_8 : decode cL_refusals 8 = .ok (.istore 4, 2) := by decide +kernel
theorem dL_refusals_10 : decode cL_refusals 10 = .ok (.iload 4, 2) := by decide +kernel
theorem dL_refusals_12 : decode cL_refusals 12 = .ok (.ifCond .lt 36, 3) := by decide +kernel
theorem dL_refusals_15 : decode cL_refusals 15 = .ok (.aload_n 0, 1) := by decide +kernel
theorem dL_refusals_16 : decode cL_refusals 16 = .ok (.iload 4, 2) := by decide +kernel
theorem dL_refusals_18 : decode cL_refusals 18 = .ok (.invokevirtual 140, 3) := by decide +kernel
theorem dL_refusals_21 : decode cL_refusals 21 = .ok (.iload_n 1, 1) := by decide +kernel
theorem dL_refusals_22 : decode cL_refusals 22 = .ok (.if_icmp .ne 18, 3) := by decide +kernel
theorem dL_refusals_25 : decode cL_refusals 25 = .ok (.aload_n 0, 1) := by decide +kernel
theorem dL_refusals_26 : decode cL_refusals 26 = .ok (.iload 4, 2) := by decide +kernel
theorem dL_refusals_28 : decode cL_refusals 28 = .ok (.invokevirtual 152, 3) := by decide +kernel
theorem dL_refusals_31 : decode cL_refusals 31 = .ok (.iconst 4, 1) := by decide +kernel
theorem dL_refusals_32 : decode cL_refusals 32 = .ok (.if_icmp .ne 8, 3) := by decide +kernel
theorem dL_refusals_35 : decode cL_refusals 35 = .ok (.iload 4, 2) := by decide +kernel
theorem dL_refusals_37 : decode cL_refusals 37 = .ok (.goto 4, 3) := by decide +kernel
theorem dL_refusals_40 : decode cL_refusals 40 = .ok (.iload_n 3, 1) := by decide +kernel
theorem dL_refusals_41 : decode cL_refusals 41 = .ok (.istore_n 3, 1) := by decide +kernel
theorem dL_refusals_42 : decode cL_refusals 42 = .ok (.iinc 4 (-1), 3) := by decide +kernel
theorem dL_refusals_45 : decode cL_refusals 45 = .ok (.goto (-35), 3) := by decide +kernel
theorem dL_refusals_48 : decode cL_refusals 48 = .ok (.aload_n 0, 1) := by decide +kernel
theorem dL_refusals_49 : decode cL_refusals 49 = .ok (.iload_n 1, 1) := by decide +kernel
theorem dL_refusals_50 : decode cL_refusals 50 = .ok (.iload_n 2, 1) := by decide +kernel
theorem dL_refusals_51 : decode cL_refusals 51 = .ok (.invokevirtual 179, 3) := by decide +kernel
theorem dL_refusals_54 : decode cL_refusals 54 = .ok (.istore 4, 2) := by decide +kernel
theorem dL_refusals_56 : decode cL_refusals 56 = .ok (.iconst (-1), 1) := by decide +kernel
theorem dL_refusals_57 : decode cL_refusals 57 = .ok (.istore 5, 2) := by decide +kernel
theorem dL_refusals_59 : decode cL_refusals 59 = .ok (.iconst (-1), 1) := by decide +kernel
theorem dL_refusals_60 : decode cL_refusals 60 = .ok (.istore 6, 2) := by decide +kernel
theorem dL_refusals_62 : decode cL_refusals 62 = .ok (.iconst 1, 1) := by decide +kernel
theorem dL_refusals_63 : decode cL_refusals 63 = .ok (.istore 7, 2) := by decide +kernel
theorem dL_refusals_65 : decode cL_refusals 65 = .ok (.aload_n 0, 1) := by decide +kernel
theorem dL_refusals_66 : decode cL_refusals 66 = .ok (.invokevirtual 104, 3) := by decide +kernel
theorem dL_refusals_69 : decode cL_refusals 69 = .ok (.bipush 48, 2) := by decide +kernel
theorem dL_refusals_71 : decode cL_refusals 71 = .ok (.iadd, 1) := by decide +kernel
theorem dL_refusals_72 : decode cL_refusals 72 = .ok (.iload_n 2, 1) := by decide +kernel
theorem dL_refusals_73 : decode cL_refusals 73 = .ok (.isub, 1) := by decide +kernel
theorem dL_refusals_74 : decode cL_refusals 74 = .ok (.istore 8, 2) := by decide +kernel
theorem dL_refusals_76 : decode cL_refusals 76 = .ok (.iload 8, 2) := by decide +kernel
theorem dL_refusals_78 : decode cL_refusals 78 = .ok (.aload_n 0, 1) := by decide +kernel
theorem dL_refusals_79 : decode cL_refusals 79 = .ok (.invokevirtual 104, 3) := by decide +kernel
theorem dL_refusals_82 : decode cL_refusals 82 = .ok (.if_icmp .lt 361, 3) := by decide +kernel
theorem dL_refusals_85 : decode cL_refusals 85 = .ok (.iload 7, 2) := by decide +kernel
theorem dL_refusals_87 : decode cL_refusals 87 = .ok (.ifCond .eq 356, 3) := by decide +kernel
theorem dL_refusals_90 : decode cL_refusals 90 = .ok (.iconst (-1), 1) := by decide +kernel
theorem dL_refusals_91 : decode cL_refusals 91 = .ok (.istore 9, 2) := by decide +kernel
theorem dL_refusals_93 : decode cL_refusals 93 = .ok (.iconst (-1), 1) := by decide +kernel
theorem dL_refusals_94 : decode cL_refusals 94 = .ok (.istore 10, 2) := by decide +kernel
theorem dL_refusals_96 : decode cL_refusals 96 = .ok (.iconst 0, 1) := by decide +kernel
theorem dL_refusals_97 : decode cL_refusals 97 = .ok (.istore 11, 2) := by decide +kernel
theorem dL_refusals_99 : decode cL_refusals 99 = .ok (.iconst (-1), 1) := by decide +kernel
theorem dL_refusals_100 : decode cL_refusals 100 = .ok (.istore 12, 2) := by decide +kernel
theorem dL_refusals_102 : decode cL_refusals 102 = .ok (.iload 8, 2) := by decide +kernel
theorem dL_refusals_104 : decode cL_refusals 104 = .ok (.iload_n 2, 1) := by decide +kernel
theorem dL_refusals_105 : decode cL_refusals 105 = .ok (.iadd, 1) := by decide +kernel
theorem dL_refusals_106 : decode cL_refusals 106 = .ok (.iconst 1, 1) := by decide +kernel
theorem dL_refusals_107 : decode cL_refusals 107 = .ok (.isub, 1) := by decide +kernel
theorem dL_refusals_108 : decode cL_refusals 108 = .ok (.istore 13, 2) := by decide +kernel
theorem dL_refusals_110 : decode cL_refusals 110 = .ok (.iload 13, 2) := by decide +kernel
theorem dL_refusals_112 : decode cL_refusals 112 = .ok (.iload 8, 2) := by decide +kernel
theorem dL_refusals_114 : decode cL_refusals 114 = .ok (.if_icmp .lt 128, 3) := by decide +kernel
theorem dL_refusals_117 : decode cL_refusals 117 = .ok (.aload_n 0, 1) := by decide +kernel
theorem dL_refusals_118 : decode cL_refusals 118 = .ok (.aload_n 0, 1) := by decide +kernel
theorem dL_refusals_119 : decode cL_refusals 119 = .ok (.iload_n 1, 1) := by decide +kernel
theorem dL_refusals_120 : decode cL_refusals 120 = .ok (.invokevirtual 128, 3) := by decide +kernel
theorem dL_refusals_123 : decode cL_refusals 123 = .ok (.iload 13, 2) := by decide +kernel
theorem dL_refusals_125 : decode cL_refusals 125 = .ok (.invokevirtual 155, 3) := by decide +kernel
theorem dL_refusals_128 : decode cL_refusals 128 = .ok (.istore 14, 2) := by decide +kernel
theorem dL_refusals_130 : decode cL_refusals 130 = .ok (.aload_n 0, 1) := by decide +kernel
theorem dL_refusals_131 : decode cL_refusals 131 = .ok (.iload 13, 2) := by decide +kernel
theorem dL_refusals_133 : decode cL_refusals 133 = .ok (.invokevirtual 165, 3) := by decide +kernel
theorem dL_refusals_136 : decode cL_refusals 136 = .ok (.istore 15, 2) := by decide +kernel
theorem dL_refusals_138 : decode cL_refusals 138 = .ok (.iload 15, 2) := by decide +kernel
theorem dL_refusals_140 : decode cL_refusals 140 = .ok (.ifCond .lt 34, 3) := by decide +kernel
theorem dL_refusals_143 : decode cL_refusals 143 = .ok (.aload_n 0, 1) := by decide +kernel
theorem dL_refusals_144 : decode cL_refusals 144 = .ok (.iload 15, 2) := by decide +kernel
theorem dL_refusals_146 : decode cL_refusals 146 = .ok (.invokevirtual 152, 3) := by decide +kernel
theorem dL_refusals_149 : decode cL_refusals 149 = .ok (.ifCond .ne 25, 3) := by decide +kernel
theorem dL_refusals_152 : decode cL_refusals 152 = .ok (.aload_n 0, 1) := by decide +kernel
theorem dL_refusals_153 : decode cL_refusals 153 = .ok (.aload_n 0, 1) := by decide +kernel
theorem dL_refusals_154 : decode cL_refusals 154 = .ok (.iload 15, 2) := by decide +kernel
theorem dL_refusals_156 : decode cL_refusals 156 = .ok (.invokevirtual 140, 3) := by decide +kernel
theorem dL_refusals_159 : decode cL_refusals 159 = .ok (.invokevirtual 131, 3) := by decide +kernel
theorem dL_refusals_162 : decode cL_refusals 162 = .ok (.aload_n 0, 1) := by decide +kernel
theorem dL_refusals_163 : decode cL_refusals 163 = .ok (.iload_n 1, 1) := by decide +kernel
theorem dL_refusals_164 : decode cL_refusals 164 = .ok (.invokevirtual 131, 3) := by decide +kernel
theorem dL_refusals_167 : decode cL_refusals 167 = .ok (.if_icmp .ge 7, 3) := by decide +kernel
theorem dL_refusals_170 : decode cL_refusals 170 = .ok (.iconst 1, 1) := by decide +kernel
theorem dL_refusals_171 : decode cL_refusals 171 = .ok (.goto 4, 3) := by decide +kernel
theorem dL_refusals_174 : decode cL_refusals 174 = .ok (.iconst 0, 1) := by decide +kernel
theorem dL_refusals_175 : decode cL_refusals 175 = .ok (.istore 16, 2) := by decide +kernel
theorem dL_refusals_177 : decode cL_refusals 177 = .ok (.iload 14, 2) := by decide +kernel
theorem dL_refusals_179 : decode cL_refusals 179 = .ok (.ifCond .lt 8, 3) := by decide +kernel
theorem dL_refusals_182 : decode cL_refusals 182 = .ok (.iload 14, 2) := by decide +kernel
theorem dL_refusals_184 : decode cL_refusals 184 = .ok (.goto 5, 3) := by decide +kernel
theorem dL_refusals_187 : decode cL_refusals 187 = .ok (.iload 9, 2) := by decide +kernel
theorem dL_refusals_189 : decode cL_refusals 189 = .ok (.istore 9, 2) := by decide +kernel
theorem dL_refusals_191 : decode cL_refusals 191 = .ok (.iload 15, 2) := by decide +kernel
theorem dL_refusals_193 : decode cL_refusals 193 = .ok (.ifCond .lt 13, 3) := by decide +kernel
theorem dL_refusals_196 : decode cL_refusals 196 = .ok (.iload 16, 2) := by decide +kernel
theorem dL_refusals_198 : decode cL_refusals 198 = .ok (.ifCond .ne 8, 3) := by decide +kernel
theorem dL_refusals_201 : decode cL_refusals 201 = .ok (.iload 15, 2) := by decide +kernel
theorem dL_refusals_203 : decode cL_refusals 203 = .ok (.goto 5, 3) := by decide +kernel
theorem dL_refusals_206 : decode cL_refusals 206 = .ok (.iload 10, 2) := by decide +kernel
theorem dL_refusals_208 : decode cL_refusals 208 = .ok (.istore 10, 2) := by decide +kernel
theorem dL_refusals_210 : decode cL_refusals 210 = .ok (.iload 11, 2) := by decide +kernel
theorem dL_refusals_212 : decode cL_refusals 212 = .ok (.iload 15, 2) := by decide +kernel
theorem dL_refusals_214 : decode cL_refusals 214 = .ok (.ifCond .lt 14, 3) := by decide +kernel
theorem dL_refusals_217 : decode cL_refusals 217 = .ok (.iload 15, 2) := by decide +kernel
theorem dL_refusals_219 : decode cL_refusals 219 = .ok (.iload 12, 2) := by decide +kernel
theorem dL_refusals_221 : decode cL_refusals 221 = .ok (.if_icmp .eq 7, 3) := by decide +kernel
theorem dL_refusals_224 : decode cL_refusals 224 = .ok (.iconst 1, 1) := by decide +kernel
theorem dL_refusals_225 : decode cL_refusals 225 = .ok (.goto 4, 3) := by decide +kernel
theorem dL_refusals_228 : decode cL_refusals 228 = .ok (.iconst 0, 1) := by decide +kernel
theorem dL_refusals_229 : decode cL_refusals 229 = .ok (.iadd, 1) := by decide +kernel
