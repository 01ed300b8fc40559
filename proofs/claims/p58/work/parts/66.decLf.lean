theorem dL_act_183 : decode cL_act 183 = .ok (.iconst 3, 1) := by decide +kernel
theorem dL_act_184 : decode cL_act 184 = .ok (.invokestatic 201, 3) := by decide +kernel
theorem dL_act_187 : decode cL_act 187 = .ok (.iload 11, 2) := by decide +kernel
theorem dL_act_189 : decode cL_act 189 = .ok (.iconst 3, 1) := by decide +kernel
theorem dL_act_190 : decode cL_act 190 = .ok (.iadd, 1) := by decide +kernel
theorem dL_act_191 : decode cL_act 191 = .ok (.if_icmp .ne 7, 3) := by decide +kernel
theorem dL_act_194 : decode cL_act 194 = .ok (.iconst 1, 1) := by decide +kernel
theorem dL_act_195 : decode cL_act 195 = .ok (.goto 58, 3) := by decide +kernel
theorem dL_act_198 : decode cL_act 198 = .ok (.iconst 0, 1) := by decide +kernel
theorem dL_act_199 : decode cL_act 199 = .ok (.goto 54, 3) := by decide +kernel
theorem dL_act_202 : decode cL_act 202 = .ok (.iload 12, 2) := by decide +kernel
theorem dL_act_204 : decode cL_act 204 = .ok (.iload_n 2, 1) := by decide +kernel
theorem dL_act_205 : decode cL_act 205 = .ok (.if_icmp .ne 47, 3) := by decide +kernel
theorem dL_act_208 : decode cL_act 208 = .ok (.aload_n 0, 1) := by decide +kernel
theorem dL_act_209 : decode cL_act 209 = .ok (.iload_n 3, 1) := by decide +kernel
theorem dL_act_210 : decode cL_act 210 = .ok (.invokevirtual 134, 3) := by decide +kernel
theorem dL_act_213 : decode cL_act 213 = .ok (.iload 11, 2) := by decide +kernel
theorem dL_act_215 : decode cL_act 215 = .ok (.iload 10, 2) := by decide +kernel
theorem dL_act_217 : decode cL_act 217 = .ok (.isub, 1) := by decide +kernel
theorem dL_act_218 : decode cL_act 218 = .ok (.if_icmp .ne 34, 3) := by decide +kernel
theorem dL_act_221 : decode cL_act 221 = .ok (.aload_n 0, 1) := by decide +kernel
theorem dL_act_222 : decode cL_act 222 = .ok (.iload 7, 2) := by decide +kernel
theorem dL_act_224 : decode cL_act 224 = .ok (.invokevirtual 165, 3) := by decide +kernel
theorem dL_act_227 : decode cL_act 227 = .ok (.iload 12, 2) := by decide +kernel
theorem dL_act_229 : decode cL_act 229 = .ok (.if_icmp .ne 23, 3) := by decide +kernel
theorem dL_act_232 : decode cL_act 232 = .ok (.aload_n 0, 1) := by decide +kernel
theorem dL_act_233 : decode cL_act 233 = .ok (.iload 7, 2) := by decide +kernel
theorem dL_act_235 : decode cL_act 235 = .ok (.iload 8, 2) := by decide +kernel
theorem dL_act_237 : decode cL_act 237 = .ok (.iadd, 1) := by decide +kernel
theorem dL_act_238 : decode cL_act 238 = .ok (.iconst 1, 1) := by decide +kernel
theorem dL_act_239 : decode cL_act 239 = .ok (.isub, 1) := by decide +kernel
theorem dL_act_240 : decode cL_act 240 = .ok (.invokevirtual 165, 3) := by decide +kernel
theorem dL_act_243 : decode cL_act 243 = .ok (.iload 12, 2) := by decide +kernel
theorem dL_act_245 : decode cL_act 245 = .ok (.if_icmp .ne 7, 3) := by decide +kernel
theorem dL_act_248 : decode cL_act 248 = .ok (.iconst 1, 1) := by decide +kernel
theorem dL_act_249 : decode cL_act 249 = .ok (.goto 4, 3) := by decide +kernel
theorem dL_act_252 : decode cL_act 252 = .ok (.iconst 0, 1) := by decide +kernel
theorem dL_act_253 : decode cL_act 253 = .ok (.ireturn, 1) := by decide +kernel
theorem dL_act_254 : decode cL_act 254 = .ok (.iload 6, 2) := by decide +kernel
theorem dL_act_256 : decode cL_act 256 = .ok (.ifCond .ne 23, 3) := by decide +kernel
theorem dL_act_259 : decode cL_act 259 = .ok (.aload_n 0, 1) := by decide +kernel
theorem dL_act_260 : decode cL_act 260 = .ok (.aload_n 0, 1) := by decide +kernel
theorem dL_act_261 : decode cL_act 261 = .ok (.iload 5, 2) := by decide +kernel
theorem dL_act_263 : decode cL_act 263 = .ok (.invokevirtual 140, 3) := by decide +kernel
theorem dL_act_266 : decode cL_act 266 = .ok (.invokevirtual 134, 3) := by decide +kernel
theorem dL_act_269 : decode cL_act 269 = .ok (.aload_n 0, 1) := by decide +kernel
theorem dL_act_270 : decode cL_act 270 = .ok (.iload 5, 2) := by decide +kernel
theorem dL_act_272 : decode cL_act 272 = .ok (.invokevirtual 149, 3) := by decide +kernel
theorem dL_act_275 : decode cL_act 275 = .ok (.iadd, 1) := by decide +kernel
theorem dL_act_276 : decode cL_act 276 = .ok (.goto 4, 3) := by decide +kernel
theorem dL_act_279 : decode cL_act 279 = .ok (.iconst 0, 1) := by decide +kernel
theorem dL_act_280 : decode cL_act 280 = .ok (.istore 13, 2) := by decide +kernel
theorem dL_act_282 : decode cL_act 282 = .ok (.aload_n 0, 1) := by decide +kernel
theorem dL_act_283 : decode cL_act 283 = .ok (.iload 5, 2) := by decide +kernel
theorem dL_act_285 : decode cL_act 285 = .ok (.invokestatic 205, 3) := by decide +kernel
theorem dL_act_288 : decode cL_act 288 = .ok (.istore 14, 2) := by decide +kernel
theorem dL_act_290 : decode cL_act 290 = .ok (.iload 6, 2) := by decide +kernel
theorem dL_act_292 : decode cL_act 292 = .ok (.ifCond .ne 28, 3) := by decide +kernel
theorem dL_act_295 : decode cL_act 295 = .ok (.iload 14, 2) := by decide +kernel
theorem dL_act_297 : decode cL_act 297 = .ok (.iload 13, 2) := by decide +kernel
theorem dL_act_299 : decode cL_act 299 = .ok (.if_icmp .ne 17, 3) := by decide +kernel
theorem dL_act_302 : decode cL_act 302 = .ok (.aload_n 0, 1) := by decide +kernel
theorem dL_act_303 : decode cL_act 303 = .ok (.iload 5, 2) := by decide +kernel
theorem dL_act_305 : decode cL_act 305 = .ok (.invokevirtual 152, 3) := by decide +kernel
theorem dL_act_308 : decode cL_act 308 = .ok (.iconst 5, 1) := by decide +kernel
theorem dL_act_309 : decode cL_act 309 = .ok (.if_icmp .ne 7, 3) := by decide +kernel
theorem dL_act_312 : decode cL_act 312 = .ok (.iconst 1, 1) := by decide +kernel
theorem dL_act_313 : decode cL_act 313 = .ok (.goto 31, 3) := by decide +kernel
theorem dL_act_316 : decode cL_act 316 = .ok (.iconst 0, 1) := by decide +kernel
theorem dL_act_317 : decode cL_act 317 = .ok (.goto 27, 3) := by decide +kernel
theorem dL_act_320 : decode cL_act 320 = .ok (.iload 14, 2) := by decide +kernel
theorem dL_act_322 : decode cL_act 322 = .ok (.ldc 209, 2) := by decide +kernel
theorem dL_act_324 : decode cL_act 324 = .ok (.if_icmp .ge 19, 3) := by decide +kernel
theorem dL_act_327 : decode cL_act 327 = .ok (.aload_n 0, 1) := by decide +kernel
theorem dL_act_328 : decode cL_act 328 = .ok (.iload_n 3, 1) := by decide +kernel
theorem dL_act_329 : decode cL_act 329 = .ok (.iconst 1, 1) := by decide +kernel
theorem dL_act_330 : decode cL_act 330 = .ok (.invokestatic 201, 3) := by decide +kernel
theorem dL_act_333 : decode cL_act 333 = .ok (.sipush (-9999), 3) := by decide +kernel
theorem dL_act_336 : decode cL_act 336 = .ok (.if_icmp .le 7, 3) := by decide +kernel
theorem dL_act_339 : decode cL_act 339 = .ok (.iconst 1, 1) := by decide +kernel
theorem dL_act_340 : decode cL_act 340 = .ok (.goto 4, 3) := by decide +kernel
theorem dL_act_343 : decode cL_act 343 = .ok (.iconst 0, 1) := by decide +kernel
theorem dL_act_344 : decode cL_act 344 = .ok (.ireturn, 1) := by decide +kernel
theorem dL_act_345 : decode cL_act 345 = .ok (.iload 6, 2) := by decide +kernel
theorem dL_act_347 : decode cL_act 347 = .ok (.ifCond .ge 7, 3) := by decide +kernel
theorem dL_act_350 : decode cL_act 350 = .ok (.iconst 0, 1) := by decide +kernel
theorem dL_act_351 : decode cL_act 351 = .ok (.goto 21, 3) := by decide +kernel
theorem dL_act_354 : decode cL_act 354 = .ok (.aload_n 0, 1) := by decide +kernel
theorem dL_act_355 : decode cL_act 355 = .ok (.invokevirtual 104, 3) := by decide +kernel
theorem dL_act_358 : decode cL_act 358 = .ok (.aload_n 0, 1) := by decide +kernel
theorem dL_act_359 : decode cL_act 359 = .ok (.iload 5, 2) := by decide +kernel
theorem dL_act_361 : decode cL_act 361 = .ok (.invokevirtual 143, 3) := by decide +kernel
theorem dL_act_364 : decode cL_act 364 = .ok (.isub, 1) := by decide +kernel
theorem dL_act_365 : decode cL_act 365 = .ok (.aload_n 0, 1) := by decide +kernel
theorem dL_act_366 : decode cL_act 366 = .ok (.iload 5, 2) := by decide +kernel
theorem dL_act_368 : decode cL_act 368 = .ok (.invokevirtual 146, 3) := by decide +kernel
theorem dL_act_371 : decode cL_act 371 = .ok (.isub, 1) := by decide +kernel
theorem dL_act_372 : decode cL_act 372 = .ok (.istore 15, 2) := by decide +kernel
theorem dL_act_374 : decode cL_act 374 = .ok (.aload_n 0, 1) := by decide +kernel
theorem dL_act_375 : decode cL_act 375 = .ok (.iload 5, 2) := by decide +kernel
theorem dL_act_377 : decode cL_act 377 = .ok (.invokestatic 210, 3) := by decide +kernel
theorem dL_act_380 : decode cL_act 380 = .ok (.istore 16, 2) := by decide +kernel
theorem dL_act_382 : decode cL_act 382 = .ok (.iload 6, 2) := by decide +kernel
theorem dL_act_384 : decode cL_act 384 = .ok (.iconst 2, 1) := by decide +kernel
theorem dL_act_385 : decode cL_act 385 = .ok (.if_icmp .eq 9, 3) := by decide +kernel
theorem dL_act_388 : decode cL_act 388 = .ok (.iload 6, 2) := by decide +kernel
theorem dL_act_390 : decode cL_act 390 = .ok (.iconst 4, 1) := by decide +kernel
theorem dL_act_391 : decode cL_act 391 = .ok (.if_icmp .ne 28, 3) := by decide +kernel
theorem dL_act_394 : decode cL_act 394 = .ok (.iload 16, 2) := by decide +kernel
theorem dL_act_396 : decode cL_act 396 = .ok (.iload 15, 2) := by decide +kernel
theorem dL_act_398 : decode cL_act 398 = .ok (.if_icmp .ne 17, 3) := by decide +kernel
theorem dL_act_401 : decode cL_act 401 = .ok (.aload_n 0, 1) := by decide +kernel
theorem dL_act_402 : decode cL_act 402 = .ok (.iload 5, 2) := by decide +kernel
theorem dL_act_404 : decode cL_act 404 = .ok (.invokevirtual 152, 3) := by decide +kernel
theorem dL_act_407 : decode cL_act 407 = .ok (.iconst 3, 1) := by decide +kernel
theorem dL_act_408 : decode cL_act 408 = .ok (.if_icmp .ne 7, 3) := by decide +kernel
theorem dL_act_411 : decode cL_act 411 = .ok (.iconst 1, 1) := by decide +kernel
theorem dL_act_412 : decode cL_act 412 = .ok (.goto 31, 3) := by decide +kernel
theorem dL_act_415 : decode cL_act 415 = .ok (.iconst 0, 1) := by decide +kernel
theorem dL_act_416 : decode cL_act 416 = .ok (.goto 27, 3) := by decide +kernel
theorem dL_act_419 : decode cL_act 419 = .ok (.iload 16, 2) := by decide +kernel
theorem dL_act_421 : decode cL_act 421 = .ok (.bipush (-2), 2) := by decide +kernel
theorem dL_act_423 : decode cL_act 423 = .ok (.if_icmp .ge 19, 3) := by decide +kernel
theorem dL_act_426 : decode cL_act 426 = .ok (.aload_n 0, 1) := by decide +kernel
theorem dL_act_427 : decode cL_act 427 = .ok (.iload_n 3, 1) := by decide +kernel
theorem dL_act_428 : decode cL_act 428 = .ok (.iconst 2, 1) := by decide +kernel
theorem dL_act_429 : decode cL_act 429 = .ok (.invokestatic 201, 3) := by decide +kernel
theorem dL_act_432 : decode cL_act 432 = .ok (.sipush (-9999), 3) := by decide +kernel
theorem dL_act_435 : decode cL_act 435 = .ok (.if_icmp .le 7, 3) := by decide +kernel
theorem dL_act_438 : decode cL_act 438 = .ok (.iconst 1, 1) := by decide +kernel
theorem dL_act_439 : decode cL_act 439 = .ok (.goto 4, 3) := by decide +kernel
theorem dL_act_442 : decode cL_act 442 = .ok (.iconst 0, 1) := by decide +kernel
theorem dL_act_443 : decode cL_act 443 = .ok (.ireturn, 1) := by decide +kernel
theorem dL_act_444 : decode cL_act 444 = .ok (.aload_n 0, 1) := by decide +kernel
theorem dL_act_445 : decode cL_act 445 = .ok (.invokevirtual 107, 3) := by decide +kernel
theorem dL_act_448 : decode cL_act 448 = .ok (.istore 17, 2) := by decide +kernel
theorem dL_act_450 : decode cL_act 450 = .ok (.iload 17, 2) := by decide +kernel
theorem dL_act_452 : decode cL_act 452 = .ok (.bipush 10, 2) := by decide +kernel
theorem dL_act_454 : decode cL_act 454 = .ok (.if_icmp .ne 7, 3) := by decide +kernel
theorem dL_act_457 : decode cL_act 457 = .ok (.iconst 1, 1) := by decide +kernel
theorem dL_act_458 : decode cL_act 458 = .ok (.goto 4, 3) := by decide +kernel
theorem dL_act_461 : decode cL_act 461 = .ok (.iconst 0, 1) := by decide +kernel
theorem dL_act_462 : decode cL_act 462 = .ok (.istore 18, 2) := by decide +kernel
theorem dL_act_464 : decode cL_act 464 = .ok (.iconst 1, 1) := by decide +kernel
theorem dL_act_465 : decode cL_act 465 = .ok (.aload_n 1, 1) := by decide +kernel
theorem dL_act_466 : decode cL_act 466 = .ok (.invokestatic 79, 3) := by decide +kernel
theorem dL_act_469 : decode cL_act 469 = .ok (.bipush 12, 2) := by decide +kernel
theorem dL_act_471 : decode cL_act 471 = .ok (.irem, 1) := by decide +kernel
theorem dL_act_472 : decode cL_act 472 = .ok (.iadd, 1) := by decide +kernel
theorem dL_act_473 : decode cL_act 473 = .ok (.istore 19, 2) := by decide +kernel
theorem dL_act_475 : decode cL_act 475 = .ok (.iload 7, 2) := by decide +kernel
theorem dL_act_477 : decode cL_act 477 = .ok (.istore 20, 2) := by decide +kernel
theorem dL_act_479 : decode cL_act 479 = .ok (.iload 20, 2) := by decide +kernel
theorem dL_act_481 : decode cL_act 481 = .ok (.iload 7, 2) := by decide +kernel
theorem dL_act_483 : decode cL_act 483 = .ok (.iload 19, 2) := by decide +kernel
theorem dL_act_485 : decode cL_act 485 = .ok (.iadd, 1) := by decide +kernel
theorem dL_act_486 : decode cL_act 486 = .ok (.if_icmp .ge 49, 3) := by decide +kernel
theorem dL_act_489 : decode cL_act 489 = .ok (.aload_n 0, 1) := by decide +kernel
theorem dL_act_490 : decode cL_act 490 = .ok (.iload 20, 2) := by decide +kernel
theorem dL_act_492 : decode cL_act 492 = .ok (.invokevirtual 165, 3) := by decide +kernel
theorem dL_act_495 : decode cL_act 495 = .ok (.istore 21, 2) := by decide +kernel
theorem dL_act_497 : decode cL_act 497 = .ok (.iload 18, 2) := by decide +kernel
theorem dL_act_499 : decode cL_act 499 = .ok (.ifCond .ne 23, 3) := by decide +kernel
theorem dL_act_502 : decode cL_act 502 = .ok (.iload 21, 2) := by decide +kernel
theorem dL_act_504 : decode cL_act 504 = .ok (.ifCond .lt 22, 3) := by decide +kernel
theorem dL_act_507 : decode cL_act 507 = .ok (.aload_n 0, 1) := by decide +kernel
theorem dL_act_508 : decode cL_act 508 = .ok (.aload_n 0, 1) := by decide +kernel
theorem dL_act_509 : decode cL_act 509 = .ok (.iload 21, 2) := by decide +kernel
theorem dL_act_511 : decode cL_act 511 = .ok (.invokevirtual 140, 3) := by decide +kernel
theorem dL_act_514 : decode cL_act 514 = .ok (.invokevirtual 128, 3) := by decide +kernel
theorem dL_act_517 : decode cL_act 517 = .ok (.iload 4, 2) := by decide +kernel
theorem dL_act_519 : decode cL_act 519 = .ok (.if_icmp .ne 7, 3) := by decide +kernel
theorem dL_act_522 : decode cL_act 522 = .ok (.iconst 1, 1) := by decide +kernel
theorem dL_act_523 : decode cL_act 523 = .ok (.goto 4, 3) := by decide +kernel
theorem dL_act_526 : decode cL_act 526 = .ok (.iconst 0, 1) := by decide +kernel
theorem dL_act_527 : decode cL_act 527 = .ok (.istore 18, 2) := by decide +kernel
theorem dL_act_529 : decode cL_act 529 = .ok (.iinc 20 1, 3) := by decide +kernel
theorem dL_act_532 : decode cL_act 532 = .ok (.goto (-53), 3) := by decide +kernel
theorem dL_act_535 : decode cL_act 535 = .ok (.aload_n 0, 1) := by decide +kernel
theorem dL_act_536 : decode cL_act 536 = .ok (.iload 4, 2) := by decide +kernel
theorem dL_act_538 : decode cL_act 538 = .ok (.iload 7, 2) := by decide +kernel
theorem dL_act_540 : decode cL_act 540 = .ok (.iload 19, 2) := by decide +kernel
theorem dL_act_542 : decode cL_act 542 = .ok (.invokestatic 213, 3) := by decide +kernel
theorem dL_act_545 : decode cL_act 545 = .ok (.istore 20, 2) := by decide +kernel
theorem dL_act_547 : decode cL_act 547 = .ok (.iload 18, 2) := by decide +kernel
theorem dL_act_549 : decode cL_act 549 = .ok (.ifCond .eq 30, 3) := by decide +kernel
theorem dL_act_552 : decode cL_act 552 = .ok (.iload 20, 2) := by decide +kernel
theorem dL_act_554 : decode cL_act 554 = .ok (.bipush (-3), 2) := by decide +kernel
theorem dL_act_556 : decode cL_act 556 = .ok (.if_icmp .ne 19, 3) := by decide +kernel
theorem dL_act_559 : decode cL_act 559 = .ok (.aload_n 0, 1) := by decide +kernel
theorem dL_act_560 : decode cL_act 560 = .ok (.iload_n 3, 1) := by decide +kernel
theorem dL_act_561 : decode cL_act 561 = .ok (.iconst 4, 1) := by decide +kernel
theorem dL_act_562 : decode cL_act 562 = .ok (.invokestatic 201, 3) := by decide +kernel
theorem dL_act_565 : decode cL_act 565 = .ok (.sipush (-9999), 3) := by decide +kernel
theorem dL_act_568 : decode cL_act 568 = .ok (.if_icmp .le 7, 3) := by decide +kernel
theorem dL_act_571 : decode cL_act 571 = .ok (.iconst 1, 1) := by decide +kernel
theorem dL_act_572 : decode cL_act 572 = .ok (.goto 30, 3) := by decide +kernel
theorem dL_act_575 : decode cL_act 575 = .ok (.iconst 0, 1) := by decide +kernel
theorem dL_act_576 : decode cL_act 576 = .ok (.goto 26, 3) := by decide +kernel
theorem dL_act_579 : decode cL_act 579 = .ok (.iload 20, 2) := by decide +kernel
