theorem dL_law_258 : decode cL_law 258 = .ok (.aload_n 1, 1) := by decide +kernel
theorem dL_law_259 : decode cL_law 259 = .ok (.invokevirtual 153, 3) := by decide +kernel
theorem dL_law_262 : decode cL_law 262 = .ok (.fconst 0, 1) := by decide +kernel
theorem dL_law_263 : decode cL_law 263 = .ok (.fcmp .l, 1) := by decide +kernel
theorem dL_law_264 : decode cL_law 264 = .ok (.ifCond .ne 21, 3) := by decide +kernel
theorem dL_law_267 : decode cL_law 267 = .ok (.aload_n 1, 1) := by decide +kernel
theorem dL_law_268 : decode cL_law 268 = .ok (.bipush 16, 2) := by decide +kernel
theorem dL_law_270 : decode cL_law 270 = .ok (.invokevirtual 49, 3) := by decide +kernel
theorem dL_law_273 : decode cL_law 273 = .ok (.bipush (-2), 2) := by decide +kernel
theorem dL_law_275 : decode cL_law 275 = .ok (.if_icmp .ne 10, 3) := by decide +kernel
theorem dL_law_278 : decode cL_law 278 = .ok (.aload_n 1, 1) := by decide +kernel
theorem dL_law_279 : decode cL_law 279 = .ok (.invokevirtual 157, 3) := by decide +kernel
theorem dL_law_282 : decode cL_law 282 = .ok (.ifCond .ne 5, 3) := by decide +kernel
theorem dL_law_285 : decode cL_law 285 = .ok (.iconst 0, 1) := by decide +kernel
theorem dL_law_286 : decode cL_law 286 = .ok (.ireturn, 1) := by decide +kernel
theorem dL_law_287 : decode cL_law 287 = .ok (.aload_n 1, 1) := by decide +kernel
theorem dL_law_288 : decode cL_law 288 = .ok (.invokestatic 189, 3) := by decide +kernel
theorem dL_law_291 : decode cL_law 291 = .ok (.istore_n 3, 1) := by decide +kernel
theorem dL_law_292 : decode cL_law 292 = .ok (.iconst 0, 1) := by decide +kernel
theorem dL_law_293 : decode cL_law 293 = .ok (.istore 4, 2) := by decide +kernel
theorem dL_law_295 : decode cL_law 295 = .ok (.iload 4, 2) := by decide +kernel
theorem dL_law_297 : decode cL_law 297 = .ok (.bipush 14, 2) := by decide +kernel
theorem dL_law_299 : decode cL_law 299 = .ok (.if_icmp .ge 234, 3) := by decide +kernel
theorem dL_law_302 : decode cL_law 302 = .ok (.aload_n 0, 1) := by decide +kernel
theorem dL_law_303 : decode cL_law 303 = .ok (.iload_n 2, 1) := by decide +kernel
theorem dL_law_304 : decode cL_law 304 = .ok (.invokestatic 193, 3) := by decide +kernel
theorem dL_law_307 : decode cL_law 307 = .ok (.sipush 255, 3) := by decide +kernel
theorem dL_law_310 : decode cL_law 310 = .ok (.iand, 1) := by decide +kernel
theorem dL_law_311 : decode cL_law 311 = .ok (.istore 5, 2) := by decide +kernel
theorem dL_law_313 : decode cL_law 313 = .ok (.new 24, 3) := by decide +kernel
theorem dL_law_316 : decode cL_law 316 = .ok (.dup, 1) := by decide +kernel
theorem dL_law_317 : decode cL_law 317 = .ok (.aload_n 0, 1) := by decide +kernel
theorem dL_law_318 : decode cL_law 318 = .ok (.iload_n 2, 1) := by decide +kernel
theorem dL_law_319 : decode cL_law 319 = .ok (.iconst 1, 1) := by decide +kernel
theorem dL_law_320 : decode cL_law 320 = .ok (.iadd, 1) := by decide +kernel
theorem dL_law_321 : decode cL_law 321 = .ok (.invokestatic 193, 3) := by decide +kernel
theorem dL_law_324 : decode cL_law 324 = .ok (.invokespecial 197, 3) := by decide +kernel
theorem dL_law_327 : decode cL_law 327 = .ok (.astore 6, 2) := by decide +kernel
theorem dL_law_329 : decode cL_law 329 = .ok (.iinc 2 2, 3) := by decide +kernel
theorem dL_law_332 : decode cL_law 332 = .ok (.aload_n 1, 1) := by decide +kernel
theorem dL_law_333 : decode cL_law 333 = .ok (.bipush 15, 2) := by decide +kernel
theorem dL_law_335 : decode cL_law 335 = .ok (.invokevirtual 49, 3) := by decide +kernel
theorem dL_law_338 : decode cL_law 338 = .ok (.istore 7, 2) := by decide +kernel
theorem dL_law_340 : decode cL_law 340 = .ok (.aload_n 1, 1) := by decide +kernel
theorem dL_law_341 : decode cL_law 341 = .ok (.invokestatic 200, 3) := by decide +kernel
theorem dL_law_344 : decode cL_law 344 = .ok (.astore 8, 2) := by decide +kernel
theorem dL_law_346 : decode cL_law 346 = .ok (.aload_n 1, 1) := by decide +kernel
theorem dL_law_347 : decode cL_law 347 = .ok (.iload 5, 2) := by decide +kernel
theorem dL_law_349 : decode cL_law 349 = .ok (.aload 6, 2) := by decide +kernel
theorem dL_law_351 : decode cL_law 351 = .ok (.invokestatic 204, 3) := by decide +kernel
theorem dL_law_354 : decode cL_law 354 = .ok (.istore 9, 2) := by decide +kernel
theorem dL_law_356 : decode cL_law 356 = .ok (.iload 9, 2) := by decide +kernel
theorem dL_law_358 : decode cL_law 358 = .ok (.ifCond .ge 17, 3) := by decide +kernel
theorem dL_law_361 : decode cL_law 361 = .ok (.aload 8, 2) := by decide +kernel
theorem dL_law_363 : decode cL_law 363 = .ok (.aload_n 1, 1) := by decide +kernel
theorem dL_law_364 : decode cL_law 364 = .ok (.invokestatic 200, 3) := by decide +kernel
theorem dL_law_367 : decode cL_law 367 = .ok (.invokevirtual 130, 3) := by decide +kernel
theorem dL_law_370 : decode cL_law 370 = .ok (.ifCond .ne 5, 3) := by decide +kernel
theorem dL_law_373 : decode cL_law 373 = .ok (.iconst 0, 1) := by decide +kernel
theorem dL_law_374 : decode cL_law 374 = .ok (.ireturn, 1) := by decide +kernel
theorem dL_law_375 : decode cL_law 375 = .ok (.iload 9, 2) := by decide +kernel
theorem dL_law_377 : decode cL_law 377 = .ok (.ifCond .ge 8, 3) := by decide +kernel
theorem dL_law_380 : decode cL_law 380 = .ok (.iload 7, 2) := by decide +kernel
theorem dL_law_382 : decode cL_law 382 = .ok (.goto 12, 3) := by decide +kernel
theorem dL_law_385 : decode cL_law 385 = .ok (.bipush 8, 2) := by decide +kernel
theorem dL_law_387 : decode cL_law 387 = .ok (.iload 7, 2) := by decide +kernel
theorem dL_law_389 : decode cL_law 389 = .ok (.iconst 1, 1) := by decide +kernel
theorem dL_law_390 : decode cL_law 390 = .ok (.iadd, 1) := by decide +kernel
theorem dL_law_391 : decode cL_law 391 = .ok (.invokestatic 101, 3) := by decide +kernel
theorem dL_law_394 : decode cL_law 394 = .ok (.istore 7, 2) := by decide +kernel
theorem dL_law_396 : decode cL_law 396 = .ok (.iload 9, 2) := by decide +kernel
theorem dL_law_398 : decode cL_law 398 = .ok (.ifCond .lt 38, 3) := by decide +kernel
theorem dL_law_401 : decode cL_law 401 = .ok (.aload 6, 2) := by decide +kernel
theorem dL_law_403 : decode cL_law 403 = .ok (.iconst 4, 1) := by decide +kernel
theorem dL_law_404 : decode cL_law 404 = .ok (.invokevirtual 23, 3) := by decide +kernel
theorem dL_law_407 : decode cL_law 407 = .ok (.ifCond .ne 29, 3) := by decide +kernel
theorem dL_law_410 : decode cL_law 410 = .ok (.iinc 7 (-1), 3) := by decide +kernel
theorem dL_law_413 : decode cL_law 413 = .ok (.aload_n 1, 1) := by decide +kernel
theorem dL_law_414 : decode cL_law 414 = .ok (.invokevirtual 174, 3) := by decide +kernel
theorem dL_law_417 : decode cL_law 417 = .ok (.iload 7, 2) := by decide +kernel
theorem dL_law_419 : decode cL_law 419 = .ok (.if_icmp .ne 15, 3) := by decide +kernel
theorem dL_law_422 : decode cL_law 422 = .ok (.aload 8, 2) := by decide +kernel
theorem dL_law_424 : decode cL_law 424 = .ok (.aload_n 1, 1) := by decide +kernel
theorem dL_law_425 : decode cL_law 425 = .ok (.invokestatic 200, 3) := by decide +kernel
theorem dL_law_428 : decode cL_law 428 = .ok (.invokevirtual 130, 3) := by decide +kernel
theorem dL_law_431 : decode cL_law 431 = .ok (.ifCond .ne 5, 3) := by decide +kernel
theorem dL_law_434 : decode cL_law 434 = .ok (.iconst 0, 1) := by decide +kernel
theorem dL_law_435 : decode cL_law 435 = .ok (.ireturn, 1) := by decide +kernel
theorem dL_law_436 : decode cL_law 436 = .ok (.aload_n 1, 1) := by decide +kernel
theorem dL_law_437 : decode cL_law 437 = .ok (.bipush 15, 2) := by decide +kernel
theorem dL_law_439 : decode cL_law 439 = .ok (.invokevirtual 49, 3) := by decide +kernel
theorem dL_law_442 : decode cL_law 442 = .ok (.iload 7, 2) := by decide +kernel
theorem dL_law_444 : decode cL_law 444 = .ok (.if_icmp .ne 35, 3) := by decide +kernel
theorem dL_law_447 : decode cL_law 447 = .ok (.aload_n 1, 1) := by decide +kernel
theorem dL_law_448 : decode cL_law 448 = .ok (.bipush 14, 2) := by decide +kernel
theorem dL_law_450 : decode cL_law 450 = .ok (.invokevirtual 49, 3) := by decide +kernel
theorem dL_law_453 : decode cL_law 453 = .ok (.ifCond .ne 26, 3) := by decide +kernel
theorem dL_law_456 : decode cL_law 456 = .ok (.aload_n 1, 1) := by decide +kernel
theorem dL_law_457 : decode cL_law 457 = .ok (.aload 6, 2) := by decide +kernel
theorem dL_law_459 : decode cL_law 459 = .ok (.invokestatic 208, 3) := by decide +kernel
theorem dL_law_462 : decode cL_law 462 = .ok (.ifCond .eq 17, 3) := by decide +kernel
theorem dL_law_465 : decode cL_law 465 = .ok (.aload_n 1, 1) := by decide +kernel
theorem dL_law_466 : decode cL_law 466 = .ok (.invokestatic 212, 3) := by decide +kernel
theorem dL_law_469 : decode cL_law 469 = .ok (.ifCond .eq 10, 3) := by decide +kernel
theorem dL_law_472 : decode cL_law 472 = .ok (.aload_n 1, 1) := by decide +kernel
theorem dL_law_473 : decode cL_law 473 = .ok (.invokestatic 216, 3) := by decide +kernel
theorem dL_law_476 : decode cL_law 476 = .ok (.ifCond .ne 5, 3) := by decide +kernel
theorem dL_law_479 : decode cL_law 479 = .ok (.iconst 0, 1) := by decide +kernel
theorem dL_law_480 : decode cL_law 480 = .ok (.ireturn, 1) := by decide +kernel
theorem dL_law_481 : decode cL_law 481 = .ok (.iload 4, 2) := by decide +kernel
theorem dL_law_483 : decode cL_law 483 = .ok (.iconst 3, 1) := by decide +kernel
theorem dL_law_484 : decode cL_law 484 = .ok (.irem, 1) := by decide +kernel
theorem dL_law_485 : decode cL_law 485 = .ok (.iconst 2, 1) := by decide +kernel
theorem dL_law_486 : decode cL_law 486 = .ok (.if_icmp .ne 41, 3) := by decide +kernel
theorem dL_law_489 : decode cL_law 489 = .ok (.aload_n 1, 1) := by decide +kernel
theorem dL_law_490 : decode cL_law 490 = .ok (.invokestatic 200, 3) := by decide +kernel
theorem dL_law_493 : decode cL_law 493 = .ok (.astore 8, 2) := by decide +kernel
theorem dL_law_495 : decode cL_law 495 = .ok (.aload_n 1, 1) := by decide +kernel
theorem dL_law_496 : decode cL_law 496 = .ok (.aload 6, 2) := by decide +kernel
theorem dL_law_498 : decode cL_law 498 = .ok (.invokestatic 219, 3) := by decide +kernel
theorem dL_law_501 : decode cL_law 501 = .ok (.ifCond .eq 24, 3) := by decide +kernel
theorem dL_law_504 : decode cL_law 504 = .ok (.aload 8, 2) := by decide +kernel
theorem dL_law_506 : decode cL_law 506 = .ok (.aload_n 1, 1) := by decide +kernel
theorem dL_law_507 : decode cL_law 507 = .ok (.invokestatic 200, 3) := by decide +kernel
theorem dL_law_510 : decode cL_law 510 = .ok (.invokevirtual 130, 3) := by decide +kernel
theorem dL_law_513 : decode cL_law 513 = .ok (.ifCond .eq 12, 3) := by decide +kernel
theorem dL_law_516 : decode cL_law 516 = .ok (.aload_n 1, 1) := by decide +kernel
theorem dL_law_517 : decode cL_law 517 = .ok (.bipush 15, 2) := by decide +kernel
theorem dL_law_519 : decode cL_law 519 = .ok (.invokevirtual 49, 3) := by decide +kernel
theorem dL_law_522 : decode cL_law 522 = .ok (.ifCond .eq 5, 3) := by decide +kernel
theorem dL_law_525 : decode cL_law 525 = .ok (.iconst 0, 1) := by decide +kernel
theorem dL_law_526 : decode cL_law 526 = .ok (.ireturn, 1) := by decide +kernel
theorem dL_law_527 : decode cL_law 527 = .ok (.iinc 4 1, 3) := by decide +kernel
theorem dL_law_530 : decode cL_law 530 = .ok (.goto (-235), 3) := by decide +kernel
theorem dL_law_533 : decode cL_law 533 = .ok (.iload_n 3, 1) := by decide +kernel
theorem dL_law_534 : decode cL_law 534 = .ok (.ifCond .le 7, 3) := by decide +kernel
theorem dL_law_537 : decode cL_law 537 = .ok (.iconst 1, 1) := by decide +kernel
theorem dL_law_538 : decode cL_law 538 = .ok (.goto 4, 3) := by decide +kernel
theorem dL_law_541 : decode cL_law 541 = .ok (.iconst 0, 1) := by decide +kernel
theorem dL_law_542 : decode cL_law 542 = .ok (.ireturn, 1) := by decide +kernel
