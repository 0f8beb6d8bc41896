theorem dL_towns_273 : decode cL_towns 273 = .ok (.invokevirtual 110, 3) := by decide +kernel
theorem dL_towns_276 : decode cL_towns 276 = .ok (.isub, 1) := by decide +kernel
theorem dL_towns_277 : decode cL_towns 277 = .ok (.istore 7, 2) := by decide +kernel
theorem dL_towns_279 : decode cL_towns 279 = .ok (.iload 5, 2) := by decide +kernel
theorem dL_towns_281 : decode cL_towns 281 = .ok (.ifCond .eq 36, 3) := by decide +kernel
theorem dL_towns_284 : decode cL_towns 284 = .ok (.iload 7, 2) := by decide +kernel
theorem dL_towns_286 : decode cL_towns 286 = .ok (.ifCond .lt 31, 3) := by decide +kernel
theorem dL_towns_289 : decode cL_towns 289 = .ok (.iload 7, 2) := by decide +kernel
theorem dL_towns_291 : decode cL_towns 291 = .ok (.ifCond .ne 9, 3) := by decide +kernel
theorem dL_towns_294 : decode cL_towns 294 = .ok (.iload 6, 2) := by decide +kernel
theorem dL_towns_296 : decode cL_towns 296 = .ok (.iload_n 2, 1) := by decide +kernel
theorem dL_towns_297 : decode cL_towns 297 = .ok (.if_icmp .lt 20, 3) := by decide +kernel
theorem dL_towns_300 : decode cL_towns 300 = .ok (.aload_n 0, 1) := by decide +kernel
theorem dL_towns_301 : decode cL_towns 301 = .ok (.aload_n 0, 1) := by decide +kernel
theorem dL_towns_302 : decode cL_towns 302 = .ok (.iload_n 3, 1) := by decide +kernel
theorem dL_towns_303 : decode cL_towns 303 = .ok (.invokevirtual 83, 3) := by decide +kernel
theorem dL_towns_306 : decode cL_towns 306 = .ok (.invokestatic 86, 3) := by decide +kernel
theorem dL_towns_309 : decode cL_towns 309 = .ok (.aload 4, 2) := by decide +kernel
theorem dL_towns_311 : decode cL_towns 311 = .ok (.invokevirtual 130, 3) := by decide +kernel
theorem dL_towns_314 : decode cL_towns 314 = .ok (.ifCond .ne 5, 3) := by decide +kernel
theorem dL_towns_317 : decode cL_towns 317 = .ok (.iconst 0, 1) := by decide +kernel
theorem dL_towns_318 : decode cL_towns 318 = .ok (.ireturn, 1) := by decide +kernel
theorem dL_towns_319 : decode cL_towns 319 = .ok (.iload 6, 2) := by decide +kernel
theorem dL_towns_321 : decode cL_towns 321 = .ok (.istore_n 2, 1) := by decide +kernel
theorem dL_towns_322 : decode cL_towns 322 = .ok (.iinc 3 1, 3) := by decide +kernel
theorem dL_towns_325 : decode cL_towns 325 = .ok (.goto (-317), 3) := by decide +kernel
theorem dL_towns_328 : decode cL_towns 328 = .ok (.aload_n 1, 1) := by decide +kernel
theorem dL_towns_329 : decode cL_towns 329 = .ok (.iconst 0, 1) := by decide +kernel
theorem dL_towns_330 : decode cL_towns 330 = .ok (.iaload, 1) := by decide +kernel
theorem dL_towns_331 : decode cL_towns 331 = .ok (.i2d, 1) := by decide +kernel
theorem dL_towns_332 : decode cL_towns 332 = .ok (.ldc2_w 147, 3) := by decide +kernel
theorem dL_towns_335 : decode cL_towns 335 = .ok (.ddiv, 1) := by decide +kernel
theorem dL_towns_336 : decode cL_towns 336 = .ok (.dstore_n 3, 1) := by decide +kernel
theorem dL_towns_337 : decode cL_towns 337 = .ok (.aload_n 0, 1) := by decide +kernel
theorem dL_towns_338 : decode cL_towns 338 = .ok (.bipush 12, 2) := by decide +kernel
theorem dL_towns_340 : decode cL_towns 340 = .ok (.invokevirtual 49, 3) := by decide +kernel
theorem dL_towns_343 : decode cL_towns 343 = .ok (.ifCond .ne 7, 3) := by decide +kernel
theorem dL_towns_346 : decode cL_towns 346 = .ok (.fconst 0, 1) := by decide +kernel
theorem dL_towns_347 : decode cL_towns 347 = .ok (.goto 18, 3) := by decide +kernel
theorem dL_towns_350 : decode cL_towns 350 = .ok (.aload_n 0, 1) := by decide +kernel
theorem dL_towns_351 : decode cL_towns 351 = .ok (.bipush 13, 2) := by decide +kernel
theorem dL_towns_353 : decode cL_towns 353 = .ok (.invokevirtual 49, 3) := by decide +kernel
theorem dL_towns_356 : decode cL_towns 356 = .ok (.i2f, 1) := by decide +kernel
theorem dL_towns_357 : decode cL_towns 357 = .ok (.aload_n 0, 1) := by decide +kernel
theorem dL_towns_358 : decode cL_towns 358 = .ok (.bipush 12, 2) := by decide +kernel
theorem dL_towns_360 : decode cL_towns 360 = .ok (.invokevirtual 49, 3) := by decide +kernel
theorem dL_towns_363 : decode cL_towns 363 = .ok (.i2f, 1) := by decide +kernel
theorem dL_towns_364 : decode cL_towns 364 = .ok (.fdiv, 1) := by decide +kernel
theorem dL_towns_365 : decode cL_towns 365 = .ok (.fstore 5, 2) := by decide +kernel
theorem dL_towns_367 : decode cL_towns 367 = .ok (.aload_n 0, 1) := by decide +kernel
theorem dL_towns_368 : decode cL_towns 368 = .ok (.iconst 3, 1) := by decide +kernel
theorem dL_towns_369 : decode cL_towns 369 = .ok (.invokevirtual 49, 3) := by decide +kernel
theorem dL_towns_372 : decode cL_towns 372 = .ok (.aload_n 1, 1) := by decide +kernel
theorem dL_towns_373 : decode cL_towns 373 = .ok (.iconst 0, 1) := by decide +kernel
theorem dL_towns_374 : decode cL_towns 374 = .ok (.iaload, 1) := by decide +kernel
theorem dL_towns_375 : decode cL_towns 375 = .ok (.if_icmp .ne 41, 3) := by decide +kernel
theorem dL_towns_378 : decode cL_towns 378 = .ok (.aload_n 0, 1) := by decide +kernel
theorem dL_towns_379 : decode cL_towns 379 = .ok (.iconst 4, 1) := by decide +kernel
theorem dL_towns_380 : decode cL_towns 380 = .ok (.invokevirtual 49, 3) := by decide +kernel
theorem dL_towns_383 : decode cL_towns 383 = .ok (.aload_n 1, 1) := by decide +kernel
theorem dL_towns_384 : decode cL_towns 384 = .ok (.iconst 1, 1) := by decide +kernel
theorem dL_towns_385 : decode cL_towns 385 = .ok (.iaload, 1) := by decide +kernel
theorem dL_towns_386 : decode cL_towns 386 = .ok (.if_icmp .ne 30, 3) := by decide +kernel
theorem dL_towns_389 : decode cL_towns 389 = .ok (.aload_n 0, 1) := by decide +kernel
theorem dL_towns_390 : decode cL_towns 390 = .ok (.iconst 5, 1) := by decide +kernel
theorem dL_towns_391 : decode cL_towns 391 = .ok (.invokevirtual 49, 3) := by decide +kernel
theorem dL_towns_394 : decode cL_towns 394 = .ok (.aload_n 1, 1) := by decide +kernel
theorem dL_towns_395 : decode cL_towns 395 = .ok (.iconst 3, 1) := by decide +kernel
theorem dL_towns_396 : decode cL_towns 396 = .ok (.iaload, 1) := by decide +kernel
theorem dL_towns_397 : decode cL_towns 397 = .ok (.if_icmp .ne 19, 3) := by decide +kernel
theorem dL_towns_400 : decode cL_towns 400 = .ok (.aload_n 0, 1) := by decide +kernel
theorem dL_towns_401 : decode cL_towns 401 = .ok (.bipush 6, 2) := by decide +kernel
theorem dL_towns_403 : decode cL_towns 403 = .ok (.invokevirtual 49, 3) := by decide +kernel
theorem dL_towns_406 : decode cL_towns 406 = .ok (.aload_n 1, 1) := by decide +kernel
theorem dL_towns_407 : decode cL_towns 407 = .ok (.iconst 2, 1) := by decide +kernel
theorem dL_towns_408 : decode cL_towns 408 = .ok (.iaload, 1) := by decide +kernel
theorem dL_towns_409 : decode cL_towns 409 = .ok (.if_icmp .ne 7, 3) := by decide +kernel
theorem dL_towns_412 : decode cL_towns 412 = .ok (.iconst 1, 1) := by decide +kernel
theorem dL_towns_413 : decode cL_towns 413 = .ok (.goto 4, 3) := by decide +kernel
theorem dL_towns_416 : decode cL_towns 416 = .ok (.iconst 0, 1) := by decide +kernel
theorem dL_towns_417 : decode cL_towns 417 = .ok (.istore 6, 2) := by decide +kernel
theorem dL_towns_419 : decode cL_towns 419 = .ok (.bipush 50, 2) := by decide +kernel
theorem dL_towns_421 : decode cL_towns 421 = .ok (.aload_n 0, 1) := by decide +kernel
theorem dL_towns_422 : decode cL_towns 422 = .ok (.bipush 7, 2) := by decide +kernel
theorem dL_towns_424 : decode cL_towns 424 = .ok (.invokevirtual 49, 3) := by decide +kernel
theorem dL_towns_427 : decode cL_towns 427 = .ok (.iadd, 1) := by decide +kernel
theorem dL_towns_428 : decode cL_towns 428 = .ok (.aload_n 1, 1) := by decide +kernel
theorem dL_towns_429 : decode cL_towns 429 = .ok (.iconst 0, 1) := by decide +kernel
theorem dL_towns_430 : decode cL_towns 430 = .ok (.iaload, 1) := by decide +kernel
theorem dL_towns_431 : decode cL_towns 431 = .ok (.isub, 1) := by decide +kernel
theorem dL_towns_432 : decode cL_towns 432 = .ok (.aload_n 0, 1) := by decide +kernel
theorem dL_towns_433 : decode cL_towns 433 = .ok (.bipush 8, 2) := by decide +kernel
theorem dL_towns_435 : decode cL_towns 435 = .ok (.invokevirtual 49, 3) := by decide +kernel
theorem dL_towns_438 : decode cL_towns 438 = .ok (.isub, 1) := by decide +kernel
theorem dL_towns_439 : decode cL_towns 439 = .ok (.aload_n 0, 1) := by decide +kernel
theorem dL_towns_440 : decode cL_towns 440 = .ok (.bipush 9, 2) := by decide +kernel
theorem dL_towns_442 : decode cL_towns 442 = .ok (.invokevirtual 49, 3) := by decide +kernel
theorem dL_towns_445 : decode cL_towns 445 = .ok (.isub, 1) := by decide +kernel
theorem dL_towns_446 : decode cL_towns 446 = .ok (.istore 7, 2) := by decide +kernel
theorem dL_towns_448 : decode cL_towns 448 = .ok (.iload 6, 2) := by decide +kernel
theorem dL_towns_450 : decode cL_towns 450 = .ok (.ifCond .eq 89, 3) := by decide +kernel
theorem dL_towns_453 : decode cL_towns 453 = .ok (.iload 7, 2) := by decide +kernel
theorem dL_towns_455 : decode cL_towns 455 = .ok (.ifCond .lt 84, 3) := by decide +kernel
theorem dL_towns_458 : decode cL_towns 458 = .ok (.iload 7, 2) := by decide +kernel
theorem dL_towns_460 : decode cL_towns 460 = .ok (.iconst 4, 1) := by decide +kernel
theorem dL_towns_461 : decode cL_towns 461 = .ok (.irem, 1) := by decide +kernel
theorem dL_towns_462 : decode cL_towns 462 = .ok (.ifCond .ne 77, 3) := by decide +kernel
theorem dL_towns_465 : decode cL_towns 465 = .ok (.aload_n 0, 1) := by decide +kernel
theorem dL_towns_466 : decode cL_towns 466 = .ok (.bipush 13, 2) := by decide +kernel
theorem dL_towns_468 : decode cL_towns 468 = .ok (.invokevirtual 49, 3) := by decide +kernel
theorem dL_towns_471 : decode cL_towns 471 = .ok (.aload_n 0, 1) := by decide +kernel
theorem dL_towns_472 : decode cL_towns 472 = .ok (.bipush 12, 2) := by decide +kernel
theorem dL_towns_474 : decode cL_towns 474 = .ok (.invokevirtual 49, 3) := by decide +kernel
theorem dL_towns_477 : decode cL_towns 477 = .ok (.if_icmp .gt 62, 3) := by decide +kernel
theorem dL_towns_480 : decode cL_towns 480 = .ok (.aload_n 0, 1) := by decide +kernel
theorem dL_towns_481 : decode cL_towns 481 = .ok (.bipush 11, 2) := by decide +kernel
theorem dL_towns_483 : decode cL_towns 483 = .ok (.invokevirtual 49, 3) := by decide +kernel
theorem dL_towns_486 : decode cL_towns 486 = .ok (.iconst 2, 1) := by decide +kernel
theorem dL_towns_487 : decode cL_towns 487 = .ok (.irem, 1) := by decide +kernel
theorem dL_towns_488 : decode cL_towns 488 = .ok (.ifCond .ne 51, 3) := by decide +kernel
theorem dL_towns_491 : decode cL_towns 491 = .ok (.aload_n 0, 1) := by decide +kernel
theorem dL_towns_492 : decode cL_towns 492 = .ok (.invokevirtual 149, 3) := by decide +kernel
theorem dL_towns_495 : decode cL_towns 495 = .ok (.dload_n 3, 1) := by decide +kernel
theorem dL_towns_496 : decode cL_towns 496 = .ok (.dcmp .l, 1) := by decide +kernel
theorem dL_towns_497 : decode cL_towns 497 = .ok (.ifCond .ne 42, 3) := by decide +kernel
theorem dL_towns_500 : decode cL_towns 500 = .ok (.aload_n 0, 1) := by decide +kernel
theorem dL_towns_501 : decode cL_towns 501 = .ok (.invokevirtual 153, 3) := by decide +kernel
theorem dL_towns_504 : decode cL_towns 504 = .ok (.fload 5, 2) := by decide +kernel
theorem dL_towns_506 : decode cL_towns 506 = .ok (.fcmp .l, 1) := by decide +kernel
theorem dL_towns_507 : decode cL_towns 507 = .ok (.ifCond .ne 32, 3) := by decide +kernel
theorem dL_towns_510 : decode cL_towns 510 = .ok (.aload_n 0, 1) := by decide +kernel
theorem dL_towns_511 : decode cL_towns 511 = .ok (.invokevirtual 157, 3) := by decide +kernel
theorem dL_towns_514 : decode cL_towns 514 = .ok (.ifCond .eq 25, 3) := by decide +kernel
theorem dL_towns_517 : decode cL_towns 517 = .ok (.aload_n 0, 1) := by decide +kernel
theorem dL_towns_518 : decode cL_towns 518 = .ok (.iconst 5, 1) := by decide +kernel
theorem dL_towns_519 : decode cL_towns 519 = .ok (.invokevirtual 144, 3) := by decide +kernel
theorem dL_towns_522 : decode cL_towns 522 = .ok (.iconst (-1), 1) := by decide +kernel
theorem dL_towns_523 : decode cL_towns 523 = .ok (.if_icmp .ne 16, 3) := by decide +kernel
theorem dL_towns_526 : decode cL_towns 526 = .ok (.aload_n 0, 1) := by decide +kernel
theorem dL_towns_527 : decode cL_towns 527 = .ok (.iconst 5, 1) := by decide +kernel
theorem dL_towns_528 : decode cL_towns 528 = .ok (.invokevirtual 83, 3) := by decide +kernel
theorem dL_towns_531 : decode cL_towns 531 = .ok (.iconst (-1), 1) := by decide +kernel
theorem dL_towns_532 : decode cL_towns 532 = .ok (.if_icmp .ne 7, 3) := by decide +kernel
theorem dL_towns_535 : decode cL_towns 535 = .ok (.iconst 1, 1) := by decide +kernel
theorem dL_towns_536 : decode cL_towns 536 = .ok (.goto 4, 3) := by decide +kernel
theorem dL_towns_539 : decode cL_towns 539 = .ok (.iconst 0, 1) := by decide +kernel
theorem dL_towns_540 : decode cL_towns 540 = .ok (.ireturn, 1) := by decide +kernel
