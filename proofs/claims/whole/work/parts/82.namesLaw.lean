theorem dL_law_0 : decode cL_law 0 = .ok (.new 8, 3) := by decide +kernel
theorem dL_law_3 : decode cL_law 3 = .ok (.dup, 1) := by decide +kernel
theorem dL_law_4 : decode cL_law 4 = .ok (.invokespecial 177, 3) := by decide +kernel
theorem dL_law_7 : decode cL_law 7 = .ok (.astore_n 1, 1) := by decide +kernel
theorem dL_law_8 : decode cL_law 8 = .ok (.new 178, 3) := by decide +kernel
theorem dL_law_11 : decode cL_law 11 = .ok (.dup, 1) := by decide +kernel
theorem dL_law_12 : decode cL_law 12 = .ok (.invokespecial 180, 3) := by decide +kernel
theorem dL_law_15 : decode cL_law 15 = .ok (.astore_n 2, 1) := by decide +kernel
theorem dL_law_16 : decode cL_law 16 = .ok (.iconst 1, 1) := by decide +kernel
theorem dL_law_17 : decode cL_law 17 = .ok (.newarray .long, 2) := by decide +kernel
theorem dL_law_19 : decode cL_law 19 = .ok (.astore_n 3, 1) := by decide +kernel
theorem dL_law_20 : decode cL_law 20 = .ok (.iconst 1, 1) := by decide +kernel
theorem dL_law_21 : decode cL_law 21 = .ok (.newarray .double, 2) := by decide +kernel
theorem dL_law_23 : decode cL_law 23 = .ok (.astore 4, 2) := by decide +kernel
theorem dL_law_25 : decode cL_law 25 = .ok (.iconst 0, 1) := by decide +kernel
theorem dL_law_26 : decode cL_law 26 = .ok (.istore 5, 2) := by decide +kernel
theorem dL_law_28 : decode cL_law 28 = .ok (.iload 5, 2) := by decide +kernel
theorem dL_law_30 : decode cL_law 30 = .ok (.aload_n 0, 1) := by decide +kernel
theorem dL_law_31 : decode cL_law 31 = .ok (.arraylength, 1) := by decide +kernel
theorem dL_law_32 : decode cL_law 32 = .ok (.iconst 4, 1) := by decide +kernel
theorem dL_law_33 : decode cL_law 33 = .ok (.isub, 1) := by decide +kernel
theorem dL_law_34 : decode cL_law 34 = .ok (.if_icmp .gt 3282, 3) := by decide +kernel
theorem dL_law_37 : decode cL_law 37 = .ok (.aload_n 0, 1) := by decide +kernel
theorem dL_law_38 : decode cL_law 38 = .ok (.iload 5, 2) := by decide +kernel
theorem dL_law_40 : decode cL_law 40 = .ok (.iaload, 1) := by decide +kernel
theorem dL_law_41 : decode cL_law 41 = .ok (.bipush 63, 2) := by decide +kernel
theorem dL_law_43 : decode cL_law 43 = .ok (.iand, 1) := by decide +kernel
theorem dL_law_44 : decode cL_law 44 = .ok (.tableswitch 3266 0 56 #[244, 300, 368, 436, 504, 572, 640, 703, 771, 862, 918, 974, 1030, 1043, 1099, 1167, 1180, 1236, 1311, 1378, 1445, 1500, 1577, 1633, 1689, 1745, 1801, 1857, 1920, 1983, 2046, 2102, 2115, 2128, 2184, 2259, 2339, 2419, 2475, 2543, 2611, 2624, 2637, 2650, 2663, 2728, 2794, 2807, 2863, 2919, 2975, 3033, 3077, 3121, 3165, 3209, 3222], 244) := by decide +kernel
theorem dL_law_288 : decode cL_law 288 = .ok (.aload_n 1, 1) := by decide +kernel
theorem dL_law_289 : decode cL_law 289 = .ok (.aload_n 0, 1) := by decide +kernel
theorem dL_law_290 : decode cL_law 290 = .ok (.iload 5, 2) := by decide +kernel
theorem dL_law_292 : decode cL_law 292 = .ok (.iconst 1, 1) := by decide +kernel
theorem dL_law_293 : decode cL_law 293 = .ok (.iadd, 1) := by decide +kernel
theorem dL_law_294 : decode cL_law 294 = .ok (.iaload, 1) := by decide +kernel
theorem dL_law_295 : decode cL_law 295 = .ok (.aload_n 3, 1) := by decide +kernel
theorem dL_law_296 : decode cL_law 296 = .ok (.invokestatic 181, 3) := by decide +kernel
theorem dL_law_299 : decode cL_law 299 = .ok (.istore 6, 2) := by decide +kernel
theorem dL_law_301 : decode cL_law 301 = .ok (.aload_n 2, 1) := by decide +kernel
theorem dL_law_302 : decode cL_law 302 = .ok (.aload_n 0, 1) := by decide +kernel
theorem dL_law_303 : decode cL_law 303 = .ok (.iload 5, 2) := by decide +kernel
theorem dL_law_305 : decode cL_law 305 = .ok (.iconst 1, 1) := by decide +kernel
theorem dL_law_306 : decode cL_law 306 = .ok (.iadd, 1) := by decide +kernel
theorem dL_law_307 : decode cL_law 307 = .ok (.iaload, 1) := by decide +kernel
theorem dL_law_308 : decode cL_law 308 = .ok (.invokevirtual 186, 3) := by decide +kernel
theorem dL_law_311 : decode cL_law 311 = .ok (.istore 7, 2) := by decide +kernel
theorem dL_law_313 : decode cL_law 313 = .ok (.aload_n 2, 1) := by decide +kernel
theorem dL_law_314 : decode cL_law 314 = .ok (.invokevirtual 187, 3) := by decide +kernel
theorem dL_law_317 : decode cL_law 317 = .ok (.iload 6, 2) := by decide +kernel
theorem dL_law_319 : decode cL_law 319 = .ok (.if_icmp .eq 5, 3) := by decide +kernel
theorem dL_law_322 : decode cL_law 322 = .ok (.iconst 0, 1) := by decide +kernel
theorem dL_law_323 : decode cL_law 323 = .ok (.ireturn, 1) := by decide +kernel
theorem dL_law_324 : decode cL_law 324 = .ok (.iload 6, 2) := by decide +kernel
theorem dL_law_326 : decode cL_law 326 = .ok (.ifCond .ne 15, 3) := by decide +kernel
theorem dL_law_329 : decode cL_law 329 = .ok (.aload_n 3, 1) := by decide +kernel
theorem dL_law_330 : decode cL_law 330 = .ok (.iconst 0, 1) := by decide +kernel
theorem dL_law_331 : decode cL_law 331 = .ok (.laload, 1) := by decide +kernel
theorem dL_law_332 : decode cL_law 332 = .ok (.iload 7, 2) := by decide +kernel
theorem dL_law_334 : decode cL_law 334 = .ok (.i2l, 1) := by decide +kernel
theorem dL_law_335 : decode cL_law 335 = .ok (.lcmp, 1) := by decide +kernel
theorem dL_law_336 : decode cL_law 336 = .ok (.ifCond .eq 5, 3) := by decide +kernel
theorem dL_law_339 : decode cL_law 339 = .ok (.iconst 0, 1) := by decide +kernel
theorem dL_law_340 : decode cL_law 340 = .ok (.ireturn, 1) := by decide +kernel
theorem dL_law_341 : decode cL_law 341 = .ok (.goto 2969, 3) := by decide +kernel
theorem dL_law_344 : decode cL_law 344 = .ok (.aload_n 1, 1) := by decide +kernel
theorem dL_law_345 : decode cL_law 345 = .ok (.aload_n 0, 1) := by decide +kernel
theorem dL_law_346 : decode cL_law 346 = .ok (.iload 5, 2) := by decide +kernel
theorem dL_law_348 : decode cL_law 348 = .ok (.iconst 1, 1) := by decide +kernel
theorem dL_law_349 : decode cL_law 349 = .ok (.iadd, 1) := by decide +kernel
theorem dL_law_350 : decode cL_law 350 = .ok (.iaload, 1) := by decide +kernel
theorem dL_law_351 : decode cL_law 351 = .ok (.aload_n 0, 1) := by decide +kernel
theorem dL_law_352 : decode cL_law 352 = .ok (.iload 5, 2) := by decide +kernel
theorem dL_law_354 : decode cL_law 354 = .ok (.iconst 2, 1) := by decide +kernel
theorem dL_law_355 : decode cL_law 355 = .ok (.iadd, 1) := by decide +kernel
theorem dL_law_356 : decode cL_law 356 = .ok (.iaload, 1) := by decide +kernel
theorem dL_law_357 : decode cL_law 357 = .ok (.aload_n 3, 1) := by decide +kernel
theorem dL_law_358 : decode cL_law 358 = .ok (.invokestatic 190, 3) := by decide +kernel
theorem dL_law_361 : decode cL_law 361 = .ok (.istore 6, 2) := by decide +kernel
theorem dL_law_363 : decode cL_law 363 = .ok (.aload_n 2, 1) := by decide +kernel
theorem dL_law_364 : decode cL_law 364 = .ok (.aload_n 0, 1) := by decide +kernel
theorem dL_law_365 : decode cL_law 365 = .ok (.iload 5, 2) := by decide +kernel
theorem dL_law_367 : decode cL_law 367 = .ok (.iconst 1, 1) := by decide +kernel
theorem dL_law_368 : decode cL_law 368 = .ok (.iadd, 1) := by decide +kernel
theorem dL_law_369 : decode cL_law 369 = .ok (.iaload, 1) := by decide +kernel
theorem dL_law_370 : decode cL_law 370 = .ok (.aload_n 0, 1) := by decide +kernel
theorem dL_law_371 : decode cL_law 371 = .ok (.iload 5, 2) := by decide +kernel
theorem dL_law_373 : decode cL_law 373 = .ok (.iconst 2, 1) := by decide +kernel
theorem dL_law_374 : decode cL_law 374 = .ok (.iadd, 1) := by decide +kernel
theorem dL_law_375 : decode cL_law 375 = .ok (.iaload, 1) := by decide +kernel
theorem dL_law_376 : decode cL_law 376 = .ok (.invokevirtual 193, 3) := by decide +kernel
theorem dL_law_379 : decode cL_law 379 = .ok (.istore 7, 2) := by decide +kernel
theorem dL_law_381 : decode cL_law 381 = .ok (.aload_n 2, 1) := by decide +kernel
theorem dL_law_382 : decode cL_law 382 = .ok (.invokevirtual 187, 3) := by decide +kernel
theorem dL_law_385 : decode cL_law 385 = .ok (.iload 6, 2) := by decide +kernel
theorem dL_law_387 : decode cL_law 387 = .ok (.if_icmp .eq 5, 3) := by decide +kernel
theorem dL_law_390 : decode cL_law 390 = .ok (.iconst 0, 1) := by decide +kernel
theorem dL_law_391 : decode cL_law 391 = .ok (.ireturn, 1) := by decide +kernel
theorem dL_law_392 : decode cL_law 392 = .ok (.iload 6, 2) := by decide +kernel
theorem dL_law_394 : decode cL_law 394 = .ok (.ifCond .ne 15, 3) := by decide +kernel
theorem dL_law_397 : decode cL_law 397 = .ok (.aload_n 3, 1) := by decide +kernel
theorem dL_law_398 : decode cL_law 398 = .ok (.iconst 0, 1) := by decide +kernel
theorem dL_law_399 : decode cL_law 399 = .ok (.laload, 1) := by decide +kernel
theorem dL_law_400 : decode cL_law 400 = .ok (.iload 7, 2) := by decide +kernel
theorem dL_law_402 : decode cL_law 402 = .ok (.i2l, 1) := by decide +kernel
theorem dL_law_403 : decode cL_law 403 = .ok (.lcmp, 1) := by decide +kernel
theorem dL_law_404 : decode cL_law 404 = .ok (.ifCond .eq 5, 3) := by decide +kernel
theorem dL_law_407 : decode cL_law 407 = .ok (.iconst 0, 1) := by decide +kernel
theorem dL_law_408 : decode cL_law 408 = .ok (.ireturn, 1) := by decide +kernel
theorem dL_law_409 : decode cL_law 409 = .ok (.goto 2901, 3) := by decide +kernel
theorem dL_law_412 : decode cL_law 412 = .ok (.aload_n 1, 1) := by decide +kernel
theorem dL_law_413 : decode cL_law 413 = .ok (.aload_n 0, 1) := by decide +kernel
theorem dL_law_414 : decode cL_law 414 = .ok (.iload 5, 2) := by decide +kernel
theorem dL_law_416 : decode cL_law 416 = .ok (.iconst 1, 1) := by decide +kernel
theorem dL_law_417 : decode cL_law 417 = .ok (.iadd, 1) := by decide +kernel
theorem dL_law_418 : decode cL_law 418 = .ok (.iaload, 1) := by decide +kernel
theorem dL_law_419 : decode cL_law 419 = .ok (.aload_n 0, 1) := by decide +kernel
theorem dL_law_420 : decode cL_law 420 = .ok (.iload 5, 2) := by decide +kernel
theorem dL_law_422 : decode cL_law 422 = .ok (.iconst 2, 1) := by decide +kernel
theorem dL_law_423 : decode cL_law 423 = .ok (.iadd, 1) := by decide +kernel
theorem dL_law_424 : decode cL_law 424 = .ok (.iaload, 1) := by decide +kernel
theorem dL_law_425 : decode cL_law 425 = .ok (.aload_n 3, 1) := by decide +kernel
theorem dL_law_426 : decode cL_law 426 = .ok (.invokestatic 194, 3) := by decide +kernel
theorem dL_law_429 : decode cL_law 429 = .ok (.istore 6, 2) := by decide +kernel
theorem dL_law_431 : decode cL_law 431 = .ok (.aload_n 2, 1) := by decide +kernel
theorem dL_law_432 : decode cL_law 432 = .ok (.aload_n 0, 1) := by decide +kernel
theorem dL_law_433 : decode cL_law 433 = .ok (.iload 5, 2) := by decide +kernel
theorem dL_law_435 : decode cL_law 435 = .ok (.iconst 1, 1) := by decide +kernel
theorem dL_law_436 : decode cL_law 436 = .ok (.iadd, 1) := by decide +kernel
theorem dL_law_437 : decode cL_law 437 = .ok (.iaload, 1) := by decide +kernel
theorem dL_law_438 : decode cL_law 438 = .ok (.aload_n 0, 1) := by decide +kernel
theorem dL_law_439 : decode cL_law 439 = .ok (.iload 5, 2) := by decide +kernel
theorem dL_law_441 : decode cL_law 441 = .ok (.iconst 2, 1) := by decide +kernel
theorem dL_law_442 : decode cL_law 442 = .ok (.iadd, 1) := by decide +kernel
theorem dL_law_443 : decode cL_law 443 = .ok (.iaload, 1) := by decide +kernel
theorem dL_law_444 : decode cL_law 444 = .ok (.invokevirtual 196, 3) := by decide +kernel
theorem dL_law_447 : decode cL_law 447 = .ok (.istore 7, 2) := by decide +kernel
theorem dL_law_449 : decode cL_law 449 = .ok (.aload_n 2, 1) := by decide +kernel
theorem dL_law_450 : decode cL_law 450 = .ok (.invokevirtual 187, 3) := by decide +kernel
theorem dL_law_453 : decode cL_law 453 = .ok (.iload 6, 2) := by decide +kernel
theorem dL_law_455 : decode cL_law 455 = .ok (.if_icmp .eq 5, 3) := by decide +kernel
theorem dL_law_458 : decode cL_law 458 = .ok (.iconst 0, 1) := by decide +kernel
theorem dL_law_459 : decode cL_law 459 = .ok (.ireturn, 1) := by decide +kernel
theorem dL_law_460 : decode cL_law 460 = .ok (.iload 6, 2) := by decide +kernel
theorem dL_law_462 : decode cL_law 462 = .ok (.ifCond .ne 15, 3) := by decide +kernel
theorem dL_law_465 : decode cL_law 465 = .ok (.aload_n 3, 1) := by decide +kernel
theorem dL_law_466 : decode cL_law 466 = .ok (.iconst 0, 1) := by decide +kernel
theorem dL_law_467 : decode cL_law 467 = .ok (.laload, 1) := by decide +kernel
theorem dL_law_468 : decode cL_law 468 = .ok (.iload 7, 2) := by decide +kernel
theorem dL_law_470 : decode cL_law 470 = .ok (.i2l, 1) := by decide +kernel
theorem dL_law_471 : decode cL_law 471 = .ok (.lcmp, 1) := by decide +kernel
theorem dL_law_472 : decode cL_law 472 = .ok (.ifCond .eq 5, 3) := by decide +kernel
theorem dL_law_475 : decode cL_law 475 = .ok (.iconst 0, 1) := by decide +kernel
theorem dL_law_476 : decode cL_law 476 = .ok (.ireturn, 1) := by decide +kernel
theorem dL_law_477 : decode cL_law 477 = .ok (.goto 2833, 3) := by decide +kernel
theorem dL_law_480 : decode cL_law 480 = .ok (.aload_n 1, 1) := by decide +kernel
theorem dL_law_481 : decode cL_law 481 = .ok (.aload_n 0, 1) := by decide +kernel
theorem dL_law_482 : decode cL_law 482 = .ok (.iload 5, 2) := by decide +kernel
theorem dL_law_484 : decode cL_law 484 = .ok (.iconst 1, 1) := by decide +kernel
theorem dL_law_485 : decode cL_law 485 = .ok (.iadd, 1) := by decide +kernel
theorem dL_law_486 : decode cL_law 486 = .ok (.iaload, 1) := by decide +kernel
theorem dL_law_487 : decode cL_law 487 = .ok (.aload_n 0, 1) := by decide +kernel
theorem dL_law_488 : decode cL_law 488 = .ok (.iload 5, 2) := by decide +kernel
theorem dL_law_490 : decode cL_law 490 = .ok (.iconst 2, 1) := by decide +kernel
theorem dL_law_491 : decode cL_law 491 = .ok (.iadd, 1) := by decide +kernel
theorem dL_law_492 : decode cL_law 492 = .ok (.iaload, 1) := by decide +kernel
theorem dL_law_493 : decode cL_law 493 = .ok (.aload_n 3, 1) := by decide +kernel
theorem dL_law_494 : decode cL_law 494 = .ok (.invokestatic 197, 3) := by decide +kernel
theorem dL_law_497 : decode cL_law 497 = .ok (.istore 6, 2) := by decide +kernel
theorem dL_law_499 : decode cL_law 499 = .ok (.aload_n 2, 1) := by decide +kernel
theorem dL_law_500 : decode cL_law 500 = .ok (.aload_n 0, 1) := by decide +kernel
theorem dL_law_501 : decode cL_law 501 = .ok (.iload 5, 2) := by decide +kernel
theorem dL_law_503 : decode cL_law 503 = .ok (.iconst 1, 1) := by decide +kernel
theorem dL_law_504 : decode cL_law 504 = .ok (.iadd, 1) := by decide +kernel
theorem dL_law_505 : decode cL_law 505 = .ok (.iaload, 1) := by decide +kernel
theorem dL_law_506 : decode cL_law 506 = .ok (.aload_n 0, 1) := by decide +kernel
theorem dL_law_507 : decode cL_law 507 = .ok (.iload 5, 2) := by decide +kernel
theorem dL_law_509 : decode cL_law 509 = .ok (.iconst 2, 1) := by decide +kernel
theorem dL_law_510 : decode cL_law 510 = .ok (.iadd, 1) := by decide +kernel
theorem dL_law_511 : decode cL_law 511 = .ok (.iaload, 1) := by decide +kernel
theorem dL_law_512 : decode cL_law 512 = .ok (.invokevirtual 199, 3) := by decide +kernel
theorem dL_law_515 : decode cL_law 515 = .ok (.istore 7, 2) := by decide +kernel
theorem dL_law_517 : decode cL_law 517 = .ok (.aload_n 2, 1) := by decide +kernel
theorem dL_law_518 : decode cL_law 518 = .ok (.invokevirtual 187, 3) := by decide +kernel
theorem dL_law_521 : decode cL_law 521 = .ok (.iload 6, 2) := by decide +kernel
theorem dL_law_523 : decode cL_law 523 = .ok (.if_icmp .eq 5, 3) := by decide +kernel
theorem dL_law_526 : decode cL_law 526 = .ok (.iconst 0, 1) := by decide +kernel
theorem dL_law_527 : decode cL_law 527 = .ok (.ireturn, 1) := by decide +kernel
theorem dL_law_528 : decode cL_law 528 = .ok (.iload 6, 2) := by decide +kernel
theorem dL_law_530 : decode cL_law 530 = .ok (.ifCond .ne 15, 3) := by decide +kernel
theorem dL_law_533 : decode cL_law 533 = .ok (.aload_n 3, 1) := by decide +kernel
theorem dL_law_534 : decode cL_law 534 = .ok (.iconst 0, 1) := by decide +kernel
theorem dL_law_535 : decode cL_law 535 = .ok (.laload, 1) := by decide +kernel
theorem dL_law_536 : decode cL_law 536 = .ok (.iload 7, 2) := by decide +kernel
theorem dL_law_538 : decode cL_law 538 = .ok (.i2l, 1) := by decide +kernel
theorem dL_law_539 : decode cL_law 539 = .ok (.lcmp, 1) := by decide +kernel
theorem dL_law_540 : decode cL_law 540 = .ok (.ifCond .eq 5, 3) := by decide +kernel
theorem dL_law_543 : decode cL_law 543 = .ok (.iconst 0, 1) := by decide +kernel
theorem dL_law_544 : decode cL_law 544 = .ok (.ireturn, 1) := by decide +kernel
theorem dL_law_545 : decode cL_law 545 = .ok (.goto 2765, 3) := by decide +kernel
theorem dL_law_548 : decode cL_law 548 = .ok (.aload_n 1, 1) := by decide +kernel
theorem dL_law_549 : decode cL_law 549 = .ok (.aload_n 0, 1) := by decide +kernel
theorem dL_law_550 : decode cL_law 550 = .ok (.iload 5, 2) := by decide +kernel
theorem dL_law_552 : decode cL_law 552 = .ok (.iconst 1, 1) := by decide +kernel
theorem dL_law_553 : decode cL_law 553 = .ok (.iadd, 1) := by decide +kernel
theorem dL_law_554 : decode cL_law 554 = .ok (.iaload, 1) := by decide +kernel
theorem dL_law_555 : decode cL_law 555 = .ok (.aload_n 0, 1) := by decide +kernel
theorem dL_law_556 : decode cL_law 556 = .ok (.iload 5, 2) := by decide +kernel
theorem dL_law_558 : decode cL_law 558 = .ok (.iconst 2, 1) := by decide +kernel
theorem dL_law_559 : decode cL_law 559 = .ok (.iadd, 1) := by decide +kernel
theorem dL_law_560 : decode cL_law 560 = .ok (.iaload, 1) := by decide +kernel
theorem dL_law_561 : decode cL_law 561 = .ok (.aload_n 3, 1) := by decide +kernel
theorem dL_law_562 : decode cL_law 562 = .ok (.invokestatic 200, 3) := by decide +kernel
theorem dL_law_565 : decode cL_law 565 = .ok (.istore 6, 2) := by decide +kernel
theorem dL_law_567 : decode cL_law 567 = .ok (.aload_n 2, 1) := by decide +kernel
theorem dL_law_568 : decode cL_law 568 = .ok (.aload_n 0, 1) := by decide +kernel
theorem dL_law_569 : decode cL_law 569 = .ok (.iload 5, 2) := by decide +kernel
theorem dL_law_571 : decode cL_law 571 = .ok (.iconst 1, 1) := by decide +kernel
theorem dL_law_572 : decode cL_law 572 = .ok (.iadd, 1) := by decide +kernel
theorem dL_law_573 : decode cL_law 573 = .ok (.iaload, 1) := by decide +kernel
theorem dL_law_574 : decode cL_law 574 = .ok (.aload_n 0, 1) := by decide +kernel
theorem dL_law_575 : decode cL_law 575 = .ok (.iload 5, 2) := by decide +kernel
theorem dL_law_577 : decode cL_law 577 = .ok (.iconst 2, 1) := by decide +kernel
theorem dL_law_578 : decode cL_law 578 = .ok (.iadd, 1) := by decide +kernel
theorem dL_law_579 : decode cL_law 579 = .ok (.iaload, 1) := by decide +kernel
theorem dL_law_580 : decode cL_law 580 = .ok (.invokevirtual 202, 3) := by decide +kernel
theorem dL_law_583 : decode cL_law 583 = .ok (.istore 7, 2) := by decide +kernel
theorem dL_law_585 : decode cL_law 585 = .ok (.aload_n 2, 1) := by decide +kernel
theorem dL_law_586 : decode cL_law 586 = .ok (.invokevirtual 187, 3) := by decide +kernel
theorem dL_law_589 : decode cL_law 589 = .ok (.iload 6, 2) := by decide +kernel
theorem dL_law_591 : decode cL_law 591 = .ok (.if_icmp .eq 5, 3) := by decide +kernel
theorem dL_law_594 : decode cL_law 594 = .ok (.iconst 0, 1) := by decide +kernel
theorem dL_law_595 : decode cL_law 595 = .ok (.ireturn, 1) := by decide +kernel
theorem dL_law_596 : decode cL_law 596 = .ok (.iload 6, 2) := by decide +kernel
theorem dL_law_598 : decode cL_law 598 = .ok (.ifCond .ne 15, 3) := by decide +kernel
theorem dL_law_601 : decode cL_law 601 = .ok (.aload_n 3, 1) := by decide +kernel
theorem dL_law_602 : decode cL_law 602 = .ok (.iconst 0, 1) := by decide +kernel
theorem dL_law_603 : decode cL_law 603 = .ok (.laload, 1) := by decide +kernel
theorem dL_law_604 : decode cL_law 604 = .ok (.iload 7, 2) := by decide +kernel
theorem dL_law_606 : decode cL_law 606 = .ok (.i2l, 1) := by decide +kernel
theorem dL_law_607 : decode cL_law 607 = .ok (.lcmp, 1) := by decide +kernel
theorem dL_law_608 : decode cL_law 608 = .ok (.ifCond .eq 5, 3) := by decide +kernel
theorem dL_law_611 : decode cL_law 611 = .ok (.iconst 0, 1) := by decide +kernel
theorem dL_law_612 : decode cL_law 612 = .ok (.ireturn, 1) := by decide +kernel
theorem dL_law_613 : decode cL_law 613 = .ok (.goto 2697, 3) := by decide +kernel
theorem dL_law_616 : decode cL_law 616 = .ok (.aload_n 1, 1) := by decide +kernel
theorem dL_law_617 : decode cL_law 617 = .ok (.aload_n 0, 1) := by decide +kernel
theorem dL_law_618 : decode cL_law 618 = .ok (.iload 5, 2) := by decide +kernel
theorem dL_law_620 : decode cL_law 620 = .ok (.iconst 1, 1) := by decide +kernel
theorem dL_law_621 : decode cL_law 621 = .ok (.iadd, 1) := by decide +kernel
theorem dL_law_622 : decode cL_law 622 = .ok (.iaload, 1) := by decide +kernel
theorem dL_law_623 : decode cL_law 623 = .ok (.aload_n 0, 1) := by decide +kernel
theorem dL_law_624 : decode cL_law 624 = .ok (.iload 5, 2) := by decide +kernel
theorem dL_law_626 : decode cL_law 626 = .ok (.iconst 2, 1) := by decide +kernel
theorem dL_law_627 : decode cL_law 627 = .ok (.iadd, 1) := by decide +kernel
theorem dL_law_628 : decode cL_law 628 = .ok (.iaload, 1) := by decide +kernel
theorem dL_law_629 : decode cL_law 629 = .ok (.aload_n 3, 1) := by decide +kernel
theorem dL_law_630 : decode cL_law 630 = .ok (.invokestatic 203, 3) := by decide +kernel
theorem dL_law_633 : decode cL_law 633 = .ok (.istore 6, 2) := by decide +kernel
theorem dL_law_635 : decode cL_law 635 = .ok (.aload_n 2, 1) := by decide +kernel
theorem dL_law_636 : decode cL_law 636 = .ok (.aload_n 0, 1) := by decide +kernel
theorem dL_law_637 : decode cL_law 637 = .ok (.iload 5, 2) := by decide +kernel
theorem dL_law_639 : decode cL_law 639 = .ok (.iconst 1, 1) := by decide +kernel
theorem dL_law_640 : decode cL_law 640 = .ok (.iadd, 1) := by decide +kernel
theorem dL_law_641 : decode cL_law 641 = .ok (.iaload, 1) := by decide +kernel
theorem dL_law_642 : decode cL_law 642 = .ok (.aload_n 0, 1) := by decide +kernel
theorem dL_law_643 : decode cL_law 643 = .ok (.iload 5, 2) := by decide +kernel
theorem dL_law_645 : decode cL_law 645 = .ok (.iconst 2, 1) := by decide +kernel
theorem dL_law_646 : decode cL_law 646 = .ok (.iadd, 1) := by decide +kernel
theorem dL_law_647 : decode cL_law 647 = .ok (.iaload, 1) := by decide +kernel
theorem dL_law_648 : decode cL_law 648 = .ok (.invokevirtual 205, 3) := by decide +kernel
theorem dL_law_651 : decode cL_law 651 = .ok (.istore 7, 2) := by decide +kernel
theorem dL_law_653 : decode cL_law 653 = .ok (.aload_n 2, 1) := by decide +kernel
theorem dL_law_654 : decode cL_law 654 = .ok (.invokevirtual 187, 3) := by decide +kernel
theorem dL_law_657 : decode cL_law 657 = .ok (.iload 6, 2) := by decide +kernel
theorem dL_law_659 : decode cL_law 659 = .ok (.if_icmp .eq 5, 3) := by decide +kernel
theorem dL_law_662 : decode cL_law 662 = .ok (.iconst 0, 1) := by decide +kernel
theorem dL_law_663 : decode cL_law 663 = .ok (.ireturn, 1) := by decide +kernel
theorem dL_law_664 : decode cL_law 664 = .ok (.iload 6, 2) := by decide +kernel
theorem dL_law_666 : decode cL_law 666 = .ok (.ifCond .ne 15, 3) := by decide +kernel
theorem dL_law_669 : decode cL_law 669 = .ok (.aload_n 3, 1) := by decide +kernel
theorem dL_law_670 : decode cL_law 670 = .ok (.iconst 0, 1) := by decide +kernel
theorem dL_law_671 : decode cL_law 671 = .ok (.laload, 1) := by decide +kernel
theorem dL_law_672 : decode cL_law 672 = .ok (.iload 7, 2) := by decide +kernel
theorem dL_law_674 : decode cL_law 674 = .ok (.i2l, 1) := by decide +kernel
theorem dL_law_675 : decode cL_law 675 = .ok (.lcmp, 1) := by decide +kernel
theorem dL_law_676 : decode cL_law 676 = .ok (.ifCond .eq 5, 3) := by decide +kernel
theorem dL_law_679 : decode cL_law 679 = .ok (.iconst 0, 1) := by decide +kernel
theorem dL_law_680 : decode cL_law 680 = .ok (.ireturn, 1) := by decide +kernel
theorem dL_law_681 : decode cL_law 681 = .ok (.goto 2629, 3) := by decide +kernel
theorem dL_law_684 : decode cL_law 684 = .ok (.aload_n 1, 1) := by decide +kernel
theorem dL_law_685 : decode cL_law 685 = .ok (.aload_n 0, 1) := by decide +kernel
theorem dL_law_686 : decode cL_law 686 = .ok (.iload 5, 2) := by decide +kernel
theorem dL_law_688 : decode cL_law 688 = .ok (.iconst 1, 1) := by decide +kernel
theorem dL_law_689 : decode cL_law 689 = .ok (.iadd, 1) := by decide +kernel
theorem dL_law_690 : decode cL_law 690 = .ok (.iaload, 1) := by decide +kernel
theorem dL_law_691 : decode cL_law 691 = .ok (.aload_n 3, 1) := by decide +kernel
theorem dL_law_692 : decode cL_law 692 = .ok (.invokestatic 206, 3) := by decide +kernel
theorem dL_law_695 : decode cL_law 695 = .ok (.istore 6, 2) := by decide +kernel
theorem dL_law_697 : decode cL_law 697 = .ok (.aload_n 2, 1) := by decide +kernel
theorem dL_law_698 : decode cL_law 698 = .ok (.aload_n 0, 1) := by decide +kernel
theorem dL_law_699 : decode cL_law 699 = .ok (.iload 5, 2) := by decide +kernel
theorem dL_law_701 : decode cL_law 701 = .ok (.iconst 1, 1) := by decide +kernel
theorem dL_law_702 : decode cL_law 702 = .ok (.iadd, 1) := by decide +kernel
theorem dL_law_703 : decode cL_law 703 = .ok (.iaload, 1) := by decide +kernel
theorem dL_law_704 : decode cL_law 704 = .ok (.invokevirtual 208, 3) := by decide +kernel
theorem dL_law_707 : decode cL_law 707 = .ok (.istore 7, 2) := by decide +kernel
theorem dL_law_709 : decode cL_law 709 = .ok (.aload_n 2, 1) := by decide +kernel
theorem dL_law_710 : decode cL_law 710 = .ok (.invokevirtual 187, 3) := by decide +kernel
theorem dL_law_713 : decode cL_law 713 = .ok (.iload 6, 2) := by decide +kernel
theorem dL_law_715 : decode cL_law 715 = .ok (.if_icmp .eq 5, 3) := by decide +kernel
theorem dL_law_718 : decode cL_law 718 = .ok (.iconst 0, 1) := by decide +kernel
theorem dL_law_719 : decode cL_law 719 = .ok (.ireturn, 1) := by decide +kernel
theorem dL_law_720 : decode cL_law 720 = .ok (.iload 6, 2) := by decide +kernel
theorem dL_law_722 : decode cL_law 722 = .ok (.ifCond .ne 22, 3) := by decide +kernel
theorem dL_law_725 : decode cL_law 725 = .ok (.aload_n 3, 1) := by decide +kernel
theorem dL_law_726 : decode cL_law 726 = .ok (.iconst 0, 1) := by decide +kernel
theorem dL_law_727 : decode cL_law 727 = .ok (.laload, 1) := by decide +kernel
theorem dL_law_728 : decode cL_law 728 = .ok (.iload 7, 2) := by decide +kernel
theorem dL_law_730 : decode cL_law 730 = .ok (.ifCond .eq 7, 3) := by decide +kernel
theorem dL_law_733 : decode cL_law 733 = .ok (.lconst 1, 1) := by decide +kernel
theorem dL_law_734 : decode cL_law 734 = .ok (.goto 4, 3) := by decide +kernel
theorem dL_law_737 : decode cL_law 737 = .ok (.lconst 0, 1) := by decide +kernel
theorem dL_law_738 : decode cL_law 738 = .ok (.lcmp, 1) := by decide +kernel
theorem dL_law_739 : decode cL_law 739 = .ok (.ifCond .eq 5, 3) := by decide +kernel
theorem dL_law_742 : decode cL_law 742 = .ok (.iconst 0, 1) := by decide +kernel
theorem dL_law_743 : decode cL_law 743 = .ok (.ireturn, 1) := by decide +kernel
theorem dL_law_744 : decode cL_law 744 = .ok (.goto 2566, 3) := by decide +kernel
theorem dL_law_747 : decode cL_law 747 = .ok (.aload_n 1, 1) := by decide +kernel
theorem dL_law_748 : decode cL_law 748 = .ok (.aload_n 0, 1) := by decide +kernel
theorem dL_law_749 : decode cL_law 749 = .ok (.iload 5, 2) := by decide +kernel
theorem dL_law_751 : decode cL_law 751 = .ok (.iconst 1, 1) := by decide +kernel
theorem dL_law_752 : decode cL_law 752 = .ok (.iadd, 1) := by decide +kernel
theorem dL_law_753 : decode cL_law 753 = .ok (.iaload, 1) := by decide +kernel
theorem dL_law_754 : decode cL_law 754 = .ok (.aload_n 0, 1) := by decide +kernel
theorem dL_law_755 : decode cL_law 755 = .ok (.iload 5, 2) := by decide +kernel
theorem dL_law_757 : decode cL_law 757 = .ok (.iconst 2, 1) := by decide +kernel
theorem dL_law_758 : decode cL_law 758 = .ok (.iadd, 1) := by decide +kernel
theorem dL_law_759 : decode cL_law 759 = .ok (.iaload, 1) := by decide +kernel
theorem dL_law_760 : decode cL_law 760 = .ok (.aload_n 3, 1) := by decide +kernel
theorem dL_law_761 : decode cL_law 761 = .ok (.invokestatic 209, 3) := by decide +kernel
theorem dL_law_764 : decode cL_law 764 = .ok (.istore 6, 2) := by decide +kernel
theorem dL_law_766 : decode cL_law 766 = .ok (.aload_n 2, 1) := by decide +kernel
theorem dL_law_767 : decode cL_law 767 = .ok (.aload_n 0, 1) := by decide +kernel
theorem dL_law_768 : decode cL_law 768 = .ok (.iload 5, 2) := by decide +kernel
theorem dL_law_770 : decode cL_law 770 = .ok (.iconst 1, 1) := by decide +kernel
theorem dL_law_771 : decode cL_law 771 = .ok (.iadd, 1) := by decide +kernel
theorem dL_law_772 : decode cL_law 772 = .ok (.iaload, 1) := by decide +kernel
theorem dL_law_773 : decode cL_law 773 = .ok (.aload_n 0, 1) := by decide +kernel
theorem dL_law_774 : decode cL_law 774 = .ok (.iload 5, 2) := by decide +kernel
theorem dL_law_776 : decode cL_law 776 = .ok (.iconst 2, 1) := by decide +kernel
theorem dL_law_777 : decode cL_law 777 = .ok (.iadd, 1) := by decide +kernel
theorem dL_law_778 : decode cL_law 778 = .ok (.iaload, 1) := by decide +kernel
theorem dL_law_779 : decode cL_law 779 = .ok (.invokevirtual 211, 3) := by decide +kernel
theorem dL_law_782 : decode cL_law 782 = .ok (.istore 7, 2) := by decide +kernel
theorem dL_law_784 : decode cL_law 784 = .ok (.aload_n 2, 1) := by decide +kernel
theorem dL_law_785 : decode cL_law 785 = .ok (.invokevirtual 187, 3) := by decide +kernel
theorem dL_law_788 : decode cL_law 788 = .ok (.iload 6, 2) := by decide +kernel
theorem dL_law_790 : decode cL_law 790 = .ok (.if_icmp .eq 5, 3) := by decide +kernel
theorem dL_law_793 : decode cL_law 793 = .ok (.iconst 0, 1) := by decide +kernel
theorem dL_law_794 : decode cL_law 794 = .ok (.ireturn, 1) := by decide +kernel
theorem dL_law_795 : decode cL_law 795 = .ok (.iload 6, 2) := by decide +kernel
theorem dL_law_797 : decode cL_law 797 = .ok (.ifCond .ne 15, 3) := by decide +kernel
theorem dL_law_800 : decode cL_law 800 = .ok (.aload_n 3, 1) := by decide +kernel
theorem dL_law_801 : decode cL_law 801 = .ok (.iconst 0, 1) := by decide +kernel
theorem dL_law_802 : decode cL_law 802 = .ok (.laload, 1) := by decide +kernel
theorem dL_law_803 : decode cL_law 803 = .ok (.iload 7, 2) := by decide +kernel
theorem dL_law_805 : decode cL_law 805 = .ok (.i2l, 1) := by decide +kernel
theorem dL_law_806 : decode cL_law 806 = .ok (.lcmp, 1) := by decide +kernel
theorem dL_law_807 : decode cL_law 807 = .ok (.ifCond .eq 5, 3) := by decide +kernel
theorem dL_law_810 : decode cL_law 810 = .ok (.iconst 0, 1) := by decide +kernel
theorem dL_law_811 : decode cL_law 811 = .ok (.ireturn, 1) := by decide +kernel
theorem dL_law_812 : decode cL_law 812 = .ok (.goto 2498, 3) := by decide +kernel
theorem dL_law_815 : decode cL_law 815 = .ok (.aload_n 1, 1) := by decide +kernel
theorem dL_law_816 : decode cL_law 816 = .ok (.aload_n 0, 1) := by decide +kernel
theorem dL_law_817 : decode cL_law 817 = .ok (.iload 5, 2) := by decide +kernel
theorem dL_law_819 : decode cL_law 819 = .ok (.iconst 1, 1) := by decide +kernel
theorem dL_law_820 : decode cL_law 820 = .ok (.iadd, 1) := by decide +kernel
theorem dL_law_821 : decode cL_law 821 = .ok (.iaload, 1) := by decide +kernel
theorem dL_law_822 : decode cL_law 822 = .ok (.aload_n 0, 1) := by decide +kernel
theorem dL_law_823 : decode cL_law 823 = .ok (.iload 5, 2) := by decide +kernel
theorem dL_law_825 : decode cL_law 825 = .ok (.iconst 2, 1) := by decide +kernel
theorem dL_law_826 : decode cL_law 826 = .ok (.iadd, 1) := by decide +kernel
theorem dL_law_827 : decode cL_law 827 = .ok (.iaload, 1) := by decide +kernel
theorem dL_law_828 : decode cL_law 828 = .ok (.ifCond .eq 7, 3) := by decide +kernel
theorem dL_law_831 : decode cL_law 831 = .ok (.iconst 1, 1) := by decide +kernel
theorem dL_law_832 : decode cL_law 832 = .ok (.goto 4, 3) := by decide +kernel
theorem dL_law_835 : decode cL_law 835 = .ok (.iconst 0, 1) := by decide +kernel
theorem dL_law_836 : decode cL_law 836 = .ok (.aload_n 3, 1) := by decide +kernel
theorem dL_law_837 : decode cL_law 837 = .ok (.invokestatic 212, 3) := by decide +kernel
theorem dL_law_840 : decode cL_law 840 = .ok (.istore 6, 2) := by decide +kernel
theorem dL_law_842 : decode cL_law 842 = .ok (.aload_n 2, 1) := by decide +kernel
theorem dL_law_843 : decode cL_law 843 = .ok (.aload_n 0, 1) := by decide +kernel
theorem dL_law_844 : decode cL_law 844 = .ok (.iload 5, 2) := by decide +kernel
theorem dL_law_846 : decode cL_law 846 = .ok (.iconst 1, 1) := by decide +kernel
theorem dL_law_847 : decode cL_law 847 = .ok (.iadd, 1) := by decide +kernel
theorem dL_law_848 : decode cL_law 848 = .ok (.iaload, 1) := by decide +kernel
theorem dL_law_849 : decode cL_law 849 = .ok (.aload_n 0, 1) := by decide +kernel
theorem dL_law_850 : decode cL_law 850 = .ok (.iload 5, 2) := by decide +kernel
theorem dL_law_852 : decode cL_law 852 = .ok (.iconst 2, 1) := by decide +kernel
theorem dL_law_853 : decode cL_law 853 = .ok (.iadd, 1) := by decide +kernel
theorem dL_law_854 : decode cL_law 854 = .ok (.iaload, 1) := by decide +kernel
theorem dL_law_855 : decode cL_law 855 = .ok (.ifCond .eq 7, 3) := by decide +kernel
theorem dL_law_858 : decode cL_law 858 = .ok (.iconst 1, 1) := by decide +kernel
theorem dL_law_859 : decode cL_law 859 = .ok (.goto 4, 3) := by decide +kernel
theorem dL_law_862 : decode cL_law 862 = .ok (.iconst 0, 1) := by decide +kernel
theorem dL_law_863 : decode cL_law 863 = .ok (.invokevirtual 215, 3) := by decide +kernel
theorem dL_law_866 : decode cL_law 866 = .ok (.istore 7, 2) := by decide +kernel
theorem dL_law_868 : decode cL_law 868 = .ok (.aload_n 2, 1) := by decide +kernel
theorem dL_law_869 : decode cL_law 869 = .ok (.invokevirtual 187, 3) := by decide +kernel
theorem dL_law_872 : decode cL_law 872 = .ok (.iload 6, 2) := by decide +kernel
theorem dL_law_874 : decode cL_law 874 = .ok (.if_icmp .eq 5, 3) := by decide +kernel
theorem dL_law_877 : decode cL_law 877 = .ok (.iconst 0, 1) := by decide +kernel
theorem dL_law_878 : decode cL_law 878 = .ok (.ireturn, 1) := by decide +kernel
theorem dL_law_879 : decode cL_law 879 = .ok (.iload 6, 2) := by decide +kernel
theorem dL_law_881 : decode cL_law 881 = .ok (.ifCond .ne 22, 3) := by decide +kernel
theorem dL_law_884 : decode cL_law 884 = .ok (.aload_n 3, 1) := by decide +kernel
theorem dL_law_885 : decode cL_law 885 = .ok (.iconst 0, 1) := by decide +kernel
theorem dL_law_886 : decode cL_law 886 = .ok (.laload, 1) := by decide +kernel
theorem dL_law_887 : decode cL_law 887 = .ok (.iload 7, 2) := by decide +kernel
theorem dL_law_889 : decode cL_law 889 = .ok (.ifCond .eq 7, 3) := by decide +kernel
theorem dL_law_892 : decode cL_law 892 = .ok (.lconst 1, 1) := by decide +kernel
theorem dL_law_893 : decode cL_law 893 = .ok (.goto 4, 3) := by decide +kernel
theorem dL_law_896 : decode cL_law 896 = .ok (.lconst 0, 1) := by decide +kernel
theorem dL_law_897 : decode cL_law 897 = .ok (.lcmp, 1) := by decide +kernel
theorem dL_law_898 : decode cL_law 898 = .ok (.ifCond .eq 5, 3) := by decide +kernel
theorem dL_law_901 : decode cL_law 901 = .ok (.iconst 0, 1) := by decide +kernel
theorem dL_law_902 : decode cL_law 902 = .ok (.ireturn, 1) := by decide +kernel
theorem dL_law_903 : decode cL_law 903 = .ok (.goto 2407, 3) := by decide +kernel
theorem dL_law_906 : decode cL_law 906 = .ok (.aload_n 1, 1) := by decide +kernel
theorem dL_law_907 : decode cL_law 907 = .ok (.aload_n 0, 1) := by decide +kernel
theorem dL_law_908 : decode cL_law 908 = .ok (.iload 5, 2) := by decide +kernel
theorem dL_law_910 : decode cL_law 910 = .ok (.iconst 1, 1) := by decide +kernel
theorem dL_law_911 : decode cL_law 911 = .ok (.iadd, 1) := by decide +kernel
theorem dL_law_912 : decode cL_law 912 = .ok (.iaload, 1) := by decide +kernel
theorem dL_law_913 : decode cL_law 913 = .ok (.aload_n 3, 1) := by decide +kernel
theorem dL_law_914 : decode cL_law 914 = .ok (.invokestatic 216, 3) := by decide +kernel
theorem dL_law_917 : decode cL_law 917 = .ok (.istore 6, 2) := by decide +kernel
theorem dL_law_919 : decode cL_law 919 = .ok (.aload_n 2, 1) := by decide +kernel
theorem dL_law_920 : decode cL_law 920 = .ok (.aload_n 0, 1) := by decide +kernel
theorem dL_law_921 : decode cL_law 921 = .ok (.iload 5, 2) := by decide +kernel
theorem dL_law_923 : decode cL_law 923 = .ok (.iconst 1, 1) := by decide +kernel
theorem dL_law_924 : decode cL_law 924 = .ok (.iadd, 1) := by decide +kernel
theorem dL_law_925 : decode cL_law 925 = .ok (.iaload, 1) := by decide +kernel
theorem dL_law_926 : decode cL_law 926 = .ok (.invokevirtual 218, 3) := by decide +kernel
theorem dL_law_929 : decode cL_law 929 = .ok (.istore 7, 2) := by decide +kernel
theorem dL_law_931 : decode cL_law 931 = .ok (.aload_n 2, 1) := by decide +kernel
theorem dL_law_932 : decode cL_law 932 = .ok (.invokevirtual 187, 3) := by decide +kernel
theorem dL_law_935 : decode cL_law 935 = .ok (.iload 6, 2) := by decide +kernel
theorem dL_law_937 : decode cL_law 937 = .ok (.if_icmp .eq 5, 3) := by decide +kernel
theorem dL_law_940 : decode cL_law 940 = .ok (.iconst 0, 1) := by decide +kernel
theorem dL_law_941 : decode cL_law 941 = .ok (.ireturn, 1) := by decide +kernel
theorem dL_law_942 : decode cL_law 942 = .ok (.iload 6, 2) := by decide +kernel
theorem dL_law_944 : decode cL_law 944 = .ok (.ifCond .ne 15, 3) := by decide +kernel
theorem dL_law_947 : decode cL_law 947 = .ok (.aload_n 3, 1) := by decide +kernel
theorem dL_law_948 : decode cL_law 948 = .ok (.iconst 0, 1) := by decide +kernel
theorem dL_law_949 : decode cL_law 949 = .ok (.laload, 1) := by decide +kernel
theorem dL_law_950 : decode cL_law 950 = .ok (.iload 7, 2) := by decide +kernel
theorem dL_law_952 : decode cL_law 952 = .ok (.i2l, 1) := by decide +kernel
theorem dL_law_953 : decode cL_law 953 = .ok (.lcmp, 1) := by decide +kernel
theorem dL_law_954 : decode cL_law 954 = .ok (.ifCond .eq 5, 3) := by decide +kernel
theorem dL_law_957 : decode cL_law 957 = .ok (.iconst 0, 1) := by decide +kernel
theorem dL_law_958 : decode cL_law 958 = .ok (.ireturn, 1) := by decide +kernel
theorem dL_law_959 : decode cL_law 959 = .ok (.goto 2351, 3) := by decide +kernel
theorem dL_law_962 : decode cL_law 962 = .ok (.aload_n 1, 1) := by decide +kernel
theorem dL_law_963 : decode cL_law 963 = .ok (.aload_n 0, 1) := by decide +kernel
theorem dL_law_964 : decode cL_law 964 = .ok (.iload 5, 2) := by decide +kernel
theorem dL_law_966 : decode cL_law 966 = .ok (.iconst 1, 1) := by decide +kernel
theorem dL_law_967 : decode cL_law 967 = .ok (.iadd, 1) := by decide +kernel
theorem dL_law_968 : decode cL_law 968 = .ok (.iaload, 1) := by decide +kernel
theorem dL_law_969 : decode cL_law 969 = .ok (.aload_n 3, 1) := by decide +kernel
theorem dL_law_970 : decode cL_law 970 = .ok (.invokestatic 219, 3) := by decide +kernel
theorem dL_law_973 : decode cL_law 973 = .ok (.istore 6, 2) := by decide +kernel
theorem dL_law_975 : decode cL_law 975 = .ok (.aload_n 2, 1) := by decide +kernel
theorem dL_law_976 : decode cL_law 976 = .ok (.aload_n 0, 1) := by decide +kernel
theorem dL_law_977 : decode cL_law 977 = .ok (.iload 5, 2) := by decide +kernel
theorem dL_law_979 : decode cL_law 979 = .ok (.iconst 1, 1) := by decide +kernel
theorem dL_law_980 : decode cL_law 980 = .ok (.iadd, 1) := by decide +kernel
theorem dL_law_981 : decode cL_law 981 = .ok (.iaload, 1) := by decide +kernel
theorem dL_law_982 : decode cL_law 982 = .ok (.invokevirtual 221, 3) := by decide +kernel
theorem dL_law_985 : decode cL_law 985 = .ok (.istore 7, 2) := by decide +kernel
theorem dL_law_987 : decode cL_law 987 = .ok (.aload_n 2, 1) := by decide +kernel
theorem dL_law_988 : decode cL_law 988 = .ok (.invokevirtual 187, 3) := by decide +kernel
theorem dL_law_991 : decode cL_law 991 = .ok (.iload 6, 2) := by decide +kernel
theorem dL_law_993 : decode cL_law 993 = .ok (.if_icmp .eq 5, 3) := by decide +kernel
theorem dL_law_996 : decode cL_law 996 = .ok (.iconst 0, 1) := by decide +kernel
theorem dL_law_997 : decode cL_law 997 = .ok (.ireturn, 1) := by decide +kernel
theorem dL_law_998 : decode cL_law 998 = .ok (.iload 6, 2) := by decide +kernel
theorem dL_law_1000 : decode cL_law 1000 = .ok (.ifCond .ne 15, 3) := by decide +kernel
theorem dL_law_1003 : decode cL_law 1003 = .ok (.aload_n 3, 1) := by decide +kernel
theorem dL_law_1004 : decode cL_law 1004 = .ok (.iconst 0, 1) := by decide +kernel
theorem dL_law_1005 : decode cL_law 1005 = .ok (.laload, 1) := by decide +kernel
theorem dL_law_1006 : decode cL_law 1006 = .ok (.iload 7, 2) := by decide +kernel
theorem dL_law_1008 : decode cL_law 1008 = .ok (.i2l, 1) := by decide +kernel
theorem dL_law_1009 : decode cL_law 1009 = .ok (.lcmp, 1) := by decide +kernel
theorem dL_law_1010 : decode cL_law 1010 = .ok (.ifCond .eq 5, 3) := by decide +kernel
theorem dL_law_1013 : decode cL_law 1013 = .ok (.iconst 0, 1) := by decide +kernel
theorem dL_law_1014 : decode cL_law 1014 = .ok (.ireturn, 1) := by decide +kernel
theorem dL_law_1015 : decode cL_law 1015 = .ok (.goto 2295, 3) := by decide +kernel
theorem dL_law_1018 : decode cL_law 1018 = .ok (.aload_n 1, 1) := by decide +kernel
theorem dL_law_1019 : decode cL_law 1019 = .ok (.aload_n 0, 1) := by decide +kernel
theorem dL_law_1020 : decode cL_law 1020 = .ok (.iload 5, 2) := by decide +kernel
theorem dL_law_1022 : decode cL_law 1022 = .ok (.iconst 1, 1) := by decide +kernel
theorem dL_law_1023 : decode cL_law 1023 = .ok (.iadd, 1) := by decide +kernel
theorem dL_law_1024 : decode cL_law 1024 = .ok (.iaload, 1) := by decide +kernel
theorem dL_law_1025 : decode cL_law 1025 = .ok (.aload_n 3, 1) := by decide +kernel
theorem dL_law_1026 : decode cL_law 1026 = .ok (.invokestatic 222, 3) := by decide +kernel
theorem dL_law_1029 : decode cL_law 1029 = .ok (.istore 6, 2) := by decide +kernel
theorem dL_law_1031 : decode cL_law 1031 = .ok (.aload_n 2, 1) := by decide +kernel
theorem dL_law_1032 : decode cL_law 1032 = .ok (.aload_n 0, 1) := by decide +kernel
theorem dL_law_1033 : decode cL_law 1033 = .ok (.iload 5, 2) := by decide +kernel
theorem dL_law_1035 : decode cL_law 1035 = .ok (.iconst 1, 1) := by decide +kernel
theorem dL_law_1036 : decode cL_law 1036 = .ok (.iadd, 1) := by decide +kernel
theorem dL_law_1037 : decode cL_law 1037 = .ok (.iaload, 1) := by decide +kernel
theorem dL_law_1038 : decode cL_law 1038 = .ok (.invokevirtual 224, 3) := by decide +kernel
theorem dL_law_1041 : decode cL_law 1041 = .ok (.istore 7, 2) := by decide +kernel
theorem dL_law_1043 : decode cL_law 1043 = .ok (.aload_n 2, 1) := by decide +kernel
theorem dL_law_1044 : decode cL_law 1044 = .ok (.invokevirtual 187, 3) := by decide +kernel
theorem dL_law_1047 : decode cL_law 1047 = .ok (.iload 6, 2) := by decide +kernel
theorem dL_law_1049 : decode cL_law 1049 = .ok (.if_icmp .eq 5, 3) := by decide +kernel
theorem dL_law_1052 : decode cL_law 1052 = .ok (.iconst 0, 1) := by decide +kernel
theorem dL_law_1053 : decode cL_law 1053 = .ok (.ireturn, 1) := by decide +kernel
theorem dL_law_1054 : decode cL_law 1054 = .ok (.iload 6, 2) := by decide +kernel
theorem dL_law_1056 : decode cL_law 1056 = .ok (.ifCond .ne 15, 3) := by decide +kernel
theorem dL_law_1059 : decode cL_law 1059 = .ok (.aload_n 3, 1) := by decide +kernel
theorem dL_law_1060 : decode cL_law 1060 = .ok (.iconst 0, 1) := by decide +kernel
theorem dL_law_1061 : decode cL_law 1061 = .ok (.laload, 1) := by decide +kernel
theorem dL_law_1062 : decode cL_law 1062 = .ok (.iload 7, 2) := by decide +kernel
theorem dL_law_1064 : decode cL_law 1064 = .ok (.i2l, 1) := by decide +kernel
theorem dL_law_1065 : decode cL_law 1065 = .ok (.lcmp, 1) := by decide +kernel
theorem dL_law_1066 : decode cL_law 1066 = .ok (.ifCond .eq 5, 3) := by decide +kernel
theorem dL_law_1069 : decode cL_law 1069 = .ok (.iconst 0, 1) := by decide +kernel
theorem dL_law_1070 : decode cL_law 1070 = .ok (.ireturn, 1) := by decide +kernel
theorem dL_law_1071 : decode cL_law 1071 = .ok (.goto 2239, 3) := by decide +kernel
theorem dL_law_1074 : decode cL_law 1074 = .ok (.aload_n 1, 1) := by decide +kernel
theorem dL_law_1075 : decode cL_law 1075 = .ok (.invokevirtual 225, 3) := by decide +kernel
theorem dL_law_1078 : decode cL_law 1078 = .ok (.aload_n 2, 1) := by decide +kernel
theorem dL_law_1079 : decode cL_law 1079 = .ok (.invokevirtual 228, 3) := by decide +kernel
theorem dL_law_1082 : decode cL_law 1082 = .ok (.if_icmp .eq 2228, 3) := by decide +kernel
theorem dL_law_1085 : decode cL_law 1085 = .ok (.iconst 0, 1) := by decide +kernel
theorem dL_law_1086 : decode cL_law 1086 = .ok (.ireturn, 1) := by decide +kernel
theorem dL_law_1087 : decode cL_law 1087 = .ok (.aload_n 1, 1) := by decide +kernel
theorem dL_law_1088 : decode cL_law 1088 = .ok (.aload_n 0, 1) := by decide +kernel
theorem dL_law_1089 : decode cL_law 1089 = .ok (.iload 5, 2) := by decide +kernel
theorem dL_law_1091 : decode cL_law 1091 = .ok (.iconst 1, 1) := by decide +kernel
theorem dL_law_1092 : decode cL_law 1092 = .ok (.iadd, 1) := by decide +kernel
theorem dL_law_1093 : decode cL_law 1093 = .ok (.iaload, 1) := by decide +kernel
theorem dL_law_1094 : decode cL_law 1094 = .ok (.aload_n 3, 1) := by decide +kernel
theorem dL_law_1095 : decode cL_law 1095 = .ok (.invokestatic 229, 3) := by decide +kernel
theorem dL_law_1098 : decode cL_law 1098 = .ok (.istore 6, 2) := by decide +kernel
theorem dL_law_1100 : decode cL_law 1100 = .ok (.aload_n 2, 1) := by decide +kernel
theorem dL_law_1101 : decode cL_law 1101 = .ok (.aload_n 0, 1) := by decide +kernel
theorem dL_law_1102 : decode cL_law 1102 = .ok (.iload 5, 2) := by decide +kernel
theorem dL_law_1104 : decode cL_law 1104 = .ok (.iconst 1, 1) := by decide +kernel
theorem dL_law_1105 : decode cL_law 1105 = .ok (.iadd, 1) := by decide +kernel
theorem dL_law_1106 : decode cL_law 1106 = .ok (.iaload, 1) := by decide +kernel
theorem dL_law_1107 : decode cL_law 1107 = .ok (.invokevirtual 231, 3) := by decide +kernel
theorem dL_law_1110 : decode cL_law 1110 = .ok (.istore 7, 2) := by decide +kernel
theorem dL_law_1112 : decode cL_law 1112 = .ok (.aload_n 2, 1) := by decide +kernel
theorem dL_law_1113 : decode cL_law 1113 = .ok (.invokevirtual 187, 3) := by decide +kernel
theorem dL_law_1116 : decode cL_law 1116 = .ok (.iload 6, 2) := by decide +kernel
theorem dL_law_1118 : decode cL_law 1118 = .ok (.if_icmp .eq 5, 3) := by decide +kernel
theorem dL_law_1121 : decode cL_law 1121 = .ok (.iconst 0, 1) := by decide +kernel
theorem dL_law_1122 : decode cL_law 1122 = .ok (.ireturn, 1) := by decide +kernel
theorem dL_law_1123 : decode cL_law 1123 = .ok (.iload 6, 2) := by decide +kernel
theorem dL_law_1125 : decode cL_law 1125 = .ok (.ifCond .ne 15, 3) := by decide +kernel
theorem dL_law_1128 : decode cL_law 1128 = .ok (.aload_n 3, 1) := by decide +kernel
theorem dL_law_1129 : decode cL_law 1129 = .ok (.iconst 0, 1) := by decide +kernel
theorem dL_law_1130 : decode cL_law 1130 = .ok (.laload, 1) := by decide +kernel
theorem dL_law_1131 : decode cL_law 1131 = .ok (.iload 7, 2) := by decide +kernel
theorem dL_law_1133 : decode cL_law 1133 = .ok (.i2l, 1) := by decide +kernel
theorem dL_law_1134 : decode cL_law 1134 = .ok (.lcmp, 1) := by decide +kernel
theorem dL_law_1135 : decode cL_law 1135 = .ok (.ifCond .eq 5, 3) := by decide +kernel
theorem dL_law_1138 : decode cL_law 1138 = .ok (.iconst 0, 1) := by decide +kernel
theorem dL_law_1139 : decode cL_law 1139 = .ok (.ireturn, 1) := by decide +kernel
theorem dL_law_1140 : decode cL_law 1140 = .ok (.goto 2170, 3) := by decide +kernel
theorem dL_law_1143 : decode cL_law 1143 = .ok (.aload_n 1, 1) := by decide +kernel
theorem dL_law_1144 : decode cL_law 1144 = .ok (.aload_n 0, 1) := by decide +kernel
theorem dL_law_1145 : decode cL_law 1145 = .ok (.iload 5, 2) := by decide +kernel
theorem dL_law_1147 : decode cL_law 1147 = .ok (.iconst 1, 1) := by decide +kernel
theorem dL_law_1148 : decode cL_law 1148 = .ok (.iadd, 1) := by decide +kernel
theorem dL_law_1149 : decode cL_law 1149 = .ok (.iaload, 1) := by decide +kernel
theorem dL_law_1150 : decode cL_law 1150 = .ok (.aload_n 0, 1) := by decide +kernel
theorem dL_law_1151 : decode cL_law 1151 = .ok (.iload 5, 2) := by decide +kernel
theorem dL_law_1153 : decode cL_law 1153 = .ok (.iconst 2, 1) := by decide +kernel
theorem dL_law_1154 : decode cL_law 1154 = .ok (.iadd, 1) := by decide +kernel
theorem dL_law_1155 : decode cL_law 1155 = .ok (.iaload, 1) := by decide +kernel
theorem dL_law_1156 : decode cL_law 1156 = .ok (.aload_n 3, 1) := by decide +kernel
theorem dL_law_1157 : decode cL_law 1157 = .ok (.invokestatic 232, 3) := by decide +kernel
theorem dL_law_1160 : decode cL_law 1160 = .ok (.istore 6, 2) := by decide +kernel
theorem dL_law_1162 : decode cL_law 1162 = .ok (.aload_n 2, 1) := by decide +kernel
theorem dL_law_1163 : decode cL_law 1163 = .ok (.aload_n 0, 1) := by decide +kernel
theorem dL_law_1164 : decode cL_law 1164 = .ok (.iload 5, 2) := by decide +kernel
theorem dL_law_1166 : decode cL_law 1166 = .ok (.iconst 1, 1) := by decide +kernel
theorem dL_law_1167 : decode cL_law 1167 = .ok (.iadd, 1) := by decide +kernel
theorem dL_law_1168 : decode cL_law 1168 = .ok (.iaload, 1) := by decide +kernel
theorem dL_law_1169 : decode cL_law 1169 = .ok (.aload_n 0, 1) := by decide +kernel
theorem dL_law_1170 : decode cL_law 1170 = .ok (.iload 5, 2) := by decide +kernel
theorem dL_law_1172 : decode cL_law 1172 = .ok (.iconst 2, 1) := by decide +kernel
theorem dL_law_1173 : decode cL_law 1173 = .ok (.iadd, 1) := by decide +kernel
theorem dL_law_1174 : decode cL_law 1174 = .ok (.iaload, 1) := by decide +kernel
theorem dL_law_1175 : decode cL_law 1175 = .ok (.invokevirtual 234, 3) := by decide +kernel
theorem dL_law_1178 : decode cL_law 1178 = .ok (.istore 7, 2) := by decide +kernel
theorem dL_law_1180 : decode cL_law 1180 = .ok (.aload_n 2, 1) := by decide +kernel
theorem dL_law_1181 : decode cL_law 1181 = .ok (.invokevirtual 187, 3) := by decide +kernel
theorem dL_law_1184 : decode cL_law 1184 = .ok (.iload 6, 2) := by decide +kernel
theorem dL_law_1186 : decode cL_law 1186 = .ok (.if_icmp .eq 5, 3) := by decide +kernel
theorem dL_law_1189 : decode cL_law 1189 = .ok (.iconst 0, 1) := by decide +kernel
theorem dL_law_1190 : decode cL_law 1190 = .ok (.ireturn, 1) := by decide +kernel
theorem dL_law_1191 : decode cL_law 1191 = .ok (.iload 6, 2) := by decide +kernel
theorem dL_law_1193 : decode cL_law 1193 = .ok (.ifCond .ne 15, 3) := by decide +kernel
theorem dL_law_1196 : decode cL_law 1196 = .ok (.aload_n 3, 1) := by decide +kernel
theorem dL_law_1197 : decode cL_law 1197 = .ok (.iconst 0, 1) := by decide +kernel
theorem dL_law_1198 : decode cL_law 1198 = .ok (.laload, 1) := by decide +kernel
theorem dL_law_1199 : decode cL_law 1199 = .ok (.iload 7, 2) := by decide +kernel
theorem dL_law_1201 : decode cL_law 1201 = .ok (.i2l, 1) := by decide +kernel
theorem dL_law_1202 : decode cL_law 1202 = .ok (.lcmp, 1) := by decide +kernel
theorem dL_law_1203 : decode cL_law 1203 = .ok (.ifCond .eq 5, 3) := by decide +kernel
theorem dL_law_1206 : decode cL_law 1206 = .ok (.iconst 0, 1) := by decide +kernel
theorem dL_law_1207 : decode cL_law 1207 = .ok (.ireturn, 1) := by decide +kernel
theorem dL_law_1208 : decode cL_law 1208 = .ok (.goto 2102, 3) := by decide +kernel
theorem dL_law_1211 : decode cL_law 1211 = .ok (.aload_n 1, 1) := by decide +kernel
theorem dL_law_1212 : decode cL_law 1212 = .ok (.invokevirtual 235, 3) := by decide +kernel
theorem dL_law_1215 : decode cL_law 1215 = .ok (.aload_n 2, 1) := by decide +kernel
theorem dL_law_1216 : decode cL_law 1216 = .ok (.invokevirtual 238, 3) := by decide +kernel
theorem dL_law_1219 : decode cL_law 1219 = .ok (.if_icmp .eq 2091, 3) := by decide +kernel
theorem dL_law_1222 : decode cL_law 1222 = .ok (.iconst 0, 1) := by decide +kernel
theorem dL_law_1223 : decode cL_law 1223 = .ok (.ireturn, 1) := by decide +kernel
theorem dL_law_1224 : decode cL_law 1224 = .ok (.aload_n 1, 1) := by decide +kernel
theorem dL_law_1225 : decode cL_law 1225 = .ok (.aload_n 0, 1) := by decide +kernel
theorem dL_law_1226 : decode cL_law 1226 = .ok (.iload 5, 2) := by decide +kernel
theorem dL_law_1228 : decode cL_law 1228 = .ok (.iconst 1, 1) := by decide +kernel
theorem dL_law_1229 : decode cL_law 1229 = .ok (.iadd, 1) := by decide +kernel
theorem dL_law_1230 : decode cL_law 1230 = .ok (.iaload, 1) := by decide +kernel
theorem dL_law_1231 : decode cL_law 1231 = .ok (.aload_n 3, 1) := by decide +kernel
theorem dL_law_1232 : decode cL_law 1232 = .ok (.invokestatic 239, 3) := by decide +kernel
theorem dL_law_1235 : decode cL_law 1235 = .ok (.istore 6, 2) := by decide +kernel
theorem dL_law_1237 : decode cL_law 1237 = .ok (.aload_n 2, 1) := by decide +kernel
theorem dL_law_1238 : decode cL_law 1238 = .ok (.aload_n 0, 1) := by decide +kernel
theorem dL_law_1239 : decode cL_law 1239 = .ok (.iload 5, 2) := by decide +kernel
theorem dL_law_1241 : decode cL_law 1241 = .ok (.iconst 1, 1) := by decide +kernel
theorem dL_law_1242 : decode cL_law 1242 = .ok (.iadd, 1) := by decide +kernel
theorem dL_law_1243 : decode cL_law 1243 = .ok (.iaload, 1) := by decide +kernel
theorem dL_law_1244 : decode cL_law 1244 = .ok (.invokevirtual 241, 3) := by decide +kernel
theorem dL_law_1247 : decode cL_law 1247 = .ok (.istore 7, 2) := by decide +kernel
theorem dL_law_1249 : decode cL_law 1249 = .ok (.aload_n 2, 1) := by decide +kernel
theorem dL_law_1250 : decode cL_law 1250 = .ok (.invokevirtual 187, 3) := by decide +kernel
theorem dL_law_1253 : decode cL_law 1253 = .ok (.iload 6, 2) := by decide +kernel
theorem dL_law_1255 : decode cL_law 1255 = .ok (.if_icmp .eq 5, 3) := by decide +kernel
theorem dL_law_1258 : decode cL_law 1258 = .ok (.iconst 0, 1) := by decide +kernel
theorem dL_law_1259 : decode cL_law 1259 = .ok (.ireturn, 1) := by decide +kernel
theorem dL_law_1260 : decode cL_law 1260 = .ok (.iload 6, 2) := by decide +kernel
theorem dL_law_1262 : decode cL_law 1262 = .ok (.ifCond .ne 15, 3) := by decide +kernel
theorem dL_law_1265 : decode cL_law 1265 = .ok (.aload_n 3, 1) := by decide +kernel
theorem dL_law_1266 : decode cL_law 1266 = .ok (.iconst 0, 1) := by decide +kernel
theorem dL_law_1267 : decode cL_law 1267 = .ok (.laload, 1) := by decide +kernel
theorem dL_law_1268 : decode cL_law 1268 = .ok (.iload 7, 2) := by decide +kernel
theorem dL_law_1270 : decode cL_law 1270 = .ok (.i2l, 1) := by decide +kernel
theorem dL_law_1271 : decode cL_law 1271 = .ok (.lcmp, 1) := by decide +kernel
theorem dL_law_1272 : decode cL_law 1272 = .ok (.ifCond .eq 5, 3) := by decide +kernel
theorem dL_law_1275 : decode cL_law 1275 = .ok (.iconst 0, 1) := by decide +kernel
theorem dL_law_1276 : decode cL_law 1276 = .ok (.ireturn, 1) := by decide +kernel
theorem dL_law_1277 : decode cL_law 1277 = .ok (.goto 2033, 3) := by decide +kernel
theorem dL_law_1280 : decode cL_law 1280 = .ok (.aload_n 1, 1) := by decide +kernel
theorem dL_law_1281 : decode cL_law 1281 = .ok (.aload_n 0, 1) := by decide +kernel
theorem dL_law_1282 : decode cL_law 1282 = .ok (.iload 5, 2) := by decide +kernel
theorem dL_law_1284 : decode cL_law 1284 = .ok (.iconst 1, 1) := by decide +kernel
theorem dL_law_1285 : decode cL_law 1285 = .ok (.iadd, 1) := by decide +kernel
theorem dL_law_1286 : decode cL_law 1286 = .ok (.iaload, 1) := by decide +kernel
theorem dL_law_1287 : decode cL_law 1287 = .ok (.aload_n 0, 1) := by decide +kernel
theorem dL_law_1288 : decode cL_law 1288 = .ok (.iload 5, 2) := by decide +kernel
theorem dL_law_1290 : decode cL_law 1290 = .ok (.iconst 2, 1) := by decide +kernel
theorem dL_law_1291 : decode cL_law 1291 = .ok (.iadd, 1) := by decide +kernel
theorem dL_law_1292 : decode cL_law 1292 = .ok (.iaload, 1) := by decide +kernel
theorem dL_law_1293 : decode cL_law 1293 = .ok (.aload_n 3, 1) := by decide +kernel
theorem dL_law_1294 : decode cL_law 1294 = .ok (.invokestatic 242, 3) := by decide +kernel
theorem dL_law_1297 : decode cL_law 1297 = .ok (.istore 6, 2) := by decide +kernel
theorem dL_law_1299 : decode cL_law 1299 = .ok (.aload_n 2, 1) := by decide +kernel
theorem dL_law_1300 : decode cL_law 1300 = .ok (.aload_n 0, 1) := by decide +kernel
theorem dL_law_1301 : decode cL_law 1301 = .ok (.iload 5, 2) := by decide +kernel
theorem dL_law_1303 : decode cL_law 1303 = .ok (.iconst 1, 1) := by decide +kernel
theorem dL_law_1304 : decode cL_law 1304 = .ok (.iadd, 1) := by decide +kernel
theorem dL_law_1305 : decode cL_law 1305 = .ok (.iaload, 1) := by decide +kernel
theorem dL_law_1306 : decode cL_law 1306 = .ok (.aload_n 0, 1) := by decide +kernel
theorem dL_law_1307 : decode cL_law 1307 = .ok (.iload 5, 2) := by decide +kernel
theorem dL_law_1309 : decode cL_law 1309 = .ok (.iconst 2, 1) := by decide +kernel
theorem dL_law_1310 : decode cL_law 1310 = .ok (.iadd, 1) := by decide +kernel
theorem dL_law_1311 : decode cL_law 1311 = .ok (.iaload, 1) := by decide +kernel
theorem dL_law_1312 : decode cL_law 1312 = .ok (.invokevirtual 244, 3) := by decide +kernel
theorem dL_law_1315 : decode cL_law 1315 = .ok (.istore 7, 2) := by decide +kernel
theorem dL_law_1317 : decode cL_law 1317 = .ok (.aload_n 2, 1) := by decide +kernel
theorem dL_law_1318 : decode cL_law 1318 = .ok (.invokevirtual 187, 3) := by decide +kernel
theorem dL_law_1321 : decode cL_law 1321 = .ok (.iload 6, 2) := by decide +kernel
theorem dL_law_1323 : decode cL_law 1323 = .ok (.if_icmp .eq 5, 3) := by decide +kernel
theorem dL_law_1326 : decode cL_law 1326 = .ok (.iconst 0, 1) := by decide +kernel
theorem dL_law_1327 : decode cL_law 1327 = .ok (.ireturn, 1) := by decide +kernel
theorem dL_law_1328 : decode cL_law 1328 = .ok (.iload 6, 2) := by decide +kernel
theorem dL_law_1330 : decode cL_law 1330 = .ok (.ifCond .ne 22, 3) := by decide +kernel
theorem dL_law_1333 : decode cL_law 1333 = .ok (.aload_n 3, 1) := by decide +kernel
theorem dL_law_1334 : decode cL_law 1334 = .ok (.iconst 0, 1) := by decide +kernel
theorem dL_law_1335 : decode cL_law 1335 = .ok (.laload, 1) := by decide +kernel
theorem dL_law_1336 : decode cL_law 1336 = .ok (.iload 7, 2) := by decide +kernel
theorem dL_law_1338 : decode cL_law 1338 = .ok (.ifCond .eq 7, 3) := by decide +kernel
theorem dL_law_1341 : decode cL_law 1341 = .ok (.lconst 1, 1) := by decide +kernel
theorem dL_law_1342 : decode cL_law 1342 = .ok (.goto 4, 3) := by decide +kernel
theorem dL_law_1345 : decode cL_law 1345 = .ok (.lconst 0, 1) := by decide +kernel
theorem dL_law_1346 : decode cL_law 1346 = .ok (.lcmp, 1) := by decide +kernel
theorem dL_law_1347 : decode cL_law 1347 = .ok (.ifCond .eq 5, 3) := by decide +kernel
theorem dL_law_1350 : decode cL_law 1350 = .ok (.iconst 0, 1) := by decide +kernel
theorem dL_law_1351 : decode cL_law 1351 = .ok (.ireturn, 1) := by decide +kernel
theorem dL_law_1352 : decode cL_law 1352 = .ok (.goto 1958, 3) := by decide +kernel
theorem dL_law_1355 : decode cL_law 1355 = .ok (.aload_n 1, 1) := by decide +kernel
theorem dL_law_1356 : decode cL_law 1356 = .ok (.aload_n 0, 1) := by decide +kernel
theorem dL_law_1357 : decode cL_law 1357 = .ok (.iload 5, 2) := by decide +kernel
theorem dL_law_1359 : decode cL_law 1359 = .ok (.iconst 1, 1) := by decide +kernel
theorem dL_law_1360 : decode cL_law 1360 = .ok (.iadd, 1) := by decide +kernel
theorem dL_law_1361 : decode cL_law 1361 = .ok (.iaload, 1) := by decide +kernel
theorem dL_law_1362 : decode cL_law 1362 = .ok (.aload_n 0, 1) := by decide +kernel
theorem dL_law_1363 : decode cL_law 1363 = .ok (.iload 5, 2) := by decide +kernel
theorem dL_law_1365 : decode cL_law 1365 = .ok (.iconst 2, 1) := by decide +kernel
theorem dL_law_1366 : decode cL_law 1366 = .ok (.iadd, 1) := by decide +kernel
theorem dL_law_1367 : decode cL_law 1367 = .ok (.iaload, 1) := by decide +kernel
theorem dL_law_1368 : decode cL_law 1368 = .ok (.aload_n 3, 1) := by decide +kernel
theorem dL_law_1369 : decode cL_law 1369 = .ok (.invokestatic 245, 3) := by decide +kernel
theorem dL_law_1372 : decode cL_law 1372 = .ok (.istore 6, 2) := by decide +kernel
theorem dL_law_1374 : decode cL_law 1374 = .ok (.aload_n 2, 1) := by decide +kernel
theorem dL_law_1375 : decode cL_law 1375 = .ok (.aload_n 0, 1) := by decide +kernel
theorem dL_law_1376 : decode cL_law 1376 = .ok (.iload 5, 2) := by decide +kernel
theorem dL_law_1378 : decode cL_law 1378 = .ok (.iconst 1, 1) := by decide +kernel
theorem dL_law_1379 : decode cL_law 1379 = .ok (.iadd, 1) := by decide +kernel
theorem dL_law_1380 : decode cL_law 1380 = .ok (.iaload, 1) := by decide +kernel
theorem dL_law_1381 : decode cL_law 1381 = .ok (.aload_n 0, 1) := by decide +kernel
theorem dL_law_1382 : decode cL_law 1382 = .ok (.iload 5, 2) := by decide +kernel
theorem dL_law_1384 : decode cL_law 1384 = .ok (.iconst 2, 1) := by decide +kernel
theorem dL_law_1385 : decode cL_law 1385 = .ok (.iadd, 1) := by decide +kernel
theorem dL_law_1386 : decode cL_law 1386 = .ok (.iaload, 1) := by decide +kernel
theorem dL_law_1387 : decode cL_law 1387 = .ok (.invokevirtual 247, 3) := by decide +kernel
theorem dL_law_1390 : decode cL_law 1390 = .ok (.lstore 7, 2) := by decide +kernel
theorem dL_law_1392 : decode cL_law 1392 = .ok (.aload_n 2, 1) := by decide +kernel
theorem dL_law_1393 : decode cL_law 1393 = .ok (.invokevirtual 187, 3) := by decide +kernel
theorem dL_law_1396 : decode cL_law 1396 = .ok (.iload 6, 2) := by decide +kernel
theorem dL_law_1398 : decode cL_law 1398 = .ok (.if_icmp .eq 5, 3) := by decide +kernel
theorem dL_law_1401 : decode cL_law 1401 = .ok (.iconst 0, 1) := by decide +kernel
theorem dL_law_1402 : decode cL_law 1402 = .ok (.ireturn, 1) := by decide +kernel
theorem dL_law_1403 : decode cL_law 1403 = .ok (.iload 6, 2) := by decide +kernel
theorem dL_law_1405 : decode cL_law 1405 = .ok (.ifCond .ne 14, 3) := by decide +kernel
theorem dL_law_1408 : decode cL_law 1408 = .ok (.aload_n 3, 1) := by decide +kernel
theorem dL_law_1409 : decode cL_law 1409 = .ok (.iconst 0, 1) := by decide +kernel
theorem dL_law_1410 : decode cL_law 1410 = .ok (.laload, 1) := by decide +kernel
theorem dL_law_1411 : decode cL_law 1411 = .ok (.lload 7, 2) := by decide +kernel
theorem dL_law_1413 : decode cL_law 1413 = .ok (.lcmp, 1) := by decide +kernel
theorem dL_law_1414 : decode cL_law 1414 = .ok (.ifCond .eq 5, 3) := by decide +kernel
theorem dL_law_1417 : decode cL_law 1417 = .ok (.iconst 0, 1) := by decide +kernel
theorem dL_law_1418 : decode cL_law 1418 = .ok (.ireturn, 1) := by decide +kernel
theorem dL_law_1419 : decode cL_law 1419 = .ok (.goto 1891, 3) := by decide +kernel
theorem dL_law_1422 : decode cL_law 1422 = .ok (.aload_n 1, 1) := by decide +kernel
theorem dL_law_1423 : decode cL_law 1423 = .ok (.aload_n 0, 1) := by decide +kernel
theorem dL_law_1424 : decode cL_law 1424 = .ok (.iload 5, 2) := by decide +kernel
theorem dL_law_1426 : decode cL_law 1426 = .ok (.iconst 1, 1) := by decide +kernel
theorem dL_law_1427 : decode cL_law 1427 = .ok (.iadd, 1) := by decide +kernel
theorem dL_law_1428 : decode cL_law 1428 = .ok (.iaload, 1) := by decide +kernel
theorem dL_law_1429 : decode cL_law 1429 = .ok (.aload_n 0, 1) := by decide +kernel
theorem dL_law_1430 : decode cL_law 1430 = .ok (.iload 5, 2) := by decide +kernel
theorem dL_law_1432 : decode cL_law 1432 = .ok (.iconst 2, 1) := by decide +kernel
theorem dL_law_1433 : decode cL_law 1433 = .ok (.iadd, 1) := by decide +kernel
theorem dL_law_1434 : decode cL_law 1434 = .ok (.iaload, 1) := by decide +kernel
theorem dL_law_1435 : decode cL_law 1435 = .ok (.aload_n 3, 1) := by decide +kernel
theorem dL_law_1436 : decode cL_law 1436 = .ok (.invokestatic 248, 3) := by decide +kernel
theorem dL_law_1439 : decode cL_law 1439 = .ok (.istore 6, 2) := by decide +kernel
theorem dL_law_1441 : decode cL_law 1441 = .ok (.aload_n 2, 1) := by decide +kernel
theorem dL_law_1442 : decode cL_law 1442 = .ok (.aload_n 0, 1) := by decide +kernel
theorem dL_law_1443 : decode cL_law 1443 = .ok (.iload 5, 2) := by decide +kernel
theorem dL_law_1445 : decode cL_law 1445 = .ok (.iconst 1, 1) := by decide +kernel
theorem dL_law_1446 : decode cL_law 1446 = .ok (.iadd, 1) := by decide +kernel
theorem dL_law_1447 : decode cL_law 1447 = .ok (.iaload, 1) := by decide +kernel
theorem dL_law_1448 : decode cL_law 1448 = .ok (.aload_n 0, 1) := by decide +kernel
theorem dL_law_1449 : decode cL_law 1449 = .ok (.iload 5, 2) := by decide +kernel
theorem dL_law_1451 : decode cL_law 1451 = .ok (.iconst 2, 1) := by decide +kernel
theorem dL_law_1452 : decode cL_law 1452 = .ok (.iadd, 1) := by decide +kernel
theorem dL_law_1453 : decode cL_law 1453 = .ok (.iaload, 1) := by decide +kernel
theorem dL_law_1454 : decode cL_law 1454 = .ok (.invokevirtual 250, 3) := by decide +kernel
theorem dL_law_1457 : decode cL_law 1457 = .ok (.lstore 7, 2) := by decide +kernel
theorem dL_law_1459 : decode cL_law 1459 = .ok (.aload_n 2, 1) := by decide +kernel
theorem dL_law_1460 : decode cL_law 1460 = .ok (.invokevirtual 187, 3) := by decide +kernel
theorem dL_law_1463 : decode cL_law 1463 = .ok (.iload 6, 2) := by decide +kernel
theorem dL_law_1465 : decode cL_law 1465 = .ok (.if_icmp .eq 5, 3) := by decide +kernel
theorem dL_law_1468 : decode cL_law 1468 = .ok (.iconst 0, 1) := by decide +kernel
theorem dL_law_1469 : decode cL_law 1469 = .ok (.ireturn, 1) := by decide +kernel
theorem dL_law_1470 : decode cL_law 1470 = .ok (.iload 6, 2) := by decide +kernel
theorem dL_law_1472 : decode cL_law 1472 = .ok (.ifCond .ne 14, 3) := by decide +kernel
theorem dL_law_1475 : decode cL_law 1475 = .ok (.aload_n 3, 1) := by decide +kernel
theorem dL_law_1476 : decode cL_law 1476 = .ok (.iconst 0, 1) := by decide +kernel
theorem dL_law_1477 : decode cL_law 1477 = .ok (.laload, 1) := by decide +kernel
theorem dL_law_1478 : decode cL_law 1478 = .ok (.lload 7, 2) := by decide +kernel
theorem dL_law_1480 : decode cL_law 1480 = .ok (.lcmp, 1) := by decide +kernel
theorem dL_law_1481 : decode cL_law 1481 = .ok (.ifCond .eq 5, 3) := by decide +kernel
theorem dL_law_1484 : decode cL_law 1484 = .ok (.iconst 0, 1) := by decide +kernel
theorem dL_law_1485 : decode cL_law 1485 = .ok (.ireturn, 1) := by decide +kernel
theorem dL_law_1486 : decode cL_law 1486 = .ok (.goto 1824, 3) := by decide +kernel
theorem dL_law_1489 : decode cL_law 1489 = .ok (.aload_n 1, 1) := by decide +kernel
theorem dL_law_1490 : decode cL_law 1490 = .ok (.aload_n 0, 1) := by decide +kernel
theorem dL_law_1491 : decode cL_law 1491 = .ok (.iload 5, 2) := by decide +kernel
theorem dL_law_1493 : decode cL_law 1493 = .ok (.iconst 1, 1) := by decide +kernel
theorem dL_law_1494 : decode cL_law 1494 = .ok (.iadd, 1) := by decide +kernel
theorem dL_law_1495 : decode cL_law 1495 = .ok (.iaload, 1) := by decide +kernel
theorem dL_law_1496 : decode cL_law 1496 = .ok (.aload_n 3, 1) := by decide +kernel
theorem dL_law_1497 : decode cL_law 1497 = .ok (.invokestatic 251, 3) := by decide +kernel
theorem dL_law_1500 : decode cL_law 1500 = .ok (.istore 6, 2) := by decide +kernel
theorem dL_law_1502 : decode cL_law 1502 = .ok (.aload_n 2, 1) := by decide +kernel
theorem dL_law_1503 : decode cL_law 1503 = .ok (.aload_n 0, 1) := by decide +kernel
theorem dL_law_1504 : decode cL_law 1504 = .ok (.iload 5, 2) := by decide +kernel
theorem dL_law_1506 : decode cL_law 1506 = .ok (.iconst 1, 1) := by decide +kernel
theorem dL_law_1507 : decode cL_law 1507 = .ok (.iadd, 1) := by decide +kernel
theorem dL_law_1508 : decode cL_law 1508 = .ok (.iaload, 1) := by decide +kernel
theorem dL_law_1509 : decode cL_law 1509 = .ok (.invokevirtual 253, 3) := by decide +kernel
theorem dL_law_1512 : decode cL_law 1512 = .ok (.lstore 7, 2) := by decide +kernel
theorem dL_law_1514 : decode cL_law 1514 = .ok (.aload_n 2, 1) := by decide +kernel
theorem dL_law_1515 : decode cL_law 1515 = .ok (.invokevirtual 187, 3) := by decide +kernel
theorem dL_law_1518 : decode cL_law 1518 = .ok (.iload 6, 2) := by decide +kernel
theorem dL_law_1520 : decode cL_law 1520 = .ok (.if_icmp .eq 5, 3) := by decide +kernel
theorem dL_law_1523 : decode cL_law 1523 = .ok (.iconst 0, 1) := by decide +kernel
theorem dL_law_1524 : decode cL_law 1524 = .ok (.ireturn, 1) := by decide +kernel
theorem dL_law_1525 : decode cL_law 1525 = .ok (.iload 6, 2) := by decide +kernel
theorem dL_law_1527 : decode cL_law 1527 = .ok (.ifCond .ne 14, 3) := by decide +kernel
theorem dL_law_1530 : decode cL_law 1530 = .ok (.aload_n 3, 1) := by decide +kernel
theorem dL_law_1531 : decode cL_law 1531 = .ok (.iconst 0, 1) := by decide +kernel
theorem dL_law_1532 : decode cL_law 1532 = .ok (.laload, 1) := by decide +kernel
theorem dL_law_1533 : decode cL_law 1533 = .ok (.lload 7, 2) := by decide +kernel
theorem dL_law_1535 : decode cL_law 1535 = .ok (.lcmp, 1) := by decide +kernel
theorem dL_law_1536 : decode cL_law 1536 = .ok (.ifCond .eq 5, 3) := by decide +kernel
theorem dL_law_1539 : decode cL_law 1539 = .ok (.iconst 0, 1) := by decide +kernel
theorem dL_law_1540 : decode cL_law 1540 = .ok (.ireturn, 1) := by decide +kernel
theorem dL_law_1541 : decode cL_law 1541 = .ok (.goto 1769, 3) := by decide +kernel
theorem dL_law_1544 : decode cL_law 1544 = .ok (.aload_n 1, 1) := by decide +kernel
theorem dL_law_1545 : decode cL_law 1545 = .ok (.aload_n 0, 1) := by decide +kernel
theorem dL_law_1546 : decode cL_law 1546 = .ok (.iload 5, 2) := by decide +kernel
theorem dL_law_1548 : decode cL_law 1548 = .ok (.iconst 1, 1) := by decide +kernel
theorem dL_law_1549 : decode cL_law 1549 = .ok (.iadd, 1) := by decide +kernel
theorem dL_law_1550 : decode cL_law 1550 = .ok (.iaload, 1) := by decide +kernel
theorem dL_law_1551 : decode cL_law 1551 = .ok (.aload 4, 2) := by decide +kernel
theorem dL_law_1553 : decode cL_law 1553 = .ok (.invokestatic 254, 3) := by decide +kernel
theorem dL_law_1556 : decode cL_law 1556 = .ok (.istore 6, 2) := by decide +kernel
theorem dL_law_1558 : decode cL_law 1558 = .ok (.aload_n 2, 1) := by decide +kernel
theorem dL_law_1559 : decode cL_law 1559 = .ok (.aload_n 0, 1) := by decide +kernel
theorem dL_law_1560 : decode cL_law 1560 = .ok (.iload 5, 2) := by decide +kernel
theorem dL_law_1562 : decode cL_law 1562 = .ok (.iconst 1, 1) := by decide +kernel
theorem dL_law_1563 : decode cL_law 1563 = .ok (.iadd, 1) := by decide +kernel
theorem dL_law_1564 : decode cL_law 1564 = .ok (.iaload, 1) := by decide +kernel
theorem dL_law_1565 : decode cL_law 1565 = .ok (.invokevirtual 257, 3) := by decide +kernel
theorem dL_law_1568 : decode cL_law 1568 = .ok (.dstore 7, 2) := by decide +kernel
theorem dL_law_1570 : decode cL_law 1570 = .ok (.aload_n 2, 1) := by decide +kernel
theorem dL_law_1571 : decode cL_law 1571 = .ok (.invokevirtual 187, 3) := by decide +kernel
theorem dL_law_1574 : decode cL_law 1574 = .ok (.iload 6, 2) := by decide +kernel
theorem dL_law_1576 : decode cL_law 1576 = .ok (.if_icmp .eq 5, 3) := by decide +kernel
theorem dL_law_1579 : decode cL_law 1579 = .ok (.iconst 0, 1) := by decide +kernel
theorem dL_law_1580 : decode cL_law 1580 = .ok (.ireturn, 1) := by decide +kernel
theorem dL_law_1581 : decode cL_law 1581 = .ok (.iload 6, 2) := by decide +kernel
theorem dL_law_1583 : decode cL_law 1583 = .ok (.ifCond .ne 35, 3) := by decide +kernel
theorem dL_law_1586 : decode cL_law 1586 = .ok (.aload 4, 2) := by decide +kernel
theorem dL_law_1588 : decode cL_law 1588 = .ok (.iconst 0, 1) := by decide +kernel
theorem dL_law_1589 : decode cL_law 1589 = .ok (.daload, 1) := by decide +kernel
theorem dL_law_1590 : decode cL_law 1590 = .ok (.dload 7, 2) := by decide +kernel
theorem dL_law_1592 : decode cL_law 1592 = .ok (.dcmp .l, 1) := by decide +kernel
theorem dL_law_1593 : decode cL_law 1593 = .ok (.ifCond .eq 25, 3) := by decide +kernel
theorem dL_law_1596 : decode cL_law 1596 = .ok (.aload 4, 2) := by decide +kernel
theorem dL_law_1598 : decode cL_law 1598 = .ok (.iconst 0, 1) := by decide +kernel
theorem dL_law_1599 : decode cL_law 1599 = .ok (.daload, 1) := by decide +kernel
theorem dL_law_1600 : decode cL_law 1600 = .ok (.aload 4, 2) := by decide +kernel
theorem dL_law_1602 : decode cL_law 1602 = .ok (.iconst 0, 1) := by decide +kernel
theorem dL_law_1603 : decode cL_law 1603 = .ok (.daload, 1) := by decide +kernel
theorem dL_law_1604 : decode cL_law 1604 = .ok (.dcmp .l, 1) := by decide +kernel
theorem dL_law_1605 : decode cL_law 1605 = .ok (.ifCond .eq 11, 3) := by decide +kernel
theorem dL_law_1608 : decode cL_law 1608 = .ok (.dload 7, 2) := by decide +kernel
theorem dL_law_1610 : decode cL_law 1610 = .ok (.dload 7, 2) := by decide +kernel
theorem dL_law_1612 : decode cL_law 1612 = .ok (.dcmp .l, 1) := by decide +kernel
theorem dL_law_1613 : decode cL_law 1613 = .ok (.ifCond .ne 5, 3) := by decide +kernel
theorem dL_law_1616 : decode cL_law 1616 = .ok (.iconst 0, 1) := by decide +kernel
theorem dL_law_1617 : decode cL_law 1617 = .ok (.ireturn, 1) := by decide +kernel
theorem dL_law_1618 : decode cL_law 1618 = .ok (.goto 1692, 3) := by decide +kernel
theorem dL_law_1621 : decode cL_law 1621 = .ok (.aload_n 1, 1) := by decide +kernel
theorem dL_law_1622 : decode cL_law 1622 = .ok (.aload_n 0, 1) := by decide +kernel
theorem dL_law_1623 : decode cL_law 1623 = .ok (.iload 5, 2) := by decide +kernel
theorem dL_law_1625 : decode cL_law 1625 = .ok (.iconst 1, 1) := by decide +kernel
theorem dL_law_1626 : decode cL_law 1626 = .ok (.iadd, 1) := by decide +kernel
theorem dL_law_1627 : decode cL_law 1627 = .ok (.iaload, 1) := by decide +kernel
theorem dL_law_1628 : decode cL_law 1628 = .ok (.aload_n 3, 1) := by decide +kernel
theorem dL_law_1629 : decode cL_law 1629 = .ok (.invokestatic 258, 3) := by decide +kernel
theorem dL_law_1632 : decode cL_law 1632 = .ok (.istore 6, 2) := by decide +kernel
theorem dL_law_1634 : decode cL_law 1634 = .ok (.aload_n 2, 1) := by decide +kernel
theorem dL_law_1635 : decode cL_law 1635 = .ok (.aload_n 0, 1) := by decide +kernel
theorem dL_law_1636 : decode cL_law 1636 = .ok (.iload 5, 2) := by decide +kernel
theorem dL_law_1638 : decode cL_law 1638 = .ok (.iconst 1, 1) := by decide +kernel
theorem dL_law_1639 : decode cL_law 1639 = .ok (.iadd, 1) := by decide +kernel
theorem dL_law_1640 : decode cL_law 1640 = .ok (.iaload, 1) := by decide +kernel
theorem dL_law_1641 : decode cL_law 1641 = .ok (.invokevirtual 260, 3) := by decide +kernel
theorem dL_law_1644 : decode cL_law 1644 = .ok (.istore 7, 2) := by decide +kernel
theorem dL_law_1646 : decode cL_law 1646 = .ok (.aload_n 2, 1) := by decide +kernel
theorem dL_law_1647 : decode cL_law 1647 = .ok (.invokevirtual 187, 3) := by decide +kernel
theorem dL_law_1650 : decode cL_law 1650 = .ok (.iload 6, 2) := by decide +kernel
theorem dL_law_1652 : decode cL_law 1652 = .ok (.if_icmp .eq 5, 3) := by decide +kernel
theorem dL_law_1655 : decode cL_law 1655 = .ok (.iconst 0, 1) := by decide +kernel
theorem dL_law_1656 : decode cL_law 1656 = .ok (.ireturn, 1) := by decide +kernel
theorem dL_law_1657 : decode cL_law 1657 = .ok (.iload 6, 2) := by decide +kernel
theorem dL_law_1659 : decode cL_law 1659 = .ok (.ifCond .ne 15, 3) := by decide +kernel
theorem dL_law_1662 : decode cL_law 1662 = .ok (.aload_n 3, 1) := by decide +kernel
theorem dL_law_1663 : decode cL_law 1663 = .ok (.iconst 0, 1) := by decide +kernel
theorem dL_law_1664 : decode cL_law 1664 = .ok (.laload, 1) := by decide +kernel
theorem dL_law_1665 : decode cL_law 1665 = .ok (.iload 7, 2) := by decide +kernel
theorem dL_law_1667 : decode cL_law 1667 = .ok (.i2l, 1) := by decide +kernel
theorem dL_law_1668 : decode cL_law 1668 = .ok (.lcmp, 1) := by decide +kernel
theorem dL_law_1669 : decode cL_law 1669 = .ok (.ifCond .eq 5, 3) := by decide +kernel
theorem dL_law_1672 : decode cL_law 1672 = .ok (.iconst 0, 1) := by decide +kernel
theorem dL_law_1673 : decode cL_law 1673 = .ok (.ireturn, 1) := by decide +kernel
theorem dL_law_1674 : decode cL_law 1674 = .ok (.goto 1636, 3) := by decide +kernel
theorem dL_law_1677 : decode cL_law 1677 = .ok (.aload_n 1, 1) := by decide +kernel
theorem dL_law_1678 : decode cL_law 1678 = .ok (.aload_n 0, 1) := by decide +kernel
theorem dL_law_1679 : decode cL_law 1679 = .ok (.iload 5, 2) := by decide +kernel
theorem dL_law_1681 : decode cL_law 1681 = .ok (.iconst 1, 1) := by decide +kernel
theorem dL_law_1682 : decode cL_law 1682 = .ok (.iadd, 1) := by decide +kernel
theorem dL_law_1683 : decode cL_law 1683 = .ok (.iaload, 1) := by decide +kernel
theorem dL_law_1684 : decode cL_law 1684 = .ok (.aload_n 3, 1) := by decide +kernel
theorem dL_law_1685 : decode cL_law 1685 = .ok (.invokestatic 261, 3) := by decide +kernel
theorem dL_law_1688 : decode cL_law 1688 = .ok (.istore 6, 2) := by decide +kernel
theorem dL_law_1690 : decode cL_law 1690 = .ok (.aload_n 2, 1) := by decide +kernel
theorem dL_law_1691 : decode cL_law 1691 = .ok (.aload_n 0, 1) := by decide +kernel
theorem dL_law_1692 : decode cL_law 1692 = .ok (.iload 5, 2) := by decide +kernel
theorem dL_law_1694 : decode cL_law 1694 = .ok (.iconst 1, 1) := by decide +kernel
theorem dL_law_1695 : decode cL_law 1695 = .ok (.iadd, 1) := by decide +kernel
theorem dL_law_1696 : decode cL_law 1696 = .ok (.iaload, 1) := by decide +kernel
theorem dL_law_1697 : decode cL_law 1697 = .ok (.invokevirtual 263, 3) := by decide +kernel
theorem dL_law_1700 : decode cL_law 1700 = .ok (.istore 7, 2) := by decide +kernel
theorem dL_law_1702 : decode cL_law 1702 = .ok (.aload_n 2, 1) := by decide +kernel
theorem dL_law_1703 : decode cL_law 1703 = .ok (.invokevirtual 187, 3) := by decide +kernel
theorem dL_law_1706 : decode cL_law 1706 = .ok (.iload 6, 2) := by decide +kernel
theorem dL_law_1708 : decode cL_law 1708 = .ok (.if_icmp .eq 5, 3) := by decide +kernel
theorem dL_law_1711 : decode cL_law 1711 = .ok (.iconst 0, 1) := by decide +kernel
theorem dL_law_1712 : decode cL_law 1712 = .ok (.ireturn, 1) := by decide +kernel
theorem dL_law_1713 : decode cL_law 1713 = .ok (.iload 6, 2) := by decide +kernel
theorem dL_law_1715 : decode cL_law 1715 = .ok (.ifCond .ne 15, 3) := by decide +kernel
theorem dL_law_1718 : decode cL_law 1718 = .ok (.aload_n 3, 1) := by decide +kernel
theorem dL_law_1719 : decode cL_law 1719 = .ok (.iconst 0, 1) := by decide +kernel
theorem dL_law_1720 : decode cL_law 1720 = .ok (.laload, 1) := by decide +kernel
theorem dL_law_1721 : decode cL_law 1721 = .ok (.iload 7, 2) := by decide +kernel
theorem dL_law_1723 : decode cL_law 1723 = .ok (.i2l, 1) := by decide +kernel
theorem dL_law_1724 : decode cL_law 1724 = .ok (.lcmp, 1) := by decide +kernel
theorem dL_law_1725 : decode cL_law 1725 = .ok (.ifCond .eq 5, 3) := by decide +kernel
theorem dL_law_1728 : decode cL_law 1728 = .ok (.iconst 0, 1) := by decide +kernel
theorem dL_law_1729 : decode cL_law 1729 = .ok (.ireturn, 1) := by decide +kernel
theorem dL_law_1730 : decode cL_law 1730 = .ok (.goto 1580, 3) := by decide +kernel
theorem dL_law_1733 : decode cL_law 1733 = .ok (.aload_n 1, 1) := by decide +kernel
theorem dL_law_1734 : decode cL_law 1734 = .ok (.aload_n 0, 1) := by decide +kernel
theorem dL_law_1735 : decode cL_law 1735 = .ok (.iload 5, 2) := by decide +kernel
theorem dL_law_1737 : decode cL_law 1737 = .ok (.iconst 1, 1) := by decide +kernel
theorem dL_law_1738 : decode cL_law 1738 = .ok (.iadd, 1) := by decide +kernel
theorem dL_law_1739 : decode cL_law 1739 = .ok (.iaload, 1) := by decide +kernel
theorem dL_law_1740 : decode cL_law 1740 = .ok (.aload_n 3, 1) := by decide +kernel
theorem dL_law_1741 : decode cL_law 1741 = .ok (.invokestatic 264, 3) := by decide +kernel
theorem dL_law_1744 : decode cL_law 1744 = .ok (.istore 6, 2) := by decide +kernel
theorem dL_law_1746 : decode cL_law 1746 = .ok (.aload_n 2, 1) := by decide +kernel
theorem dL_law_1747 : decode cL_law 1747 = .ok (.aload_n 0, 1) := by decide +kernel
theorem dL_law_1748 : decode cL_law 1748 = .ok (.iload 5, 2) := by decide +kernel
theorem dL_law_1750 : decode cL_law 1750 = .ok (.iconst 1, 1) := by decide +kernel
theorem dL_law_1751 : decode cL_law 1751 = .ok (.iadd, 1) := by decide +kernel
theorem dL_law_1752 : decode cL_law 1752 = .ok (.iaload, 1) := by decide +kernel
theorem dL_law_1753 : decode cL_law 1753 = .ok (.invokevirtual 266, 3) := by decide +kernel
theorem dL_law_1756 : decode cL_law 1756 = .ok (.istore 7, 2) := by decide +kernel
theorem dL_law_1758 : decode cL_law 1758 = .ok (.aload_n 2, 1) := by decide +kernel
theorem dL_law_1759 : decode cL_law 1759 = .ok (.invokevirtual 187, 3) := by decide +kernel
theorem dL_law_1762 : decode cL_law 1762 = .ok (.iload 6, 2) := by decide +kernel
theorem dL_law_1764 : decode cL_law 1764 = .ok (.if_icmp .eq 5, 3) := by decide +kernel
theorem dL_law_1767 : decode cL_law 1767 = .ok (.iconst 0, 1) := by decide +kernel
theorem dL_law_1768 : decode cL_law 1768 = .ok (.ireturn, 1) := by decide +kernel
theorem dL_law_1769 : decode cL_law 1769 = .ok (.iload 6, 2) := by decide +kernel
theorem dL_law_1771 : decode cL_law 1771 = .ok (.ifCond .ne 15, 3) := by decide +kernel
theorem dL_law_1774 : decode cL_law 1774 = .ok (.aload_n 3, 1) := by decide +kernel
theorem dL_law_1775 : decode cL_law 1775 = .ok (.iconst 0, 1) := by decide +kernel
theorem dL_law_1776 : decode cL_law 1776 = .ok (.laload, 1) := by decide +kernel
theorem dL_law_1777 : decode cL_law 1777 = .ok (.iload 7, 2) := by decide +kernel
theorem dL_law_1779 : decode cL_law 1779 = .ok (.i2l, 1) := by decide +kernel
theorem dL_law_1780 : decode cL_law 1780 = .ok (.lcmp, 1) := by decide +kernel
theorem dL_law_1781 : decode cL_law 1781 = .ok (.ifCond .eq 5, 3) := by decide +kernel
theorem dL_law_1784 : decode cL_law 1784 = .ok (.iconst 0, 1) := by decide +kernel
theorem dL_law_1785 : decode cL_law 1785 = .ok (.ireturn, 1) := by decide +kernel
theorem dL_law_1786 : decode cL_law 1786 = .ok (.goto 1524, 3) := by decide +kernel
theorem dL_law_1789 : decode cL_law 1789 = .ok (.aload_n 1, 1) := by decide +kernel
theorem dL_law_1790 : decode cL_law 1790 = .ok (.aload_n 0, 1) := by decide +kernel
theorem dL_law_1791 : decode cL_law 1791 = .ok (.iload 5, 2) := by decide +kernel
theorem dL_law_1793 : decode cL_law 1793 = .ok (.iconst 1, 1) := by decide +kernel
theorem dL_law_1794 : decode cL_law 1794 = .ok (.iadd, 1) := by decide +kernel
theorem dL_law_1795 : decode cL_law 1795 = .ok (.iaload, 1) := by decide +kernel
theorem dL_law_1796 : decode cL_law 1796 = .ok (.aload_n 3, 1) := by decide +kernel
theorem dL_law_1797 : decode cL_law 1797 = .ok (.invokestatic 267, 3) := by decide +kernel
theorem dL_law_1800 : decode cL_law 1800 = .ok (.istore 6, 2) := by decide +kernel
theorem dL_law_1802 : decode cL_law 1802 = .ok (.aload_n 2, 1) := by decide +kernel
theorem dL_law_1803 : decode cL_law 1803 = .ok (.aload_n 0, 1) := by decide +kernel
theorem dL_law_1804 : decode cL_law 1804 = .ok (.iload 5, 2) := by decide +kernel
theorem dL_law_1806 : decode cL_law 1806 = .ok (.iconst 1, 1) := by decide +kernel
theorem dL_law_1807 : decode cL_law 1807 = .ok (.iadd, 1) := by decide +kernel
theorem dL_law_1808 : decode cL_law 1808 = .ok (.iaload, 1) := by decide +kernel
theorem dL_law_1809 : decode cL_law 1809 = .ok (.invokevirtual 269, 3) := by decide +kernel
theorem dL_law_1812 : decode cL_law 1812 = .ok (.istore 7, 2) := by decide +kernel
theorem dL_law_1814 : decode cL_law 1814 = .ok (.aload_n 2, 1) := by decide +kernel
theorem dL_law_1815 : decode cL_law 1815 = .ok (.invokevirtual 187, 3) := by decide +kernel
theorem dL_law_1818 : decode cL_law 1818 = .ok (.iload 6, 2) := by decide +kernel
theorem dL_law_1820 : decode cL_law 1820 = .ok (.if_icmp .eq 5, 3) := by decide +kernel
theorem dL_law_1823 : decode cL_law 1823 = .ok (.iconst 0, 1) := by decide +kernel
theorem dL_law_1824 : decode cL_law 1824 = .ok (.ireturn, 1) := by decide +kernel
theorem dL_law_1825 : decode cL_law 1825 = .ok (.iload 6, 2) := by decide +kernel
theorem dL_law_1827 : decode cL_law 1827 = .ok (.ifCond .ne 15, 3) := by decide +kernel
theorem dL_law_1830 : decode cL_law 1830 = .ok (.aload_n 3, 1) := by decide +kernel
theorem dL_law_1831 : decode cL_law 1831 = .ok (.iconst 0, 1) := by decide +kernel
theorem dL_law_1832 : decode cL_law 1832 = .ok (.laload, 1) := by decide +kernel
theorem dL_law_1833 : decode cL_law 1833 = .ok (.iload 7, 2) := by decide +kernel
theorem dL_law_1835 : decode cL_law 1835 = .ok (.i2l, 1) := by decide +kernel
theorem dL_law_1836 : decode cL_law 1836 = .ok (.lcmp, 1) := by decide +kernel
theorem dL_law_1837 : decode cL_law 1837 = .ok (.ifCond .eq 5, 3) := by decide +kernel
theorem dL_law_1840 : decode cL_law 1840 = .ok (.iconst 0, 1) := by decide +kernel
theorem dL_law_1841 : decode cL_law 1841 = .ok (.ireturn, 1) := by decide +kernel
theorem dL_law_1842 : decode cL_law 1842 = .ok (.goto 1468, 3) := by decide +kernel
theorem dL_law_1845 : decode cL_law 1845 = .ok (.aload_n 1, 1) := by decide +kernel
theorem dL_law_1846 : decode cL_law 1846 = .ok (.aload_n 0, 1) := by decide +kernel
theorem dL_law_1847 : decode cL_law 1847 = .ok (.iload 5, 2) := by decide +kernel
theorem dL_law_1849 : decode cL_law 1849 = .ok (.iconst 1, 1) := by decide +kernel
theorem dL_law_1850 : decode cL_law 1850 = .ok (.iadd, 1) := by decide +kernel
theorem dL_law_1851 : decode cL_law 1851 = .ok (.iaload, 1) := by decide +kernel
theorem dL_law_1852 : decode cL_law 1852 = .ok (.aload_n 3, 1) := by decide +kernel
theorem dL_law_1853 : decode cL_law 1853 = .ok (.invokestatic 270, 3) := by decide +kernel
theorem dL_law_1856 : decode cL_law 1856 = .ok (.istore 6, 2) := by decide +kernel
theorem dL_law_1858 : decode cL_law 1858 = .ok (.aload_n 2, 1) := by decide +kernel
theorem dL_law_1859 : decode cL_law 1859 = .ok (.aload_n 0, 1) := by decide +kernel
theorem dL_law_1860 : decode cL_law 1860 = .ok (.iload 5, 2) := by decide +kernel
theorem dL_law_1862 : decode cL_law 1862 = .ok (.iconst 1, 1) := by decide +kernel
theorem dL_law_1863 : decode cL_law 1863 = .ok (.iadd, 1) := by decide +kernel
theorem dL_law_1864 : decode cL_law 1864 = .ok (.iaload, 1) := by decide +kernel
theorem dL_law_1865 : decode cL_law 1865 = .ok (.invokevirtual 272, 3) := by decide +kernel
theorem dL_law_1868 : decode cL_law 1868 = .ok (.istore 7, 2) := by decide +kernel
theorem dL_law_1870 : decode cL_law 1870 = .ok (.aload_n 2, 1) := by decide +kernel
theorem dL_law_1871 : decode cL_law 1871 = .ok (.invokevirtual 187, 3) := by decide +kernel
theorem dL_law_1874 : decode cL_law 1874 = .ok (.iload 6, 2) := by decide +kernel
theorem dL_law_1876 : decode cL_law 1876 = .ok (.if_icmp .eq 5, 3) := by decide +kernel
theorem dL_law_1879 : decode cL_law 1879 = .ok (.iconst 0, 1) := by decide +kernel
theorem dL_law_1880 : decode cL_law 1880 = .ok (.ireturn, 1) := by decide +kernel
theorem dL_law_1881 : decode cL_law 1881 = .ok (.iload 6, 2) := by decide +kernel
theorem dL_law_1883 : decode cL_law 1883 = .ok (.ifCond .ne 15, 3) := by decide +kernel
theorem dL_law_1886 : decode cL_law 1886 = .ok (.aload_n 3, 1) := by decide +kernel
theorem dL_law_1887 : decode cL_law 1887 = .ok (.iconst 0, 1) := by decide +kernel
theorem dL_law_1888 : decode cL_law 1888 = .ok (.laload, 1) := by decide +kernel
theorem dL_law_1889 : decode cL_law 1889 = .ok (.iload 7, 2) := by decide +kernel
theorem dL_law_1891 : decode cL_law 1891 = .ok (.i2l, 1) := by decide +kernel
theorem dL_law_1892 : decode cL_law 1892 = .ok (.lcmp, 1) := by decide +kernel
theorem dL_law_1893 : decode cL_law 1893 = .ok (.ifCond .eq 5, 3) := by decide +kernel
theorem dL_law_1896 : decode cL_law 1896 = .ok (.iconst 0, 1) := by decide +kernel
theorem dL_law_1897 : decode cL_law 1897 = .ok (.ireturn, 1) := by decide +kernel
theorem dL_law_1898 : decode cL_law 1898 = .ok (.goto 1412, 3) := by decide +kernel
theorem dL_law_1901 : decode cL_law 1901 = .ok (.aload_n 1, 1) := by decide +kernel
theorem dL_law_1902 : decode cL_law 1902 = .ok (.aload_n 0, 1) := by decide +kernel
theorem dL_law_1903 : decode cL_law 1903 = .ok (.iload 5, 2) := by decide +kernel
theorem dL_law_1905 : decode cL_law 1905 = .ok (.iconst 1, 1) := by decide +kernel
theorem dL_law_1906 : decode cL_law 1906 = .ok (.iadd, 1) := by decide +kernel
theorem dL_law_1907 : decode cL_law 1907 = .ok (.iaload, 1) := by decide +kernel
theorem dL_law_1908 : decode cL_law 1908 = .ok (.aload_n 3, 1) := by decide +kernel
theorem dL_law_1909 : decode cL_law 1909 = .ok (.invokestatic 273, 3) := by decide +kernel
theorem dL_law_1912 : decode cL_law 1912 = .ok (.istore 6, 2) := by decide +kernel
theorem dL_law_1914 : decode cL_law 1914 = .ok (.aload_n 2, 1) := by decide +kernel
theorem dL_law_1915 : decode cL_law 1915 = .ok (.aload_n 0, 1) := by decide +kernel
theorem dL_law_1916 : decode cL_law 1916 = .ok (.iload 5, 2) := by decide +kernel
theorem dL_law_1918 : decode cL_law 1918 = .ok (.iconst 1, 1) := by decide +kernel
theorem dL_law_1919 : decode cL_law 1919 = .ok (.iadd, 1) := by decide +kernel
theorem dL_law_1920 : decode cL_law 1920 = .ok (.iaload, 1) := by decide +kernel
theorem dL_law_1921 : decode cL_law 1921 = .ok (.invokevirtual 275, 3) := by decide +kernel
theorem dL_law_1924 : decode cL_law 1924 = .ok (.istore 7, 2) := by decide +kernel
theorem dL_law_1926 : decode cL_law 1926 = .ok (.aload_n 2, 1) := by decide +kernel
theorem dL_law_1927 : decode cL_law 1927 = .ok (.invokevirtual 187, 3) := by decide +kernel
theorem dL_law_1930 : decode cL_law 1930 = .ok (.iload 6, 2) := by decide +kernel
theorem dL_law_1932 : decode cL_law 1932 = .ok (.if_icmp .eq 5, 3) := by decide +kernel
theorem dL_law_1935 : decode cL_law 1935 = .ok (.iconst 0, 1) := by decide +kernel
theorem dL_law_1936 : decode cL_law 1936 = .ok (.ireturn, 1) := by decide +kernel
theorem dL_law_1937 : decode cL_law 1937 = .ok (.iload 6, 2) := by decide +kernel
theorem dL_law_1939 : decode cL_law 1939 = .ok (.ifCond .ne 22, 3) := by decide +kernel
theorem dL_law_1942 : decode cL_law 1942 = .ok (.aload_n 3, 1) := by decide +kernel
theorem dL_law_1943 : decode cL_law 1943 = .ok (.iconst 0, 1) := by decide +kernel
theorem dL_law_1944 : decode cL_law 1944 = .ok (.laload, 1) := by decide +kernel
theorem dL_law_1945 : decode cL_law 1945 = .ok (.iload 7, 2) := by decide +kernel
theorem dL_law_1947 : decode cL_law 1947 = .ok (.ifCond .eq 7, 3) := by decide +kernel
theorem dL_law_1950 : decode cL_law 1950 = .ok (.lconst 1, 1) := by decide +kernel
theorem dL_law_1951 : decode cL_law 1951 = .ok (.goto 4, 3) := by decide +kernel
theorem dL_law_1954 : decode cL_law 1954 = .ok (.lconst 0, 1) := by decide +kernel
theorem dL_law_1955 : decode cL_law 1955 = .ok (.lcmp, 1) := by decide +kernel
theorem dL_law_1956 : decode cL_law 1956 = .ok (.ifCond .eq 5, 3) := by decide +kernel
theorem dL_law_1959 : decode cL_law 1959 = .ok (.iconst 0, 1) := by decide +kernel
theorem dL_law_1960 : decode cL_law 1960 = .ok (.ireturn, 1) := by decide +kernel
theorem dL_law_1961 : decode cL_law 1961 = .ok (.goto 1349, 3) := by decide +kernel
theorem dL_law_1964 : decode cL_law 1964 = .ok (.aload_n 1, 1) := by decide +kernel
theorem dL_law_1965 : decode cL_law 1965 = .ok (.aload_n 0, 1) := by decide +kernel
theorem dL_law_1966 : decode cL_law 1966 = .ok (.iload 5, 2) := by decide +kernel
theorem dL_law_1968 : decode cL_law 1968 = .ok (.iconst 1, 1) := by decide +kernel
theorem dL_law_1969 : decode cL_law 1969 = .ok (.iadd, 1) := by decide +kernel
theorem dL_law_1970 : decode cL_law 1970 = .ok (.iaload, 1) := by decide +kernel
theorem dL_law_1971 : decode cL_law 1971 = .ok (.aload_n 3, 1) := by decide +kernel
theorem dL_law_1972 : decode cL_law 1972 = .ok (.invokestatic 276, 3) := by decide +kernel
theorem dL_law_1975 : decode cL_law 1975 = .ok (.istore 6, 2) := by decide +kernel
theorem dL_law_1977 : decode cL_law 1977 = .ok (.aload_n 2, 1) := by decide +kernel
theorem dL_law_1978 : decode cL_law 1978 = .ok (.aload_n 0, 1) := by decide +kernel
theorem dL_law_1979 : decode cL_law 1979 = .ok (.iload 5, 2) := by decide +kernel
theorem dL_law_1981 : decode cL_law 1981 = .ok (.iconst 1, 1) := by decide +kernel
theorem dL_law_1982 : decode cL_law 1982 = .ok (.iadd, 1) := by decide +kernel
theorem dL_law_1983 : decode cL_law 1983 = .ok (.iaload, 1) := by decide +kernel
theorem dL_law_1984 : decode cL_law 1984 = .ok (.invokevirtual 278, 3) := by decide +kernel
theorem dL_law_1987 : decode cL_law 1987 = .ok (.istore 7, 2) := by decide +kernel
theorem dL_law_1989 : decode cL_law 1989 = .ok (.aload_n 2, 1) := by decide +kernel
theorem dL_law_1990 : decode cL_law 1990 = .ok (.invokevirtual 187, 3) := by decide +kernel
theorem dL_law_1993 : decode cL_law 1993 = .ok (.iload 6, 2) := by decide +kernel
theorem dL_law_1995 : decode cL_law 1995 = .ok (.if_icmp .eq 5, 3) := by decide +kernel
theorem dL_law_1998 : decode cL_law 1998 = .ok (.iconst 0, 1) := by decide +kernel
theorem dL_law_1999 : decode cL_law 1999 = .ok (.ireturn, 1) := by decide +kernel
theorem dL_law_2000 : decode cL_law 2000 = .ok (.iload 6, 2) := by decide +kernel
theorem dL_law_2002 : decode cL_law 2002 = .ok (.ifCond .ne 22, 3) := by decide +kernel
theorem dL_law_2005 : decode cL_law 2005 = .ok (.aload_n 3, 1) := by decide +kernel
theorem dL_law_2006 : decode cL_law 2006 = .ok (.iconst 0, 1) := by decide +kernel
theorem dL_law_2007 : decode cL_law 2007 = .ok (.laload, 1) := by decide +kernel
theorem dL_law_2008 : decode cL_law 2008 = .ok (.iload 7, 2) := by decide +kernel
theorem dL_law_2010 : decode cL_law 2010 = .ok (.ifCond .eq 7, 3) := by decide +kernel
theorem dL_law_2013 : decode cL_law 2013 = .ok (.lconst 1, 1) := by decide +kernel
theorem dL_law_2014 : decode cL_law 2014 = .ok (.goto 4, 3) := by decide +kernel
theorem dL_law_2017 : decode cL_law 2017 = .ok (.lconst 0, 1) := by decide +kernel
theorem dL_law_2018 : decode cL_law 2018 = .ok (.lcmp, 1) := by decide +kernel
theorem dL_law_2019 : decode cL_law 2019 = .ok (.ifCond .eq 5, 3) := by decide +kernel
theorem dL_law_2022 : decode cL_law 2022 = .ok (.iconst 0, 1) := by decide +kernel
theorem dL_law_2023 : decode cL_law 2023 = .ok (.ireturn, 1) := by decide +kernel
theorem dL_law_2024 : decode cL_law 2024 = .ok (.goto 1286, 3) := by decide +kernel
theorem dL_law_2027 : decode cL_law 2027 = .ok (.aload_n 1, 1) := by decide +kernel
theorem dL_law_2028 : decode cL_law 2028 = .ok (.aload_n 0, 1) := by decide +kernel
theorem dL_law_2029 : decode cL_law 2029 = .ok (.iload 5, 2) := by decide +kernel
theorem dL_law_2031 : decode cL_law 2031 = .ok (.iconst 1, 1) := by decide +kernel
theorem dL_law_2032 : decode cL_law 2032 = .ok (.iadd, 1) := by decide +kernel
theorem dL_law_2033 : decode cL_law 2033 = .ok (.iaload, 1) := by decide +kernel
theorem dL_law_2034 : decode cL_law 2034 = .ok (.aload_n 3, 1) := by decide +kernel
theorem dL_law_2035 : decode cL_law 2035 = .ok (.invokestatic 279, 3) := by decide +kernel
theorem dL_law_2038 : decode cL_law 2038 = .ok (.istore 6, 2) := by decide +kernel
theorem dL_law_2040 : decode cL_law 2040 = .ok (.aload_n 2, 1) := by decide +kernel
theorem dL_law_2041 : decode cL_law 2041 = .ok (.aload_n 0, 1) := by decide +kernel
theorem dL_law_2042 : decode cL_law 2042 = .ok (.iload 5, 2) := by decide +kernel
theorem dL_law_2044 : decode cL_law 2044 = .ok (.iconst 1, 1) := by decide +kernel
theorem dL_law_2045 : decode cL_law 2045 = .ok (.iadd, 1) := by decide +kernel
theorem dL_law_2046 : decode cL_law 2046 = .ok (.iaload, 1) := by decide +kernel
theorem dL_law_2047 : decode cL_law 2047 = .ok (.invokevirtual 281, 3) := by decide +kernel
theorem dL_law_2050 : decode cL_law 2050 = .ok (.istore 7, 2) := by decide +kernel
theorem dL_law_2052 : decode cL_law 2052 = .ok (.aload_n 2, 1) := by decide +kernel
theorem dL_law_2053 : decode cL_law 2053 = .ok (.invokevirtual 187, 3) := by decide +kernel
theorem dL_law_2056 : decode cL_law 2056 = .ok (.iload 6, 2) := by decide +kernel
theorem dL_law_2058 : decode cL_law 2058 = .ok (.if_icmp .eq 5, 3) := by decide +kernel
theorem dL_law_2061 : decode cL_law 2061 = .ok (.iconst 0, 1) := by decide +kernel
theorem dL_law_2062 : decode cL_law 2062 = .ok (.ireturn, 1) := by decide +kernel
theorem dL_law_2063 : decode cL_law 2063 = .ok (.iload 6, 2) := by decide +kernel
theorem dL_law_2065 : decode cL_law 2065 = .ok (.ifCond .ne 22, 3) := by decide +kernel
theorem dL_law_2068 : decode cL_law 2068 = .ok (.aload_n 3, 1) := by decide +kernel
theorem dL_law_2069 : decode cL_law 2069 = .ok (.iconst 0, 1) := by decide +kernel
theorem dL_law_2070 : decode cL_law 2070 = .ok (.laload, 1) := by decide +kernel
theorem dL_law_2071 : decode cL_law 2071 = .ok (.iload 7, 2) := by decide +kernel
theorem dL_law_2073 : decode cL_law 2073 = .ok (.ifCond .eq 7, 3) := by decide +kernel
theorem dL_law_2076 : decode cL_law 2076 = .ok (.lconst 1, 1) := by decide +kernel
theorem dL_law_2077 : decode cL_law 2077 = .ok (.goto 4, 3) := by decide +kernel
theorem dL_law_2080 : decode cL_law 2080 = .ok (.lconst 0, 1) := by decide +kernel
theorem dL_law_2081 : decode cL_law 2081 = .ok (.lcmp, 1) := by decide +kernel
theorem dL_law_2082 : decode cL_law 2082 = .ok (.ifCond .eq 5, 3) := by decide +kernel
theorem dL_law_2085 : decode cL_law 2085 = .ok (.iconst 0, 1) := by decide +kernel
theorem dL_law_2086 : decode cL_law 2086 = .ok (.ireturn, 1) := by decide +kernel
theorem dL_law_2087 : decode cL_law 2087 = .ok (.goto 1223, 3) := by decide +kernel
theorem dL_law_2090 : decode cL_law 2090 = .ok (.aload_n 1, 1) := by decide +kernel
theorem dL_law_2091 : decode cL_law 2091 = .ok (.aload_n 0, 1) := by decide +kernel
theorem dL_law_2092 : decode cL_law 2092 = .ok (.iload 5, 2) := by decide +kernel
theorem dL_law_2094 : decode cL_law 2094 = .ok (.iconst 1, 1) := by decide +kernel
theorem dL_law_2095 : decode cL_law 2095 = .ok (.iadd, 1) := by decide +kernel
theorem dL_law_2096 : decode cL_law 2096 = .ok (.iaload, 1) := by decide +kernel
theorem dL_law_2097 : decode cL_law 2097 = .ok (.aload_n 3, 1) := by decide +kernel
theorem dL_law_2098 : decode cL_law 2098 = .ok (.invokestatic 282, 3) := by decide +kernel
theorem dL_law_2101 : decode cL_law 2101 = .ok (.istore 6, 2) := by decide +kernel
theorem dL_law_2103 : decode cL_law 2103 = .ok (.aload_n 2, 1) := by decide +kernel
theorem dL_law_2104 : decode cL_law 2104 = .ok (.aload_n 0, 1) := by decide +kernel
theorem dL_law_2105 : decode cL_law 2105 = .ok (.iload 5, 2) := by decide +kernel
theorem dL_law_2107 : decode cL_law 2107 = .ok (.iconst 1, 1) := by decide +kernel
theorem dL_law_2108 : decode cL_law 2108 = .ok (.iadd, 1) := by decide +kernel
theorem dL_law_2109 : decode cL_law 2109 = .ok (.iaload, 1) := by decide +kernel
theorem dL_law_2110 : decode cL_law 2110 = .ok (.invokevirtual 284, 3) := by decide +kernel
theorem dL_law_2113 : decode cL_law 2113 = .ok (.istore 7, 2) := by decide +kernel
theorem dL_law_2115 : decode cL_law 2115 = .ok (.aload_n 2, 1) := by decide +kernel
theorem dL_law_2116 : decode cL_law 2116 = .ok (.invokevirtual 187, 3) := by decide +kernel
theorem dL_law_2119 : decode cL_law 2119 = .ok (.iload 6, 2) := by decide +kernel
theorem dL_law_2121 : decode cL_law 2121 = .ok (.if_icmp .eq 5, 3) := by decide +kernel
theorem dL_law_2124 : decode cL_law 2124 = .ok (.iconst 0, 1) := by decide +kernel
theorem dL_law_2125 : decode cL_law 2125 = .ok (.ireturn, 1) := by decide +kernel
theorem dL_law_2126 : decode cL_law 2126 = .ok (.iload 6, 2) := by decide +kernel
theorem dL_law_2128 : decode cL_law 2128 = .ok (.ifCond .ne 15, 3) := by decide +kernel
theorem dL_law_2131 : decode cL_law 2131 = .ok (.aload_n 3, 1) := by decide +kernel
theorem dL_law_2132 : decode cL_law 2132 = .ok (.iconst 0, 1) := by decide +kernel
theorem dL_law_2133 : decode cL_law 2133 = .ok (.laload, 1) := by decide +kernel
theorem dL_law_2134 : decode cL_law 2134 = .ok (.iload 7, 2) := by decide +kernel
theorem dL_law_2136 : decode cL_law 2136 = .ok (.i2l, 1) := by decide +kernel
theorem dL_law_2137 : decode cL_law 2137 = .ok (.lcmp, 1) := by decide +kernel
theorem dL_law_2138 : decode cL_law 2138 = .ok (.ifCond .eq 5, 3) := by decide +kernel
theorem dL_law_2141 : decode cL_law 2141 = .ok (.iconst 0, 1) := by decide +kernel
theorem dL_law_2142 : decode cL_law 2142 = .ok (.ireturn, 1) := by decide +kernel
theorem dL_law_2143 : decode cL_law 2143 = .ok (.goto 1167, 3) := by decide +kernel
theorem dL_law_2146 : decode cL_law 2146 = .ok (.aload_n 1, 1) := by decide +kernel
theorem dL_law_2147 : decode cL_law 2147 = .ok (.invokevirtual 285, 3) := by decide +kernel
theorem dL_law_2150 : decode cL_law 2150 = .ok (.aload_n 2, 1) := by decide +kernel
theorem dL_law_2151 : decode cL_law 2151 = .ok (.invokevirtual 288, 3) := by decide +kernel
theorem dL_law_2154 : decode cL_law 2154 = .ok (.if_icmp .eq 1156, 3) := by decide +kernel
theorem dL_law_2157 : decode cL_law 2157 = .ok (.iconst 0, 1) := by decide +kernel
theorem dL_law_2158 : decode cL_law 2158 = .ok (.ireturn, 1) := by decide +kernel
theorem dL_law_2159 : decode cL_law 2159 = .ok (.aload_n 1, 1) := by decide +kernel
theorem dL_law_2160 : decode cL_law 2160 = .ok (.invokevirtual 289, 3) := by decide +kernel
theorem dL_law_2163 : decode cL_law 2163 = .ok (.aload_n 2, 1) := by decide +kernel
theorem dL_law_2164 : decode cL_law 2164 = .ok (.invokevirtual 292, 3) := by decide +kernel
theorem dL_law_2167 : decode cL_law 2167 = .ok (.if_icmp .eq 1143, 3) := by decide +kernel
theorem dL_law_2170 : decode cL_law 2170 = .ok (.iconst 0, 1) := by decide +kernel
theorem dL_law_2171 : decode cL_law 2171 = .ok (.ireturn, 1) := by decide +kernel
theorem dL_law_2172 : decode cL_law 2172 = .ok (.aload_n 1, 1) := by decide +kernel
theorem dL_law_2173 : decode cL_law 2173 = .ok (.aload_n 0, 1) := by decide +kernel
theorem dL_law_2174 : decode cL_law 2174 = .ok (.iload 5, 2) := by decide +kernel
theorem dL_law_2176 : decode cL_law 2176 = .ok (.iconst 1, 1) := by decide +kernel
theorem dL_law_2177 : decode cL_law 2177 = .ok (.iadd, 1) := by decide +kernel
theorem dL_law_2178 : decode cL_law 2178 = .ok (.iaload, 1) := by decide +kernel
theorem dL_law_2179 : decode cL_law 2179 = .ok (.aload_n 3, 1) := by decide +kernel
theorem dL_law_2180 : decode cL_law 2180 = .ok (.invokestatic 293, 3) := by decide +kernel
theorem dL_law_2183 : decode cL_law 2183 = .ok (.istore 6, 2) := by decide +kernel
theorem dL_law_2185 : decode cL_law 2185 = .ok (.aload_n 2, 1) := by decide +kernel
theorem dL_law_2186 : decode cL_law 2186 = .ok (.aload_n 0, 1) := by decide +kernel
theorem dL_law_2187 : decode cL_law 2187 = .ok (.iload 5, 2) := by decide +kernel
theorem dL_law_2189 : decode cL_law 2189 = .ok (.iconst 1, 1) := by decide +kernel
theorem dL_law_2190 : decode cL_law 2190 = .ok (.iadd, 1) := by decide +kernel
theorem dL_law_2191 : decode cL_law 2191 = .ok (.iaload, 1) := by decide +kernel
theorem dL_law_2192 : decode cL_law 2192 = .ok (.invokevirtual 295, 3) := by decide +kernel
theorem dL_law_2195 : decode cL_law 2195 = .ok (.istore 7, 2) := by decide +kernel
theorem dL_law_2197 : decode cL_law 2197 = .ok (.aload_n 2, 1) := by decide +kernel
theorem dL_law_2198 : decode cL_law 2198 = .ok (.invokevirtual 187, 3) := by decide +kernel
theorem dL_law_2201 : decode cL_law 2201 = .ok (.iload 6, 2) := by decide +kernel
theorem dL_law_2203 : decode cL_law 2203 = .ok (.if_icmp .eq 5, 3) := by decide +kernel
theorem dL_law_2206 : decode cL_law 2206 = .ok (.iconst 0, 1) := by decide +kernel
theorem dL_law_2207 : decode cL_law 2207 = .ok (.ireturn, 1) := by decide +kernel
theorem dL_law_2208 : decode cL_law 2208 = .ok (.iload 6, 2) := by decide +kernel
theorem dL_law_2210 : decode cL_law 2210 = .ok (.ifCond .ne 15, 3) := by decide +kernel
theorem dL_law_2213 : decode cL_law 2213 = .ok (.aload_n 3, 1) := by decide +kernel
theorem dL_law_2214 : decode cL_law 2214 = .ok (.iconst 0, 1) := by decide +kernel
theorem dL_law_2215 : decode cL_law 2215 = .ok (.laload, 1) := by decide +kernel
theorem dL_law_2216 : decode cL_law 2216 = .ok (.iload 7, 2) := by decide +kernel
theorem dL_law_2218 : decode cL_law 2218 = .ok (.i2l, 1) := by decide +kernel
theorem dL_law_2219 : decode cL_law 2219 = .ok (.lcmp, 1) := by decide +kernel
theorem dL_law_2220 : decode cL_law 2220 = .ok (.ifCond .eq 5, 3) := by decide +kernel
theorem dL_law_2223 : decode cL_law 2223 = .ok (.iconst 0, 1) := by decide +kernel
theorem dL_law_2224 : decode cL_law 2224 = .ok (.ireturn, 1) := by decide +kernel
theorem dL_law_2225 : decode cL_law 2225 = .ok (.goto 1085, 3) := by decide +kernel
theorem dL_law_2228 : decode cL_law 2228 = .ok (.aload_n 1, 1) := by decide +kernel
theorem dL_law_2229 : decode cL_law 2229 = .ok (.aload_n 0, 1) := by decide +kernel
theorem dL_law_2230 : decode cL_law 2230 = .ok (.iload 5, 2) := by decide +kernel
theorem dL_law_2232 : decode cL_law 2232 = .ok (.iconst 1, 1) := by decide +kernel
theorem dL_law_2233 : decode cL_law 2233 = .ok (.iadd, 1) := by decide +kernel
theorem dL_law_2234 : decode cL_law 2234 = .ok (.iaload, 1) := by decide +kernel
theorem dL_law_2235 : decode cL_law 2235 = .ok (.aload_n 0, 1) := by decide +kernel
theorem dL_law_2236 : decode cL_law 2236 = .ok (.iload 5, 2) := by decide +kernel
theorem dL_law_2238 : decode cL_law 2238 = .ok (.iconst 2, 1) := by decide +kernel
theorem dL_law_2239 : decode cL_law 2239 = .ok (.iadd, 1) := by decide +kernel
theorem dL_law_2240 : decode cL_law 2240 = .ok (.iaload, 1) := by decide +kernel
theorem dL_law_2241 : decode cL_law 2241 = .ok (.aload_n 3, 1) := by decide +kernel
theorem dL_law_2242 : decode cL_law 2242 = .ok (.invokestatic 296, 3) := by decide +kernel
theorem dL_law_2245 : decode cL_law 2245 = .ok (.istore 6, 2) := by decide +kernel
theorem dL_law_2247 : decode cL_law 2247 = .ok (.aload_n 2, 1) := by decide +kernel
theorem dL_law_2248 : decode cL_law 2248 = .ok (.aload_n 0, 1) := by decide +kernel
theorem dL_law_2249 : decode cL_law 2249 = .ok (.iload 5, 2) := by decide +kernel
theorem dL_law_2251 : decode cL_law 2251 = .ok (.iconst 1, 1) := by decide +kernel
theorem dL_law_2252 : decode cL_law 2252 = .ok (.iadd, 1) := by decide +kernel
theorem dL_law_2253 : decode cL_law 2253 = .ok (.iaload, 1) := by decide +kernel
theorem dL_law_2254 : decode cL_law 2254 = .ok (.aload_n 0, 1) := by decide +kernel
theorem dL_law_2255 : decode cL_law 2255 = .ok (.iload 5, 2) := by decide +kernel
theorem dL_law_2257 : decode cL_law 2257 = .ok (.iconst 2, 1) := by decide +kernel
theorem dL_law_2258 : decode cL_law 2258 = .ok (.iadd, 1) := by decide +kernel
theorem dL_law_2259 : decode cL_law 2259 = .ok (.iaload, 1) := by decide +kernel
theorem dL_law_2260 : decode cL_law 2260 = .ok (.invokevirtual 298, 3) := by decide +kernel
theorem dL_law_2263 : decode cL_law 2263 = .ok (.istore 7, 2) := by decide +kernel
theorem dL_law_2265 : decode cL_law 2265 = .ok (.aload_n 2, 1) := by decide +kernel
theorem dL_law_2266 : decode cL_law 2266 = .ok (.invokevirtual 187, 3) := by decide +kernel
theorem dL_law_2269 : decode cL_law 2269 = .ok (.iload 6, 2) := by decide +kernel
theorem dL_law_2271 : decode cL_law 2271 = .ok (.if_icmp .eq 5, 3) := by decide +kernel
theorem dL_law_2274 : decode cL_law 2274 = .ok (.iconst 0, 1) := by decide +kernel
theorem dL_law_2275 : decode cL_law 2275 = .ok (.ireturn, 1) := by decide +kernel
theorem dL_law_2276 : decode cL_law 2276 = .ok (.iload 6, 2) := by decide +kernel
theorem dL_law_2278 : decode cL_law 2278 = .ok (.ifCond .ne 22, 3) := by decide +kernel
theorem dL_law_2281 : decode cL_law 2281 = .ok (.aload_n 3, 1) := by decide +kernel
theorem dL_law_2282 : decode cL_law 2282 = .ok (.iconst 0, 1) := by decide +kernel
theorem dL_law_2283 : decode cL_law 2283 = .ok (.laload, 1) := by decide +kernel
theorem dL_law_2284 : decode cL_law 2284 = .ok (.iload 7, 2) := by decide +kernel
theorem dL_law_2286 : decode cL_law 2286 = .ok (.ifCond .eq 7, 3) := by decide +kernel
theorem dL_law_2289 : decode cL_law 2289 = .ok (.lconst 1, 1) := by decide +kernel
theorem dL_law_2290 : decode cL_law 2290 = .ok (.goto 4, 3) := by decide +kernel
theorem dL_law_2293 : decode cL_law 2293 = .ok (.lconst 0, 1) := by decide +kernel
theorem dL_law_2294 : decode cL_law 2294 = .ok (.lcmp, 1) := by decide +kernel
theorem dL_law_2295 : decode cL_law 2295 = .ok (.ifCond .eq 5, 3) := by decide +kernel
theorem dL_law_2298 : decode cL_law 2298 = .ok (.iconst 0, 1) := by decide +kernel
theorem dL_law_2299 : decode cL_law 2299 = .ok (.ireturn, 1) := by decide +kernel
theorem dL_law_2300 : decode cL_law 2300 = .ok (.goto 1010, 3) := by decide +kernel
theorem dL_law_2303 : decode cL_law 2303 = .ok (.aload_n 1, 1) := by decide +kernel
theorem dL_law_2304 : decode cL_law 2304 = .ok (.aload_n 0, 1) := by decide +kernel
theorem dL_law_2305 : decode cL_law 2305 = .ok (.iload 5, 2) := by decide +kernel
theorem dL_law_2307 : decode cL_law 2307 = .ok (.iconst 1, 1) := by decide +kernel
theorem dL_law_2308 : decode cL_law 2308 = .ok (.iadd, 1) := by decide +kernel
theorem dL_law_2309 : decode cL_law 2309 = .ok (.iaload, 1) := by decide +kernel
theorem dL_law_2310 : decode cL_law 2310 = .ok (.aload_n 0, 1) := by decide +kernel
theorem dL_law_2311 : decode cL_law 2311 = .ok (.iload 5, 2) := by decide +kernel
theorem dL_law_2313 : decode cL_law 2313 = .ok (.iconst 2, 1) := by decide +kernel
theorem dL_law_2314 : decode cL_law 2314 = .ok (.iadd, 1) := by decide +kernel
theorem dL_law_2315 : decode cL_law 2315 = .ok (.iaload, 1) := by decide +kernel
theorem dL_law_2316 : decode cL_law 2316 = .ok (.aload_n 0, 1) := by decide +kernel
theorem dL_law_2317 : decode cL_law 2317 = .ok (.iload 5, 2) := by decide +kernel
theorem dL_law_2319 : decode cL_law 2319 = .ok (.iconst 3, 1) := by decide +kernel
theorem dL_law_2320 : decode cL_law 2320 = .ok (.iadd, 1) := by decide +kernel
theorem dL_law_2321 : decode cL_law 2321 = .ok (.iaload, 1) := by decide +kernel
theorem dL_law_2322 : decode cL_law 2322 = .ok (.aload_n 3, 1) := by decide +kernel
theorem dL_law_2323 : decode cL_law 2323 = .ok (.invokestatic 299, 3) := by decide +kernel
theorem dL_law_2326 : decode cL_law 2326 = .ok (.istore 6, 2) := by decide +kernel
theorem dL_law_2328 : decode cL_law 2328 = .ok (.aload_n 2, 1) := by decide +kernel
theorem dL_law_2329 : decode cL_law 2329 = .ok (.aload_n 0, 1) := by decide +kernel
theorem dL_law_2330 : decode cL_law 2330 = .ok (.iload 5, 2) := by decide +kernel
theorem dL_law_2332 : decode cL_law 2332 = .ok (.iconst 1, 1) := by decide +kernel
theorem dL_law_2333 : decode cL_law 2333 = .ok (.iadd, 1) := by decide +kernel
theorem dL_law_2334 : decode cL_law 2334 = .ok (.iaload, 1) := by decide +kernel
theorem dL_law_2335 : decode cL_law 2335 = .ok (.aload_n 0, 1) := by decide +kernel
theorem dL_law_2336 : decode cL_law 2336 = .ok (.iload 5, 2) := by decide +kernel
theorem dL_law_2338 : decode cL_law 2338 = .ok (.iconst 2, 1) := by decide +kernel
theorem dL_law_2339 : decode cL_law 2339 = .ok (.iadd, 1) := by decide +kernel
theorem dL_law_2340 : decode cL_law 2340 = .ok (.iaload, 1) := by decide +kernel
theorem dL_law_2341 : decode cL_law 2341 = .ok (.aload_n 0, 1) := by decide +kernel
theorem dL_law_2342 : decode cL_law 2342 = .ok (.iload 5, 2) := by decide +kernel
theorem dL_law_2344 : decode cL_law 2344 = .ok (.iconst 3, 1) := by decide +kernel
theorem dL_law_2345 : decode cL_law 2345 = .ok (.iadd, 1) := by decide +kernel
theorem dL_law_2346 : decode cL_law 2346 = .ok (.iaload, 1) := by decide +kernel
theorem dL_law_2347 : decode cL_law 2347 = .ok (.invokevirtual 302, 3) := by decide +kernel
theorem dL_law_2350 : decode cL_law 2350 = .ok (.istore 7, 2) := by decide +kernel
theorem dL_law_2352 : decode cL_law 2352 = .ok (.aload_n 2, 1) := by decide +kernel
theorem dL_law_2353 : decode cL_law 2353 = .ok (.invokevirtual 187, 3) := by decide +kernel
theorem dL_law_2356 : decode cL_law 2356 = .ok (.iload 6, 2) := by decide +kernel
theorem dL_law_2358 : decode cL_law 2358 = .ok (.if_icmp .eq 5, 3) := by decide +kernel
theorem dL_law_2361 : decode cL_law 2361 = .ok (.iconst 0, 1) := by decide +kernel
theorem dL_law_2362 : decode cL_law 2362 = .ok (.ireturn, 1) := by decide +kernel
theorem dL_law_2363 : decode cL_law 2363 = .ok (.iload 6, 2) := by decide +kernel
theorem dL_law_2365 : decode cL_law 2365 = .ok (.ifCond .ne 15, 3) := by decide +kernel
theorem dL_law_2368 : decode cL_law 2368 = .ok (.aload_n 3, 1) := by decide +kernel
theorem dL_law_2369 : decode cL_law 2369 = .ok (.iconst 0, 1) := by decide +kernel
theorem dL_law_2370 : decode cL_law 2370 = .ok (.laload, 1) := by decide +kernel
theorem dL_law_2371 : decode cL_law 2371 = .ok (.iload 7, 2) := by decide +kernel
theorem dL_law_2373 : decode cL_law 2373 = .ok (.i2l, 1) := by decide +kernel
theorem dL_law_2374 : decode cL_law 2374 = .ok (.lcmp, 1) := by decide +kernel
theorem dL_law_2375 : decode cL_law 2375 = .ok (.ifCond .eq 5, 3) := by decide +kernel
theorem dL_law_2378 : decode cL_law 2378 = .ok (.iconst 0, 1) := by decide +kernel
theorem dL_law_2379 : decode cL_law 2379 = .ok (.ireturn, 1) := by decide +kernel
theorem dL_law_2380 : decode cL_law 2380 = .ok (.goto 930, 3) := by decide +kernel
theorem dL_law_2383 : decode cL_law 2383 = .ok (.aload_n 1, 1) := by decide +kernel
theorem dL_law_2384 : decode cL_law 2384 = .ok (.aload_n 0, 1) := by decide +kernel
theorem dL_law_2385 : decode cL_law 2385 = .ok (.iload 5, 2) := by decide +kernel
theorem dL_law_2387 : decode cL_law 2387 = .ok (.iconst 1, 1) := by decide +kernel
theorem dL_law_2388 : decode cL_law 2388 = .ok (.iadd, 1) := by decide +kernel
theorem dL_law_2389 : decode cL_law 2389 = .ok (.iaload, 1) := by decide +kernel
theorem dL_law_2390 : decode cL_law 2390 = .ok (.aload_n 0, 1) := by decide +kernel
theorem dL_law_2391 : decode cL_law 2391 = .ok (.iload 5, 2) := by decide +kernel
theorem dL_law_2393 : decode cL_law 2393 = .ok (.iconst 2, 1) := by decide +kernel
theorem dL_law_2394 : decode cL_law 2394 = .ok (.iadd, 1) := by decide +kernel
theorem dL_law_2395 : decode cL_law 2395 = .ok (.iaload, 1) := by decide +kernel
theorem dL_law_2396 : decode cL_law 2396 = .ok (.aload_n 0, 1) := by decide +kernel
theorem dL_law_2397 : decode cL_law 2397 = .ok (.iload 5, 2) := by decide +kernel
theorem dL_law_2399 : decode cL_law 2399 = .ok (.iconst 3, 1) := by decide +kernel
theorem dL_law_2400 : decode cL_law 2400 = .ok (.iadd, 1) := by decide +kernel
theorem dL_law_2401 : decode cL_law 2401 = .ok (.iaload, 1) := by decide +kernel
theorem dL_law_2402 : decode cL_law 2402 = .ok (.aload_n 3, 1) := by decide +kernel
theorem dL_law_2403 : decode cL_law 2403 = .ok (.invokestatic 303, 3) := by decide +kernel
theorem dL_law_2406 : decode cL_law 2406 = .ok (.istore 6, 2) := by decide +kernel
theorem dL_law_2408 : decode cL_law 2408 = .ok (.aload_n 2, 1) := by decide +kernel
theorem dL_law_2409 : decode cL_law 2409 = .ok (.aload_n 0, 1) := by decide +kernel
theorem dL_law_2410 : decode cL_law 2410 = .ok (.iload 5, 2) := by decide +kernel
theorem dL_law_2412 : decode cL_law 2412 = .ok (.iconst 1, 1) := by decide +kernel
theorem dL_law_2413 : decode cL_law 2413 = .ok (.iadd, 1) := by decide +kernel
theorem dL_law_2414 : decode cL_law 2414 = .ok (.iaload, 1) := by decide +kernel
theorem dL_law_2415 : decode cL_law 2415 = .ok (.aload_n 0, 1) := by decide +kernel
theorem dL_law_2416 : decode cL_law 2416 = .ok (.iload 5, 2) := by decide +kernel
theorem dL_law_2418 : decode cL_law 2418 = .ok (.iconst 2, 1) := by decide +kernel
theorem dL_law_2419 : decode cL_law 2419 = .ok (.iadd, 1) := by decide +kernel
theorem dL_law_2420 : decode cL_law 2420 = .ok (.iaload, 1) := by decide +kernel
theorem dL_law_2421 : decode cL_law 2421 = .ok (.aload_n 0, 1) := by decide +kernel
theorem dL_law_2422 : decode cL_law 2422 = .ok (.iload 5, 2) := by decide +kernel
theorem dL_law_2424 : decode cL_law 2424 = .ok (.iconst 3, 1) := by decide +kernel
theorem dL_law_2425 : decode cL_law 2425 = .ok (.iadd, 1) := by decide +kernel
theorem dL_law_2426 : decode cL_law 2426 = .ok (.iaload, 1) := by decide +kernel
theorem dL_law_2427 : decode cL_law 2427 = .ok (.invokevirtual 305, 3) := by decide +kernel
theorem dL_law_2430 : decode cL_law 2430 = .ok (.istore 7, 2) := by decide +kernel
theorem dL_law_2432 : decode cL_law 2432 = .ok (.aload_n 2, 1) := by decide +kernel
theorem dL_law_2433 : decode cL_law 2433 = .ok (.invokevirtual 187, 3) := by decide +kernel
theorem dL_law_2436 : decode cL_law 2436 = .ok (.iload 6, 2) := by decide +kernel
theorem dL_law_2438 : decode cL_law 2438 = .ok (.if_icmp .eq 5, 3) := by decide +kernel
theorem dL_law_2441 : decode cL_law 2441 = .ok (.iconst 0, 1) := by decide +kernel
theorem dL_law_2442 : decode cL_law 2442 = .ok (.ireturn, 1) := by decide +kernel
theorem dL_law_2443 : decode cL_law 2443 = .ok (.iload 6, 2) := by decide +kernel
theorem dL_law_2445 : decode cL_law 2445 = .ok (.ifCond .ne 15, 3) := by decide +kernel
theorem dL_law_2448 : decode cL_law 2448 = .ok (.aload_n 3, 1) := by decide +kernel
theorem dL_law_2449 : decode cL_law 2449 = .ok (.iconst 0, 1) := by decide +kernel
theorem dL_law_2450 : decode cL_law 2450 = .ok (.laload, 1) := by decide +kernel
theorem dL_law_2451 : decode cL_law 2451 = .ok (.iload 7, 2) := by decide +kernel
theorem dL_law_2453 : decode cL_law 2453 = .ok (.i2l, 1) := by decide +kernel
theorem dL_law_2454 : decode cL_law 2454 = .ok (.lcmp, 1) := by decide +kernel
theorem dL_law_2455 : decode cL_law 2455 = .ok (.ifCond .eq 5, 3) := by decide +kernel
theorem dL_law_2458 : decode cL_law 2458 = .ok (.iconst 0, 1) := by decide +kernel
theorem dL_law_2459 : decode cL_law 2459 = .ok (.ireturn, 1) := by decide +kernel
theorem dL_law_2460 : decode cL_law 2460 = .ok (.goto 850, 3) := by decide +kernel
theorem dL_law_2463 : decode cL_law 2463 = .ok (.aload_n 1, 1) := by decide +kernel
theorem dL_law_2464 : decode cL_law 2464 = .ok (.aload_n 0, 1) := by decide +kernel
theorem dL_law_2465 : decode cL_law 2465 = .ok (.iload 5, 2) := by decide +kernel
theorem dL_law_2467 : decode cL_law 2467 = .ok (.iconst 1, 1) := by decide +kernel
theorem dL_law_2468 : decode cL_law 2468 = .ok (.iadd, 1) := by decide +kernel
theorem dL_law_2469 : decode cL_law 2469 = .ok (.iaload, 1) := by decide +kernel
theorem dL_law_2470 : decode cL_law 2470 = .ok (.aload_n 3, 1) := by decide +kernel
theorem dL_law_2471 : decode cL_law 2471 = .ok (.invokestatic 306, 3) := by decide +kernel
theorem dL_law_2474 : decode cL_law 2474 = .ok (.istore 6, 2) := by decide +kernel
theorem dL_law_2476 : decode cL_law 2476 = .ok (.aload_n 2, 1) := by decide +kernel
theorem dL_law_2477 : decode cL_law 2477 = .ok (.aload_n 0, 1) := by decide +kernel
theorem dL_law_2478 : decode cL_law 2478 = .ok (.iload 5, 2) := by decide +kernel
theorem dL_law_2480 : decode cL_law 2480 = .ok (.iconst 1, 1) := by decide +kernel
theorem dL_law_2481 : decode cL_law 2481 = .ok (.iadd, 1) := by decide +kernel
theorem dL_law_2482 : decode cL_law 2482 = .ok (.iaload, 1) := by decide +kernel
theorem dL_law_2483 : decode cL_law 2483 = .ok (.invokevirtual 308, 3) := by decide +kernel
theorem dL_law_2486 : decode cL_law 2486 = .ok (.istore 7, 2) := by decide +kernel
theorem dL_law_2488 : decode cL_law 2488 = .ok (.aload_n 2, 1) := by decide +kernel
theorem dL_law_2489 : decode cL_law 2489 = .ok (.invokevirtual 187, 3) := by decide +kernel
theorem dL_law_2492 : decode cL_law 2492 = .ok (.iload 6, 2) := by decide +kernel
theorem dL_law_2494 : decode cL_law 2494 = .ok (.if_icmp .eq 5, 3) := by decide +kernel
theorem dL_law_2497 : decode cL_law 2497 = .ok (.iconst 0, 1) := by decide +kernel
theorem dL_law_2498 : decode cL_law 2498 = .ok (.ireturn, 1) := by decide +kernel
theorem dL_law_2499 : decode cL_law 2499 = .ok (.iload 6, 2) := by decide +kernel
theorem dL_law_2501 : decode cL_law 2501 = .ok (.ifCond .ne 15, 3) := by decide +kernel
theorem dL_law_2504 : decode cL_law 2504 = .ok (.aload_n 3, 1) := by decide +kernel
theorem dL_law_2505 : decode cL_law 2505 = .ok (.iconst 0, 1) := by decide +kernel
theorem dL_law_2506 : decode cL_law 2506 = .ok (.laload, 1) := by decide +kernel
theorem dL_law_2507 : decode cL_law 2507 = .ok (.iload 7, 2) := by decide +kernel
theorem dL_law_2509 : decode cL_law 2509 = .ok (.i2l, 1) := by decide +kernel
theorem dL_law_2510 : decode cL_law 2510 = .ok (.lcmp, 1) := by decide +kernel
theorem dL_law_2511 : decode cL_law 2511 = .ok (.ifCond .eq 5, 3) := by decide +kernel
theorem dL_law_2514 : decode cL_law 2514 = .ok (.iconst 0, 1) := by decide +kernel
theorem dL_law_2515 : decode cL_law 2515 = .ok (.ireturn, 1) := by decide +kernel
theorem dL_law_2516 : decode cL_law 2516 = .ok (.goto 794, 3) := by decide +kernel
theorem dL_law_2519 : decode cL_law 2519 = .ok (.aload_n 1, 1) := by decide +kernel
theorem dL_law_2520 : decode cL_law 2520 = .ok (.aload_n 0, 1) := by decide +kernel
theorem dL_law_2521 : decode cL_law 2521 = .ok (.iload 5, 2) := by decide +kernel
theorem dL_law_2523 : decode cL_law 2523 = .ok (.iconst 1, 1) := by decide +kernel
theorem dL_law_2524 : decode cL_law 2524 = .ok (.iadd, 1) := by decide +kernel
theorem dL_law_2525 : decode cL_law 2525 = .ok (.iaload, 1) := by decide +kernel
theorem dL_law_2526 : decode cL_law 2526 = .ok (.aload_n 0, 1) := by decide +kernel
theorem dL_law_2527 : decode cL_law 2527 = .ok (.iload 5, 2) := by decide +kernel
theorem dL_law_2529 : decode cL_law 2529 = .ok (.iconst 2, 1) := by decide +kernel
theorem dL_law_2530 : decode cL_law 2530 = .ok (.iadd, 1) := by decide +kernel
theorem dL_law_2531 : decode cL_law 2531 = .ok (.iaload, 1) := by decide +kernel
theorem dL_law_2532 : decode cL_law 2532 = .ok (.aload_n 3, 1) := by decide +kernel
theorem dL_law_2533 : decode cL_law 2533 = .ok (.invokestatic 309, 3) := by decide +kernel
theorem dL_law_2536 : decode cL_law 2536 = .ok (.istore 6, 2) := by decide +kernel
theorem dL_law_2538 : decode cL_law 2538 = .ok (.aload_n 2, 1) := by decide +kernel
theorem dL_law_2539 : decode cL_law 2539 = .ok (.aload_n 0, 1) := by decide +kernel
theorem dL_law_2540 : decode cL_law 2540 = .ok (.iload 5, 2) := by decide +kernel
theorem dL_law_2542 : decode cL_law 2542 = .ok (.iconst 1, 1) := by decide +kernel
theorem dL_law_2543 : decode cL_law 2543 = .ok (.iadd, 1) := by decide +kernel
theorem dL_law_2544 : decode cL_law 2544 = .ok (.iaload, 1) := by decide +kernel
theorem dL_law_2545 : decode cL_law 2545 = .ok (.aload_n 0, 1) := by decide +kernel
theorem dL_law_2546 : decode cL_law 2546 = .ok (.iload 5, 2) := by decide +kernel
theorem dL_law_2548 : decode cL_law 2548 = .ok (.iconst 2, 1) := by decide +kernel
theorem dL_law_2549 : decode cL_law 2549 = .ok (.iadd, 1) := by decide +kernel
theorem dL_law_2550 : decode cL_law 2550 = .ok (.iaload, 1) := by decide +kernel
theorem dL_law_2551 : decode cL_law 2551 = .ok (.invokevirtual 311, 3) := by decide +kernel
theorem dL_law_2554 : decode cL_law 2554 = .ok (.istore 7, 2) := by decide +kernel
theorem dL_law_2556 : decode cL_law 2556 = .ok (.aload_n 2, 1) := by decide +kernel
theorem dL_law_2557 : decode cL_law 2557 = .ok (.invokevirtual 187, 3) := by decide +kernel
theorem dL_law_2560 : decode cL_law 2560 = .ok (.iload 6, 2) := by decide +kernel
theorem dL_law_2562 : decode cL_law 2562 = .ok (.if_icmp .eq 5, 3) := by decide +kernel
theorem dL_law_2565 : decode cL_law 2565 = .ok (.iconst 0, 1) := by decide +kernel
theorem dL_law_2566 : decode cL_law 2566 = .ok (.ireturn, 1) := by decide +kernel
theorem dL_law_2567 : decode cL_law 2567 = .ok (.iload 6, 2) := by decide +kernel
theorem dL_law_2569 : decode cL_law 2569 = .ok (.ifCond .ne 15, 3) := by decide +kernel
theorem dL_law_2572 : decode cL_law 2572 = .ok (.aload_n 3, 1) := by decide +kernel
theorem dL_law_2573 : decode cL_law 2573 = .ok (.iconst 0, 1) := by decide +kernel
theorem dL_law_2574 : decode cL_law 2574 = .ok (.laload, 1) := by decide +kernel
theorem dL_law_2575 : decode cL_law 2575 = .ok (.iload 7, 2) := by decide +kernel
theorem dL_law_2577 : decode cL_law 2577 = .ok (.i2l, 1) := by decide +kernel
theorem dL_law_2578 : decode cL_law 2578 = .ok (.lcmp, 1) := by decide +kernel
theorem dL_law_2579 : decode cL_law 2579 = .ok (.ifCond .eq 5, 3) := by decide +kernel
theorem dL_law_2582 : decode cL_law 2582 = .ok (.iconst 0, 1) := by decide +kernel
theorem dL_law_2583 : decode cL_law 2583 = .ok (.ireturn, 1) := by decide +kernel
theorem dL_law_2584 : decode cL_law 2584 = .ok (.goto 726, 3) := by decide +kernel
theorem dL_law_2587 : decode cL_law 2587 = .ok (.aload_n 1, 1) := by decide +kernel
theorem dL_law_2588 : decode cL_law 2588 = .ok (.aload_n 0, 1) := by decide +kernel
theorem dL_law_2589 : decode cL_law 2589 = .ok (.iload 5, 2) := by decide +kernel
theorem dL_law_2591 : decode cL_law 2591 = .ok (.iconst 1, 1) := by decide +kernel
theorem dL_law_2592 : decode cL_law 2592 = .ok (.iadd, 1) := by decide +kernel
theorem dL_law_2593 : decode cL_law 2593 = .ok (.iaload, 1) := by decide +kernel
theorem dL_law_2594 : decode cL_law 2594 = .ok (.aload_n 0, 1) := by decide +kernel
theorem dL_law_2595 : decode cL_law 2595 = .ok (.iload 5, 2) := by decide +kernel
theorem dL_law_2597 : decode cL_law 2597 = .ok (.iconst 2, 1) := by decide +kernel
theorem dL_law_2598 : decode cL_law 2598 = .ok (.iadd, 1) := by decide +kernel
theorem dL_law_2599 : decode cL_law 2599 = .ok (.iaload, 1) := by decide +kernel
theorem dL_law_2600 : decode cL_law 2600 = .ok (.aload_n 3, 1) := by decide +kernel
theorem dL_law_2601 : decode cL_law 2601 = .ok (.invokestatic 312, 3) := by decide +kernel
theorem dL_law_2604 : decode cL_law 2604 = .ok (.istore 6, 2) := by decide +kernel
theorem dL_law_2606 : decode cL_law 2606 = .ok (.aload_n 2, 1) := by decide +kernel
theorem dL_law_2607 : decode cL_law 2607 = .ok (.aload_n 0, 1) := by decide +kernel
theorem dL_law_2608 : decode cL_law 2608 = .ok (.iload 5, 2) := by decide +kernel
theorem dL_law_2610 : decode cL_law 2610 = .ok (.iconst 1, 1) := by decide +kernel
theorem dL_law_2611 : decode cL_law 2611 = .ok (.iadd, 1) := by decide +kernel
theorem dL_law_2612 : decode cL_law 2612 = .ok (.iaload, 1) := by decide +kernel
theorem dL_law_2613 : decode cL_law 2613 = .ok (.aload_n 0, 1) := by decide +kernel
theorem dL_law_2614 : decode cL_law 2614 = .ok (.iload 5, 2) := by decide +kernel
theorem dL_law_2616 : decode cL_law 2616 = .ok (.iconst 2, 1) := by decide +kernel
theorem dL_law_2617 : decode cL_law 2617 = .ok (.iadd, 1) := by decide +kernel
theorem dL_law_2618 : decode cL_law 2618 = .ok (.iaload, 1) := by decide +kernel
theorem dL_law_2619 : decode cL_law 2619 = .ok (.invokevirtual 314, 3) := by decide +kernel
theorem dL_law_2622 : decode cL_law 2622 = .ok (.istore 7, 2) := by decide +kernel
theorem dL_law_2624 : decode cL_law 2624 = .ok (.aload_n 2, 1) := by decide +kernel
theorem dL_law_2625 : decode cL_law 2625 = .ok (.invokevirtual 187, 3) := by decide +kernel
theorem dL_law_2628 : decode cL_law 2628 = .ok (.iload 6, 2) := by decide +kernel
theorem dL_law_2630 : decode cL_law 2630 = .ok (.if_icmp .eq 5, 3) := by decide +kernel
theorem dL_law_2633 : decode cL_law 2633 = .ok (.iconst 0, 1) := by decide +kernel
theorem dL_law_2634 : decode cL_law 2634 = .ok (.ireturn, 1) := by decide +kernel
theorem dL_law_2635 : decode cL_law 2635 = .ok (.iload 6, 2) := by decide +kernel
theorem dL_law_2637 : decode cL_law 2637 = .ok (.ifCond .ne 15, 3) := by decide +kernel
theorem dL_law_2640 : decode cL_law 2640 = .ok (.aload_n 3, 1) := by decide +kernel
theorem dL_law_2641 : decode cL_law 2641 = .ok (.iconst 0, 1) := by decide +kernel
theorem dL_law_2642 : decode cL_law 2642 = .ok (.laload, 1) := by decide +kernel
theorem dL_law_2643 : decode cL_law 2643 = .ok (.iload 7, 2) := by decide +kernel
theorem dL_law_2645 : decode cL_law 2645 = .ok (.i2l, 1) := by decide +kernel
theorem dL_law_2646 : decode cL_law 2646 = .ok (.lcmp, 1) := by decide +kernel
theorem dL_law_2647 : decode cL_law 2647 = .ok (.ifCond .eq 5, 3) := by decide +kernel
theorem dL_law_2650 : decode cL_law 2650 = .ok (.iconst 0, 1) := by decide +kernel
theorem dL_law_2651 : decode cL_law 2651 = .ok (.ireturn, 1) := by decide +kernel
theorem dL_law_2652 : decode cL_law 2652 = .ok (.goto 658, 3) := by decide +kernel
theorem dL_law_2655 : decode cL_law 2655 = .ok (.aload_n 1, 1) := by decide +kernel
theorem dL_law_2656 : decode cL_law 2656 = .ok (.invokevirtual 315, 3) := by decide +kernel
theorem dL_law_2659 : decode cL_law 2659 = .ok (.aload_n 2, 1) := by decide +kernel
theorem dL_law_2660 : decode cL_law 2660 = .ok (.invokevirtual 318, 3) := by decide +kernel
theorem dL_law_2663 : decode cL_law 2663 = .ok (.if_icmp .eq 647, 3) := by decide +kernel
theorem dL_law_2666 : decode cL_law 2666 = .ok (.iconst 0, 1) := by decide +kernel
theorem dL_law_2667 : decode cL_law 2667 = .ok (.ireturn, 1) := by decide +kernel
theorem dL_law_2668 : decode cL_law 2668 = .ok (.aload_n 1, 1) := by decide +kernel
theorem dL_law_2669 : decode cL_law 2669 = .ok (.invokevirtual 319, 3) := by decide +kernel
theorem dL_law_2672 : decode cL_law 2672 = .ok (.aload_n 2, 1) := by decide +kernel
theorem dL_law_2673 : decode cL_law 2673 = .ok (.invokevirtual 322, 3) := by decide +kernel
theorem dL_law_2676 : decode cL_law 2676 = .ok (.if_icmp .eq 634, 3) := by decide +kernel
theorem dL_law_2679 : decode cL_law 2679 = .ok (.iconst 0, 1) := by decide +kernel
theorem dL_law_2680 : decode cL_law 2680 = .ok (.ireturn, 1) := by decide +kernel
theorem dL_law_2681 : decode cL_law 2681 = .ok (.aload_n 1, 1) := by decide +kernel
theorem dL_law_2682 : decode cL_law 2682 = .ok (.invokevirtual 323, 3) := by decide +kernel
theorem dL_law_2685 : decode cL_law 2685 = .ok (.aload_n 2, 1) := by decide +kernel
theorem dL_law_2686 : decode cL_law 2686 = .ok (.invokevirtual 326, 3) := by decide +kernel
theorem dL_law_2689 : decode cL_law 2689 = .ok (.if_icmp .eq 621, 3) := by decide +kernel
theorem dL_law_2692 : decode cL_law 2692 = .ok (.iconst 0, 1) := by decide +kernel
theorem dL_law_2693 : decode cL_law 2693 = .ok (.ireturn, 1) := by decide +kernel
theorem dL_law_2694 : decode cL_law 2694 = .ok (.aload_n 1, 1) := by decide +kernel
theorem dL_law_2695 : decode cL_law 2695 = .ok (.invokevirtual 327, 3) := by decide +kernel
theorem dL_law_2698 : decode cL_law 2698 = .ok (.aload_n 2, 1) := by decide +kernel
theorem dL_law_2699 : decode cL_law 2699 = .ok (.invokevirtual 330, 3) := by decide +kernel
theorem dL_law_2702 : decode cL_law 2702 = .ok (.if_icmp .eq 608, 3) := by decide +kernel
theorem dL_law_2705 : decode cL_law 2705 = .ok (.iconst 0, 1) := by decide +kernel
theorem dL_law_2706 : decode cL_law 2706 = .ok (.ireturn, 1) := by decide +kernel
theorem dL_law_2707 : decode cL_law 2707 = .ok (.aload_n 1, 1) := by decide +kernel
theorem dL_law_2708 : decode cL_law 2708 = .ok (.aload 4, 2) := by decide +kernel
theorem dL_law_2710 : decode cL_law 2710 = .ok (.invokestatic 331, 3) := by decide +kernel
theorem dL_law_2713 : decode cL_law 2713 = .ok (.istore 6, 2) := by decide +kernel
theorem dL_law_2715 : decode cL_law 2715 = .ok (.aload_n 2, 1) := by decide +kernel
theorem dL_law_2716 : decode cL_law 2716 = .ok (.invokevirtual 334, 3) := by decide +kernel
theorem dL_law_2719 : decode cL_law 2719 = .ok (.dstore 7, 2) := by decide +kernel
theorem dL_law_2721 : decode cL_law 2721 = .ok (.aload_n 2, 1) := by decide +kernel
theorem dL_law_2722 : decode cL_law 2722 = .ok (.invokevirtual 187, 3) := by decide +kernel
theorem dL_law_2725 : decode cL_law 2725 = .ok (.iload 6, 2) := by decide +kernel
theorem dL_law_2727 : decode cL_law 2727 = .ok (.if_icmp .eq 5, 3) := by decide +kernel
theorem dL_law_2730 : decode cL_law 2730 = .ok (.iconst 0, 1) := by decide +kernel
theorem dL_law_2731 : decode cL_law 2731 = .ok (.ireturn, 1) := by decide +kernel
theorem dL_law_2732 : decode cL_law 2732 = .ok (.iload 6, 2) := by decide +kernel
theorem dL_law_2734 : decode cL_law 2734 = .ok (.ifCond .ne 35, 3) := by decide +kernel
theorem dL_law_2737 : decode cL_law 2737 = .ok (.aload 4, 2) := by decide +kernel
theorem dL_law_2739 : decode cL_law 2739 = .ok (.iconst 0, 1) := by decide +kernel
theorem dL_law_2740 : decode cL_law 2740 = .ok (.daload, 1) := by decide +kernel
theorem dL_law_2741 : decode cL_law 2741 = .ok (.dload 7, 2) := by decide +kernel
theorem dL_law_2743 : decode cL_law 2743 = .ok (.dcmp .l, 1) := by decide +kernel
theorem dL_law_2744 : decode cL_law 2744 = .ok (.ifCond .eq 25, 3) := by decide +kernel
theorem dL_law_2747 : decode cL_law 2747 = .ok (.aload 4, 2) := by decide +kernel
theorem dL_law_2749 : decode cL_law 2749 = .ok (.iconst 0, 1) := by decide +kernel
theorem dL_law_2750 : decode cL_law 2750 = .ok (.daload, 1) := by decide +kernel
theorem dL_law_2751 : decode cL_law 2751 = .ok (.aload 4, 2) := by decide +kernel
theorem dL_law_2753 : decode cL_law 2753 = .ok (.iconst 0, 1) := by decide +kernel
theorem dL_law_2754 : decode cL_law 2754 = .ok (.daload, 1) := by decide +kernel
theorem dL_law_2755 : decode cL_law 2755 = .ok (.dcmp .l, 1) := by decide +kernel
theorem dL_law_2756 : decode cL_law 2756 = .ok (.ifCond .eq 11, 3) := by decide +kernel
theorem dL_law_2759 : decode cL_law 2759 = .ok (.dload 7, 2) := by decide +kernel
theorem dL_law_2761 : decode cL_law 2761 = .ok (.dload 7, 2) := by decide +kernel
theorem dL_law_2763 : decode cL_law 2763 = .ok (.dcmp .l, 1) := by decide +kernel
theorem dL_law_2764 : decode cL_law 2764 = .ok (.ifCond .ne 5, 3) := by decide +kernel
theorem dL_law_2767 : decode cL_law 2767 = .ok (.iconst 0, 1) := by decide +kernel
theorem dL_law_2768 : decode cL_law 2768 = .ok (.ireturn, 1) := by decide +kernel
theorem dL_law_2769 : decode cL_law 2769 = .ok (.goto 541, 3) := by decide +kernel
theorem dL_law_2772 : decode cL_law 2772 = .ok (.aload_n 1, 1) := by decide +kernel
theorem dL_law_2773 : decode cL_law 2773 = .ok (.aload 4, 2) := by decide +kernel
theorem dL_law_2775 : decode cL_law 2775 = .ok (.invokestatic 335, 3) := by decide +kernel
theorem dL_law_2778 : decode cL_law 2778 = .ok (.istore 6, 2) := by decide +kernel
theorem dL_law_2780 : decode cL_law 2780 = .ok (.aload_n 2, 1) := by decide +kernel
theorem dL_law_2781 : decode cL_law 2781 = .ok (.invokevirtual 337, 3) := by decide +kernel
theorem dL_law_2784 : decode cL_law 2784 = .ok (.fstore 7, 2) := by decide +kernel
theorem dL_law_2786 : decode cL_law 2786 = .ok (.aload_n 2, 1) := by decide +kernel
theorem dL_law_2787 : decode cL_law 2787 = .ok (.invokevirtual 187, 3) := by decide +kernel
theorem dL_law_2790 : decode cL_law 2790 = .ok (.iload 6, 2) := by decide +kernel
theorem dL_law_2792 : decode cL_law 2792 = .ok (.if_icmp .eq 5, 3) := by decide +kernel
theorem dL_law_2795 : decode cL_law 2795 = .ok (.iconst 0, 1) := by decide +kernel
theorem dL_law_2796 : decode cL_law 2796 = .ok (.ireturn, 1) := by decide +kernel
theorem dL_law_2797 : decode cL_law 2797 = .ok (.iload 6, 2) := by decide +kernel
theorem dL_law_2799 : decode cL_law 2799 = .ok (.ifCond .ne 36, 3) := by decide +kernel
theorem dL_law_2802 : decode cL_law 2802 = .ok (.aload 4, 2) := by decide +kernel
theorem dL_law_2804 : decode cL_law 2804 = .ok (.iconst 0, 1) := by decide +kernel
theorem dL_law_2805 : decode cL_law 2805 = .ok (.daload, 1) := by decide +kernel
theorem dL_law_2806 : decode cL_law 2806 = .ok (.fload 7, 2) := by decide +kernel
theorem dL_law_2808 : decode cL_law 2808 = .ok (.f2d, 1) := by decide +kernel
theorem dL_law_2809 : decode cL_law 2809 = .ok (.dcmp .l, 1) := by decide +kernel
theorem dL_law_2810 : decode cL_law 2810 = .ok (.ifCond .eq 25, 3) := by decide +kernel
theorem dL_law_2813 : decode cL_law 2813 = .ok (.aload 4, 2) := by decide +kernel
theorem dL_law_2815 : decode cL_law 2815 = .ok (.iconst 0, 1) := by decide +kernel
theorem dL_law_2816 : decode cL_law 2816 = .ok (.daload, 1) := by decide +kernel
theorem dL_law_2817 : decode cL_law 2817 = .ok (.aload 4, 2) := by decide +kernel
theorem dL_law_2819 : decode cL_law 2819 = .ok (.iconst 0, 1) := by decide +kernel
theorem dL_law_2820 : decode cL_law 2820 = .ok (.daload, 1) := by decide +kernel
theorem dL_law_2821 : decode cL_law 2821 = .ok (.dcmp .l, 1) := by decide +kernel
theorem dL_law_2822 : decode cL_law 2822 = .ok (.ifCond .eq 11, 3) := by decide +kernel
theorem dL_law_2825 : decode cL_law 2825 = .ok (.fload 7, 2) := by decide +kernel
theorem dL_law_2827 : decode cL_law 2827 = .ok (.fload 7, 2) := by decide +kernel
theorem dL_law_2829 : decode cL_law 2829 = .ok (.fcmp .l, 1) := by decide +kernel
theorem dL_law_2830 : decode cL_law 2830 = .ok (.ifCond .ne 5, 3) := by decide +kernel
theorem dL_law_2833 : decode cL_law 2833 = .ok (.iconst 0, 1) := by decide +kernel
theorem dL_law_2834 : decode cL_law 2834 = .ok (.ireturn, 1) := by decide +kernel
theorem dL_law_2835 : decode cL_law 2835 = .ok (.goto 475, 3) := by decide +kernel
theorem dL_law_2838 : decode cL_law 2838 = .ok (.aload_n 1, 1) := by decide +kernel
theorem dL_law_2839 : decode cL_law 2839 = .ok (.invokevirtual 338, 3) := by decide +kernel
theorem dL_law_2842 : decode cL_law 2842 = .ok (.aload_n 2, 1) := by decide +kernel
theorem dL_law_2843 : decode cL_law 2843 = .ok (.invokevirtual 342, 3) := by decide +kernel
theorem dL_law_2846 : decode cL_law 2846 = .ok (.if_icmp .eq 464, 3) := by decide +kernel
theorem dL_law_2849 : decode cL_law 2849 = .ok (.iconst 0, 1) := by decide +kernel
theorem dL_law_2850 : decode cL_law 2850 = .ok (.ireturn, 1) := by decide +kernel
theorem dL_law_2851 : decode cL_law 2851 = .ok (.aload_n 1, 1) := by decide +kernel
theorem dL_law_2852 : decode cL_law 2852 = .ok (.aload_n 0, 1) := by decide +kernel
theorem dL_law_2853 : decode cL_law 2853 = .ok (.iload 5, 2) := by decide +kernel
theorem dL_law_2855 : decode cL_law 2855 = .ok (.iconst 1, 1) := by decide +kernel
theorem dL_law_2856 : decode cL_law 2856 = .ok (.iadd, 1) := by decide +kernel
theorem dL_law_2857 : decode cL_law 2857 = .ok (.iaload, 1) := by decide +kernel
theorem dL_law_2858 : decode cL_law 2858 = .ok (.aload_n 3, 1) := by decide +kernel
theorem dL_law_2859 : decode cL_law 2859 = .ok (.invokestatic 343, 3) := by decide +kernel
theorem dL_law_2862 : decode cL_law 2862 = .ok (.istore 6, 2) := by decide +kernel
theorem dL_law_2864 : decode cL_law 2864 = .ok (.aload_n 2, 1) := by decide +kernel
theorem dL_law_2865 : decode cL_law 2865 = .ok (.aload_n 0, 1) := by decide +kernel
theorem dL_law_2866 : decode cL_law 2866 = .ok (.iload 5, 2) := by decide +kernel
theorem dL_law_2868 : decode cL_law 2868 = .ok (.iconst 1, 1) := by decide +kernel
theorem dL_law_2869 : decode cL_law 2869 = .ok (.iadd, 1) := by decide +kernel
theorem dL_law_2870 : decode cL_law 2870 = .ok (.iaload, 1) := by decide +kernel
theorem dL_law_2871 : decode cL_law 2871 = .ok (.invokevirtual 345, 3) := by decide +kernel
theorem dL_law_2874 : decode cL_law 2874 = .ok (.istore 7, 2) := by decide +kernel
theorem dL_law_2876 : decode cL_law 2876 = .ok (.aload_n 2, 1) := by decide +kernel
theorem dL_law_2877 : decode cL_law 2877 = .ok (.invokevirtual 187, 3) := by decide +kernel
theorem dL_law_2880 : decode cL_law 2880 = .ok (.iload 6, 2) := by decide +kernel
theorem dL_law_2882 : decode cL_law 2882 = .ok (.if_icmp .eq 5, 3) := by decide +kernel
theorem dL_law_2885 : decode cL_law 2885 = .ok (.iconst 0, 1) := by decide +kernel
theorem dL_law_2886 : decode cL_law 2886 = .ok (.ireturn, 1) := by decide +kernel
theorem dL_law_2887 : decode cL_law 2887 = .ok (.iload 6, 2) := by decide +kernel
theorem dL_law_2889 : decode cL_law 2889 = .ok (.ifCond .ne 15, 3) := by decide +kernel
theorem dL_law_2892 : decode cL_law 2892 = .ok (.aload_n 3, 1) := by decide +kernel
theorem dL_law_2893 : decode cL_law 2893 = .ok (.iconst 0, 1) := by decide +kernel
theorem dL_law_2894 : decode cL_law 2894 = .ok (.laload, 1) := by decide +kernel
theorem dL_law_2895 : decode cL_law 2895 = .ok (.iload 7, 2) := by decide +kernel
theorem dL_law_2897 : decode cL_law 2897 = .ok (.i2l, 1) := by decide +kernel
theorem dL_law_2898 : decode cL_law 2898 = .ok (.lcmp, 1) := by decide +kernel
theorem dL_law_2899 : decode cL_law 2899 = .ok (.ifCond .eq 5, 3) := by decide +kernel
theorem dL_law_2902 : decode cL_law 2902 = .ok (.iconst 0, 1) := by decide +kernel
theorem dL_law_2903 : decode cL_law 2903 = .ok (.ireturn, 1) := by decide +kernel
theorem dL_law_2904 : decode cL_law 2904 = .ok (.goto 406, 3) := by decide +kernel
theorem dL_law_2907 : decode cL_law 2907 = .ok (.aload_n 1, 1) := by decide +kernel
theorem dL_law_2908 : decode cL_law 2908 = .ok (.aload_n 0, 1) := by decide +kernel
theorem dL_law_2909 : decode cL_law 2909 = .ok (.iload 5, 2) := by decide +kernel
theorem dL_law_2911 : decode cL_law 2911 = .ok (.iconst 1, 1) := by decide +kernel
theorem dL_law_2912 : decode cL_law 2912 = .ok (.iadd, 1) := by decide +kernel
theorem dL_law_2913 : decode cL_law 2913 = .ok (.iaload, 1) := by decide +kernel
theorem dL_law_2914 : decode cL_law 2914 = .ok (.aload_n 3, 1) := by decide +kernel
theorem dL_law_2915 : decode cL_law 2915 = .ok (.invokestatic 346, 3) := by decide +kernel
theorem dL_law_2918 : decode cL_law 2918 = .ok (.istore 6, 2) := by decide +kernel
theorem dL_law_2920 : decode cL_law 2920 = .ok (.aload_n 2, 1) := by decide +kernel
theorem dL_law_2921 : decode cL_law 2921 = .ok (.aload_n 0, 1) := by decide +kernel
theorem dL_law_2922 : decode cL_law 2922 = .ok (.iload 5, 2) := by decide +kernel
theorem dL_law_2924 : decode cL_law 2924 = .ok (.iconst 1, 1) := by decide +kernel
theorem dL_law_2925 : decode cL_law 2925 = .ok (.iadd, 1) := by decide +kernel
theorem dL_law_2926 : decode cL_law 2926 = .ok (.iaload, 1) := by decide +kernel
theorem dL_law_2927 : decode cL_law 2927 = .ok (.invokevirtual 348, 3) := by decide +kernel
theorem dL_law_2930 : decode cL_law 2930 = .ok (.istore 7, 2) := by decide +kernel
theorem dL_law_2932 : decode cL_law 2932 = .ok (.aload_n 2, 1) := by decide +kernel
theorem dL_law_2933 : decode cL_law 2933 = .ok (.invokevirtual 187, 3) := by decide +kernel
theorem dL_law_2936 : decode cL_law 2936 = .ok (.iload 6, 2) := by decide +kernel
theorem dL_law_2938 : decode cL_law 2938 = .ok (.if_icmp .eq 5, 3) := by decide +kernel
theorem dL_law_2941 : decode cL_law 2941 = .ok (.iconst 0, 1) := by decide +kernel
theorem dL_law_2942 : decode cL_law 2942 = .ok (.ireturn, 1) := by decide +kernel
theorem dL_law_2943 : decode cL_law 2943 = .ok (.iload 6, 2) := by decide +kernel
theorem dL_law_2945 : decode cL_law 2945 = .ok (.ifCond .ne 15, 3) := by decide +kernel
theorem dL_law_2948 : decode cL_law 2948 = .ok (.aload_n 3, 1) := by decide +kernel
theorem dL_law_2949 : decode cL_law 2949 = .ok (.iconst 0, 1) := by decide +kernel
theorem dL_law_2950 : decode cL_law 2950 = .ok (.laload, 1) := by decide +kernel
theorem dL_law_2951 : decode cL_law 2951 = .ok (.iload 7, 2) := by decide +kernel
theorem dL_law_2953 : decode cL_law 2953 = .ok (.i2l, 1) := by decide +kernel
theorem dL_law_2954 : decode cL_law 2954 = .ok (.lcmp, 1) := by decide +kernel
theorem dL_law_2955 : decode cL_law 2955 = .ok (.ifCond .eq 5, 3) := by decide +kernel
theorem dL_law_2958 : decode cL_law 2958 = .ok (.iconst 0, 1) := by decide +kernel
theorem dL_law_2959 : decode cL_law 2959 = .ok (.ireturn, 1) := by decide +kernel
theorem dL_law_2960 : decode cL_law 2960 = .ok (.goto 350, 3) := by decide +kernel
theorem dL_law_2963 : decode cL_law 2963 = .ok (.aload_n 1, 1) := by decide +kernel
theorem dL_law_2964 : decode cL_law 2964 = .ok (.aload_n 0, 1) := by decide +kernel
theorem dL_law_2965 : decode cL_law 2965 = .ok (.iload 5, 2) := by decide +kernel
theorem dL_law_2967 : decode cL_law 2967 = .ok (.iconst 1, 1) := by decide +kernel
theorem dL_law_2968 : decode cL_law 2968 = .ok (.iadd, 1) := by decide +kernel
theorem dL_law_2969 : decode cL_law 2969 = .ok (.iaload, 1) := by decide +kernel
theorem dL_law_2970 : decode cL_law 2970 = .ok (.aload_n 3, 1) := by decide +kernel
theorem dL_law_2971 : decode cL_law 2971 = .ok (.invokestatic 349, 3) := by decide +kernel
theorem dL_law_2974 : decode cL_law 2974 = .ok (.istore 6, 2) := by decide +kernel
theorem dL_law_2976 : decode cL_law 2976 = .ok (.aload_n 2, 1) := by decide +kernel
theorem dL_law_2977 : decode cL_law 2977 = .ok (.aload_n 0, 1) := by decide +kernel
theorem dL_law_2978 : decode cL_law 2978 = .ok (.iload 5, 2) := by decide +kernel
theorem dL_law_2980 : decode cL_law 2980 = .ok (.iconst 1, 1) := by decide +kernel
theorem dL_law_2981 : decode cL_law 2981 = .ok (.iadd, 1) := by decide +kernel
theorem dL_law_2982 : decode cL_law 2982 = .ok (.iaload, 1) := by decide +kernel
theorem dL_law_2983 : decode cL_law 2983 = .ok (.invokevirtual 351, 3) := by decide +kernel
theorem dL_law_2986 : decode cL_law 2986 = .ok (.istore 7, 2) := by decide +kernel
theorem dL_law_2988 : decode cL_law 2988 = .ok (.aload_n 2, 1) := by decide +kernel
theorem dL_law_2989 : decode cL_law 2989 = .ok (.invokevirtual 187, 3) := by decide +kernel
theorem dL_law_2992 : decode cL_law 2992 = .ok (.iload 6, 2) := by decide +kernel
theorem dL_law_2994 : decode cL_law 2994 = .ok (.if_icmp .eq 5, 3) := by decide +kernel
theorem dL_law_2997 : decode cL_law 2997 = .ok (.iconst 0, 1) := by decide +kernel
theorem dL_law_2998 : decode cL_law 2998 = .ok (.ireturn, 1) := by decide +kernel
theorem dL_law_2999 : decode cL_law 2999 = .ok (.iload 6, 2) := by decide +kernel
theorem dL_law_3001 : decode cL_law 3001 = .ok (.ifCond .ne 15, 3) := by decide +kernel
theorem dL_law_3004 : decode cL_law 3004 = .ok (.aload_n 3, 1) := by decide +kernel
theorem dL_law_3005 : decode cL_law 3005 = .ok (.iconst 0, 1) := by decide +kernel
theorem dL_law_3006 : decode cL_law 3006 = .ok (.laload, 1) := by decide +kernel
theorem dL_law_3007 : decode cL_law 3007 = .ok (.iload 7, 2) := by decide +kernel
theorem dL_law_3009 : decode cL_law 3009 = .ok (.i2l, 1) := by decide +kernel
theorem dL_law_3010 : decode cL_law 3010 = .ok (.lcmp, 1) := by decide +kernel
theorem dL_law_3011 : decode cL_law 3011 = .ok (.ifCond .eq 5, 3) := by decide +kernel
theorem dL_law_3014 : decode cL_law 3014 = .ok (.iconst 0, 1) := by decide +kernel
theorem dL_law_3015 : decode cL_law 3015 = .ok (.ireturn, 1) := by decide +kernel
theorem dL_law_3016 : decode cL_law 3016 = .ok (.goto 294, 3) := by decide +kernel
theorem dL_law_3019 : decode cL_law 3019 = .ok (.aload_n 1, 1) := by decide +kernel
theorem dL_law_3020 : decode cL_law 3020 = .ok (.aload_n 0, 1) := by decide +kernel
theorem dL_law_3021 : decode cL_law 3021 = .ok (.iload 5, 2) := by decide +kernel
theorem dL_law_3023 : decode cL_law 3023 = .ok (.iconst 1, 1) := by decide +kernel
theorem dL_law_3024 : decode cL_law 3024 = .ok (.iadd, 1) := by decide +kernel
theorem dL_law_3025 : decode cL_law 3025 = .ok (.iaload, 1) := by decide +kernel
theorem dL_law_3026 : decode cL_law 3026 = .ok (.i2c, 1) := by decide +kernel
theorem dL_law_3027 : decode cL_law 3027 = .ok (.aload_n 3, 1) := by decide +kernel
theorem dL_law_3028 : decode cL_law 3028 = .ok (.invokestatic 352, 3) := by decide +kernel
theorem dL_law_3031 : decode cL_law 3031 = .ok (.istore 6, 2) := by decide +kernel
theorem dL_law_3033 : decode cL_law 3033 = .ok (.aload_n 2, 1) := by decide +kernel
theorem dL_law_3034 : decode cL_law 3034 = .ok (.aload_n 0, 1) := by decide +kernel
theorem dL_law_3035 : decode cL_law 3035 = .ok (.iload 5, 2) := by decide +kernel
theorem dL_law_3037 : decode cL_law 3037 = .ok (.iconst 1, 1) := by decide +kernel
theorem dL_law_3038 : decode cL_law 3038 = .ok (.iadd, 1) := by decide +kernel
theorem dL_law_3039 : decode cL_law 3039 = .ok (.iaload, 1) := by decide +kernel
theorem dL_law_3040 : decode cL_law 3040 = .ok (.i2c, 1) := by decide +kernel
theorem dL_law_3041 : decode cL_law 3041 = .ok (.invokevirtual 355, 3) := by decide +kernel
theorem dL_law_3044 : decode cL_law 3044 = .ok (.istore 7, 2) := by decide +kernel
theorem dL_law_3046 : decode cL_law 3046 = .ok (.aload_n 2, 1) := by decide +kernel
theorem dL_law_3047 : decode cL_law 3047 = .ok (.invokevirtual 187, 3) := by decide +kernel
theorem dL_law_3050 : decode cL_law 3050 = .ok (.iload 6, 2) := by decide +kernel
theorem dL_law_3052 : decode cL_law 3052 = .ok (.if_icmp .eq 5, 3) := by decide +kernel
theorem dL_law_3055 : decode cL_law 3055 = .ok (.iconst 0, 1) := by decide +kernel
theorem dL_law_3056 : decode cL_law 3056 = .ok (.ireturn, 1) := by decide +kernel
theorem dL_law_3057 : decode cL_law 3057 = .ok (.iload 6, 2) := by decide +kernel
theorem dL_law_3059 : decode cL_law 3059 = .ok (.ifCond .ne 15, 3) := by decide +kernel
theorem dL_law_3062 : decode cL_law 3062 = .ok (.aload_n 3, 1) := by decide +kernel
theorem dL_law_3063 : decode cL_law 3063 = .ok (.iconst 0, 1) := by decide +kernel
theorem dL_law_3064 : decode cL_law 3064 = .ok (.laload, 1) := by decide +kernel
theorem dL_law_3065 : decode cL_law 3065 = .ok (.iload 7, 2) := by decide +kernel
theorem dL_law_3067 : decode cL_law 3067 = .ok (.i2l, 1) := by decide +kernel
theorem dL_law_3068 : decode cL_law 3068 = .ok (.lcmp, 1) := by decide +kernel
theorem dL_law_3069 : decode cL_law 3069 = .ok (.ifCond .eq 5, 3) := by decide +kernel
theorem dL_law_3072 : decode cL_law 3072 = .ok (.iconst 0, 1) := by decide +kernel
theorem dL_law_3073 : decode cL_law 3073 = .ok (.ireturn, 1) := by decide +kernel
theorem dL_law_3074 : decode cL_law 3074 = .ok (.goto 236, 3) := by decide +kernel
theorem dL_law_3077 : decode cL_law 3077 = .ok (.aload_n 1, 1) := by decide +kernel
theorem dL_law_3078 : decode cL_law 3078 = .ok (.aload_n 3, 1) := by decide +kernel
theorem dL_law_3079 : decode cL_law 3079 = .ok (.invokestatic 356, 3) := by decide +kernel
theorem dL_law_3082 : decode cL_law 3082 = .ok (.istore 6, 2) := by decide +kernel
theorem dL_law_3084 : decode cL_law 3084 = .ok (.aload_n 2, 1) := by decide +kernel
theorem dL_law_3085 : decode cL_law 3085 = .ok (.invokevirtual 359, 3) := by decide +kernel
theorem dL_law_3088 : decode cL_law 3088 = .ok (.istore 7, 2) := by decide +kernel
theorem dL_law_3090 : decode cL_law 3090 = .ok (.aload_n 2, 1) := by decide +kernel
theorem dL_law_3091 : decode cL_law 3091 = .ok (.invokevirtual 187, 3) := by decide +kernel
theorem dL_law_3094 : decode cL_law 3094 = .ok (.iload 6, 2) := by decide +kernel
theorem dL_law_3096 : decode cL_law 3096 = .ok (.if_icmp .eq 5, 3) := by decide +kernel
theorem dL_law_3099 : decode cL_law 3099 = .ok (.iconst 0, 1) := by decide +kernel
theorem dL_law_3100 : decode cL_law 3100 = .ok (.ireturn, 1) := by decide +kernel
theorem dL_law_3101 : decode cL_law 3101 = .ok (.iload 6, 2) := by decide +kernel
theorem dL_law_3103 : decode cL_law 3103 = .ok (.ifCond .ne 15, 3) := by decide +kernel
theorem dL_law_3106 : decode cL_law 3106 = .ok (.aload_n 3, 1) := by decide +kernel
theorem dL_law_3107 : decode cL_law 3107 = .ok (.iconst 0, 1) := by decide +kernel
theorem dL_law_3108 : decode cL_law 3108 = .ok (.laload, 1) := by decide +kernel
theorem dL_law_3109 : decode cL_law 3109 = .ok (.iload 7, 2) := by decide +kernel
theorem dL_law_3111 : decode cL_law 3111 = .ok (.i2l, 1) := by decide +kernel
theorem dL_law_3112 : decode cL_law 3112 = .ok (.lcmp, 1) := by decide +kernel
theorem dL_law_3113 : decode cL_law 3113 = .ok (.ifCond .eq 5, 3) := by decide +kernel
theorem dL_law_3116 : decode cL_law 3116 = .ok (.iconst 0, 1) := by decide +kernel
theorem dL_law_3117 : decode cL_law 3117 = .ok (.ireturn, 1) := by decide +kernel
theorem dL_law_3118 : decode cL_law 3118 = .ok (.goto 192, 3) := by decide +kernel
theorem dL_law_3121 : decode cL_law 3121 = .ok (.aload_n 1, 1) := by decide +kernel
theorem dL_law_3122 : decode cL_law 3122 = .ok (.aload_n 3, 1) := by decide +kernel
theorem dL_law_3123 : decode cL_law 3123 = .ok (.invokestatic 360, 3) := by decide +kernel
theorem dL_law_3126 : decode cL_law 3126 = .ok (.istore 6, 2) := by decide +kernel
theorem dL_law_3128 : decode cL_law 3128 = .ok (.aload_n 2, 1) := by decide +kernel
theorem dL_law_3129 : decode cL_law 3129 = .ok (.invokevirtual 362, 3) := by decide +kernel
theorem dL_law_3132 : decode cL_law 3132 = .ok (.istore 7, 2) := by decide +kernel
theorem dL_law_3134 : decode cL_law 3134 = .ok (.aload_n 2, 1) := by decide +kernel
theorem dL_law_3135 : decode cL_law 3135 = .ok (.invokevirtual 187, 3) := by decide +kernel
theorem dL_law_3138 : decode cL_law 3138 = .ok (.iload 6, 2) := by decide +kernel
theorem dL_law_3140 : decode cL_law 3140 = .ok (.if_icmp .eq 5, 3) := by decide +kernel
theorem dL_law_3143 : decode cL_law 3143 = .ok (.iconst 0, 1) := by decide +kernel
theorem dL_law_3144 : decode cL_law 3144 = .ok (.ireturn, 1) := by decide +kernel
theorem dL_law_3145 : decode cL_law 3145 = .ok (.iload 6, 2) := by decide +kernel
theorem dL_law_3147 : decode cL_law 3147 = .ok (.ifCond .ne 15, 3) := by decide +kernel
theorem dL_law_3150 : decode cL_law 3150 = .ok (.aload_n 3, 1) := by decide +kernel
theorem dL_law_3151 : decode cL_law 3151 = .ok (.iconst 0, 1) := by decide +kernel
theorem dL_law_3152 : decode cL_law 3152 = .ok (.laload, 1) := by decide +kernel
theorem dL_law_3153 : decode cL_law 3153 = .ok (.iload 7, 2) := by decide +kernel
theorem dL_law_3155 : decode cL_law 3155 = .ok (.i2l, 1) := by decide +kernel
theorem dL_law_3156 : decode cL_law 3156 = .ok (.lcmp, 1) := by decide +kernel
theorem dL_law_3157 : decode cL_law 3157 = .ok (.ifCond .eq 5, 3) := by decide +kernel
theorem dL_law_3160 : decode cL_law 3160 = .ok (.iconst 0, 1) := by decide +kernel
theorem dL_law_3161 : decode cL_law 3161 = .ok (.ireturn, 1) := by decide +kernel
theorem dL_law_3162 : decode cL_law 3162 = .ok (.goto 148, 3) := by decide +kernel
theorem dL_law_3165 : decode cL_law 3165 = .ok (.aload_n 1, 1) := by decide +kernel
theorem dL_law_3166 : decode cL_law 3166 = .ok (.aload_n 3, 1) := by decide +kernel
theorem dL_law_3167 : decode cL_law 3167 = .ok (.invokestatic 363, 3) := by decide +kernel
theorem dL_law_3170 : decode cL_law 3170 = .ok (.istore 6, 2) := by decide +kernel
theorem dL_law_3172 : decode cL_law 3172 = .ok (.aload_n 2, 1) := by decide +kernel
theorem dL_law_3173 : decode cL_law 3173 = .ok (.invokevirtual 365, 3) := by decide +kernel
theorem dL_law_3176 : decode cL_law 3176 = .ok (.istore 7, 2) := by decide +kernel
theorem dL_law_3178 : decode cL_law 3178 = .ok (.aload_n 2, 1) := by decide +kernel
theorem dL_law_3179 : decode cL_law 3179 = .ok (.invokevirtual 187, 3) := by decide +kernel
theorem dL_law_3182 : decode cL_law 3182 = .ok (.iload 6, 2) := by decide +kernel
theorem dL_law_3184 : decode cL_law 3184 = .ok (.if_icmp .eq 5, 3) := by decide +kernel
theorem dL_law_3187 : decode cL_law 3187 = .ok (.iconst 0, 1) := by decide +kernel
theorem dL_law_3188 : decode cL_law 3188 = .ok (.ireturn, 1) := by decide +kernel
theorem dL_law_3189 : decode cL_law 3189 = .ok (.iload 6, 2) := by decide +kernel
theorem dL_law_3191 : decode cL_law 3191 = .ok (.ifCond .ne 15, 3) := by decide +kernel
theorem dL_law_3194 : decode cL_law 3194 = .ok (.aload_n 3, 1) := by decide +kernel
theorem dL_law_3195 : decode cL_law 3195 = .ok (.iconst 0, 1) := by decide +kernel
theorem dL_law_3196 : decode cL_law 3196 = .ok (.laload, 1) := by decide +kernel
theorem dL_law_3197 : decode cL_law 3197 = .ok (.iload 7, 2) := by decide +kernel
theorem dL_law_3199 : decode cL_law 3199 = .ok (.i2l, 1) := by decide +kernel
theorem dL_law_3200 : decode cL_law 3200 = .ok (.lcmp, 1) := by decide +kernel
theorem dL_law_3201 : decode cL_law 3201 = .ok (.ifCond .eq 5, 3) := by decide +kernel
theorem dL_law_3204 : decode cL_law 3204 = .ok (.iconst 0, 1) := by decide +kernel
theorem dL_law_3205 : decode cL_law 3205 = .ok (.ireturn, 1) := by decide +kernel
theorem dL_law_3206 : decode cL_law 3206 = .ok (.goto 104, 3) := by decide +kernel
theorem dL_law_3209 : decode cL_law 3209 = .ok (.aload_n 1, 1) := by decide +kernel
theorem dL_law_3210 : decode cL_law 3210 = .ok (.aload_n 3, 1) := by decide +kernel
theorem dL_law_3211 : decode cL_law 3211 = .ok (.invokestatic 366, 3) := by decide +kernel
theorem dL_law_3214 : decode cL_law 3214 = .ok (.istore 6, 2) := by decide +kernel
theorem dL_law_3216 : decode cL_law 3216 = .ok (.aload_n 2, 1) := by decide +kernel
theorem dL_law_3217 : decode cL_law 3217 = .ok (.invokevirtual 368, 3) := by decide +kernel
theorem dL_law_3220 : decode cL_law 3220 = .ok (.istore 7, 2) := by decide +kernel
theorem dL_law_3222 : decode cL_law 3222 = .ok (.aload_n 2, 1) := by decide +kernel
theorem dL_law_3223 : decode cL_law 3223 = .ok (.invokevirtual 187, 3) := by decide +kernel
theorem dL_law_3226 : decode cL_law 3226 = .ok (.iload 6, 2) := by decide +kernel
theorem dL_law_3228 : decode cL_law 3228 = .ok (.if_icmp .eq 5, 3) := by decide +kernel
theorem dL_law_3231 : decode cL_law 3231 = .ok (.iconst 0, 1) := by decide +kernel
theorem dL_law_3232 : decode cL_law 3232 = .ok (.ireturn, 1) := by decide +kernel
theorem dL_law_3233 : decode cL_law 3233 = .ok (.iload 6, 2) := by decide +kernel
theorem dL_law_3235 : decode cL_law 3235 = .ok (.ifCond .ne 15, 3) := by decide +kernel
theorem dL_law_3238 : decode cL_law 3238 = .ok (.aload_n 3, 1) := by decide +kernel
theorem dL_law_3239 : decode cL_law 3239 = .ok (.iconst 0, 1) := by decide +kernel
theorem dL_law_3240 : decode cL_law 3240 = .ok (.laload, 1) := by decide +kernel
theorem dL_law_3241 : decode cL_law 3241 = .ok (.iload 7, 2) := by decide +kernel
theorem dL_law_3243 : decode cL_law 3243 = .ok (.i2l, 1) := by decide +kernel
theorem dL_law_3244 : decode cL_law 3244 = .ok (.lcmp, 1) := by decide +kernel
theorem dL_law_3245 : decode cL_law 3245 = .ok (.ifCond .eq 5, 3) := by decide +kernel
theorem dL_law_3248 : decode cL_law 3248 = .ok (.iconst 0, 1) := by decide +kernel
theorem dL_law_3249 : decode cL_law 3249 = .ok (.ireturn, 1) := by decide +kernel
theorem dL_law_3250 : decode cL_law 3250 = .ok (.goto 60, 3) := by decide +kernel
theorem dL_law_3253 : decode cL_law 3253 = .ok (.aload_n 1, 1) := by decide +kernel
theorem dL_law_3254 : decode cL_law 3254 = .ok (.invokevirtual 369, 3) := by decide +kernel
theorem dL_law_3257 : decode cL_law 3257 = .ok (.aload_n 2, 1) := by decide +kernel
theorem dL_law_3258 : decode cL_law 3258 = .ok (.invokevirtual 372, 3) := by decide +kernel
theorem dL_law_3261 : decode cL_law 3261 = .ok (.if_icmp .eq 49, 3) := by decide +kernel
theorem dL_law_3264 : decode cL_law 3264 = .ok (.iconst 0, 1) := by decide +kernel
theorem dL_law_3265 : decode cL_law 3265 = .ok (.ireturn, 1) := by decide +kernel
theorem dL_law_3266 : decode cL_law 3266 = .ok (.aload_n 1, 1) := by decide +kernel
theorem dL_law_3267 : decode cL_law 3267 = .ok (.aload_n 3, 1) := by decide +kernel
theorem dL_law_3268 : decode cL_law 3268 = .ok (.invokestatic 373, 3) := by decide +kernel
theorem dL_law_3271 : decode cL_law 3271 = .ok (.istore 6, 2) := by decide +kernel
theorem dL_law_3273 : decode cL_law 3273 = .ok (.aload_n 2, 1) := by decide +kernel
theorem dL_law_3274 : decode cL_law 3274 = .ok (.invokevirtual 375, 3) := by decide +kernel
theorem dL_law_3277 : decode cL_law 3277 = .ok (.istore 7, 2) := by decide +kernel
theorem dL_law_3279 : decode cL_law 3279 = .ok (.aload_n 2, 1) := by decide +kernel
theorem dL_law_3280 : decode cL_law 3280 = .ok (.invokevirtual 187, 3) := by decide +kernel
theorem dL_law_3283 : decode cL_law 3283 = .ok (.iload 6, 2) := by decide +kernel
theorem dL_law_3285 : decode cL_law 3285 = .ok (.if_icmp .eq 5, 3) := by decide +kernel
theorem dL_law_3288 : decode cL_law 3288 = .ok (.iconst 0, 1) := by decide +kernel
theorem dL_law_3289 : decode cL_law 3289 = .ok (.ireturn, 1) := by decide +kernel
theorem dL_law_3290 : decode cL_law 3290 = .ok (.iload 6, 2) := by decide +kernel
theorem dL_law_3292 : decode cL_law 3292 = .ok (.ifCond .ne 15, 3) := by decide +kernel
theorem dL_law_3295 : decode cL_law 3295 = .ok (.aload_n 3, 1) := by decide +kernel
theorem dL_law_3296 : decode cL_law 3296 = .ok (.iconst 0, 1) := by decide +kernel
theorem dL_law_3297 : decode cL_law 3297 = .ok (.laload, 1) := by decide +kernel
theorem dL_law_3298 : decode cL_law 3298 = .ok (.iload 7, 2) := by decide +kernel
theorem dL_law_3300 : decode cL_law 3300 = .ok (.i2l, 1) := by decide +kernel
theorem dL_law_3301 : decode cL_law 3301 = .ok (.lcmp, 1) := by decide +kernel
theorem dL_law_3302 : decode cL_law 3302 = .ok (.ifCond .eq 5, 3) := by decide +kernel
theorem dL_law_3305 : decode cL_law 3305 = .ok (.iconst 0, 1) := by decide +kernel
theorem dL_law_3306 : decode cL_law 3306 = .ok (.ireturn, 1) := by decide +kernel
theorem dL_law_3307 : decode cL_law 3307 = .ok (.goto 3, 3) := by decide +kernel
theorem dL_law_3310 : decode cL_law 3310 = .ok (.iinc 5 4, 3) := by decide +kernel
theorem dL_law_3313 : decode cL_law 3313 = .ok (.goto (-3285), 3) := by decide +kernel
theorem dL_law_3316 : decode cL_law 3316 = .ok (.iconst 1, 1) := by decide +kernel
theorem dL_law_3317 : decode cL_law 3317 = .ok (.ireturn, 1) := by decide +kernel
