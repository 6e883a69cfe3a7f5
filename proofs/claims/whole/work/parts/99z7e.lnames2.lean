theorem dL_law_0 : decode cL_law 0 = .ok (.new 8, 3) := sorry
theorem dL_law_3 : decode cL_law 3 = .ok (.dup, 1) := sorry
theorem dL_law_4 : decode cL_law 4 = .ok (.invokespecial 150, 3) := sorry
theorem dL_law_7 : decode cL_law 7 = .ok (.astore_n 1, 1) := sorry
theorem dL_law_8 : decode cL_law 8 = .ok (.new 151, 3) := sorry
theorem dL_law_11 : decode cL_law 11 = .ok (.dup, 1) := sorry
theorem dL_law_12 : decode cL_law 12 = .ok (.invokespecial 153, 3) := sorry
theorem dL_law_15 : decode cL_law 15 = .ok (.astore_n 2, 1) := sorry
theorem dL_law_16 : decode cL_law 16 = .ok (.iconst 1, 1) := sorry
theorem dL_law_17 : decode cL_law 17 = .ok (.newarray .long, 2) := sorry
theorem dL_law_19 : decode cL_law 19 = .ok (.astore_n 3, 1) := sorry
theorem dL_law_20 : decode cL_law 20 = .ok (.iconst 1, 1) := sorry
theorem dL_law_21 : decode cL_law 21 = .ok (.newarray .double, 2) := sorry
theorem dL_law_23 : decode cL_law 23 = .ok (.astore 4, 2) := sorry
theorem dL_law_25 : decode cL_law 25 = .ok (.iconst 0, 1) := sorry
theorem dL_law_26 : decode cL_law 26 = .ok (.istore 5, 2) := sorry
theorem dL_law_28 : decode cL_law 28 = .ok (.iload 5, 2) := sorry
theorem dL_law_30 : decode cL_law 30 = .ok (.aload_n 0, 1) := sorry
theorem dL_law_31 : decode cL_law 31 = .ok (.arraylength, 1) := sorry
theorem dL_law_32 : decode cL_law 32 = .ok (.bipush 6, 2) := sorry
theorem dL_law_34 : decode cL_law 34 = .ok (.isub, 1) := sorry
theorem dL_law_35 : decode cL_law 35 = .ok (.if_icmp .gt 3343, 3) := sorry
theorem dL_law_38 : decode cL_law 38 = .ok (.aload_n 0, 1) := sorry
theorem dL_law_39 : decode cL_law 39 = .ok (.iload 5, 2) := sorry
theorem dL_law_41 : decode cL_law 41 = .ok (.iaload, 1) := sorry
theorem dL_law_42 : decode cL_law 42 = .ok (.bipush 63, 2) := sorry
theorem dL_law_44 : decode cL_law 44 = .ok (.iand, 1) := sorry
theorem dL_law_45 : decode cL_law 45 = .ok (.tableswitch 3327 0 50 #[219, 323, 359, 372, 385, 398, 454, 522, 590, 658, 738, 806, 874, 942, 1026, 1122, 1218, 1314, 1410, 1506, 1602, 1698, 1794, 1807, 1863, 1876, 1889, 1957, 2025, 2081, 2094, 2135, 2213, 2293, 2349, 2441, 2497, 2577, 2645, 2701, 2757, 2813, 2909, 2977, 3033, 3089, 3145, 3189, 3202, 3215, 3271], 219) := sorry
theorem dL_law_264 : decode cL_law 264 = .ok (.aload_n 1, 1) := sorry
theorem dL_law_265 : decode cL_law 265 = .ok (.aload_n 0, 1) := sorry
theorem dL_law_266 : decode cL_law 266 = .ok (.iload 5, 2) := sorry
theorem dL_law_268 : decode cL_law 268 = .ok (.iconst 1, 1) := sorry
theorem dL_law_269 : decode cL_law 269 = .ok (.iadd, 1) := sorry
theorem dL_law_270 : decode cL_law 270 = .ok (.iaload, 1) := sorry
theorem dL_law_271 : decode cL_law 271 = .ok (.aload_n 0, 1) := sorry
theorem dL_law_272 : decode cL_law 272 = .ok (.iload 5, 2) := sorry
theorem dL_law_274 : decode cL_law 274 = .ok (.iconst 2, 1) := sorry
theorem dL_law_275 : decode cL_law 275 = .ok (.iadd, 1) := sorry
theorem dL_law_276 : decode cL_law 276 = .ok (.iaload, 1) := sorry
theorem dL_law_277 : decode cL_law 277 = .ok (.aload_n 0, 1) := sorry
theorem dL_law_278 : decode cL_law 278 = .ok (.iload 5, 2) := sorry
theorem dL_law_280 : decode cL_law 280 = .ok (.iconst 3, 1) := sorry
theorem dL_law_281 : decode cL_law 281 = .ok (.iadd, 1) := sorry
theorem dL_law_282 : decode cL_law 282 = .ok (.iaload, 1) := sorry
theorem dL_law_283 : decode cL_law 283 = .ok (.aload_n 0, 1) := sorry
theorem dL_law_284 : decode cL_law 284 = .ok (.iload 5, 2) := sorry
theorem dL_law_286 : decode cL_law 286 = .ok (.iconst 4, 1) := sorry
theorem dL_law_287 : decode cL_law 287 = .ok (.iadd, 1) := sorry
theorem dL_law_288 : decode cL_law 288 = .ok (.iaload, 1) := sorry
theorem dL_law_289 : decode cL_law 289 = .ok (.aload_n 0, 1) := sorry
theorem dL_law_290 : decode cL_law 290 = .ok (.iload 5, 2) := sorry
theorem dL_law_292 : decode cL_law 292 = .ok (.iconst 5, 1) := sorry
theorem dL_law_293 : decode cL_law 293 = .ok (.iadd, 1) := sorry
theorem dL_law_294 : decode cL_law 294 = .ok (.iaload, 1) := sorry
theorem dL_law_295 : decode cL_law 295 = .ok (.aload_n 3, 1) := sorry
theorem dL_law_296 : decode cL_law 296 = .ok (.invokestatic 154, 3) := sorry
theorem dL_law_299 : decode cL_law 299 = .ok (.istore 6, 2) := sorry
theorem dL_law_301 : decode cL_law 301 = .ok (.aload_n 2, 1) := sorry
theorem dL_law_302 : decode cL_law 302 = .ok (.aload_n 0, 1) := sorry
theorem dL_law_303 : decode cL_law 303 = .ok (.iload 5, 2) := sorry
theorem dL_law_305 : decode cL_law 305 = .ok (.iconst 1, 1) := sorry
theorem dL_law_306 : decode cL_law 306 = .ok (.iadd, 1) := sorry
theorem dL_law_307 : decode cL_law 307 = .ok (.iaload, 1) := sorry
theorem dL_law_308 : decode cL_law 308 = .ok (.aload_n 0, 1) := sorry
theorem dL_law_309 : decode cL_law 309 = .ok (.iload 5, 2) := sorry
theorem dL_law_311 : decode cL_law 311 = .ok (.iconst 2, 1) := sorry
theorem dL_law_312 : decode cL_law 312 = .ok (.iadd, 1) := sorry
theorem dL_law_313 : decode cL_law 313 = .ok (.iaload, 1) := sorry
theorem dL_law_314 : decode cL_law 314 = .ok (.aload_n 0, 1) := sorry
theorem dL_law_315 : decode cL_law 315 = .ok (.iload 5, 2) := sorry
theorem dL_law_317 : decode cL_law 317 = .ok (.iconst 3, 1) := sorry
theorem dL_law_318 : decode cL_law 318 = .ok (.iadd, 1) := sorry
theorem dL_law_319 : decode cL_law 319 = .ok (.iaload, 1) := sorry
theorem dL_law_320 : decode cL_law 320 = .ok (.aload_n 0, 1) := sorry
theorem dL_law_321 : decode cL_law 321 = .ok (.iload 5, 2) := sorry
theorem dL_law_323 : decode cL_law 323 = .ok (.iconst 4, 1) := sorry
theorem dL_law_324 : decode cL_law 324 = .ok (.iadd, 1) := sorry
theorem dL_law_325 : decode cL_law 325 = .ok (.iaload, 1) := sorry
theorem dL_law_326 : decode cL_law 326 = .ok (.aload_n 0, 1) := sorry
theorem dL_law_327 : decode cL_law 327 = .ok (.iload 5, 2) := sorry
theorem dL_law_329 : decode cL_law 329 = .ok (.iconst 5, 1) := sorry
theorem dL_law_330 : decode cL_law 330 = .ok (.iadd, 1) := sorry
theorem dL_law_331 : decode cL_law 331 = .ok (.iaload, 1) := sorry
theorem dL_law_332 : decode cL_law 332 = .ok (.invokevirtual 159, 3) := sorry
theorem dL_law_335 : decode cL_law 335 = .ok (.istore 7, 2) := sorry
theorem dL_law_337 : decode cL_law 337 = .ok (.aload_n 2, 1) := sorry
theorem dL_law_338 : decode cL_law 338 = .ok (.invokevirtual 160, 3) := sorry
theorem dL_law_341 : decode cL_law 341 = .ok (.iload 6, 2) := sorry
theorem dL_law_343 : decode cL_law 343 = .ok (.if_icmp .eq 5, 3) := sorry
theorem dL_law_346 : decode cL_law 346 = .ok (.iconst 0, 1) := sorry
theorem dL_law_347 : decode cL_law 347 = .ok (.ireturn, 1) := sorry
theorem dL_law_348 : decode cL_law 348 = .ok (.iload 6, 2) := sorry
theorem dL_law_350 : decode cL_law 350 = .ok (.ifCond .ne 15, 3) := sorry
theorem dL_law_353 : decode cL_law 353 = .ok (.aload_n 3, 1) := sorry
theorem dL_law_354 : decode cL_law 354 = .ok (.iconst 0, 1) := sorry
theorem dL_law_355 : decode cL_law 355 = .ok (.laload, 1) := sorry
theorem dL_law_356 : decode cL_law 356 = .ok (.iload 7, 2) := sorry
theorem dL_law_358 : decode cL_law 358 = .ok (.i2l, 1) := sorry
theorem dL_law_359 : decode cL_law 359 = .ok (.lcmp, 1) := sorry
theorem dL_law_360 : decode cL_law 360 = .ok (.ifCond .eq 5, 3) := sorry
theorem dL_law_363 : decode cL_law 363 = .ok (.iconst 0, 1) := sorry
theorem dL_law_364 : decode cL_law 364 = .ok (.ireturn, 1) := sorry
theorem dL_law_365 : decode cL_law 365 = .ok (.goto 3007, 3) := sorry
theorem dL_law_368 : decode cL_law 368 = .ok (.aload_n 1, 1) := sorry
theorem dL_law_369 : decode cL_law 369 = .ok (.aload_n 0, 1) := sorry
theorem dL_law_370 : decode cL_law 370 = .ok (.iload 5, 2) := sorry
theorem dL_law_372 : decode cL_law 372 = .ok (.iconst 1, 1) := sorry
theorem dL_law_373 : decode cL_law 373 = .ok (.iadd, 1) := sorry
theorem dL_law_374 : decode cL_law 374 = .ok (.iaload, 1) := sorry
theorem dL_law_375 : decode cL_law 375 = .ok (.invokestatic 163, 3) := sorry
theorem dL_law_378 : decode cL_law 378 = .ok (.istore 6, 2) := sorry
theorem dL_law_380 : decode cL_law 380 = .ok (.aload_n 2, 1) := sorry
theorem dL_law_381 : decode cL_law 381 = .ok (.aload_n 0, 1) := sorry
theorem dL_law_382 : decode cL_law 382 = .ok (.iload 5, 2) := sorry
theorem dL_law_384 : decode cL_law 384 = .ok (.iconst 1, 1) := sorry
theorem dL_law_385 : decode cL_law 385 = .ok (.iadd, 1) := sorry
theorem dL_law_386 : decode cL_law 386 = .ok (.iaload, 1) := sorry
theorem dL_law_387 : decode cL_law 387 = .ok (.invokevirtual 166, 3) := sorry
theorem dL_law_390 : decode cL_law 390 = .ok (.aload_n 2, 1) := sorry
theorem dL_law_391 : decode cL_law 391 = .ok (.invokevirtual 160, 3) := sorry
theorem dL_law_394 : decode cL_law 394 = .ok (.iload 6, 2) := sorry
theorem dL_law_396 : decode cL_law 396 = .ok (.if_icmp .eq 5, 3) := sorry
theorem dL_law_399 : decode cL_law 399 = .ok (.iconst 0, 1) := sorry
theorem dL_law_400 : decode cL_law 400 = .ok (.ireturn, 1) := sorry
theorem dL_law_401 : decode cL_law 401 = .ok (.goto 2971, 3) := sorry
theorem dL_law_404 : decode cL_law 404 = .ok (.aload_n 1, 1) := sorry
theorem dL_law_405 : decode cL_law 405 = .ok (.invokevirtual 167, 3) := sorry
theorem dL_law_408 : decode cL_law 408 = .ok (.aload_n 2, 1) := sorry
theorem dL_law_409 : decode cL_law 409 = .ok (.invokevirtual 170, 3) := sorry
theorem dL_law_412 : decode cL_law 412 = .ok (.if_icmp .eq 2960, 3) := sorry
theorem dL_law_415 : decode cL_law 415 = .ok (.iconst 0, 1) := sorry
theorem dL_law_416 : decode cL_law 416 = .ok (.ireturn, 1) := sorry
theorem dL_law_417 : decode cL_law 417 = .ok (.aload_n 1, 1) := sorry
theorem dL_law_418 : decode cL_law 418 = .ok (.invokevirtual 171, 3) := sorry
theorem dL_law_421 : decode cL_law 421 = .ok (.aload_n 2, 1) := sorry
theorem dL_law_422 : decode cL_law 422 = .ok (.invokevirtual 174, 3) := sorry
theorem dL_law_425 : decode cL_law 425 = .ok (.if_icmp .eq 2947, 3) := sorry
theorem dL_law_428 : decode cL_law 428 = .ok (.iconst 0, 1) := sorry
theorem dL_law_429 : decode cL_law 429 = .ok (.ireturn, 1) := sorry
theorem dL_law_430 : decode cL_law 430 = .ok (.aload_n 1, 1) := sorry
theorem dL_law_431 : decode cL_law 431 = .ok (.invokevirtual 175, 3) := sorry
theorem dL_law_434 : decode cL_law 434 = .ok (.aload_n 2, 1) := sorry
theorem dL_law_435 : decode cL_law 435 = .ok (.invokevirtual 178, 3) := sorry
theorem dL_law_438 : decode cL_law 438 = .ok (.if_icmp .eq 2934, 3) := sorry
theorem dL_law_441 : decode cL_law 441 = .ok (.iconst 0, 1) := sorry
theorem dL_law_442 : decode cL_law 442 = .ok (.ireturn, 1) := sorry
theorem dL_law_443 : decode cL_law 443 = .ok (.aload_n 1, 1) := sorry
theorem dL_law_444 : decode cL_law 444 = .ok (.aload_n 0, 1) := sorry
theorem dL_law_445 : decode cL_law 445 = .ok (.iload 5, 2) := sorry
theorem dL_law_447 : decode cL_law 447 = .ok (.iconst 1, 1) := sorry
theorem dL_law_448 : decode cL_law 448 = .ok (.iadd, 1) := sorry
theorem dL_law_449 : decode cL_law 449 = .ok (.iaload, 1) := sorry
theorem dL_law_450 : decode cL_law 450 = .ok (.aload_n 3, 1) := sorry
theorem dL_law_451 : decode cL_law 451 = .ok (.invokestatic 179, 3) := sorry
theorem dL_law_454 : decode cL_law 454 = .ok (.istore 6, 2) := sorry
theorem dL_law_456 : decode cL_law 456 = .ok (.aload_n 2, 1) := sorry
theorem dL_law_457 : decode cL_law 457 = .ok (.aload_n 0, 1) := sorry
theorem dL_law_458 : decode cL_law 458 = .ok (.iload 5, 2) := sorry
theorem dL_law_460 : decode cL_law 460 = .ok (.iconst 1, 1) := sorry
theorem dL_law_461 : decode cL_law 461 = .ok (.iadd, 1) := sorry
theorem dL_law_462 : decode cL_law 462 = .ok (.iaload, 1) := sorry
theorem dL_law_463 : decode cL_law 463 = .ok (.invokevirtual 182, 3) := sorry
theorem dL_law_466 : decode cL_law 466 = .ok (.istore 7, 2) := sorry
theorem dL_law_468 : decode cL_law 468 = .ok (.aload_n 2, 1) := sorry
theorem dL_law_469 : decode cL_law 469 = .ok (.invokevirtual 160, 3) := sorry
theorem dL_law_472 : decode cL_law 472 = .ok (.iload 6, 2) := sorry
theorem dL_law_474 : decode cL_law 474 = .ok (.if_icmp .eq 5, 3) := sorry
theorem dL_law_477 : decode cL_law 477 = .ok (.iconst 0, 1) := sorry
theorem dL_law_478 : decode cL_law 478 = .ok (.ireturn, 1) := sorry
theorem dL_law_479 : decode cL_law 479 = .ok (.iload 6, 2) := sorry
theorem dL_law_481 : decode cL_law 481 = .ok (.ifCond .ne 15, 3) := sorry
theorem dL_law_484 : decode cL_law 484 = .ok (.aload_n 3, 1) := sorry
theorem dL_law_485 : decode cL_law 485 = .ok (.iconst 0, 1) := sorry
theorem dL_law_486 : decode cL_law 486 = .ok (.laload, 1) := sorry
theorem dL_law_487 : decode cL_law 487 = .ok (.iload 7, 2) := sorry
theorem dL_law_489 : decode cL_law 489 = .ok (.i2l, 1) := sorry
theorem dL_law_490 : decode cL_law 490 = .ok (.lcmp, 1) := sorry
theorem dL_law_491 : decode cL_law 491 = .ok (.ifCond .eq 5, 3) := sorry
theorem dL_law_494 : decode cL_law 494 = .ok (.iconst 0, 1) := sorry
theorem dL_law_495 : decode cL_law 495 = .ok (.ireturn, 1) := sorry
theorem dL_law_496 : decode cL_law 496 = .ok (.goto 2876, 3) := sorry
theorem dL_law_499 : decode cL_law 499 = .ok (.aload_n 1, 1) := sorry
theorem dL_law_500 : decode cL_law 500 = .ok (.aload_n 0, 1) := sorry
theorem dL_law_501 : decode cL_law 501 = .ok (.iload 5, 2) := sorry
theorem dL_law_503 : decode cL_law 503 = .ok (.iconst 1, 1) := sorry
theorem dL_law_504 : decode cL_law 504 = .ok (.iadd, 1) := sorry
theorem dL_law_505 : decode cL_law 505 = .ok (.iaload, 1) := sorry
theorem dL_law_506 : decode cL_law 506 = .ok (.aload_n 0, 1) := sorry
theorem dL_law_507 : decode cL_law 507 = .ok (.iload 5, 2) := sorry
theorem dL_law_509 : decode cL_law 509 = .ok (.iconst 2, 1) := sorry
theorem dL_law_510 : decode cL_law 510 = .ok (.iadd, 1) := sorry
theorem dL_law_511 : decode cL_law 511 = .ok (.iaload, 1) := sorry
theorem dL_law_512 : decode cL_law 512 = .ok (.aload_n 3, 1) := sorry
theorem dL_law_513 : decode cL_law 513 = .ok (.invokestatic 183, 3) := sorry
theorem dL_law_516 : decode cL_law 516 = .ok (.istore 6, 2) := sorry
theorem dL_law_518 : decode cL_law 518 = .ok (.aload_n 2, 1) := sorry
theorem dL_law_519 : decode cL_law 519 = .ok (.aload_n 0, 1) := sorry
theorem dL_law_520 : decode cL_law 520 = .ok (.iload 5, 2) := sorry
theorem dL_law_522 : decode cL_law 522 = .ok (.iconst 1, 1) := sorry
theorem dL_law_523 : decode cL_law 523 = .ok (.iadd, 1) := sorry
theorem dL_law_524 : decode cL_law 524 = .ok (.iaload, 1) := sorry
theorem dL_law_525 : decode cL_law 525 = .ok (.aload_n 0, 1) := sorry
theorem dL_law_526 : decode cL_law 526 = .ok (.iload 5, 2) := sorry
theorem dL_law_528 : decode cL_law 528 = .ok (.iconst 2, 1) := sorry
theorem dL_law_529 : decode cL_law 529 = .ok (.iadd, 1) := sorry
theorem dL_law_530 : decode cL_law 530 = .ok (.iaload, 1) := sorry
theorem dL_law_531 : decode cL_law 531 = .ok (.invokevirtual 186, 3) := sorry
theorem dL_law_534 : decode cL_law 534 = .ok (.istore 7, 2) := sorry
theorem dL_law_536 : decode cL_law 536 = .ok (.aload_n 2, 1) := sorry
theorem dL_law_537 : decode cL_law 537 = .ok (.invokevirtual 160, 3) := sorry
theorem dL_law_540 : decode cL_law 540 = .ok (.iload 6, 2) := sorry
theorem dL_law_542 : decode cL_law 542 = .ok (.if_icmp .eq 5, 3) := sorry
theorem dL_law_545 : decode cL_law 545 = .ok (.iconst 0, 1) := sorry
theorem dL_law_546 : decode cL_law 546 = .ok (.ireturn, 1) := sorry
theorem dL_law_547 : decode cL_law 547 = .ok (.iload 6, 2) := sorry
theorem dL_law_549 : decode cL_law 549 = .ok (.ifCond .ne 15, 3) := sorry
theorem dL_law_552 : decode cL_law 552 = .ok (.aload_n 3, 1) := sorry
theorem dL_law_553 : decode cL_law 553 = .ok (.iconst 0, 1) := sorry
theorem dL_law_554 : decode cL_law 554 = .ok (.laload, 1) := sorry
theorem dL_law_555 : decode cL_law 555 = .ok (.iload 7, 2) := sorry
theorem dL_law_557 : decode cL_law 557 = .ok (.i2l, 1) := sorry
theorem dL_law_558 : decode cL_law 558 = .ok (.lcmp, 1) := sorry
theorem dL_law_559 : decode cL_law 559 = .ok (.ifCond .eq 5, 3) := sorry
theorem dL_law_562 : decode cL_law 562 = .ok (.iconst 0, 1) := sorry
theorem dL_law_563 : decode cL_law 563 = .ok (.ireturn, 1) := sorry
theorem dL_law_564 : decode cL_law 564 = .ok (.goto 2808, 3) := sorry
theorem dL_law_567 : decode cL_law 567 = .ok (.aload_n 1, 1) := sorry
theorem dL_law_568 : decode cL_law 568 = .ok (.aload_n 0, 1) := sorry
theorem dL_law_569 : decode cL_law 569 = .ok (.iload 5, 2) := sorry
theorem dL_law_571 : decode cL_law 571 = .ok (.iconst 1, 1) := sorry
theorem dL_law_572 : decode cL_law 572 = .ok (.iadd, 1) := sorry
theorem dL_law_573 : decode cL_law 573 = .ok (.iaload, 1) := sorry
theorem dL_law_574 : decode cL_law 574 = .ok (.aload_n 0, 1) := sorry
theorem dL_law_575 : decode cL_law 575 = .ok (.iload 5, 2) := sorry
theorem dL_law_577 : decode cL_law 577 = .ok (.iconst 2, 1) := sorry
theorem dL_law_578 : decode cL_law 578 = .ok (.iadd, 1) := sorry
theorem dL_law_579 : decode cL_law 579 = .ok (.iaload, 1) := sorry
theorem dL_law_580 : decode cL_law 580 = .ok (.aload_n 3, 1) := sorry
theorem dL_law_581 : decode cL_law 581 = .ok (.invokestatic 187, 3) := sorry
theorem dL_law_584 : decode cL_law 584 = .ok (.istore 6, 2) := sorry
theorem dL_law_586 : decode cL_law 586 = .ok (.aload_n 2, 1) := sorry
theorem dL_law_587 : decode cL_law 587 = .ok (.aload_n 0, 1) := sorry
theorem dL_law_588 : decode cL_law 588 = .ok (.iload 5, 2) := sorry
theorem dL_law_590 : decode cL_law 590 = .ok (.iconst 1, 1) := sorry
theorem dL_law_591 : decode cL_law 591 = .ok (.iadd, 1) := sorry
theorem dL_law_592 : decode cL_law 592 = .ok (.iaload, 1) := sorry
theorem dL_law_593 : decode cL_law 593 = .ok (.aload_n 0, 1) := sorry
theorem dL_law_594 : decode cL_law 594 = .ok (.iload 5, 2) := sorry
theorem dL_law_596 : decode cL_law 596 = .ok (.iconst 2, 1) := sorry
theorem dL_law_597 : decode cL_law 597 = .ok (.iadd, 1) := sorry
theorem dL_law_598 : decode cL_law 598 = .ok (.iaload, 1) := sorry
theorem dL_law_599 : decode cL_law 599 = .ok (.invokevirtual 189, 3) := sorry
theorem dL_law_602 : decode cL_law 602 = .ok (.istore 7, 2) := sorry
theorem dL_law_604 : decode cL_law 604 = .ok (.aload_n 2, 1) := sorry
theorem dL_law_605 : decode cL_law 605 = .ok (.invokevirtual 160, 3) := sorry
theorem dL_law_608 : decode cL_law 608 = .ok (.iload 6, 2) := sorry
theorem dL_law_610 : decode cL_law 610 = .ok (.if_icmp .eq 5, 3) := sorry
theorem dL_law_613 : decode cL_law 613 = .ok (.iconst 0, 1) := sorry
theorem dL_law_614 : decode cL_law 614 = .ok (.ireturn, 1) := sorry
theorem dL_law_615 : decode cL_law 615 = .ok (.iload 6, 2) := sorry
theorem dL_law_617 : decode cL_law 617 = .ok (.ifCond .ne 15, 3) := sorry
theorem dL_law_620 : decode cL_law 620 = .ok (.aload_n 3, 1) := sorry
theorem dL_law_621 : decode cL_law 621 = .ok (.iconst 0, 1) := sorry
theorem dL_law_622 : decode cL_law 622 = .ok (.laload, 1) := sorry
theorem dL_law_623 : decode cL_law 623 = .ok (.iload 7, 2) := sorry
theorem dL_law_625 : decode cL_law 625 = .ok (.i2l, 1) := sorry
theorem dL_law_626 : decode cL_law 626 = .ok (.lcmp, 1) := sorry
theorem dL_law_627 : decode cL_law 627 = .ok (.ifCond .eq 5, 3) := sorry
theorem dL_law_630 : decode cL_law 630 = .ok (.iconst 0, 1) := sorry
theorem dL_law_631 : decode cL_law 631 = .ok (.ireturn, 1) := sorry
theorem dL_law_632 : decode cL_law 632 = .ok (.goto 2740, 3) := sorry
theorem dL_law_635 : decode cL_law 635 = .ok (.aload_n 1, 1) := sorry
theorem dL_law_636 : decode cL_law 636 = .ok (.aload_n 0, 1) := sorry
theorem dL_law_637 : decode cL_law 637 = .ok (.iload 5, 2) := sorry
theorem dL_law_639 : decode cL_law 639 = .ok (.iconst 1, 1) := sorry
theorem dL_law_640 : decode cL_law 640 = .ok (.iadd, 1) := sorry
theorem dL_law_641 : decode cL_law 641 = .ok (.iaload, 1) := sorry
theorem dL_law_642 : decode cL_law 642 = .ok (.aload_n 0, 1) := sorry
theorem dL_law_643 : decode cL_law 643 = .ok (.iload 5, 2) := sorry
theorem dL_law_645 : decode cL_law 645 = .ok (.iconst 2, 1) := sorry
theorem dL_law_646 : decode cL_law 646 = .ok (.iadd, 1) := sorry
theorem dL_law_647 : decode cL_law 647 = .ok (.iaload, 1) := sorry
theorem dL_law_648 : decode cL_law 648 = .ok (.aload_n 3, 1) := sorry
theorem dL_law_649 : decode cL_law 649 = .ok (.invokestatic 190, 3) := sorry
theorem dL_law_652 : decode cL_law 652 = .ok (.istore 6, 2) := sorry
theorem dL_law_654 : decode cL_law 654 = .ok (.aload_n 2, 1) := sorry
theorem dL_law_655 : decode cL_law 655 = .ok (.aload_n 0, 1) := sorry
theorem dL_law_656 : decode cL_law 656 = .ok (.iload 5, 2) := sorry
theorem dL_law_658 : decode cL_law 658 = .ok (.iconst 1, 1) := sorry
theorem dL_law_659 : decode cL_law 659 = .ok (.iadd, 1) := sorry
theorem dL_law_660 : decode cL_law 660 = .ok (.iaload, 1) := sorry
theorem dL_law_661 : decode cL_law 661 = .ok (.aload_n 0, 1) := sorry
theorem dL_law_662 : decode cL_law 662 = .ok (.iload 5, 2) := sorry
theorem dL_law_664 : decode cL_law 664 = .ok (.iconst 2, 1) := sorry
theorem dL_law_665 : decode cL_law 665 = .ok (.iadd, 1) := sorry
theorem dL_law_666 : decode cL_law 666 = .ok (.iaload, 1) := sorry
theorem dL_law_667 : decode cL_law 667 = .ok (.invokevirtual 192, 3) := sorry
theorem dL_law_670 : decode cL_law 670 = .ok (.istore 7, 2) := sorry
theorem dL_law_672 : decode cL_law 672 = .ok (.aload_n 2, 1) := sorry
theorem dL_law_673 : decode cL_law 673 = .ok (.invokevirtual 160, 3) := sorry
theorem dL_law_676 : decode cL_law 676 = .ok (.iload 6, 2) := sorry
theorem dL_law_678 : decode cL_law 678 = .ok (.if_icmp .eq 5, 3) := sorry
theorem dL_law_681 : decode cL_law 681 = .ok (.iconst 0, 1) := sorry
theorem dL_law_682 : decode cL_law 682 = .ok (.ireturn, 1) := sorry
theorem dL_law_683 : decode cL_law 683 = .ok (.iload 6, 2) := sorry
theorem dL_law_685 : decode cL_law 685 = .ok (.ifCond .ne 15, 3) := sorry
theorem dL_law_688 : decode cL_law 688 = .ok (.aload_n 3, 1) := sorry
theorem dL_law_689 : decode cL_law 689 = .ok (.iconst 0, 1) := sorry
theorem dL_law_690 : decode cL_law 690 = .ok (.laload, 1) := sorry
theorem dL_law_691 : decode cL_law 691 = .ok (.iload 7, 2) := sorry
theorem dL_law_693 : decode cL_law 693 = .ok (.i2l, 1) := sorry
theorem dL_law_694 : decode cL_law 694 = .ok (.lcmp, 1) := sorry
theorem dL_law_695 : decode cL_law 695 = .ok (.ifCond .eq 5, 3) := sorry
theorem dL_law_698 : decode cL_law 698 = .ok (.iconst 0, 1) := sorry
theorem dL_law_699 : decode cL_law 699 = .ok (.ireturn, 1) := sorry
theorem dL_law_700 : decode cL_law 700 = .ok (.goto 2672, 3) := sorry
theorem dL_law_703 : decode cL_law 703 = .ok (.aload_n 1, 1) := sorry
theorem dL_law_704 : decode cL_law 704 = .ok (.aload_n 0, 1) := sorry
theorem dL_law_705 : decode cL_law 705 = .ok (.iload 5, 2) := sorry
theorem dL_law_707 : decode cL_law 707 = .ok (.iconst 1, 1) := sorry
theorem dL_law_708 : decode cL_law 708 = .ok (.iadd, 1) := sorry
theorem dL_law_709 : decode cL_law 709 = .ok (.iaload, 1) := sorry
theorem dL_law_710 : decode cL_law 710 = .ok (.aload_n 0, 1) := sorry
theorem dL_law_711 : decode cL_law 711 = .ok (.iload 5, 2) := sorry
theorem dL_law_713 : decode cL_law 713 = .ok (.iconst 2, 1) := sorry
theorem dL_law_714 : decode cL_law 714 = .ok (.iadd, 1) := sorry
theorem dL_law_715 : decode cL_law 715 = .ok (.iaload, 1) := sorry
theorem dL_law_716 : decode cL_law 716 = .ok (.aload_n 0, 1) := sorry
theorem dL_law_717 : decode cL_law 717 = .ok (.iload 5, 2) := sorry
theorem dL_law_719 : decode cL_law 719 = .ok (.iconst 3, 1) := sorry
theorem dL_law_720 : decode cL_law 720 = .ok (.iadd, 1) := sorry
theorem dL_law_721 : decode cL_law 721 = .ok (.iaload, 1) := sorry
theorem dL_law_722 : decode cL_law 722 = .ok (.aload_n 3, 1) := sorry
theorem dL_law_723 : decode cL_law 723 = .ok (.invokestatic 193, 3) := sorry
theorem dL_law_726 : decode cL_law 726 = .ok (.istore 6, 2) := sorry
theorem dL_law_728 : decode cL_law 728 = .ok (.aload_n 2, 1) := sorry
theorem dL_law_729 : decode cL_law 729 = .ok (.aload_n 0, 1) := sorry
theorem dL_law_730 : decode cL_law 730 = .ok (.iload 5, 2) := sorry
theorem dL_law_732 : decode cL_law 732 = .ok (.iconst 1, 1) := sorry
theorem dL_law_733 : decode cL_law 733 = .ok (.iadd, 1) := sorry
theorem dL_law_734 : decode cL_law 734 = .ok (.iaload, 1) := sorry
theorem dL_law_735 : decode cL_law 735 = .ok (.aload_n 0, 1) := sorry
theorem dL_law_736 : decode cL_law 736 = .ok (.iload 5, 2) := sorry
theorem dL_law_738 : decode cL_law 738 = .ok (.iconst 2, 1) := sorry
theorem dL_law_739 : decode cL_law 739 = .ok (.iadd, 1) := sorry
theorem dL_law_740 : decode cL_law 740 = .ok (.iaload, 1) := sorry
theorem dL_law_741 : decode cL_law 741 = .ok (.aload_n 0, 1) := sorry
theorem dL_law_742 : decode cL_law 742 = .ok (.iload 5, 2) := sorry
theorem dL_law_744 : decode cL_law 744 = .ok (.iconst 3, 1) := sorry
theorem dL_law_745 : decode cL_law 745 = .ok (.iadd, 1) := sorry
theorem dL_law_746 : decode cL_law 746 = .ok (.iaload, 1) := sorry
theorem dL_law_747 : decode cL_law 747 = .ok (.invokevirtual 196, 3) := sorry
theorem dL_law_750 : decode cL_law 750 = .ok (.istore 7, 2) := sorry
theorem dL_law_752 : decode cL_law 752 = .ok (.aload_n 2, 1) := sorry
theorem dL_law_753 : decode cL_law 753 = .ok (.invokevirtual 160, 3) := sorry
theorem dL_law_756 : decode cL_law 756 = .ok (.iload 6, 2) := sorry
theorem dL_law_758 : decode cL_law 758 = .ok (.if_icmp .eq 5, 3) := sorry
theorem dL_law_761 : decode cL_law 761 = .ok (.iconst 0, 1) := sorry
theorem dL_law_762 : decode cL_law 762 = .ok (.ireturn, 1) := sorry
theorem dL_law_763 : decode cL_law 763 = .ok (.iload 6, 2) := sorry
theorem dL_law_765 : decode cL_law 765 = .ok (.ifCond .ne 15, 3) := sorry
theorem dL_law_768 : decode cL_law 768 = .ok (.aload_n 3, 1) := sorry
theorem dL_law_769 : decode cL_law 769 = .ok (.iconst 0, 1) := sorry
theorem dL_law_770 : decode cL_law 770 = .ok (.laload, 1) := sorry
theorem dL_law_771 : decode cL_law 771 = .ok (.iload 7, 2) := sorry
theorem dL_law_773 : decode cL_law 773 = .ok (.i2l, 1) := sorry
theorem dL_law_774 : decode cL_law 774 = .ok (.lcmp, 1) := sorry
theorem dL_law_775 : decode cL_law 775 = .ok (.ifCond .eq 5, 3) := sorry
theorem dL_law_778 : decode cL_law 778 = .ok (.iconst 0, 1) := sorry
theorem dL_law_779 : decode cL_law 779 = .ok (.ireturn, 1) := sorry
theorem dL_law_780 : decode cL_law 780 = .ok (.goto 2592, 3) := sorry
theorem dL_law_783 : decode cL_law 783 = .ok (.aload_n 1, 1) := sorry
theorem dL_law_784 : decode cL_law 784 = .ok (.aload_n 0, 1) := sorry
theorem dL_law_785 : decode cL_law 785 = .ok (.iload 5, 2) := sorry
theorem dL_law_787 : decode cL_law 787 = .ok (.iconst 1, 1) := sorry
theorem dL_law_788 : decode cL_law 788 = .ok (.iadd, 1) := sorry
theorem dL_law_789 : decode cL_law 789 = .ok (.iaload, 1) := sorry
theorem dL_law_790 : decode cL_law 790 = .ok (.aload_n 0, 1) := sorry
theorem dL_law_791 : decode cL_law 791 = .ok (.iload 5, 2) := sorry
theorem dL_law_793 : decode cL_law 793 = .ok (.iconst 2, 1) := sorry
theorem dL_law_794 : decode cL_law 794 = .ok (.iadd, 1) := sorry
theorem dL_law_795 : decode cL_law 795 = .ok (.iaload, 1) := sorry
theorem dL_law_796 : decode cL_law 796 = .ok (.aload_n 3, 1) := sorry
theorem dL_law_797 : decode cL_law 797 = .ok (.invokestatic 197, 3) := sorry
theorem dL_law_800 : decode cL_law 800 = .ok (.istore 6, 2) := sorry
theorem dL_law_802 : decode cL_law 802 = .ok (.aload_n 2, 1) := sorry
theorem dL_law_803 : decode cL_law 803 = .ok (.aload_n 0, 1) := sorry
theorem dL_law_804 : decode cL_law 804 = .ok (.iload 5, 2) := sorry
theorem dL_law_806 : decode cL_law 806 = .ok (.iconst 1, 1) := sorry
theorem dL_law_807 : decode cL_law 807 = .ok (.iadd, 1) := sorry
theorem dL_law_808 : decode cL_law 808 = .ok (.iaload, 1) := sorry
theorem dL_law_809 : decode cL_law 809 = .ok (.aload_n 0, 1) := sorry
theorem dL_law_810 : decode cL_law 810 = .ok (.iload 5, 2) := sorry
theorem dL_law_812 : decode cL_law 812 = .ok (.iconst 2, 1) := sorry
theorem dL_law_813 : decode cL_law 813 = .ok (.iadd, 1) := sorry
theorem dL_law_814 : decode cL_law 814 = .ok (.iaload, 1) := sorry
theorem dL_law_815 : decode cL_law 815 = .ok (.invokevirtual 199, 3) := sorry
theorem dL_law_818 : decode cL_law 818 = .ok (.istore 7, 2) := sorry
theorem dL_law_820 : decode cL_law 820 = .ok (.aload_n 2, 1) := sorry
theorem dL_law_821 : decode cL_law 821 = .ok (.invokevirtual 160, 3) := sorry
theorem dL_law_824 : decode cL_law 824 = .ok (.iload 6, 2) := sorry
theorem dL_law_826 : decode cL_law 826 = .ok (.if_icmp .eq 5, 3) := sorry
theorem dL_law_829 : decode cL_law 829 = .ok (.iconst 0, 1) := sorry
theorem dL_law_830 : decode cL_law 830 = .ok (.ireturn, 1) := sorry
theorem dL_law_831 : decode cL_law 831 = .ok (.iload 6, 2) := sorry
theorem dL_law_833 : decode cL_law 833 = .ok (.ifCond .ne 15, 3) := sorry
theorem dL_law_836 : decode cL_law 836 = .ok (.aload_n 3, 1) := sorry
theorem dL_law_837 : decode cL_law 837 = .ok (.iconst 0, 1) := sorry
theorem dL_law_838 : decode cL_law 838 = .ok (.laload, 1) := sorry
theorem dL_law_839 : decode cL_law 839 = .ok (.iload 7, 2) := sorry
theorem dL_law_841 : decode cL_law 841 = .ok (.i2l, 1) := sorry
theorem dL_law_842 : decode cL_law 842 = .ok (.lcmp, 1) := sorry
theorem dL_law_843 : decode cL_law 843 = .ok (.ifCond .eq 5, 3) := sorry
theorem dL_law_846 : decode cL_law 846 = .ok (.iconst 0, 1) := sorry
theorem dL_law_847 : decode cL_law 847 = .ok (.ireturn, 1) := sorry
theorem dL_law_848 : decode cL_law 848 = .ok (.goto 2524, 3) := sorry
theorem dL_law_851 : decode cL_law 851 = .ok (.aload_n 1, 1) := sorry
theorem dL_law_852 : decode cL_law 852 = .ok (.aload_n 0, 1) := sorry
theorem dL_law_853 : decode cL_law 853 = .ok (.iload 5, 2) := sorry
theorem dL_law_855 : decode cL_law 855 = .ok (.iconst 1, 1) := sorry
theorem dL_law_856 : decode cL_law 856 = .ok (.iadd, 1) := sorry
theorem dL_law_857 : decode cL_law 857 = .ok (.iaload, 1) := sorry
theorem dL_law_858 : decode cL_law 858 = .ok (.aload_n 0, 1) := sorry
theorem dL_law_859 : decode cL_law 859 = .ok (.iload 5, 2) := sorry
theorem dL_law_861 : decode cL_law 861 = .ok (.iconst 2, 1) := sorry
theorem dL_law_862 : decode cL_law 862 = .ok (.iadd, 1) := sorry
theorem dL_law_863 : decode cL_law 863 = .ok (.iaload, 1) := sorry
theorem dL_law_864 : decode cL_law 864 = .ok (.aload_n 3, 1) := sorry
theorem dL_law_865 : decode cL_law 865 = .ok (.invokestatic 200, 3) := sorry
theorem dL_law_868 : decode cL_law 868 = .ok (.istore 6, 2) := sorry
theorem dL_law_870 : decode cL_law 870 = .ok (.aload_n 2, 1) := sorry
theorem dL_law_871 : decode cL_law 871 = .ok (.aload_n 0, 1) := sorry
theorem dL_law_872 : decode cL_law 872 = .ok (.iload 5, 2) := sorry
theorem dL_law_874 : decode cL_law 874 = .ok (.iconst 1, 1) := sorry
theorem dL_law_875 : decode cL_law 875 = .ok (.iadd, 1) := sorry
theorem dL_law_876 : decode cL_law 876 = .ok (.iaload, 1) := sorry
theorem dL_law_877 : decode cL_law 877 = .ok (.aload_n 0, 1) := sorry
theorem dL_law_878 : decode cL_law 878 = .ok (.iload 5, 2) := sorry
theorem dL_law_880 : decode cL_law 880 = .ok (.iconst 2, 1) := sorry
theorem dL_law_881 : decode cL_law 881 = .ok (.iadd, 1) := sorry
theorem dL_law_882 : decode cL_law 882 = .ok (.iaload, 1) := sorry
theorem dL_law_883 : decode cL_law 883 = .ok (.invokevirtual 202, 3) := sorry
theorem dL_law_886 : decode cL_law 886 = .ok (.istore 7, 2) := sorry
theorem dL_law_888 : decode cL_law 888 = .ok (.aload_n 2, 1) := sorry
theorem dL_law_889 : decode cL_law 889 = .ok (.invokevirtual 160, 3) := sorry
theorem dL_law_892 : decode cL_law 892 = .ok (.iload 6, 2) := sorry
theorem dL_law_894 : decode cL_law 894 = .ok (.if_icmp .eq 5, 3) := sorry
theorem dL_law_897 : decode cL_law 897 = .ok (.iconst 0, 1) := sorry
theorem dL_law_898 : decode cL_law 898 = .ok (.ireturn, 1) := sorry
theorem dL_law_899 : decode cL_law 899 = .ok (.iload 6, 2) := sorry
theorem dL_law_901 : decode cL_law 901 = .ok (.ifCond .ne 15, 3) := sorry
theorem dL_law_904 : decode cL_law 904 = .ok (.aload_n 3, 1) := sorry
theorem dL_law_905 : decode cL_law 905 = .ok (.iconst 0, 1) := sorry
theorem dL_law_906 : decode cL_law 906 = .ok (.laload, 1) := sorry
theorem dL_law_907 : decode cL_law 907 = .ok (.iload 7, 2) := sorry
theorem dL_law_909 : decode cL_law 909 = .ok (.i2l, 1) := sorry
theorem dL_law_910 : decode cL_law 910 = .ok (.lcmp, 1) := sorry
theorem dL_law_911 : decode cL_law 911 = .ok (.ifCond .eq 5, 3) := sorry
theorem dL_law_914 : decode cL_law 914 = .ok (.iconst 0, 1) := sorry
theorem dL_law_915 : decode cL_law 915 = .ok (.ireturn, 1) := sorry
theorem dL_law_916 : decode cL_law 916 = .ok (.goto 2456, 3) := sorry
theorem dL_law_919 : decode cL_law 919 = .ok (.aload_n 1, 1) := sorry
theorem dL_law_920 : decode cL_law 920 = .ok (.aload_n 0, 1) := sorry
theorem dL_law_921 : decode cL_law 921 = .ok (.iload 5, 2) := sorry
theorem dL_law_923 : decode cL_law 923 = .ok (.iconst 1, 1) := sorry
theorem dL_law_924 : decode cL_law 924 = .ok (.iadd, 1) := sorry
theorem dL_law_925 : decode cL_law 925 = .ok (.iaload, 1) := sorry
theorem dL_law_926 : decode cL_law 926 = .ok (.aload_n 0, 1) := sorry
theorem dL_law_927 : decode cL_law 927 = .ok (.iload 5, 2) := sorry
theorem dL_law_929 : decode cL_law 929 = .ok (.iconst 2, 1) := sorry
theorem dL_law_930 : decode cL_law 930 = .ok (.iadd, 1) := sorry
theorem dL_law_931 : decode cL_law 931 = .ok (.iaload, 1) := sorry
theorem dL_law_932 : decode cL_law 932 = .ok (.aload_n 3, 1) := sorry
theorem dL_law_933 : decode cL_law 933 = .ok (.invokestatic 203, 3) := sorry
theorem dL_law_936 : decode cL_law 936 = .ok (.istore 6, 2) := sorry
theorem dL_law_938 : decode cL_law 938 = .ok (.aload_n 2, 1) := sorry
theorem dL_law_939 : decode cL_law 939 = .ok (.aload_n 0, 1) := sorry
theorem dL_law_940 : decode cL_law 940 = .ok (.iload 5, 2) := sorry
theorem dL_law_942 : decode cL_law 942 = .ok (.iconst 1, 1) := sorry
theorem dL_law_943 : decode cL_law 943 = .ok (.iadd, 1) := sorry
theorem dL_law_944 : decode cL_law 944 = .ok (.iaload, 1) := sorry
theorem dL_law_945 : decode cL_law 945 = .ok (.aload_n 0, 1) := sorry
theorem dL_law_946 : decode cL_law 946 = .ok (.iload 5, 2) := sorry
theorem dL_law_948 : decode cL_law 948 = .ok (.iconst 2, 1) := sorry
theorem dL_law_949 : decode cL_law 949 = .ok (.iadd, 1) := sorry
theorem dL_law_950 : decode cL_law 950 = .ok (.iaload, 1) := sorry
theorem dL_law_951 : decode cL_law 951 = .ok (.invokevirtual 205, 3) := sorry
theorem dL_law_954 : decode cL_law 954 = .ok (.istore 7, 2) := sorry
theorem dL_law_956 : decode cL_law 956 = .ok (.aload_n 2, 1) := sorry
theorem dL_law_957 : decode cL_law 957 = .ok (.invokevirtual 160, 3) := sorry
theorem dL_law_960 : decode cL_law 960 = .ok (.iload 6, 2) := sorry
theorem dL_law_962 : decode cL_law 962 = .ok (.if_icmp .eq 5, 3) := sorry
theorem dL_law_965 : decode cL_law 965 = .ok (.iconst 0, 1) := sorry
theorem dL_law_966 : decode cL_law 966 = .ok (.ireturn, 1) := sorry
theorem dL_law_967 : decode cL_law 967 = .ok (.iload 6, 2) := sorry
theorem dL_law_969 : decode cL_law 969 = .ok (.ifCond .ne 15, 3) := sorry
theorem dL_law_972 : decode cL_law 972 = .ok (.aload_n 3, 1) := sorry
theorem dL_law_973 : decode cL_law 973 = .ok (.iconst 0, 1) := sorry
theorem dL_law_974 : decode cL_law 974 = .ok (.laload, 1) := sorry
theorem dL_law_975 : decode cL_law 975 = .ok (.iload 7, 2) := sorry
theorem dL_law_977 : decode cL_law 977 = .ok (.i2l, 1) := sorry
theorem dL_law_978 : decode cL_law 978 = .ok (.lcmp, 1) := sorry
theorem dL_law_979 : decode cL_law 979 = .ok (.ifCond .eq 5, 3) := sorry
theorem dL_law_982 : decode cL_law 982 = .ok (.iconst 0, 1) := sorry
theorem dL_law_983 : decode cL_law 983 = .ok (.ireturn, 1) := sorry
theorem dL_law_984 : decode cL_law 984 = .ok (.goto 2388, 3) := sorry
theorem dL_law_987 : decode cL_law 987 = .ok (.aload_n 1, 1) := sorry
theorem dL_law_988 : decode cL_law 988 = .ok (.aload_n 0, 1) := sorry
theorem dL_law_989 : decode cL_law 989 = .ok (.iload 5, 2) := sorry
theorem dL_law_991 : decode cL_law 991 = .ok (.iconst 1, 1) := sorry
theorem dL_law_992 : decode cL_law 992 = .ok (.iadd, 1) := sorry
theorem dL_law_993 : decode cL_law 993 = .ok (.iaload, 1) := sorry
theorem dL_law_994 : decode cL_law 994 = .ok (.aload_n 0, 1) := sorry
theorem dL_law_995 : decode cL_law 995 = .ok (.iload 5, 2) := sorry
theorem dL_law_997 : decode cL_law 997 = .ok (.iconst 2, 1) := sorry
theorem dL_law_998 : decode cL_law 998 = .ok (.iadd, 1) := sorry
theorem dL_law_999 : decode cL_law 999 = .ok (.iaload, 1) := sorry
theorem dL_law_1000 : decode cL_law 1000 = .ok (.ifCond .eq 7, 3) := sorry
theorem dL_law_1003 : decode cL_law 1003 = .ok (.iconst 1, 1) := sorry
theorem dL_law_1004 : decode cL_law 1004 = .ok (.goto 4, 3) := sorry
theorem dL_law_1007 : decode cL_law 1007 = .ok (.iconst 0, 1) := sorry
theorem dL_law_1008 : decode cL_law 1008 = .ok (.aload_n 3, 1) := sorry
theorem dL_law_1009 : decode cL_law 1009 = .ok (.invokestatic 206, 3) := sorry
theorem dL_law_1012 : decode cL_law 1012 = .ok (.istore 6, 2) := sorry
theorem dL_law_1014 : decode cL_law 1014 = .ok (.aload_n 2, 1) := sorry
theorem dL_law_1015 : decode cL_law 1015 = .ok (.aload_n 0, 1) := sorry
theorem dL_law_1016 : decode cL_law 1016 = .ok (.iload 5, 2) := sorry
theorem dL_law_1018 : decode cL_law 1018 = .ok (.iconst 1, 1) := sorry
theorem dL_law_1019 : decode cL_law 1019 = .ok (.iadd, 1) := sorry
theorem dL_law_1020 : decode cL_law 1020 = .ok (.iaload, 1) := sorry
theorem dL_law_1021 : decode cL_law 1021 = .ok (.aload_n 0, 1) := sorry
theorem dL_law_1022 : decode cL_law 1022 = .ok (.iload 5, 2) := sorry
theorem dL_law_1024 : decode cL_law 1024 = .ok (.iconst 2, 1) := sorry
theorem dL_law_1025 : decode cL_law 1025 = .ok (.iadd, 1) := sorry
theorem dL_law_1026 : decode cL_law 1026 = .ok (.iaload, 1) := sorry
theorem dL_law_1027 : decode cL_law 1027 = .ok (.ifCond .eq 7, 3) := sorry
theorem dL_law_1030 : decode cL_law 1030 = .ok (.iconst 1, 1) := sorry
theorem dL_law_1031 : decode cL_law 1031 = .ok (.goto 4, 3) := sorry
theorem dL_law_1034 : decode cL_law 1034 = .ok (.iconst 0, 1) := sorry
theorem dL_law_1035 : decode cL_law 1035 = .ok (.invokevirtual 209, 3) := sorry
theorem dL_law_1038 : decode cL_law 1038 = .ok (.istore 7, 2) := sorry
theorem dL_law_1040 : decode cL_law 1040 = .ok (.aload_n 2, 1) := sorry
theorem dL_law_1041 : decode cL_law 1041 = .ok (.invokevirtual 160, 3) := sorry
theorem dL_law_1044 : decode cL_law 1044 = .ok (.iload 6, 2) := sorry
theorem dL_law_1046 : decode cL_law 1046 = .ok (.if_icmp .eq 5, 3) := sorry
theorem dL_law_1049 : decode cL_law 1049 = .ok (.iconst 0, 1) := sorry
theorem dL_law_1050 : decode cL_law 1050 = .ok (.ireturn, 1) := sorry
theorem dL_law_1051 : decode cL_law 1051 = .ok (.iload 6, 2) := sorry
theorem dL_law_1053 : decode cL_law 1053 = .ok (.ifCond .ne 15, 3) := sorry
theorem dL_law_1056 : decode cL_law 1056 = .ok (.aload_n 3, 1) := sorry
theorem dL_law_1057 : decode cL_law 1057 = .ok (.iconst 0, 1) := sorry
theorem dL_law_1058 : decode cL_law 1058 = .ok (.laload, 1) := sorry
theorem dL_law_1059 : decode cL_law 1059 = .ok (.iload 7, 2) := sorry
theorem dL_law_1061 : decode cL_law 1061 = .ok (.i2l, 1) := sorry
theorem dL_law_1062 : decode cL_law 1062 = .ok (.lcmp, 1) := sorry
theorem dL_law_1063 : decode cL_law 1063 = .ok (.ifCond .eq 5, 3) := sorry
theorem dL_law_1066 : decode cL_law 1066 = .ok (.iconst 0, 1) := sorry
theorem dL_law_1067 : decode cL_law 1067 = .ok (.ireturn, 1) := sorry
theorem dL_law_1068 : decode cL_law 1068 = .ok (.goto 2304, 3) := sorry
theorem dL_law_1071 : decode cL_law 1071 = .ok (.aload_n 1, 1) := sorry
theorem dL_law_1072 : decode cL_law 1072 = .ok (.aload_n 0, 1) := sorry
theorem dL_law_1073 : decode cL_law 1073 = .ok (.iload 5, 2) := sorry
theorem dL_law_1075 : decode cL_law 1075 = .ok (.iconst 1, 1) := sorry
theorem dL_law_1076 : decode cL_law 1076 = .ok (.iadd, 1) := sorry
theorem dL_law_1077 : decode cL_law 1077 = .ok (.iaload, 1) := sorry
theorem dL_law_1078 : decode cL_law 1078 = .ok (.aload_n 0, 1) := sorry
theorem dL_law_1079 : decode cL_law 1079 = .ok (.iload 5, 2) := sorry
theorem dL_law_1081 : decode cL_law 1081 = .ok (.iconst 2, 1) := sorry
theorem dL_law_1082 : decode cL_law 1082 = .ok (.iadd, 1) := sorry
theorem dL_law_1083 : decode cL_law 1083 = .ok (.iaload, 1) := sorry
theorem dL_law_1084 : decode cL_law 1084 = .ok (.ifCond .eq 7, 3) := sorry
theorem dL_law_1087 : decode cL_law 1087 = .ok (.iconst 1, 1) := sorry
theorem dL_law_1088 : decode cL_law 1088 = .ok (.goto 4, 3) := sorry
theorem dL_law_1091 : decode cL_law 1091 = .ok (.iconst 0, 1) := sorry
theorem dL_law_1092 : decode cL_law 1092 = .ok (.aload_n 0, 1) := sorry
theorem dL_law_1093 : decode cL_law 1093 = .ok (.iload 5, 2) := sorry
theorem dL_law_1095 : decode cL_law 1095 = .ok (.iconst 3, 1) := sorry
theorem dL_law_1096 : decode cL_law 1096 = .ok (.iadd, 1) := sorry
theorem dL_law_1097 : decode cL_law 1097 = .ok (.iaload, 1) := sorry
theorem dL_law_1098 : decode cL_law 1098 = .ok (.aload_n 3, 1) := sorry
theorem dL_law_1099 : decode cL_law 1099 = .ok (.invokestatic 210, 3) := sorry
theorem dL_law_1102 : decode cL_law 1102 = .ok (.istore 6, 2) := sorry
theorem dL_law_1104 : decode cL_law 1104 = .ok (.aload_n 2, 1) := sorry
theorem dL_law_1105 : decode cL_law 1105 = .ok (.aload_n 0, 1) := sorry
theorem dL_law_1106 : decode cL_law 1106 = .ok (.iload 5, 2) := sorry
theorem dL_law_1108 : decode cL_law 1108 = .ok (.iconst 1, 1) := sorry
theorem dL_law_1109 : decode cL_law 1109 = .ok (.iadd, 1) := sorry
theorem dL_law_1110 : decode cL_law 1110 = .ok (.iaload, 1) := sorry
theorem dL_law_1111 : decode cL_law 1111 = .ok (.aload_n 0, 1) := sorry
theorem dL_law_1112 : decode cL_law 1112 = .ok (.iload 5, 2) := sorry
theorem dL_law_1114 : decode cL_law 1114 = .ok (.iconst 2, 1) := sorry
theorem dL_law_1115 : decode cL_law 1115 = .ok (.iadd, 1) := sorry
theorem dL_law_1116 : decode cL_law 1116 = .ok (.iaload, 1) := sorry
theorem dL_law_1117 : decode cL_law 1117 = .ok (.ifCond .eq 7, 3) := sorry
theorem dL_law_1120 : decode cL_law 1120 = .ok (.iconst 1, 1) := sorry
theorem dL_law_1121 : decode cL_law 1121 = .ok (.goto 4, 3) := sorry
theorem dL_law_1124 : decode cL_law 1124 = .ok (.iconst 0, 1) := sorry
theorem dL_law_1125 : decode cL_law 1125 = .ok (.aload_n 0, 1) := sorry
theorem dL_law_1126 : decode cL_law 1126 = .ok (.iload 5, 2) := sorry
theorem dL_law_1128 : decode cL_law 1128 = .ok (.iconst 3, 1) := sorry
theorem dL_law_1129 : decode cL_law 1129 = .ok (.iadd, 1) := sorry
theorem dL_law_1130 : decode cL_law 1130 = .ok (.iaload, 1) := sorry
theorem dL_law_1131 : decode cL_law 1131 = .ok (.invokevirtual 213, 3) := sorry
theorem dL_law_1134 : decode cL_law 1134 = .ok (.istore 7, 2) := sorry
theorem dL_law_1136 : decode cL_law 1136 = .ok (.aload_n 2, 1) := sorry
theorem dL_law_1137 : decode cL_law 1137 = .ok (.invokevirtual 160, 3) := sorry
theorem dL_law_1140 : decode cL_law 1140 = .ok (.iload 6, 2) := sorry
theorem dL_law_1142 : decode cL_law 1142 = .ok (.if_icmp .eq 5, 3) := sorry
theorem dL_law_1145 : decode cL_law 1145 = .ok (.iconst 0, 1) := sorry
theorem dL_law_1146 : decode cL_law 1146 = .ok (.ireturn, 1) := sorry
theorem dL_law_1147 : decode cL_law 1147 = .ok (.iload 6, 2) := sorry
theorem dL_law_1149 : decode cL_law 1149 = .ok (.ifCond .ne 15, 3) := sorry
theorem dL_law_1152 : decode cL_law 1152 = .ok (.aload_n 3, 1) := sorry
theorem dL_law_1153 : decode cL_law 1153 = .ok (.iconst 0, 1) := sorry
theorem dL_law_1154 : decode cL_law 1154 = .ok (.laload, 1) := sorry
theorem dL_law_1155 : decode cL_law 1155 = .ok (.iload 7, 2) := sorry
theorem dL_law_1157 : decode cL_law 1157 = .ok (.i2l, 1) := sorry
theorem dL_law_1158 : decode cL_law 1158 = .ok (.lcmp, 1) := sorry
theorem dL_law_1159 : decode cL_law 1159 = .ok (.ifCond .eq 5, 3) := sorry
theorem dL_law_1162 : decode cL_law 1162 = .ok (.iconst 0, 1) := sorry
theorem dL_law_1163 : decode cL_law 1163 = .ok (.ireturn, 1) := sorry
theorem dL_law_1164 : decode cL_law 1164 = .ok (.goto 2208, 3) := sorry
theorem dL_law_1167 : decode cL_law 1167 = .ok (.aload_n 1, 1) := sorry
theorem dL_law_1168 : decode cL_law 1168 = .ok (.aload_n 0, 1) := sorry
theorem dL_law_1169 : decode cL_law 1169 = .ok (.iload 5, 2) := sorry
theorem dL_law_1171 : decode cL_law 1171 = .ok (.iconst 1, 1) := sorry
theorem dL_law_1172 : decode cL_law 1172 = .ok (.iadd, 1) := sorry
theorem dL_law_1173 : decode cL_law 1173 = .ok (.iaload, 1) := sorry
theorem dL_law_1174 : decode cL_law 1174 = .ok (.aload_n 0, 1) := sorry
theorem dL_law_1175 : decode cL_law 1175 = .ok (.iload 5, 2) := sorry
theorem dL_law_1177 : decode cL_law 1177 = .ok (.iconst 2, 1) := sorry
theorem dL_law_1178 : decode cL_law 1178 = .ok (.iadd, 1) := sorry
theorem dL_law_1179 : decode cL_law 1179 = .ok (.iaload, 1) := sorry
theorem dL_law_1180 : decode cL_law 1180 = .ok (.ifCond .eq 7, 3) := sorry
theorem dL_law_1183 : decode cL_law 1183 = .ok (.iconst 1, 1) := sorry
theorem dL_law_1184 : decode cL_law 1184 = .ok (.goto 4, 3) := sorry
theorem dL_law_1187 : decode cL_law 1187 = .ok (.iconst 0, 1) := sorry
theorem dL_law_1188 : decode cL_law 1188 = .ok (.aload_n 0, 1) := sorry
theorem dL_law_1189 : decode cL_law 1189 = .ok (.iload 5, 2) := sorry
theorem dL_law_1191 : decode cL_law 1191 = .ok (.iconst 3, 1) := sorry
theorem dL_law_1192 : decode cL_law 1192 = .ok (.iadd, 1) := sorry
theorem dL_law_1193 : decode cL_law 1193 = .ok (.iaload, 1) := sorry
theorem dL_law_1194 : decode cL_law 1194 = .ok (.aload_n 3, 1) := sorry
theorem dL_law_1195 : decode cL_law 1195 = .ok (.invokestatic 214, 3) := sorry
theorem dL_law_1198 : decode cL_law 1198 = .ok (.istore 6, 2) := sorry
theorem dL_law_1200 : decode cL_law 1200 = .ok (.aload_n 2, 1) := sorry
theorem dL_law_1201 : decode cL_law 1201 = .ok (.aload_n 0, 1) := sorry
theorem dL_law_1202 : decode cL_law 1202 = .ok (.iload 5, 2) := sorry
theorem dL_law_1204 : decode cL_law 1204 = .ok (.iconst 1, 1) := sorry
theorem dL_law_1205 : decode cL_law 1205 = .ok (.iadd, 1) := sorry
theorem dL_law_1206 : decode cL_law 1206 = .ok (.iaload, 1) := sorry
theorem dL_law_1207 : decode cL_law 1207 = .ok (.aload_n 0, 1) := sorry
theorem dL_law_1208 : decode cL_law 1208 = .ok (.iload 5, 2) := sorry
theorem dL_law_1210 : decode cL_law 1210 = .ok (.iconst 2, 1) := sorry
theorem dL_law_1211 : decode cL_law 1211 = .ok (.iadd, 1) := sorry
theorem dL_law_1212 : decode cL_law 1212 = .ok (.iaload, 1) := sorry
theorem dL_law_1213 : decode cL_law 1213 = .ok (.ifCond .eq 7, 3) := sorry
theorem dL_law_1216 : decode cL_law 1216 = .ok (.iconst 1, 1) := sorry
theorem dL_law_1217 : decode cL_law 1217 = .ok (.goto 4, 3) := sorry
theorem dL_law_1220 : decode cL_law 1220 = .ok (.iconst 0, 1) := sorry
theorem dL_law_1221 : decode cL_law 1221 = .ok (.aload_n 0, 1) := sorry
theorem dL_law_1222 : decode cL_law 1222 = .ok (.iload 5, 2) := sorry
theorem dL_law_1224 : decode cL_law 1224 = .ok (.iconst 3, 1) := sorry
theorem dL_law_1225 : decode cL_law 1225 = .ok (.iadd, 1) := sorry
theorem dL_law_1226 : decode cL_law 1226 = .ok (.iaload, 1) := sorry
theorem dL_law_1227 : decode cL_law 1227 = .ok (.invokevirtual 216, 3) := sorry
theorem dL_law_1230 : decode cL_law 1230 = .ok (.istore 7, 2) := sorry
theorem dL_law_1232 : decode cL_law 1232 = .ok (.aload_n 2, 1) := sorry
theorem dL_law_1233 : decode cL_law 1233 = .ok (.invokevirtual 160, 3) := sorry
theorem dL_law_1236 : decode cL_law 1236 = .ok (.iload 6, 2) := sorry
theorem dL_law_1238 : decode cL_law 1238 = .ok (.if_icmp .eq 5, 3) := sorry
theorem dL_law_1241 : decode cL_law 1241 = .ok (.iconst 0, 1) := sorry
theorem dL_law_1242 : decode cL_law 1242 = .ok (.ireturn, 1) := sorry
theorem dL_law_1243 : decode cL_law 1243 = .ok (.iload 6, 2) := sorry
theorem dL_law_1245 : decode cL_law 1245 = .ok (.ifCond .ne 15, 3) := sorry
theorem dL_law_1248 : decode cL_law 1248 = .ok (.aload_n 3, 1) := sorry
theorem dL_law_1249 : decode cL_law 1249 = .ok (.iconst 0, 1) := sorry
theorem dL_law_1250 : decode cL_law 1250 = .ok (.laload, 1) := sorry
theorem dL_law_1251 : decode cL_law 1251 = .ok (.iload 7, 2) := sorry
theorem dL_law_1253 : decode cL_law 1253 = .ok (.i2l, 1) := sorry
theorem dL_law_1254 : decode cL_law 1254 = .ok (.lcmp, 1) := sorry
theorem dL_law_1255 : decode cL_law 1255 = .ok (.ifCond .eq 5, 3) := sorry
theorem dL_law_1258 : decode cL_law 1258 = .ok (.iconst 0, 1) := sorry
theorem dL_law_1259 : decode cL_law 1259 = .ok (.ireturn, 1) := sorry
theorem dL_law_1260 : decode cL_law 1260 = .ok (.goto 2112, 3) := sorry
theorem dL_law_1263 : decode cL_law 1263 = .ok (.aload_n 1, 1) := sorry
theorem dL_law_1264 : decode cL_law 1264 = .ok (.aload_n 0, 1) := sorry
theorem dL_law_1265 : decode cL_law 1265 = .ok (.iload 5, 2) := sorry
theorem dL_law_1267 : decode cL_law 1267 = .ok (.iconst 1, 1) := sorry
theorem dL_law_1268 : decode cL_law 1268 = .ok (.iadd, 1) := sorry
theorem dL_law_1269 : decode cL_law 1269 = .ok (.iaload, 1) := sorry
theorem dL_law_1270 : decode cL_law 1270 = .ok (.aload_n 0, 1) := sorry
theorem dL_law_1271 : decode cL_law 1271 = .ok (.iload 5, 2) := sorry
theorem dL_law_1273 : decode cL_law 1273 = .ok (.iconst 2, 1) := sorry
theorem dL_law_1274 : decode cL_law 1274 = .ok (.iadd, 1) := sorry
theorem dL_law_1275 : decode cL_law 1275 = .ok (.iaload, 1) := sorry
theorem dL_law_1276 : decode cL_law 1276 = .ok (.ifCond .eq 7, 3) := sorry
theorem dL_law_1279 : decode cL_law 1279 = .ok (.iconst 1, 1) := sorry
theorem dL_law_1280 : decode cL_law 1280 = .ok (.goto 4, 3) := sorry
theorem dL_law_1283 : decode cL_law 1283 = .ok (.iconst 0, 1) := sorry
theorem dL_law_1284 : decode cL_law 1284 = .ok (.aload_n 0, 1) := sorry
theorem dL_law_1285 : decode cL_law 1285 = .ok (.iload 5, 2) := sorry
theorem dL_law_1287 : decode cL_law 1287 = .ok (.iconst 3, 1) := sorry
theorem dL_law_1288 : decode cL_law 1288 = .ok (.iadd, 1) := sorry
theorem dL_law_1289 : decode cL_law 1289 = .ok (.iaload, 1) := sorry
theorem dL_law_1290 : decode cL_law 1290 = .ok (.aload_n 3, 1) := sorry
theorem dL_law_1291 : decode cL_law 1291 = .ok (.invokestatic 217, 3) := sorry
theorem dL_law_1294 : decode cL_law 1294 = .ok (.istore 6, 2) := sorry
theorem dL_law_1296 : decode cL_law 1296 = .ok (.aload_n 2, 1) := sorry
theorem dL_law_1297 : decode cL_law 1297 = .ok (.aload_n 0, 1) := sorry
theorem dL_law_1298 : decode cL_law 1298 = .ok (.iload 5, 2) := sorry
theorem dL_law_1300 : decode cL_law 1300 = .ok (.iconst 1, 1) := sorry
theorem dL_law_1301 : decode cL_law 1301 = .ok (.iadd, 1) := sorry
theorem dL_law_1302 : decode cL_law 1302 = .ok (.iaload, 1) := sorry
theorem dL_law_1303 : decode cL_law 1303 = .ok (.aload_n 0, 1) := sorry
theorem dL_law_1304 : decode cL_law 1304 = .ok (.iload 5, 2) := sorry
theorem dL_law_1306 : decode cL_law 1306 = .ok (.iconst 2, 1) := sorry
theorem dL_law_1307 : decode cL_law 1307 = .ok (.iadd, 1) := sorry
theorem dL_law_1308 : decode cL_law 1308 = .ok (.iaload, 1) := sorry
theorem dL_law_1309 : decode cL_law 1309 = .ok (.ifCond .eq 7, 3) := sorry
theorem dL_law_1312 : decode cL_law 1312 = .ok (.iconst 1, 1) := sorry
theorem dL_law_1313 : decode cL_law 1313 = .ok (.goto 4, 3) := sorry
theorem dL_law_1316 : decode cL_law 1316 = .ok (.iconst 0, 1) := sorry
theorem dL_law_1317 : decode cL_law 1317 = .ok (.aload_n 0, 1) := sorry
theorem dL_law_1318 : decode cL_law 1318 = .ok (.iload 5, 2) := sorry
theorem dL_law_1320 : decode cL_law 1320 = .ok (.iconst 3, 1) := sorry
theorem dL_law_1321 : decode cL_law 1321 = .ok (.iadd, 1) := sorry
theorem dL_law_1322 : decode cL_law 1322 = .ok (.iaload, 1) := sorry
theorem dL_law_1323 : decode cL_law 1323 = .ok (.invokevirtual 219, 3) := sorry
theorem dL_law_1326 : decode cL_law 1326 = .ok (.istore 7, 2) := sorry
theorem dL_law_1328 : decode cL_law 1328 = .ok (.aload_n 2, 1) := sorry
theorem dL_law_1329 : decode cL_law 1329 = .ok (.invokevirtual 160, 3) := sorry
theorem dL_law_1332 : decode cL_law 1332 = .ok (.iload 6, 2) := sorry
theorem dL_law_1334 : decode cL_law 1334 = .ok (.if_icmp .eq 5, 3) := sorry
theorem dL_law_1337 : decode cL_law 1337 = .ok (.iconst 0, 1) := sorry
theorem dL_law_1338 : decode cL_law 1338 = .ok (.ireturn, 1) := sorry
theorem dL_law_1339 : decode cL_law 1339 = .ok (.iload 6, 2) := sorry
theorem dL_law_1341 : decode cL_law 1341 = .ok (.ifCond .ne 15, 3) := sorry
theorem dL_law_1344 : decode cL_law 1344 = .ok (.aload_n 3, 1) := sorry
theorem dL_law_1345 : decode cL_law 1345 = .ok (.iconst 0, 1) := sorry
theorem dL_law_1346 : decode cL_law 1346 = .ok (.laload, 1) := sorry
theorem dL_law_1347 : decode cL_law 1347 = .ok (.iload 7, 2) := sorry
theorem dL_law_1349 : decode cL_law 1349 = .ok (.i2l, 1) := sorry
theorem dL_law_1350 : decode cL_law 1350 = .ok (.lcmp, 1) := sorry
theorem dL_law_1351 : decode cL_law 1351 = .ok (.ifCond .eq 5, 3) := sorry
theorem dL_law_1354 : decode cL_law 1354 = .ok (.iconst 0, 1) := sorry
theorem dL_law_1355 : decode cL_law 1355 = .ok (.ireturn, 1) := sorry
theorem dL_law_1356 : decode cL_law 1356 = .ok (.goto 2016, 3) := sorry
theorem dL_law_1359 : decode cL_law 1359 = .ok (.aload_n 1, 1) := sorry
theorem dL_law_1360 : decode cL_law 1360 = .ok (.aload_n 0, 1) := sorry
theorem dL_law_1361 : decode cL_law 1361 = .ok (.iload 5, 2) := sorry
theorem dL_law_1363 : decode cL_law 1363 = .ok (.iconst 1, 1) := sorry
theorem dL_law_1364 : decode cL_law 1364 = .ok (.iadd, 1) := sorry
theorem dL_law_1365 : decode cL_law 1365 = .ok (.iaload, 1) := sorry
theorem dL_law_1366 : decode cL_law 1366 = .ok (.aload_n 0, 1) := sorry
theorem dL_law_1367 : decode cL_law 1367 = .ok (.iload 5, 2) := sorry
theorem dL_law_1369 : decode cL_law 1369 = .ok (.iconst 2, 1) := sorry
theorem dL_law_1370 : decode cL_law 1370 = .ok (.iadd, 1) := sorry
theorem dL_law_1371 : decode cL_law 1371 = .ok (.iaload, 1) := sorry
theorem dL_law_1372 : decode cL_law 1372 = .ok (.ifCond .eq 7, 3) := sorry
theorem dL_law_1375 : decode cL_law 1375 = .ok (.iconst 1, 1) := sorry
theorem dL_law_1376 : decode cL_law 1376 = .ok (.goto 4, 3) := sorry
theorem dL_law_1379 : decode cL_law 1379 = .ok (.iconst 0, 1) := sorry
theorem dL_law_1380 : decode cL_law 1380 = .ok (.aload_n 0, 1) := sorry
theorem dL_law_1381 : decode cL_law 1381 = .ok (.iload 5, 2) := sorry
theorem dL_law_1383 : decode cL_law 1383 = .ok (.iconst 3, 1) := sorry
theorem dL_law_1384 : decode cL_law 1384 = .ok (.iadd, 1) := sorry
theorem dL_law_1385 : decode cL_law 1385 = .ok (.iaload, 1) := sorry
theorem dL_law_1386 : decode cL_law 1386 = .ok (.aload_n 3, 1) := sorry
theorem dL_law_1387 : decode cL_law 1387 = .ok (.invokestatic 220, 3) := sorry
theorem dL_law_1390 : decode cL_law 1390 = .ok (.istore 6, 2) := sorry
theorem dL_law_1392 : decode cL_law 1392 = .ok (.aload_n 2, 1) := sorry
theorem dL_law_1393 : decode cL_law 1393 = .ok (.aload_n 0, 1) := sorry
theorem dL_law_1394 : decode cL_law 1394 = .ok (.iload 5, 2) := sorry
theorem dL_law_1396 : decode cL_law 1396 = .ok (.iconst 1, 1) := sorry
theorem dL_law_1397 : decode cL_law 1397 = .ok (.iadd, 1) := sorry
theorem dL_law_1398 : decode cL_law 1398 = .ok (.iaload, 1) := sorry
theorem dL_law_1399 : decode cL_law 1399 = .ok (.aload_n 0, 1) := sorry
theorem dL_law_1400 : decode cL_law 1400 = .ok (.iload 5, 2) := sorry
theorem dL_law_1402 : decode cL_law 1402 = .ok (.iconst 2, 1) := sorry
theorem dL_law_1403 : decode cL_law 1403 = .ok (.iadd, 1) := sorry
theorem dL_law_1404 : decode cL_law 1404 = .ok (.iaload, 1) := sorry
theorem dL_law_1405 : decode cL_law 1405 = .ok (.ifCond .eq 7, 3) := sorry
theorem dL_law_1408 : decode cL_law 1408 = .ok (.iconst 1, 1) := sorry
theorem dL_law_1409 : decode cL_law 1409 = .ok (.goto 4, 3) := sorry
theorem dL_law_1412 : decode cL_law 1412 = .ok (.iconst 0, 1) := sorry
theorem dL_law_1413 : decode cL_law 1413 = .ok (.aload_n 0, 1) := sorry
theorem dL_law_1414 : decode cL_law 1414 = .ok (.iload 5, 2) := sorry
theorem dL_law_1416 : decode cL_law 1416 = .ok (.iconst 3, 1) := sorry
theorem dL_law_1417 : decode cL_law 1417 = .ok (.iadd, 1) := sorry
theorem dL_law_1418 : decode cL_law 1418 = .ok (.iaload, 1) := sorry
theorem dL_law_1419 : decode cL_law 1419 = .ok (.invokevirtual 222, 3) := sorry
theorem dL_law_1422 : decode cL_law 1422 = .ok (.istore 7, 2) := sorry
theorem dL_law_1424 : decode cL_law 1424 = .ok (.aload_n 2, 1) := sorry
theorem dL_law_1425 : decode cL_law 1425 = .ok (.invokevirtual 160, 3) := sorry
theorem dL_law_1428 : decode cL_law 1428 = .ok (.iload 6, 2) := sorry
theorem dL_law_1430 : decode cL_law 1430 = .ok (.if_icmp .eq 5, 3) := sorry
theorem dL_law_1433 : decode cL_law 1433 = .ok (.iconst 0, 1) := sorry
theorem dL_law_1434 : decode cL_law 1434 = .ok (.ireturn, 1) := sorry
theorem dL_law_1435 : decode cL_law 1435 = .ok (.iload 6, 2) := sorry
theorem dL_law_1437 : decode cL_law 1437 = .ok (.ifCond .ne 15, 3) := sorry
theorem dL_law_1440 : decode cL_law 1440 = .ok (.aload_n 3, 1) := sorry
theorem dL_law_1441 : decode cL_law 1441 = .ok (.iconst 0, 1) := sorry
theorem dL_law_1442 : decode cL_law 1442 = .ok (.laload, 1) := sorry
theorem dL_law_1443 : decode cL_law 1443 = .ok (.iload 7, 2) := sorry
theorem dL_law_1445 : decode cL_law 1445 = .ok (.i2l, 1) := sorry
theorem dL_law_1446 : decode cL_law 1446 = .ok (.lcmp, 1) := sorry
theorem dL_law_1447 : decode cL_law 1447 = .ok (.ifCond .eq 5, 3) := sorry
theorem dL_law_1450 : decode cL_law 1450 = .ok (.iconst 0, 1) := sorry
theorem dL_law_1451 : decode cL_law 1451 = .ok (.ireturn, 1) := sorry
theorem dL_law_1452 : decode cL_law 1452 = .ok (.goto 1920, 3) := sorry
theorem dL_law_1455 : decode cL_law 1455 = .ok (.aload_n 1, 1) := sorry
theorem dL_law_1456 : decode cL_law 1456 = .ok (.aload_n 0, 1) := sorry
theorem dL_law_1457 : decode cL_law 1457 = .ok (.iload 5, 2) := sorry
theorem dL_law_1459 : decode cL_law 1459 = .ok (.iconst 1, 1) := sorry
theorem dL_law_1460 : decode cL_law 1460 = .ok (.iadd, 1) := sorry
theorem dL_law_1461 : decode cL_law 1461 = .ok (.iaload, 1) := sorry
theorem dL_law_1462 : decode cL_law 1462 = .ok (.aload_n 0, 1) := sorry
theorem dL_law_1463 : decode cL_law 1463 = .ok (.iload 5, 2) := sorry
theorem dL_law_1465 : decode cL_law 1465 = .ok (.iconst 2, 1) := sorry
theorem dL_law_1466 : decode cL_law 1466 = .ok (.iadd, 1) := sorry
theorem dL_law_1467 : decode cL_law 1467 = .ok (.iaload, 1) := sorry
theorem dL_law_1468 : decode cL_law 1468 = .ok (.ifCond .eq 7, 3) := sorry
theorem dL_law_1471 : decode cL_law 1471 = .ok (.iconst 1, 1) := sorry
theorem dL_law_1472 : decode cL_law 1472 = .ok (.goto 4, 3) := sorry
theorem dL_law_1475 : decode cL_law 1475 = .ok (.iconst 0, 1) := sorry
theorem dL_law_1476 : decode cL_law 1476 = .ok (.aload_n 0, 1) := sorry
theorem dL_law_1477 : decode cL_law 1477 = .ok (.iload 5, 2) := sorry
theorem dL_law_1479 : decode cL_law 1479 = .ok (.iconst 3, 1) := sorry
theorem dL_law_1480 : decode cL_law 1480 = .ok (.iadd, 1) := sorry
theorem dL_law_1481 : decode cL_law 1481 = .ok (.iaload, 1) := sorry
theorem dL_law_1482 : decode cL_law 1482 = .ok (.aload_n 3, 1) := sorry
theorem dL_law_1483 : decode cL_law 1483 = .ok (.invokestatic 223, 3) := sorry
theorem dL_law_1486 : decode cL_law 1486 = .ok (.istore 6, 2) := sorry
theorem dL_law_1488 : decode cL_law 1488 = .ok (.aload_n 2, 1) := sorry
theorem dL_law_1489 : decode cL_law 1489 = .ok (.aload_n 0, 1) := sorry
theorem dL_law_1490 : decode cL_law 1490 = .ok (.iload 5, 2) := sorry
theorem dL_law_1492 : decode cL_law 1492 = .ok (.iconst 1, 1) := sorry
theorem dL_law_1493 : decode cL_law 1493 = .ok (.iadd, 1) := sorry
theorem dL_law_1494 : decode cL_law 1494 = .ok (.iaload, 1) := sorry
theorem dL_law_1495 : decode cL_law 1495 = .ok (.aload_n 0, 1) := sorry
theorem dL_law_1496 : decode cL_law 1496 = .ok (.iload 5, 2) := sorry
theorem dL_law_1498 : decode cL_law 1498 = .ok (.iconst 2, 1) := sorry
theorem dL_law_1499 : decode cL_law 1499 = .ok (.iadd, 1) := sorry
theorem dL_law_1500 : decode cL_law 1500 = .ok (.iaload, 1) := sorry
theorem dL_law_1501 : decode cL_law 1501 = .ok (.ifCond .eq 7, 3) := sorry
theorem dL_law_1504 : decode cL_law 1504 = .ok (.iconst 1, 1) := sorry
theorem dL_law_1505 : decode cL_law 1505 = .ok (.goto 4, 3) := sorry
theorem dL_law_1508 : decode cL_law 1508 = .ok (.iconst 0, 1) := sorry
theorem dL_law_1509 : decode cL_law 1509 = .ok (.aload_n 0, 1) := sorry
theorem dL_law_1510 : decode cL_law 1510 = .ok (.iload 5, 2) := sorry
theorem dL_law_1512 : decode cL_law 1512 = .ok (.iconst 3, 1) := sorry
theorem dL_law_1513 : decode cL_law 1513 = .ok (.iadd, 1) := sorry
theorem dL_law_1514 : decode cL_law 1514 = .ok (.iaload, 1) := sorry
theorem dL_law_1515 : decode cL_law 1515 = .ok (.invokevirtual 225, 3) := sorry
theorem dL_law_1518 : decode cL_law 1518 = .ok (.istore 7, 2) := sorry
theorem dL_law_1520 : decode cL_law 1520 = .ok (.aload_n 2, 1) := sorry
theorem dL_law_1521 : decode cL_law 1521 = .ok (.invokevirtual 160, 3) := sorry
theorem dL_law_1524 : decode cL_law 1524 = .ok (.iload 6, 2) := sorry
theorem dL_law_1526 : decode cL_law 1526 = .ok (.if_icmp .eq 5, 3) := sorry
theorem dL_law_1529 : decode cL_law 1529 = .ok (.iconst 0, 1) := sorry
theorem dL_law_1530 : decode cL_law 1530 = .ok (.ireturn, 1) := sorry
theorem dL_law_1531 : decode cL_law 1531 = .ok (.iload 6, 2) := sorry
theorem dL_law_1533 : decode cL_law 1533 = .ok (.ifCond .ne 15, 3) := sorry
theorem dL_law_1536 : decode cL_law 1536 = .ok (.aload_n 3, 1) := sorry
theorem dL_law_1537 : decode cL_law 1537 = .ok (.iconst 0, 1) := sorry
theorem dL_law_1538 : decode cL_law 1538 = .ok (.laload, 1) := sorry
theorem dL_law_1539 : decode cL_law 1539 = .ok (.iload 7, 2) := sorry
theorem dL_law_1541 : decode cL_law 1541 = .ok (.i2l, 1) := sorry
theorem dL_law_1542 : decode cL_law 1542 = .ok (.lcmp, 1) := sorry
theorem dL_law_1543 : decode cL_law 1543 = .ok (.ifCond .eq 5, 3) := sorry
theorem dL_law_1546 : decode cL_law 1546 = .ok (.iconst 0, 1) := sorry
theorem dL_law_1547 : decode cL_law 1547 = .ok (.ireturn, 1) := sorry
theorem dL_law_1548 : decode cL_law 1548 = .ok (.goto 1824, 3) := sorry
theorem dL_law_1551 : decode cL_law 1551 = .ok (.aload_n 1, 1) := sorry
theorem dL_law_1552 : decode cL_law 1552 = .ok (.aload_n 0, 1) := sorry
theorem dL_law_1553 : decode cL_law 1553 = .ok (.iload 5, 2) := sorry
theorem dL_law_1555 : decode cL_law 1555 = .ok (.iconst 1, 1) := sorry
theorem dL_law_1556 : decode cL_law 1556 = .ok (.iadd, 1) := sorry
theorem dL_law_1557 : decode cL_law 1557 = .ok (.iaload, 1) := sorry
theorem dL_law_1558 : decode cL_law 1558 = .ok (.aload_n 0, 1) := sorry
theorem dL_law_1559 : decode cL_law 1559 = .ok (.iload 5, 2) := sorry
theorem dL_law_1561 : decode cL_law 1561 = .ok (.iconst 2, 1) := sorry
theorem dL_law_1562 : decode cL_law 1562 = .ok (.iadd, 1) := sorry
theorem dL_law_1563 : decode cL_law 1563 = .ok (.iaload, 1) := sorry
theorem dL_law_1564 : decode cL_law 1564 = .ok (.ifCond .eq 7, 3) := sorry
theorem dL_law_1567 : decode cL_law 1567 = .ok (.iconst 1, 1) := sorry
theorem dL_law_1568 : decode cL_law 1568 = .ok (.goto 4, 3) := sorry
theorem dL_law_1571 : decode cL_law 1571 = .ok (.iconst 0, 1) := sorry
theorem dL_law_1572 : decode cL_law 1572 = .ok (.aload_n 0, 1) := sorry
theorem dL_law_1573 : decode cL_law 1573 = .ok (.iload 5, 2) := sorry
theorem dL_law_1575 : decode cL_law 1575 = .ok (.iconst 3, 1) := sorry
theorem dL_law_1576 : decode cL_law 1576 = .ok (.iadd, 1) := sorry
theorem dL_law_1577 : decode cL_law 1577 = .ok (.iaload, 1) := sorry
theorem dL_law_1578 : decode cL_law 1578 = .ok (.aload_n 3, 1) := sorry
theorem dL_law_1579 : decode cL_law 1579 = .ok (.invokestatic 226, 3) := sorry
theorem dL_law_1582 : decode cL_law 1582 = .ok (.istore 6, 2) := sorry
theorem dL_law_1584 : decode cL_law 1584 = .ok (.aload_n 2, 1) := sorry
theorem dL_law_1585 : decode cL_law 1585 = .ok (.aload_n 0, 1) := sorry
theorem dL_law_1586 : decode cL_law 1586 = .ok (.iload 5, 2) := sorry
theorem dL_law_1588 : decode cL_law 1588 = .ok (.iconst 1, 1) := sorry
theorem dL_law_1589 : decode cL_law 1589 = .ok (.iadd, 1) := sorry
theorem dL_law_1590 : decode cL_law 1590 = .ok (.iaload, 1) := sorry
theorem dL_law_1591 : decode cL_law 1591 = .ok (.aload_n 0, 1) := sorry
theorem dL_law_1592 : decode cL_law 1592 = .ok (.iload 5, 2) := sorry
theorem dL_law_1594 : decode cL_law 1594 = .ok (.iconst 2, 1) := sorry
theorem dL_law_1595 : decode cL_law 1595 = .ok (.iadd, 1) := sorry
theorem dL_law_1596 : decode cL_law 1596 = .ok (.iaload, 1) := sorry
theorem dL_law_1597 : decode cL_law 1597 = .ok (.ifCond .eq 7, 3) := sorry
theorem dL_law_1600 : decode cL_law 1600 = .ok (.iconst 1, 1) := sorry
theorem dL_law_1601 : decode cL_law 1601 = .ok (.goto 4, 3) := sorry
theorem dL_law_1604 : decode cL_law 1604 = .ok (.iconst 0, 1) := sorry
theorem dL_law_1605 : decode cL_law 1605 = .ok (.aload_n 0, 1) := sorry
theorem dL_law_1606 : decode cL_law 1606 = .ok (.iload 5, 2) := sorry
theorem dL_law_1608 : decode cL_law 1608 = .ok (.iconst 3, 1) := sorry
theorem dL_law_1609 : decode cL_law 1609 = .ok (.iadd, 1) := sorry
theorem dL_law_1610 : decode cL_law 1610 = .ok (.iaload, 1) := sorry
theorem dL_law_1611 : decode cL_law 1611 = .ok (.invokevirtual 228, 3) := sorry
theorem dL_law_1614 : decode cL_law 1614 = .ok (.istore 7, 2) := sorry
theorem dL_law_1616 : decode cL_law 1616 = .ok (.aload_n 2, 1) := sorry
theorem dL_law_1617 : decode cL_law 1617 = .ok (.invokevirtual 160, 3) := sorry
theorem dL_law_1620 : decode cL_law 1620 = .ok (.iload 6, 2) := sorry
theorem dL_law_1622 : decode cL_law 1622 = .ok (.if_icmp .eq 5, 3) := sorry
theorem dL_law_1625 : decode cL_law 1625 = .ok (.iconst 0, 1) := sorry
theorem dL_law_1626 : decode cL_law 1626 = .ok (.ireturn, 1) := sorry
theorem dL_law_1627 : decode cL_law 1627 = .ok (.iload 6, 2) := sorry
theorem dL_law_1629 : decode cL_law 1629 = .ok (.ifCond .ne 15, 3) := sorry
theorem dL_law_1632 : decode cL_law 1632 = .ok (.aload_n 3, 1) := sorry
theorem dL_law_1633 : decode cL_law 1633 = .ok (.iconst 0, 1) := sorry
theorem dL_law_1634 : decode cL_law 1634 = .ok (.laload, 1) := sorry
theorem dL_law_1635 : decode cL_law 1635 = .ok (.iload 7, 2) := sorry
theorem dL_law_1637 : decode cL_law 1637 = .ok (.i2l, 1) := sorry
theorem dL_law_1638 : decode cL_law 1638 = .ok (.lcmp, 1) := sorry
theorem dL_law_1639 : decode cL_law 1639 = .ok (.ifCond .eq 5, 3) := sorry
theorem dL_law_1642 : decode cL_law 1642 = .ok (.iconst 0, 1) := sorry
theorem dL_law_1643 : decode cL_law 1643 = .ok (.ireturn, 1) := sorry
theorem dL_law_1644 : decode cL_law 1644 = .ok (.goto 1728, 3) := sorry
theorem dL_law_1647 : decode cL_law 1647 = .ok (.aload_n 1, 1) := sorry
theorem dL_law_1648 : decode cL_law 1648 = .ok (.aload_n 0, 1) := sorry
theorem dL_law_1649 : decode cL_law 1649 = .ok (.iload 5, 2) := sorry
theorem dL_law_1651 : decode cL_law 1651 = .ok (.iconst 1, 1) := sorry
theorem dL_law_1652 : decode cL_law 1652 = .ok (.iadd, 1) := sorry
theorem dL_law_1653 : decode cL_law 1653 = .ok (.iaload, 1) := sorry
theorem dL_law_1654 : decode cL_law 1654 = .ok (.aload_n 0, 1) := sorry
theorem dL_law_1655 : decode cL_law 1655 = .ok (.iload 5, 2) := sorry
theorem dL_law_1657 : decode cL_law 1657 = .ok (.iconst 2, 1) := sorry
theorem dL_law_1658 : decode cL_law 1658 = .ok (.iadd, 1) := sorry
theorem dL_law_1659 : decode cL_law 1659 = .ok (.iaload, 1) := sorry
theorem dL_law_1660 : decode cL_law 1660 = .ok (.ifCond .eq 7, 3) := sorry
theorem dL_law_1663 : decode cL_law 1663 = .ok (.iconst 1, 1) := sorry
theorem dL_law_1664 : decode cL_law 1664 = .ok (.goto 4, 3) := sorry
theorem dL_law_1667 : decode cL_law 1667 = .ok (.iconst 0, 1) := sorry
theorem dL_law_1668 : decode cL_law 1668 = .ok (.aload_n 0, 1) := sorry
theorem dL_law_1669 : decode cL_law 1669 = .ok (.iload 5, 2) := sorry
theorem dL_law_1671 : decode cL_law 1671 = .ok (.iconst 3, 1) := sorry
theorem dL_law_1672 : decode cL_law 1672 = .ok (.iadd, 1) := sorry
theorem dL_law_1673 : decode cL_law 1673 = .ok (.iaload, 1) := sorry
theorem dL_law_1674 : decode cL_law 1674 = .ok (.aload_n 3, 1) := sorry
theorem dL_law_1675 : decode cL_law 1675 = .ok (.invokestatic 229, 3) := sorry
theorem dL_law_1678 : decode cL_law 1678 = .ok (.istore 6, 2) := sorry
theorem dL_law_1680 : decode cL_law 1680 = .ok (.aload_n 2, 1) := sorry
theorem dL_law_1681 : decode cL_law 1681 = .ok (.aload_n 0, 1) := sorry
theorem dL_law_1682 : decode cL_law 1682 = .ok (.iload 5, 2) := sorry
theorem dL_law_1684 : decode cL_law 1684 = .ok (.iconst 1, 1) := sorry
theorem dL_law_1685 : decode cL_law 1685 = .ok (.iadd, 1) := sorry
theorem dL_law_1686 : decode cL_law 1686 = .ok (.iaload, 1) := sorry
theorem dL_law_1687 : decode cL_law 1687 = .ok (.aload_n 0, 1) := sorry
theorem dL_law_1688 : decode cL_law 1688 = .ok (.iload 5, 2) := sorry
theorem dL_law_1690 : decode cL_law 1690 = .ok (.iconst 2, 1) := sorry
theorem dL_law_1691 : decode cL_law 1691 = .ok (.iadd, 1) := sorry
theorem dL_law_1692 : decode cL_law 1692 = .ok (.iaload, 1) := sorry
theorem dL_law_1693 : decode cL_law 1693 = .ok (.ifCond .eq 7, 3) := sorry
theorem dL_law_1696 : decode cL_law 1696 = .ok (.iconst 1, 1) := sorry
theorem dL_law_1697 : decode cL_law 1697 = .ok (.goto 4, 3) := sorry
theorem dL_law_1700 : decode cL_law 1700 = .ok (.iconst 0, 1) := sorry
theorem dL_law_1701 : decode cL_law 1701 = .ok (.aload_n 0, 1) := sorry
theorem dL_law_1702 : decode cL_law 1702 = .ok (.iload 5, 2) := sorry
theorem dL_law_1704 : decode cL_law 1704 = .ok (.iconst 3, 1) := sorry
theorem dL_law_1705 : decode cL_law 1705 = .ok (.iadd, 1) := sorry
theorem dL_law_1706 : decode cL_law 1706 = .ok (.iaload, 1) := sorry
theorem dL_law_1707 : decode cL_law 1707 = .ok (.invokevirtual 231, 3) := sorry
theorem dL_law_1710 : decode cL_law 1710 = .ok (.istore 7, 2) := sorry
theorem dL_law_1712 : decode cL_law 1712 = .ok (.aload_n 2, 1) := sorry
theorem dL_law_1713 : decode cL_law 1713 = .ok (.invokevirtual 160, 3) := sorry
theorem dL_law_1716 : decode cL_law 1716 = .ok (.iload 6, 2) := sorry
theorem dL_law_1718 : decode cL_law 1718 = .ok (.if_icmp .eq 5, 3) := sorry
theorem dL_law_1721 : decode cL_law 1721 = .ok (.iconst 0, 1) := sorry
theorem dL_law_1722 : decode cL_law 1722 = .ok (.ireturn, 1) := sorry
theorem dL_law_1723 : decode cL_law 1723 = .ok (.iload 6, 2) := sorry
theorem dL_law_1725 : decode cL_law 1725 = .ok (.ifCond .ne 15, 3) := sorry
theorem dL_law_1728 : decode cL_law 1728 = .ok (.aload_n 3, 1) := sorry
theorem dL_law_1729 : decode cL_law 1729 = .ok (.iconst 0, 1) := sorry
theorem dL_law_1730 : decode cL_law 1730 = .ok (.laload, 1) := sorry
theorem dL_law_1731 : decode cL_law 1731 = .ok (.iload 7, 2) := sorry
theorem dL_law_1733 : decode cL_law 1733 = .ok (.i2l, 1) := sorry
theorem dL_law_1734 : decode cL_law 1734 = .ok (.lcmp, 1) := sorry
theorem dL_law_1735 : decode cL_law 1735 = .ok (.ifCond .eq 5, 3) := sorry
theorem dL_law_1738 : decode cL_law 1738 = .ok (.iconst 0, 1) := sorry
theorem dL_law_1739 : decode cL_law 1739 = .ok (.ireturn, 1) := sorry
theorem dL_law_1740 : decode cL_law 1740 = .ok (.goto 1632, 3) := sorry
theorem dL_law_1743 : decode cL_law 1743 = .ok (.aload_n 1, 1) := sorry
theorem dL_law_1744 : decode cL_law 1744 = .ok (.aload_n 0, 1) := sorry
theorem dL_law_1745 : decode cL_law 1745 = .ok (.iload 5, 2) := sorry
theorem dL_law_1747 : decode cL_law 1747 = .ok (.iconst 1, 1) := sorry
theorem dL_law_1748 : decode cL_law 1748 = .ok (.iadd, 1) := sorry
theorem dL_law_1749 : decode cL_law 1749 = .ok (.iaload, 1) := sorry
theorem dL_law_1750 : decode cL_law 1750 = .ok (.aload_n 0, 1) := sorry
theorem dL_law_1751 : decode cL_law 1751 = .ok (.iload 5, 2) := sorry
theorem dL_law_1753 : decode cL_law 1753 = .ok (.iconst 2, 1) := sorry
theorem dL_law_1754 : decode cL_law 1754 = .ok (.iadd, 1) := sorry
theorem dL_law_1755 : decode cL_law 1755 = .ok (.iaload, 1) := sorry
theorem dL_law_1756 : decode cL_law 1756 = .ok (.ifCond .eq 7, 3) := sorry
theorem dL_law_1759 : decode cL_law 1759 = .ok (.iconst 1, 1) := sorry
theorem dL_law_1760 : decode cL_law 1760 = .ok (.goto 4, 3) := sorry
theorem dL_law_1763 : decode cL_law 1763 = .ok (.iconst 0, 1) := sorry
theorem dL_law_1764 : decode cL_law 1764 = .ok (.aload_n 0, 1) := sorry
theorem dL_law_1765 : decode cL_law 1765 = .ok (.iload 5, 2) := sorry
theorem dL_law_1767 : decode cL_law 1767 = .ok (.iconst 3, 1) := sorry
theorem dL_law_1768 : decode cL_law 1768 = .ok (.iadd, 1) := sorry
theorem dL_law_1769 : decode cL_law 1769 = .ok (.iaload, 1) := sorry
theorem dL_law_1770 : decode cL_law 1770 = .ok (.aload_n 3, 1) := sorry
theorem dL_law_1771 : decode cL_law 1771 = .ok (.invokestatic 232, 3) := sorry
theorem dL_law_1774 : decode cL_law 1774 = .ok (.istore 6, 2) := sorry
theorem dL_law_1776 : decode cL_law 1776 = .ok (.aload_n 2, 1) := sorry
theorem dL_law_1777 : decode cL_law 1777 = .ok (.aload_n 0, 1) := sorry
theorem dL_law_1778 : decode cL_law 1778 = .ok (.iload 5, 2) := sorry
theorem dL_law_1780 : decode cL_law 1780 = .ok (.iconst 1, 1) := sorry
theorem dL_law_1781 : decode cL_law 1781 = .ok (.iadd, 1) := sorry
theorem dL_law_1782 : decode cL_law 1782 = .ok (.iaload, 1) := sorry
theorem dL_law_1783 : decode cL_law 1783 = .ok (.aload_n 0, 1) := sorry
theorem dL_law_1784 : decode cL_law 1784 = .ok (.iload 5, 2) := sorry
theorem dL_law_1786 : decode cL_law 1786 = .ok (.iconst 2, 1) := sorry
theorem dL_law_1787 : decode cL_law 1787 = .ok (.iadd, 1) := sorry
theorem dL_law_1788 : decode cL_law 1788 = .ok (.iaload, 1) := sorry
theorem dL_law_1789 : decode cL_law 1789 = .ok (.ifCond .eq 7, 3) := sorry
theorem dL_law_1792 : decode cL_law 1792 = .ok (.iconst 1, 1) := sorry
theorem dL_law_1793 : decode cL_law 1793 = .ok (.goto 4, 3) := sorry
theorem dL_law_1796 : decode cL_law 1796 = .ok (.iconst 0, 1) := sorry
theorem dL_law_1797 : decode cL_law 1797 = .ok (.aload_n 0, 1) := sorry
theorem dL_law_1798 : decode cL_law 1798 = .ok (.iload 5, 2) := sorry
theorem dL_law_1800 : decode cL_law 1800 = .ok (.iconst 3, 1) := sorry
theorem dL_law_1801 : decode cL_law 1801 = .ok (.iadd, 1) := sorry
theorem dL_law_1802 : decode cL_law 1802 = .ok (.iaload, 1) := sorry
theorem dL_law_1803 : decode cL_law 1803 = .ok (.invokevirtual 234, 3) := sorry
theorem dL_law_1806 : decode cL_law 1806 = .ok (.istore 7, 2) := sorry
theorem dL_law_1808 : decode cL_law 1808 = .ok (.aload_n 2, 1) := sorry
theorem dL_law_1809 : decode cL_law 1809 = .ok (.invokevirtual 160, 3) := sorry
theorem dL_law_1812 : decode cL_law 1812 = .ok (.iload 6, 2) := sorry
theorem dL_law_1814 : decode cL_law 1814 = .ok (.if_icmp .eq 5, 3) := sorry
theorem dL_law_1817 : decode cL_law 1817 = .ok (.iconst 0, 1) := sorry
theorem dL_law_1818 : decode cL_law 1818 = .ok (.ireturn, 1) := sorry
theorem dL_law_1819 : decode cL_law 1819 = .ok (.iload 6, 2) := sorry
theorem dL_law_1821 : decode cL_law 1821 = .ok (.ifCond .ne 15, 3) := sorry
theorem dL_law_1824 : decode cL_law 1824 = .ok (.aload_n 3, 1) := sorry
theorem dL_law_1825 : decode cL_law 1825 = .ok (.iconst 0, 1) := sorry
theorem dL_law_1826 : decode cL_law 1826 = .ok (.laload, 1) := sorry
theorem dL_law_1827 : decode cL_law 1827 = .ok (.iload 7, 2) := sorry
theorem dL_law_1829 : decode cL_law 1829 = .ok (.i2l, 1) := sorry
theorem dL_law_1830 : decode cL_law 1830 = .ok (.lcmp, 1) := sorry
theorem dL_law_1831 : decode cL_law 1831 = .ok (.ifCond .eq 5, 3) := sorry
theorem dL_law_1834 : decode cL_law 1834 = .ok (.iconst 0, 1) := sorry
theorem dL_law_1835 : decode cL_law 1835 = .ok (.ireturn, 1) := sorry
theorem dL_law_1836 : decode cL_law 1836 = .ok (.goto 1536, 3) := sorry
theorem dL_law_1839 : decode cL_law 1839 = .ok (.aload_n 1, 1) := sorry
theorem dL_law_1840 : decode cL_law 1840 = .ok (.invokevirtual 235, 3) := sorry
theorem dL_law_1843 : decode cL_law 1843 = .ok (.aload_n 2, 1) := sorry
theorem dL_law_1844 : decode cL_law 1844 = .ok (.invokevirtual 238, 3) := sorry
theorem dL_law_1847 : decode cL_law 1847 = .ok (.if_icmp .eq 1525, 3) := sorry
theorem dL_law_1850 : decode cL_law 1850 = .ok (.iconst 0, 1) := sorry
theorem dL_law_1851 : decode cL_law 1851 = .ok (.ireturn, 1) := sorry
theorem dL_law_1852 : decode cL_law 1852 = .ok (.aload_n 1, 1) := sorry
theorem dL_law_1853 : decode cL_law 1853 = .ok (.aload_n 0, 1) := sorry
theorem dL_law_1854 : decode cL_law 1854 = .ok (.iload 5, 2) := sorry
theorem dL_law_1856 : decode cL_law 1856 = .ok (.iconst 1, 1) := sorry
theorem dL_law_1857 : decode cL_law 1857 = .ok (.iadd, 1) := sorry
theorem dL_law_1858 : decode cL_law 1858 = .ok (.iaload, 1) := sorry
theorem dL_law_1859 : decode cL_law 1859 = .ok (.aload_n 3, 1) := sorry
theorem dL_law_1860 : decode cL_law 1860 = .ok (.invokestatic 239, 3) := sorry
theorem dL_law_1863 : decode cL_law 1863 = .ok (.istore 6, 2) := sorry
theorem dL_law_1865 : decode cL_law 1865 = .ok (.aload_n 2, 1) := sorry
theorem dL_law_1866 : decode cL_law 1866 = .ok (.aload_n 0, 1) := sorry
theorem dL_law_1867 : decode cL_law 1867 = .ok (.iload 5, 2) := sorry
theorem dL_law_1869 : decode cL_law 1869 = .ok (.iconst 1, 1) := sorry
theorem dL_law_1870 : decode cL_law 1870 = .ok (.iadd, 1) := sorry
theorem dL_law_1871 : decode cL_law 1871 = .ok (.iaload, 1) := sorry
theorem dL_law_1872 : decode cL_law 1872 = .ok (.invokevirtual 241, 3) := sorry
theorem dL_law_1875 : decode cL_law 1875 = .ok (.istore 7, 2) := sorry
theorem dL_law_1877 : decode cL_law 1877 = .ok (.aload_n 2, 1) := sorry
theorem dL_law_1878 : decode cL_law 1878 = .ok (.invokevirtual 160, 3) := sorry
theorem dL_law_1881 : decode cL_law 1881 = .ok (.iload 6, 2) := sorry
theorem dL_law_1883 : decode cL_law 1883 = .ok (.if_icmp .eq 5, 3) := sorry
theorem dL_law_1886 : decode cL_law 1886 = .ok (.iconst 0, 1) := sorry
theorem dL_law_1887 : decode cL_law 1887 = .ok (.ireturn, 1) := sorry
theorem dL_law_1888 : decode cL_law 1888 = .ok (.iload 6, 2) := sorry
theorem dL_law_1890 : decode cL_law 1890 = .ok (.ifCond .ne 15, 3) := sorry
theorem dL_law_1893 : decode cL_law 1893 = .ok (.aload_n 3, 1) := sorry
theorem dL_law_1894 : decode cL_law 1894 = .ok (.iconst 0, 1) := sorry
theorem dL_law_1895 : decode cL_law 1895 = .ok (.laload, 1) := sorry
theorem dL_law_1896 : decode cL_law 1896 = .ok (.iload 7, 2) := sorry
theorem dL_law_1898 : decode cL_law 1898 = .ok (.i2l, 1) := sorry
theorem dL_law_1899 : decode cL_law 1899 = .ok (.lcmp, 1) := sorry
theorem dL_law_1900 : decode cL_law 1900 = .ok (.ifCond .eq 5, 3) := sorry
theorem dL_law_1903 : decode cL_law 1903 = .ok (.iconst 0, 1) := sorry
theorem dL_law_1904 : decode cL_law 1904 = .ok (.ireturn, 1) := sorry
theorem dL_law_1905 : decode cL_law 1905 = .ok (.goto 1467, 3) := sorry
theorem dL_law_1908 : decode cL_law 1908 = .ok (.aload_n 1, 1) := sorry
theorem dL_law_1909 : decode cL_law 1909 = .ok (.invokevirtual 242, 3) := sorry
theorem dL_law_1912 : decode cL_law 1912 = .ok (.aload_n 2, 1) := sorry
theorem dL_law_1913 : decode cL_law 1913 = .ok (.invokevirtual 245, 3) := sorry
theorem dL_law_1916 : decode cL_law 1916 = .ok (.if_icmp .eq 1456, 3) := sorry
theorem dL_law_1919 : decode cL_law 1919 = .ok (.iconst 0, 1) := sorry
theorem dL_law_1920 : decode cL_law 1920 = .ok (.ireturn, 1) := sorry
theorem dL_law_1921 : decode cL_law 1921 = .ok (.aload_n 1, 1) := sorry
theorem dL_law_1922 : decode cL_law 1922 = .ok (.invokevirtual 246, 3) := sorry
theorem dL_law_1925 : decode cL_law 1925 = .ok (.aload_n 2, 1) := sorry
theorem dL_law_1926 : decode cL_law 1926 = .ok (.invokevirtual 249, 3) := sorry
theorem dL_law_1929 : decode cL_law 1929 = .ok (.if_icmp .eq 1443, 3) := sorry
theorem dL_law_1932 : decode cL_law 1932 = .ok (.iconst 0, 1) := sorry
theorem dL_law_1933 : decode cL_law 1933 = .ok (.ireturn, 1) := sorry
theorem dL_law_1934 : decode cL_law 1934 = .ok (.aload_n 1, 1) := sorry
theorem dL_law_1935 : decode cL_law 1935 = .ok (.aload_n 0, 1) := sorry
theorem dL_law_1936 : decode cL_law 1936 = .ok (.iload 5, 2) := sorry
theorem dL_law_1938 : decode cL_law 1938 = .ok (.iconst 1, 1) := sorry
theorem dL_law_1939 : decode cL_law 1939 = .ok (.iadd, 1) := sorry
theorem dL_law_1940 : decode cL_law 1940 = .ok (.iaload, 1) := sorry
theorem dL_law_1941 : decode cL_law 1941 = .ok (.aload_n 0, 1) := sorry
theorem dL_law_1942 : decode cL_law 1942 = .ok (.iload 5, 2) := sorry
theorem dL_law_1944 : decode cL_law 1944 = .ok (.iconst 2, 1) := sorry
theorem dL_law_1945 : decode cL_law 1945 = .ok (.iadd, 1) := sorry
theorem dL_law_1946 : decode cL_law 1946 = .ok (.iaload, 1) := sorry
theorem dL_law_1947 : decode cL_law 1947 = .ok (.aload_n 3, 1) := sorry
theorem dL_law_1948 : decode cL_law 1948 = .ok (.invokestatic 250, 3) := sorry
theorem dL_law_1951 : decode cL_law 1951 = .ok (.istore 6, 2) := sorry
theorem dL_law_1953 : decode cL_law 1953 = .ok (.aload_n 2, 1) := sorry
theorem dL_law_1954 : decode cL_law 1954 = .ok (.aload_n 0, 1) := sorry
theorem dL_law_1955 : decode cL_law 1955 = .ok (.iload 5, 2) := sorry
theorem dL_law_1957 : decode cL_law 1957 = .ok (.iconst 1, 1) := sorry
theorem dL_law_1958 : decode cL_law 1958 = .ok (.iadd, 1) := sorry
theorem dL_law_1959 : decode cL_law 1959 = .ok (.iaload, 1) := sorry
theorem dL_law_1960 : decode cL_law 1960 = .ok (.aload_n 0, 1) := sorry
theorem dL_law_1961 : decode cL_law 1961 = .ok (.iload 5, 2) := sorry
theorem dL_law_1963 : decode cL_law 1963 = .ok (.iconst 2, 1) := sorry
theorem dL_law_1964 : decode cL_law 1964 = .ok (.iadd, 1) := sorry
theorem dL_law_1965 : decode cL_law 1965 = .ok (.iaload, 1) := sorry
theorem dL_law_1966 : decode cL_law 1966 = .ok (.invokevirtual 252, 3) := sorry
theorem dL_law_1969 : decode cL_law 1969 = .ok (.istore 7, 2) := sorry
theorem dL_law_1971 : decode cL_law 1971 = .ok (.aload_n 2, 1) := sorry
theorem dL_law_1972 : decode cL_law 1972 = .ok (.invokevirtual 160, 3) := sorry
theorem dL_law_1975 : decode cL_law 1975 = .ok (.iload 6, 2) := sorry
theorem dL_law_1977 : decode cL_law 1977 = .ok (.if_icmp .eq 5, 3) := sorry
theorem dL_law_1980 : decode cL_law 1980 = .ok (.iconst 0, 1) := sorry
theorem dL_law_1981 : decode cL_law 1981 = .ok (.ireturn, 1) := sorry
theorem dL_law_1982 : decode cL_law 1982 = .ok (.iload 6, 2) := sorry
theorem dL_law_1984 : decode cL_law 1984 = .ok (.ifCond .ne 15, 3) := sorry
theorem dL_law_1987 : decode cL_law 1987 = .ok (.aload_n 3, 1) := sorry
theorem dL_law_1988 : decode cL_law 1988 = .ok (.iconst 0, 1) := sorry
theorem dL_law_1989 : decode cL_law 1989 = .ok (.laload, 1) := sorry
theorem dL_law_1990 : decode cL_law 1990 = .ok (.iload 7, 2) := sorry
theorem dL_law_1992 : decode cL_law 1992 = .ok (.i2l, 1) := sorry
theorem dL_law_1993 : decode cL_law 1993 = .ok (.lcmp, 1) := sorry
theorem dL_law_1994 : decode cL_law 1994 = .ok (.ifCond .eq 5, 3) := sorry
theorem dL_law_1997 : decode cL_law 1997 = .ok (.iconst 0, 1) := sorry
theorem dL_law_1998 : decode cL_law 1998 = .ok (.ireturn, 1) := sorry
theorem dL_law_1999 : decode cL_law 1999 = .ok (.goto 1373, 3) := sorry
theorem dL_law_2002 : decode cL_law 2002 = .ok (.aload_n 1, 1) := sorry
theorem dL_law_2003 : decode cL_law 2003 = .ok (.aload_n 0, 1) := sorry
theorem dL_law_2004 : decode cL_law 2004 = .ok (.iload 5, 2) := sorry
theorem dL_law_2006 : decode cL_law 2006 = .ok (.iconst 1, 1) := sorry
theorem dL_law_2007 : decode cL_law 2007 = .ok (.iadd, 1) := sorry
theorem dL_law_2008 : decode cL_law 2008 = .ok (.iaload, 1) := sorry
theorem dL_law_2009 : decode cL_law 2009 = .ok (.aload_n 0, 1) := sorry
theorem dL_law_2010 : decode cL_law 2010 = .ok (.iload 5, 2) := sorry
theorem dL_law_2012 : decode cL_law 2012 = .ok (.iconst 2, 1) := sorry
theorem dL_law_2013 : decode cL_law 2013 = .ok (.iadd, 1) := sorry
theorem dL_law_2014 : decode cL_law 2014 = .ok (.iaload, 1) := sorry
theorem dL_law_2015 : decode cL_law 2015 = .ok (.aload_n 3, 1) := sorry
theorem dL_law_2016 : decode cL_law 2016 = .ok (.invokestatic 253, 3) := sorry
theorem dL_law_2019 : decode cL_law 2019 = .ok (.istore 6, 2) := sorry
theorem dL_law_2021 : decode cL_law 2021 = .ok (.aload_n 2, 1) := sorry
theorem dL_law_2022 : decode cL_law 2022 = .ok (.aload_n 0, 1) := sorry
theorem dL_law_2023 : decode cL_law 2023 = .ok (.iload 5, 2) := sorry
theorem dL_law_2025 : decode cL_law 2025 = .ok (.iconst 1, 1) := sorry
theorem dL_law_2026 : decode cL_law 2026 = .ok (.iadd, 1) := sorry
theorem dL_law_2027 : decode cL_law 2027 = .ok (.iaload, 1) := sorry
theorem dL_law_2028 : decode cL_law 2028 = .ok (.aload_n 0, 1) := sorry
theorem dL_law_2029 : decode cL_law 2029 = .ok (.iload 5, 2) := sorry
theorem dL_law_2031 : decode cL_law 2031 = .ok (.iconst 2, 1) := sorry
theorem dL_law_2032 : decode cL_law 2032 = .ok (.iadd, 1) := sorry
theorem dL_law_2033 : decode cL_law 2033 = .ok (.iaload, 1) := sorry
theorem dL_law_2034 : decode cL_law 2034 = .ok (.invokevirtual 255, 3) := sorry
theorem dL_law_2037 : decode cL_law 2037 = .ok (.istore 7, 2) := sorry
theorem dL_law_2039 : decode cL_law 2039 = .ok (.aload_n 2, 1) := sorry
theorem dL_law_2040 : decode cL_law 2040 = .ok (.invokevirtual 160, 3) := sorry
theorem dL_law_2043 : decode cL_law 2043 = .ok (.iload 6, 2) := sorry
theorem dL_law_2045 : decode cL_law 2045 = .ok (.if_icmp .eq 5, 3) := sorry
theorem dL_law_2048 : decode cL_law 2048 = .ok (.iconst 0, 1) := sorry
theorem dL_law_2049 : decode cL_law 2049 = .ok (.ireturn, 1) := sorry
theorem dL_law_2050 : decode cL_law 2050 = .ok (.iload 6, 2) := sorry
theorem dL_law_2052 : decode cL_law 2052 = .ok (.ifCond .ne 15, 3) := sorry
theorem dL_law_2055 : decode cL_law 2055 = .ok (.aload_n 3, 1) := sorry
theorem dL_law_2056 : decode cL_law 2056 = .ok (.iconst 0, 1) := sorry
theorem dL_law_2057 : decode cL_law 2057 = .ok (.laload, 1) := sorry
theorem dL_law_2058 : decode cL_law 2058 = .ok (.iload 7, 2) := sorry
theorem dL_law_2060 : decode cL_law 2060 = .ok (.i2l, 1) := sorry
theorem dL_law_2061 : decode cL_law 2061 = .ok (.lcmp, 1) := sorry
theorem dL_law_2062 : decode cL_law 2062 = .ok (.ifCond .eq 5, 3) := sorry
theorem dL_law_2065 : decode cL_law 2065 = .ok (.iconst 0, 1) := sorry
theorem dL_law_2066 : decode cL_law 2066 = .ok (.ireturn, 1) := sorry
theorem dL_law_2067 : decode cL_law 2067 = .ok (.goto 1305, 3) := sorry
theorem dL_law_2070 : decode cL_law 2070 = .ok (.aload_n 1, 1) := sorry
theorem dL_law_2071 : decode cL_law 2071 = .ok (.aload_n 0, 1) := sorry
theorem dL_law_2072 : decode cL_law 2072 = .ok (.iload 5, 2) := sorry
theorem dL_law_2074 : decode cL_law 2074 = .ok (.iconst 1, 1) := sorry
theorem dL_law_2075 : decode cL_law 2075 = .ok (.iadd, 1) := sorry
theorem dL_law_2076 : decode cL_law 2076 = .ok (.iaload, 1) := sorry
theorem dL_law_2077 : decode cL_law 2077 = .ok (.aload_n 3, 1) := sorry
theorem dL_law_2078 : decode cL_law 2078 = .ok (.invokestatic 256, 3) := sorry
theorem dL_law_2081 : decode cL_law 2081 = .ok (.istore 6, 2) := sorry
theorem dL_law_2083 : decode cL_law 2083 = .ok (.aload_n 2, 1) := sorry
theorem dL_law_2084 : decode cL_law 2084 = .ok (.aload_n 0, 1) := sorry
theorem dL_law_2085 : decode cL_law 2085 = .ok (.iload 5, 2) := sorry
theorem dL_law_2087 : decode cL_law 2087 = .ok (.iconst 1, 1) := sorry
theorem dL_law_2088 : decode cL_law 2088 = .ok (.iadd, 1) := sorry
theorem dL_law_2089 : decode cL_law 2089 = .ok (.iaload, 1) := sorry
theorem dL_law_2090 : decode cL_law 2090 = .ok (.invokevirtual 258, 3) := sorry
theorem dL_law_2093 : decode cL_law 2093 = .ok (.istore 7, 2) := sorry
theorem dL_law_2095 : decode cL_law 2095 = .ok (.aload_n 2, 1) := sorry
theorem dL_law_2096 : decode cL_law 2096 = .ok (.invokevirtual 160, 3) := sorry
theorem dL_law_2099 : decode cL_law 2099 = .ok (.iload 6, 2) := sorry
theorem dL_law_2101 : decode cL_law 2101 = .ok (.if_icmp .eq 5, 3) := sorry
theorem dL_law_2104 : decode cL_law 2104 = .ok (.iconst 0, 1) := sorry
theorem dL_law_2105 : decode cL_law 2105 = .ok (.ireturn, 1) := sorry
theorem dL_law_2106 : decode cL_law 2106 = .ok (.iload 6, 2) := sorry
theorem dL_law_2108 : decode cL_law 2108 = .ok (.ifCond .ne 15, 3) := sorry
theorem dL_law_2111 : decode cL_law 2111 = .ok (.aload_n 3, 1) := sorry
theorem dL_law_2112 : decode cL_law 2112 = .ok (.iconst 0, 1) := sorry
theorem dL_law_2113 : decode cL_law 2113 = .ok (.laload, 1) := sorry
theorem dL_law_2114 : decode cL_law 2114 = .ok (.iload 7, 2) := sorry
theorem dL_law_2116 : decode cL_law 2116 = .ok (.i2l, 1) := sorry
theorem dL_law_2117 : decode cL_law 2117 = .ok (.lcmp, 1) := sorry
theorem dL_law_2118 : decode cL_law 2118 = .ok (.ifCond .eq 5, 3) := sorry
theorem dL_law_2121 : decode cL_law 2121 = .ok (.iconst 0, 1) := sorry
theorem dL_law_2122 : decode cL_law 2122 = .ok (.ireturn, 1) := sorry
theorem dL_law_2123 : decode cL_law 2123 = .ok (.goto 1249, 3) := sorry
theorem dL_law_2126 : decode cL_law 2126 = .ok (.aload_n 1, 1) := sorry
theorem dL_law_2127 : decode cL_law 2127 = .ok (.invokevirtual 259, 3) := sorry
theorem dL_law_2130 : decode cL_law 2130 = .ok (.aload_n 2, 1) := sorry
theorem dL_law_2131 : decode cL_law 2131 = .ok (.invokevirtual 262, 3) := sorry
theorem dL_law_2134 : decode cL_law 2134 = .ok (.if_icmp .eq 1238, 3) := sorry
theorem dL_law_2137 : decode cL_law 2137 = .ok (.iconst 0, 1) := sorry
theorem dL_law_2138 : decode cL_law 2138 = .ok (.ireturn, 1) := sorry
theorem dL_law_2139 : decode cL_law 2139 = .ok (.aload_n 1, 1) := sorry
theorem dL_law_2140 : decode cL_law 2140 = .ok (.invokevirtual 263, 3) := sorry
theorem dL_law_2143 : decode cL_law 2143 = .ok (.dstore 6, 2) := sorry
theorem dL_law_2145 : decode cL_law 2145 = .ok (.aload_n 2, 1) := sorry
theorem dL_law_2146 : decode cL_law 2146 = .ok (.invokevirtual 267, 3) := sorry
theorem dL_law_2149 : decode cL_law 2149 = .ok (.dstore 8, 2) := sorry
theorem dL_law_2151 : decode cL_law 2151 = .ok (.dload 6, 2) := sorry
theorem dL_law_2153 : decode cL_law 2153 = .ok (.dload 8, 2) := sorry
theorem dL_law_2155 : decode cL_law 2155 = .ok (.dcmp .l, 1) := sorry
theorem dL_law_2156 : decode cL_law 2156 = .ok (.ifCond .eq 21, 3) := sorry
theorem dL_law_2159 : decode cL_law 2159 = .ok (.dload 6, 2) := sorry
theorem dL_law_2161 : decode cL_law 2161 = .ok (.dload 6, 2) := sorry
theorem dL_law_2163 : decode cL_law 2163 = .ok (.dcmp .l, 1) := sorry
theorem dL_law_2164 : decode cL_law 2164 = .ok (.ifCond .eq 11, 3) := sorry
theorem dL_law_2167 : decode cL_law 2167 = .ok (.dload 8, 2) := sorry
theorem dL_law_2169 : decode cL_law 2169 = .ok (.dload 8, 2) := sorry
theorem dL_law_2171 : decode cL_law 2171 = .ok (.dcmp .l, 1) := sorry
theorem dL_law_2172 : decode cL_law 2172 = .ok (.ifCond .ne 5, 3) := sorry
theorem dL_law_2175 : decode cL_law 2175 = .ok (.iconst 0, 1) := sorry
theorem dL_law_2176 : decode cL_law 2176 = .ok (.ireturn, 1) := sorry
theorem dL_law_2177 : decode cL_law 2177 = .ok (.goto 1195, 3) := sorry
theorem dL_law_2180 : decode cL_law 2180 = .ok (.aload_n 1, 1) := sorry
theorem dL_law_2181 : decode cL_law 2181 = .ok (.aload_n 0, 1) := sorry
theorem dL_law_2182 : decode cL_law 2182 = .ok (.iload 5, 2) := sorry
theorem dL_law_2184 : decode cL_law 2184 = .ok (.iconst 1, 1) := sorry
theorem dL_law_2185 : decode cL_law 2185 = .ok (.iadd, 1) := sorry
theorem dL_law_2186 : decode cL_law 2186 = .ok (.iaload, 1) := sorry
theorem dL_law_2187 : decode cL_law 2187 = .ok (.aload 4, 2) := sorry
theorem dL_law_2189 : decode cL_law 2189 = .ok (.invokestatic 268, 3) := sorry
theorem dL_law_2192 : decode cL_law 2192 = .ok (.istore 6, 2) := sorry
theorem dL_law_2194 : decode cL_law 2194 = .ok (.aload_n 2, 1) := sorry
theorem dL_law_2195 : decode cL_law 2195 = .ok (.aload_n 0, 1) := sorry
theorem dL_law_2196 : decode cL_law 2196 = .ok (.iload 5, 2) := sorry
theorem dL_law_2198 : decode cL_law 2198 = .ok (.iconst 1, 1) := sorry
theorem dL_law_2199 : decode cL_law 2199 = .ok (.iadd, 1) := sorry
theorem dL_law_2200 : decode cL_law 2200 = .ok (.iaload, 1) := sorry
theorem dL_law_2201 : decode cL_law 2201 = .ok (.invokevirtual 271, 3) := sorry
theorem dL_law_2204 : decode cL_law 2204 = .ok (.fstore 7, 2) := sorry
theorem dL_law_2206 : decode cL_law 2206 = .ok (.aload_n 2, 1) := sorry
theorem dL_law_2207 : decode cL_law 2207 = .ok (.invokevirtual 160, 3) := sorry
theorem dL_law_2210 : decode cL_law 2210 = .ok (.iload 6, 2) := sorry
theorem dL_law_2212 : decode cL_law 2212 = .ok (.if_icmp .eq 5, 3) := sorry
theorem dL_law_2215 : decode cL_law 2215 = .ok (.iconst 0, 1) := sorry
theorem dL_law_2216 : decode cL_law 2216 = .ok (.ireturn, 1) := sorry
theorem dL_law_2217 : decode cL_law 2217 = .ok (.iload 6, 2) := sorry
theorem dL_law_2219 : decode cL_law 2219 = .ok (.ifCond .ne 36, 3) := sorry
theorem dL_law_2222 : decode cL_law 2222 = .ok (.aload 4, 2) := sorry
theorem dL_law_2224 : decode cL_law 2224 = .ok (.iconst 0, 1) := sorry
theorem dL_law_2225 : decode cL_law 2225 = .ok (.daload, 1) := sorry
theorem dL_law_2226 : decode cL_law 2226 = .ok (.fload 7, 2) := sorry
theorem dL_law_2228 : decode cL_law 2228 = .ok (.f2d, 1) := sorry
theorem dL_law_2229 : decode cL_law 2229 = .ok (.dcmp .l, 1) := sorry
theorem dL_law_2230 : decode cL_law 2230 = .ok (.ifCond .eq 25, 3) := sorry
theorem dL_law_2233 : decode cL_law 2233 = .ok (.aload 4, 2) := sorry
theorem dL_law_2235 : decode cL_law 2235 = .ok (.iconst 0, 1) := sorry
theorem dL_law_2236 : decode cL_law 2236 = .ok (.daload, 1) := sorry
theorem dL_law_2237 : decode cL_law 2237 = .ok (.aload 4, 2) := sorry
theorem dL_law_2239 : decode cL_law 2239 = .ok (.iconst 0, 1) := sorry
theorem dL_law_2240 : decode cL_law 2240 = .ok (.daload, 1) := sorry
theorem dL_law_2241 : decode cL_law 2241 = .ok (.dcmp .l, 1) := sorry
theorem dL_law_2242 : decode cL_law 2242 = .ok (.ifCond .eq 11, 3) := sorry
theorem dL_law_2245 : decode cL_law 2245 = .ok (.fload 7, 2) := sorry
theorem dL_law_2247 : decode cL_law 2247 = .ok (.fload 7, 2) := sorry
theorem dL_law_2249 : decode cL_law 2249 = .ok (.fcmp .l, 1) := sorry
theorem dL_law_2250 : decode cL_law 2250 = .ok (.ifCond .ne 5, 3) := sorry
theorem dL_law_2253 : decode cL_law 2253 = .ok (.iconst 0, 1) := sorry
theorem dL_law_2254 : decode cL_law 2254 = .ok (.ireturn, 1) := sorry
theorem dL_law_2255 : decode cL_law 2255 = .ok (.goto 1117, 3) := sorry
theorem dL_law_2258 : decode cL_law 2258 = .ok (.aload_n 1, 1) := sorry
theorem dL_law_2259 : decode cL_law 2259 = .ok (.aload_n 0, 1) := sorry
theorem dL_law_2260 : decode cL_law 2260 = .ok (.iload 5, 2) := sorry
theorem dL_law_2262 : decode cL_law 2262 = .ok (.iconst 1, 1) := sorry
theorem dL_law_2263 : decode cL_law 2263 = .ok (.iadd, 1) := sorry
theorem dL_law_2264 : decode cL_law 2264 = .ok (.iaload, 1) := sorry
theorem dL_law_2265 : decode cL_law 2265 = .ok (.aload_n 0, 1) := sorry
theorem dL_law_2266 : decode cL_law 2266 = .ok (.iload 5, 2) := sorry
theorem dL_law_2268 : decode cL_law 2268 = .ok (.iconst 2, 1) := sorry
theorem dL_law_2269 : decode cL_law 2269 = .ok (.iadd, 1) := sorry
theorem dL_law_2270 : decode cL_law 2270 = .ok (.iaload, 1) := sorry
theorem dL_law_2271 : decode cL_law 2271 = .ok (.aload_n 0, 1) := sorry
theorem dL_law_2272 : decode cL_law 2272 = .ok (.iload 5, 2) := sorry
theorem dL_law_2274 : decode cL_law 2274 = .ok (.iconst 3, 1) := sorry
theorem dL_law_2275 : decode cL_law 2275 = .ok (.iadd, 1) := sorry
theorem dL_law_2276 : decode cL_law 2276 = .ok (.iaload, 1) := sorry
theorem dL_law_2277 : decode cL_law 2277 = .ok (.aload_n 3, 1) := sorry
theorem dL_law_2278 : decode cL_law 2278 = .ok (.invokestatic 272, 3) := sorry
theorem dL_law_2281 : decode cL_law 2281 = .ok (.istore 6, 2) := sorry
theorem dL_law_2283 : decode cL_law 2283 = .ok (.aload_n 2, 1) := sorry
theorem dL_law_2284 : decode cL_law 2284 = .ok (.aload_n 0, 1) := sorry
theorem dL_law_2285 : decode cL_law 2285 = .ok (.iload 5, 2) := sorry
theorem dL_law_2287 : decode cL_law 2287 = .ok (.iconst 1, 1) := sorry
theorem dL_law_2288 : decode cL_law 2288 = .ok (.iadd, 1) := sorry
theorem dL_law_2289 : decode cL_law 2289 = .ok (.iaload, 1) := sorry
theorem dL_law_2290 : decode cL_law 2290 = .ok (.aload_n 0, 1) := sorry
theorem dL_law_2291 : decode cL_law 2291 = .ok (.iload 5, 2) := sorry
theorem dL_law_2293 : decode cL_law 2293 = .ok (.iconst 2, 1) := sorry
theorem dL_law_2294 : decode cL_law 2294 = .ok (.iadd, 1) := sorry
theorem dL_law_2295 : decode cL_law 2295 = .ok (.iaload, 1) := sorry
theorem dL_law_2296 : decode cL_law 2296 = .ok (.aload_n 0, 1) := sorry
theorem dL_law_2297 : decode cL_law 2297 = .ok (.iload 5, 2) := sorry
theorem dL_law_2299 : decode cL_law 2299 = .ok (.iconst 3, 1) := sorry
theorem dL_law_2300 : decode cL_law 2300 = .ok (.iadd, 1) := sorry
theorem dL_law_2301 : decode cL_law 2301 = .ok (.iaload, 1) := sorry
theorem dL_law_2302 : decode cL_law 2302 = .ok (.invokevirtual 274, 3) := sorry
theorem dL_law_2305 : decode cL_law 2305 = .ok (.istore 7, 2) := sorry
theorem dL_law_2307 : decode cL_law 2307 = .ok (.aload_n 2, 1) := sorry
theorem dL_law_2308 : decode cL_law 2308 = .ok (.invokevirtual 160, 3) := sorry
theorem dL_law_2311 : decode cL_law 2311 = .ok (.iload 6, 2) := sorry
theorem dL_law_2313 : decode cL_law 2313 = .ok (.if_icmp .eq 5, 3) := sorry
theorem dL_law_2316 : decode cL_law 2316 = .ok (.iconst 0, 1) := sorry
theorem dL_law_2317 : decode cL_law 2317 = .ok (.ireturn, 1) := sorry
theorem dL_law_2318 : decode cL_law 2318 = .ok (.iload 6, 2) := sorry
theorem dL_law_2320 : decode cL_law 2320 = .ok (.ifCond .ne 15, 3) := sorry
theorem dL_law_2323 : decode cL_law 2323 = .ok (.aload_n 3, 1) := sorry
theorem dL_law_2324 : decode cL_law 2324 = .ok (.iconst 0, 1) := sorry
theorem dL_law_2325 : decode cL_law 2325 = .ok (.laload, 1) := sorry
theorem dL_law_2326 : decode cL_law 2326 = .ok (.iload 7, 2) := sorry
theorem dL_law_2328 : decode cL_law 2328 = .ok (.i2l, 1) := sorry
theorem dL_law_2329 : decode cL_law 2329 = .ok (.lcmp, 1) := sorry
theorem dL_law_2330 : decode cL_law 2330 = .ok (.ifCond .eq 5, 3) := sorry
theorem dL_law_2333 : decode cL_law 2333 = .ok (.iconst 0, 1) := sorry
theorem dL_law_2334 : decode cL_law 2334 = .ok (.ireturn, 1) := sorry
theorem dL_law_2335 : decode cL_law 2335 = .ok (.goto 1037, 3) := sorry
theorem dL_law_2338 : decode cL_law 2338 = .ok (.aload_n 1, 1) := sorry
theorem dL_law_2339 : decode cL_law 2339 = .ok (.aload_n 0, 1) := sorry
theorem dL_law_2340 : decode cL_law 2340 = .ok (.iload 5, 2) := sorry
theorem dL_law_2342 : decode cL_law 2342 = .ok (.iconst 1, 1) := sorry
theorem dL_law_2343 : decode cL_law 2343 = .ok (.iadd, 1) := sorry
theorem dL_law_2344 : decode cL_law 2344 = .ok (.iaload, 1) := sorry
theorem dL_law_2345 : decode cL_law 2345 = .ok (.aload_n 3, 1) := sorry
theorem dL_law_2346 : decode cL_law 2346 = .ok (.invokestatic 275, 3) := sorry
theorem dL_law_2349 : decode cL_law 2349 = .ok (.istore 6, 2) := sorry
theorem dL_law_2351 : decode cL_law 2351 = .ok (.aload_n 2, 1) := sorry
theorem dL_law_2352 : decode cL_law 2352 = .ok (.aload_n 0, 1) := sorry
theorem dL_law_2353 : decode cL_law 2353 = .ok (.iload 5, 2) := sorry
theorem dL_law_2355 : decode cL_law 2355 = .ok (.iconst 1, 1) := sorry
theorem dL_law_2356 : decode cL_law 2356 = .ok (.iadd, 1) := sorry
theorem dL_law_2357 : decode cL_law 2357 = .ok (.iaload, 1) := sorry
theorem dL_law_2358 : decode cL_law 2358 = .ok (.invokevirtual 277, 3) := sorry
theorem dL_law_2361 : decode cL_law 2361 = .ok (.istore 7, 2) := sorry
theorem dL_law_2363 : decode cL_law 2363 = .ok (.aload_n 2, 1) := sorry
theorem dL_law_2364 : decode cL_law 2364 = .ok (.invokevirtual 160, 3) := sorry
theorem dL_law_2367 : decode cL_law 2367 = .ok (.iload 6, 2) := sorry
theorem dL_law_2369 : decode cL_law 2369 = .ok (.if_icmp .eq 5, 3) := sorry
theorem dL_law_2372 : decode cL_law 2372 = .ok (.iconst 0, 1) := sorry
theorem dL_law_2373 : decode cL_law 2373 = .ok (.ireturn, 1) := sorry
theorem dL_law_2374 : decode cL_law 2374 = .ok (.iload 6, 2) := sorry
theorem dL_law_2376 : decode cL_law 2376 = .ok (.ifCond .ne 15, 3) := sorry
theorem dL_law_2379 : decode cL_law 2379 = .ok (.aload_n 3, 1) := sorry
theorem dL_law_2380 : decode cL_law 2380 = .ok (.iconst 0, 1) := sorry
theorem dL_law_2381 : decode cL_law 2381 = .ok (.laload, 1) := sorry
theorem dL_law_2382 : decode cL_law 2382 = .ok (.iload 7, 2) := sorry
theorem dL_law_2384 : decode cL_law 2384 = .ok (.i2l, 1) := sorry
theorem dL_law_2385 : decode cL_law 2385 = .ok (.lcmp, 1) := sorry
theorem dL_law_2386 : decode cL_law 2386 = .ok (.ifCond .eq 5, 3) := sorry
theorem dL_law_2389 : decode cL_law 2389 = .ok (.iconst 0, 1) := sorry
theorem dL_law_2390 : decode cL_law 2390 = .ok (.ireturn, 1) := sorry
theorem dL_law_2391 : decode cL_law 2391 = .ok (.goto 981, 3) := sorry
theorem dL_law_2394 : decode cL_law 2394 = .ok (.aload_n 1, 1) := sorry
theorem dL_law_2395 : decode cL_law 2395 = .ok (.aload_n 0, 1) := sorry
theorem dL_law_2396 : decode cL_law 2396 = .ok (.iload 5, 2) := sorry
theorem dL_law_2398 : decode cL_law 2398 = .ok (.iconst 1, 1) := sorry
theorem dL_law_2399 : decode cL_law 2399 = .ok (.iadd, 1) := sorry
theorem dL_law_2400 : decode cL_law 2400 = .ok (.iaload, 1) := sorry
theorem dL_law_2401 : decode cL_law 2401 = .ok (.aload_n 0, 1) := sorry
theorem dL_law_2402 : decode cL_law 2402 = .ok (.iload 5, 2) := sorry
theorem dL_law_2404 : decode cL_law 2404 = .ok (.iconst 2, 1) := sorry
theorem dL_law_2405 : decode cL_law 2405 = .ok (.iadd, 1) := sorry
theorem dL_law_2406 : decode cL_law 2406 = .ok (.iaload, 1) := sorry
theorem dL_law_2407 : decode cL_law 2407 = .ok (.aload_n 0, 1) := sorry
theorem dL_law_2408 : decode cL_law 2408 = .ok (.iload 5, 2) := sorry
theorem dL_law_2410 : decode cL_law 2410 = .ok (.iconst 3, 1) := sorry
theorem dL_law_2411 : decode cL_law 2411 = .ok (.iadd, 1) := sorry
theorem dL_law_2412 : decode cL_law 2412 = .ok (.iaload, 1) := sorry
theorem dL_law_2413 : decode cL_law 2413 = .ok (.aload_n 0, 1) := sorry
theorem dL_law_2414 : decode cL_law 2414 = .ok (.iload 5, 2) := sorry
theorem dL_law_2416 : decode cL_law 2416 = .ok (.iconst 4, 1) := sorry
theorem dL_law_2417 : decode cL_law 2417 = .ok (.iadd, 1) := sorry
theorem dL_law_2418 : decode cL_law 2418 = .ok (.iaload, 1) := sorry
theorem dL_law_2419 : decode cL_law 2419 = .ok (.aload_n 3, 1) := sorry
theorem dL_law_2420 : decode cL_law 2420 = .ok (.invokestatic 278, 3) := sorry
theorem dL_law_2423 : decode cL_law 2423 = .ok (.istore 6, 2) := sorry
theorem dL_law_2425 : decode cL_law 2425 = .ok (.aload_n 2, 1) := sorry
theorem dL_law_2426 : decode cL_law 2426 = .ok (.aload_n 0, 1) := sorry
theorem dL_law_2427 : decode cL_law 2427 = .ok (.iload 5, 2) := sorry
theorem dL_law_2429 : decode cL_law 2429 = .ok (.iconst 1, 1) := sorry
theorem dL_law_2430 : decode cL_law 2430 = .ok (.iadd, 1) := sorry
theorem dL_law_2431 : decode cL_law 2431 = .ok (.iaload, 1) := sorry
theorem dL_law_2432 : decode cL_law 2432 = .ok (.aload_n 0, 1) := sorry
theorem dL_law_2433 : decode cL_law 2433 = .ok (.iload 5, 2) := sorry
theorem dL_law_2435 : decode cL_law 2435 = .ok (.iconst 2, 1) := sorry
theorem dL_law_2436 : decode cL_law 2436 = .ok (.iadd, 1) := sorry
theorem dL_law_2437 : decode cL_law 2437 = .ok (.iaload, 1) := sorry
theorem dL_law_2438 : decode cL_law 2438 = .ok (.aload_n 0, 1) := sorry
theorem dL_law_2439 : decode cL_law 2439 = .ok (.iload 5, 2) := sorry
theorem dL_law_2441 : decode cL_law 2441 = .ok (.iconst 3, 1) := sorry
theorem dL_law_2442 : decode cL_law 2442 = .ok (.iadd, 1) := sorry
theorem dL_law_2443 : decode cL_law 2443 = .ok (.iaload, 1) := sorry
theorem dL_law_2444 : decode cL_law 2444 = .ok (.aload_n 0, 1) := sorry
theorem dL_law_2445 : decode cL_law 2445 = .ok (.iload 5, 2) := sorry
theorem dL_law_2447 : decode cL_law 2447 = .ok (.iconst 4, 1) := sorry
theorem dL_law_2448 : decode cL_law 2448 = .ok (.iadd, 1) := sorry
theorem dL_law_2449 : decode cL_law 2449 = .ok (.iaload, 1) := sorry
theorem dL_law_2450 : decode cL_law 2450 = .ok (.invokevirtual 281, 3) := sorry
theorem dL_law_2453 : decode cL_law 2453 = .ok (.istore 7, 2) := sorry
theorem dL_law_2455 : decode cL_law 2455 = .ok (.aload_n 2, 1) := sorry
theorem dL_law_2456 : decode cL_law 2456 = .ok (.invokevirtual 160, 3) := sorry
theorem dL_law_2459 : decode cL_law 2459 = .ok (.iload 6, 2) := sorry
theorem dL_law_2461 : decode cL_law 2461 = .ok (.if_icmp .eq 5, 3) := sorry
theorem dL_law_2464 : decode cL_law 2464 = .ok (.iconst 0, 1) := sorry
theorem dL_law_2465 : decode cL_law 2465 = .ok (.ireturn, 1) := sorry
theorem dL_law_2466 : decode cL_law 2466 = .ok (.iload 6, 2) := sorry
theorem dL_law_2468 : decode cL_law 2468 = .ok (.ifCond .ne 15, 3) := sorry
theorem dL_law_2471 : decode cL_law 2471 = .ok (.aload_n 3, 1) := sorry
theorem dL_law_2472 : decode cL_law 2472 = .ok (.iconst 0, 1) := sorry
theorem dL_law_2473 : decode cL_law 2473 = .ok (.laload, 1) := sorry
theorem dL_law_2474 : decode cL_law 2474 = .ok (.iload 7, 2) := sorry
theorem dL_law_2476 : decode cL_law 2476 = .ok (.i2l, 1) := sorry
theorem dL_law_2477 : decode cL_law 2477 = .ok (.lcmp, 1) := sorry
theorem dL_law_2478 : decode cL_law 2478 = .ok (.ifCond .eq 5, 3) := sorry
theorem dL_law_2481 : decode cL_law 2481 = .ok (.iconst 0, 1) := sorry
theorem dL_law_2482 : decode cL_law 2482 = .ok (.ireturn, 1) := sorry
theorem dL_law_2483 : decode cL_law 2483 = .ok (.goto 889, 3) := sorry
theorem dL_law_2486 : decode cL_law 2486 = .ok (.aload_n 1, 1) := sorry
theorem dL_law_2487 : decode cL_law 2487 = .ok (.aload_n 0, 1) := sorry
theorem dL_law_2488 : decode cL_law 2488 = .ok (.iload 5, 2) := sorry
theorem dL_law_2490 : decode cL_law 2490 = .ok (.iconst 1, 1) := sorry
theorem dL_law_2491 : decode cL_law 2491 = .ok (.iadd, 1) := sorry
theorem dL_law_2492 : decode cL_law 2492 = .ok (.iaload, 1) := sorry
theorem dL_law_2493 : decode cL_law 2493 = .ok (.aload_n 3, 1) := sorry
theorem dL_law_2494 : decode cL_law 2494 = .ok (.invokestatic 282, 3) := sorry
theorem dL_law_2497 : decode cL_law 2497 = .ok (.istore 6, 2) := sorry
theorem dL_law_2499 : decode cL_law 2499 = .ok (.aload_n 2, 1) := sorry
theorem dL_law_2500 : decode cL_law 2500 = .ok (.aload_n 0, 1) := sorry
theorem dL_law_2501 : decode cL_law 2501 = .ok (.iload 5, 2) := sorry
theorem dL_law_2503 : decode cL_law 2503 = .ok (.iconst 1, 1) := sorry
theorem dL_law_2504 : decode cL_law 2504 = .ok (.iadd, 1) := sorry
theorem dL_law_2505 : decode cL_law 2505 = .ok (.iaload, 1) := sorry
theorem dL_law_2506 : decode cL_law 2506 = .ok (.invokevirtual 284, 3) := sorry
theorem dL_law_2509 : decode cL_law 2509 = .ok (.istore 7, 2) := sorry
theorem dL_law_2511 : decode cL_law 2511 = .ok (.aload_n 2, 1) := sorry
theorem dL_law_2512 : decode cL_law 2512 = .ok (.invokevirtual 160, 3) := sorry
theorem dL_law_2515 : decode cL_law 2515 = .ok (.iload 6, 2) := sorry
theorem dL_law_2517 : decode cL_law 2517 = .ok (.if_icmp .eq 5, 3) := sorry
theorem dL_law_2520 : decode cL_law 2520 = .ok (.iconst 0, 1) := sorry
theorem dL_law_2521 : decode cL_law 2521 = .ok (.ireturn, 1) := sorry
theorem dL_law_2522 : decode cL_law 2522 = .ok (.iload 6, 2) := sorry
theorem dL_law_2524 : decode cL_law 2524 = .ok (.ifCond .ne 15, 3) := sorry
theorem dL_law_2527 : decode cL_law 2527 = .ok (.aload_n 3, 1) := sorry
theorem dL_law_2528 : decode cL_law 2528 = .ok (.iconst 0, 1) := sorry
theorem dL_law_2529 : decode cL_law 2529 = .ok (.laload, 1) := sorry
theorem dL_law_2530 : decode cL_law 2530 = .ok (.iload 7, 2) := sorry
theorem dL_law_2532 : decode cL_law 2532 = .ok (.i2l, 1) := sorry
theorem dL_law_2533 : decode cL_law 2533 = .ok (.lcmp, 1) := sorry
theorem dL_law_2534 : decode cL_law 2534 = .ok (.ifCond .eq 5, 3) := sorry
theorem dL_law_2537 : decode cL_law 2537 = .ok (.iconst 0, 1) := sorry
theorem dL_law_2538 : decode cL_law 2538 = .ok (.ireturn, 1) := sorry
theorem dL_law_2539 : decode cL_law 2539 = .ok (.goto 833, 3) := sorry
theorem dL_law_2542 : decode cL_law 2542 = .ok (.aload_n 1, 1) := sorry
theorem dL_law_2543 : decode cL_law 2543 = .ok (.aload_n 0, 1) := sorry
theorem dL_law_2544 : decode cL_law 2544 = .ok (.iload 5, 2) := sorry
theorem dL_law_2546 : decode cL_law 2546 = .ok (.iconst 1, 1) := sorry
theorem dL_law_2547 : decode cL_law 2547 = .ok (.iadd, 1) := sorry
theorem dL_law_2548 : decode cL_law 2548 = .ok (.iaload, 1) := sorry
theorem dL_law_2549 : decode cL_law 2549 = .ok (.aload_n 0, 1) := sorry
theorem dL_law_2550 : decode cL_law 2550 = .ok (.iload 5, 2) := sorry
theorem dL_law_2552 : decode cL_law 2552 = .ok (.iconst 2, 1) := sorry
theorem dL_law_2553 : decode cL_law 2553 = .ok (.iadd, 1) := sorry
theorem dL_law_2554 : decode cL_law 2554 = .ok (.iaload, 1) := sorry
theorem dL_law_2555 : decode cL_law 2555 = .ok (.aload_n 0, 1) := sorry
theorem dL_law_2556 : decode cL_law 2556 = .ok (.iload 5, 2) := sorry
theorem dL_law_2558 : decode cL_law 2558 = .ok (.iconst 3, 1) := sorry
theorem dL_law_2559 : decode cL_law 2559 = .ok (.iadd, 1) := sorry
theorem dL_law_2560 : decode cL_law 2560 = .ok (.iaload, 1) := sorry
theorem dL_law_2561 : decode cL_law 2561 = .ok (.aload_n 3, 1) := sorry
theorem dL_law_2562 : decode cL_law 2562 = .ok (.invokestatic 285, 3) := sorry
theorem dL_law_2565 : decode cL_law 2565 = .ok (.istore 6, 2) := sorry
theorem dL_law_2567 : decode cL_law 2567 = .ok (.aload_n 2, 1) := sorry
theorem dL_law_2568 : decode cL_law 2568 = .ok (.aload_n 0, 1) := sorry
theorem dL_law_2569 : decode cL_law 2569 = .ok (.iload 5, 2) := sorry
theorem dL_law_2571 : decode cL_law 2571 = .ok (.iconst 1, 1) := sorry
theorem dL_law_2572 : decode cL_law 2572 = .ok (.iadd, 1) := sorry
theorem dL_law_2573 : decode cL_law 2573 = .ok (.iaload, 1) := sorry
theorem dL_law_2574 : decode cL_law 2574 = .ok (.aload_n 0, 1) := sorry
theorem dL_law_2575 : decode cL_law 2575 = .ok (.iload 5, 2) := sorry
theorem dL_law_2577 : decode cL_law 2577 = .ok (.iconst 2, 1) := sorry
theorem dL_law_2578 : decode cL_law 2578 = .ok (.iadd, 1) := sorry
theorem dL_law_2579 : decode cL_law 2579 = .ok (.iaload, 1) := sorry
theorem dL_law_2580 : decode cL_law 2580 = .ok (.aload_n 0, 1) := sorry
theorem dL_law_2581 : decode cL_law 2581 = .ok (.iload 5, 2) := sorry
theorem dL_law_2583 : decode cL_law 2583 = .ok (.iconst 3, 1) := sorry
theorem dL_law_2584 : decode cL_law 2584 = .ok (.iadd, 1) := sorry
theorem dL_law_2585 : decode cL_law 2585 = .ok (.iaload, 1) := sorry
theorem dL_law_2586 : decode cL_law 2586 = .ok (.invokevirtual 287, 3) := sorry
theorem dL_law_2589 : decode cL_law 2589 = .ok (.istore 7, 2) := sorry
theorem dL_law_2591 : decode cL_law 2591 = .ok (.aload_n 2, 1) := sorry
theorem dL_law_2592 : decode cL_law 2592 = .ok (.invokevirtual 160, 3) := sorry
theorem dL_law_2595 : decode cL_law 2595 = .ok (.iload 6, 2) := sorry
theorem dL_law_2597 : decode cL_law 2597 = .ok (.if_icmp .eq 5, 3) := sorry
theorem dL_law_2600 : decode cL_law 2600 = .ok (.iconst 0, 1) := sorry
theorem dL_law_2601 : decode cL_law 2601 = .ok (.ireturn, 1) := sorry
theorem dL_law_2602 : decode cL_law 2602 = .ok (.iload 6, 2) := sorry
theorem dL_law_2604 : decode cL_law 2604 = .ok (.ifCond .ne 15, 3) := sorry
theorem dL_law_2607 : decode cL_law 2607 = .ok (.aload_n 3, 1) := sorry
theorem dL_law_2608 : decode cL_law 2608 = .ok (.iconst 0, 1) := sorry
theorem dL_law_2609 : decode cL_law 2609 = .ok (.laload, 1) := sorry
theorem dL_law_2610 : decode cL_law 2610 = .ok (.iload 7, 2) := sorry
theorem dL_law_2612 : decode cL_law 2612 = .ok (.i2l, 1) := sorry
theorem dL_law_2613 : decode cL_law 2613 = .ok (.lcmp, 1) := sorry
theorem dL_law_2614 : decode cL_law 2614 = .ok (.ifCond .eq 5, 3) := sorry
theorem dL_law_2617 : decode cL_law 2617 = .ok (.iconst 0, 1) := sorry
theorem dL_law_2618 : decode cL_law 2618 = .ok (.ireturn, 1) := sorry
theorem dL_law_2619 : decode cL_law 2619 = .ok (.goto 753, 3) := sorry
theorem dL_law_2622 : decode cL_law 2622 = .ok (.aload_n 1, 1) := sorry
theorem dL_law_2623 : decode cL_law 2623 = .ok (.aload_n 0, 1) := sorry
theorem dL_law_2624 : decode cL_law 2624 = .ok (.iload 5, 2) := sorry
theorem dL_law_2626 : decode cL_law 2626 = .ok (.iconst 1, 1) := sorry
theorem dL_law_2627 : decode cL_law 2627 = .ok (.iadd, 1) := sorry
theorem dL_law_2628 : decode cL_law 2628 = .ok (.iaload, 1) := sorry
theorem dL_law_2629 : decode cL_law 2629 = .ok (.aload_n 0, 1) := sorry
theorem dL_law_2630 : decode cL_law 2630 = .ok (.iload 5, 2) := sorry
theorem dL_law_2632 : decode cL_law 2632 = .ok (.iconst 2, 1) := sorry
theorem dL_law_2633 : decode cL_law 2633 = .ok (.iadd, 1) := sorry
theorem dL_law_2634 : decode cL_law 2634 = .ok (.iaload, 1) := sorry
theorem dL_law_2635 : decode cL_law 2635 = .ok (.aload_n 3, 1) := sorry
theorem dL_law_2636 : decode cL_law 2636 = .ok (.invokestatic 288, 3) := sorry
theorem dL_law_2639 : decode cL_law 2639 = .ok (.istore 6, 2) := sorry
theorem dL_law_2641 : decode cL_law 2641 = .ok (.aload_n 2, 1) := sorry
theorem dL_law_2642 : decode cL_law 2642 = .ok (.aload_n 0, 1) := sorry
theorem dL_law_2643 : decode cL_law 2643 = .ok (.iload 5, 2) := sorry
theorem dL_law_2645 : decode cL_law 2645 = .ok (.iconst 1, 1) := sorry
theorem dL_law_2646 : decode cL_law 2646 = .ok (.iadd, 1) := sorry
theorem dL_law_2647 : decode cL_law 2647 = .ok (.iaload, 1) := sorry
theorem dL_law_2648 : decode cL_law 2648 = .ok (.aload_n 0, 1) := sorry
theorem dL_law_2649 : decode cL_law 2649 = .ok (.iload 5, 2) := sorry
theorem dL_law_2651 : decode cL_law 2651 = .ok (.iconst 2, 1) := sorry
theorem dL_law_2652 : decode cL_law 2652 = .ok (.iadd, 1) := sorry
theorem dL_law_2653 : decode cL_law 2653 = .ok (.iaload, 1) := sorry
theorem dL_law_2654 : decode cL_law 2654 = .ok (.invokevirtual 290, 3) := sorry
theorem dL_law_2657 : decode cL_law 2657 = .ok (.istore 7, 2) := sorry
theorem dL_law_2659 : decode cL_law 2659 = .ok (.aload_n 2, 1) := sorry
theorem dL_law_2660 : decode cL_law 2660 = .ok (.invokevirtual 160, 3) := sorry
theorem dL_law_2663 : decode cL_law 2663 = .ok (.iload 6, 2) := sorry
theorem dL_law_2665 : decode cL_law 2665 = .ok (.if_icmp .eq 5, 3) := sorry
theorem dL_law_2668 : decode cL_law 2668 = .ok (.iconst 0, 1) := sorry
theorem dL_law_2669 : decode cL_law 2669 = .ok (.ireturn, 1) := sorry
theorem dL_law_2670 : decode cL_law 2670 = .ok (.iload 6, 2) := sorry
theorem dL_law_2672 : decode cL_law 2672 = .ok (.ifCond .ne 15, 3) := sorry
theorem dL_law_2675 : decode cL_law 2675 = .ok (.aload_n 3, 1) := sorry
theorem dL_law_2676 : decode cL_law 2676 = .ok (.iconst 0, 1) := sorry
theorem dL_law_2677 : decode cL_law 2677 = .ok (.laload, 1) := sorry
theorem dL_law_2678 : decode cL_law 2678 = .ok (.iload 7, 2) := sorry
theorem dL_law_2680 : decode cL_law 2680 = .ok (.i2l, 1) := sorry
theorem dL_law_2681 : decode cL_law 2681 = .ok (.lcmp, 1) := sorry
theorem dL_law_2682 : decode cL_law 2682 = .ok (.ifCond .eq 5, 3) := sorry
theorem dL_law_2685 : decode cL_law 2685 = .ok (.iconst 0, 1) := sorry
theorem dL_law_2686 : decode cL_law 2686 = .ok (.ireturn, 1) := sorry
theorem dL_law_2687 : decode cL_law 2687 = .ok (.goto 685, 3) := sorry
theorem dL_law_2690 : decode cL_law 2690 = .ok (.aload_n 1, 1) := sorry
theorem dL_law_2691 : decode cL_law 2691 = .ok (.aload_n 0, 1) := sorry
theorem dL_law_2692 : decode cL_law 2692 = .ok (.iload 5, 2) := sorry
theorem dL_law_2694 : decode cL_law 2694 = .ok (.iconst 1, 1) := sorry
theorem dL_law_2695 : decode cL_law 2695 = .ok (.iadd, 1) := sorry
theorem dL_law_2696 : decode cL_law 2696 = .ok (.iaload, 1) := sorry
theorem dL_law_2697 : decode cL_law 2697 = .ok (.aload_n 3, 1) := sorry
theorem dL_law_2698 : decode cL_law 2698 = .ok (.invokestatic 291, 3) := sorry
theorem dL_law_2701 : decode cL_law 2701 = .ok (.istore 6, 2) := sorry
theorem dL_law_2703 : decode cL_law 2703 = .ok (.aload_n 2, 1) := sorry
theorem dL_law_2704 : decode cL_law 2704 = .ok (.aload_n 0, 1) := sorry
theorem dL_law_2705 : decode cL_law 2705 = .ok (.iload 5, 2) := sorry
theorem dL_law_2707 : decode cL_law 2707 = .ok (.iconst 1, 1) := sorry
theorem dL_law_2708 : decode cL_law 2708 = .ok (.iadd, 1) := sorry
theorem dL_law_2709 : decode cL_law 2709 = .ok (.iaload, 1) := sorry
theorem dL_law_2710 : decode cL_law 2710 = .ok (.invokevirtual 293, 3) := sorry
theorem dL_law_2713 : decode cL_law 2713 = .ok (.istore 7, 2) := sorry
theorem dL_law_2715 : decode cL_law 2715 = .ok (.aload_n 2, 1) := sorry
theorem dL_law_2716 : decode cL_law 2716 = .ok (.invokevirtual 160, 3) := sorry
theorem dL_law_2719 : decode cL_law 2719 = .ok (.iload 6, 2) := sorry
theorem dL_law_2721 : decode cL_law 2721 = .ok (.if_icmp .eq 5, 3) := sorry
theorem dL_law_2724 : decode cL_law 2724 = .ok (.iconst 0, 1) := sorry
theorem dL_law_2725 : decode cL_law 2725 = .ok (.ireturn, 1) := sorry
theorem dL_law_2726 : decode cL_law 2726 = .ok (.iload 6, 2) := sorry
theorem dL_law_2728 : decode cL_law 2728 = .ok (.ifCond .ne 15, 3) := sorry
theorem dL_law_2731 : decode cL_law 2731 = .ok (.aload_n 3, 1) := sorry
theorem dL_law_2732 : decode cL_law 2732 = .ok (.iconst 0, 1) := sorry
theorem dL_law_2733 : decode cL_law 2733 = .ok (.laload, 1) := sorry
theorem dL_law_2734 : decode cL_law 2734 = .ok (.iload 7, 2) := sorry
theorem dL_law_2736 : decode cL_law 2736 = .ok (.i2l, 1) := sorry
theorem dL_law_2737 : decode cL_law 2737 = .ok (.lcmp, 1) := sorry
theorem dL_law_2738 : decode cL_law 2738 = .ok (.ifCond .eq 5, 3) := sorry
theorem dL_law_2741 : decode cL_law 2741 = .ok (.iconst 0, 1) := sorry
theorem dL_law_2742 : decode cL_law 2742 = .ok (.ireturn, 1) := sorry
theorem dL_law_2743 : decode cL_law 2743 = .ok (.goto 629, 3) := sorry
theorem dL_law_2746 : decode cL_law 2746 = .ok (.aload_n 1, 1) := sorry
theorem dL_law_2747 : decode cL_law 2747 = .ok (.aload_n 0, 1) := sorry
theorem dL_law_2748 : decode cL_law 2748 = .ok (.iload 5, 2) := sorry
theorem dL_law_2750 : decode cL_law 2750 = .ok (.iconst 1, 1) := sorry
theorem dL_law_2751 : decode cL_law 2751 = .ok (.iadd, 1) := sorry
theorem dL_law_2752 : decode cL_law 2752 = .ok (.iaload, 1) := sorry
theorem dL_law_2753 : decode cL_law 2753 = .ok (.aload_n 3, 1) := sorry
theorem dL_law_2754 : decode cL_law 2754 = .ok (.invokestatic 294, 3) := sorry
theorem dL_law_2757 : decode cL_law 2757 = .ok (.istore 6, 2) := sorry
theorem dL_law_2759 : decode cL_law 2759 = .ok (.aload_n 2, 1) := sorry
theorem dL_law_2760 : decode cL_law 2760 = .ok (.aload_n 0, 1) := sorry
theorem dL_law_2761 : decode cL_law 2761 = .ok (.iload 5, 2) := sorry
theorem dL_law_2763 : decode cL_law 2763 = .ok (.iconst 1, 1) := sorry
theorem dL_law_2764 : decode cL_law 2764 = .ok (.iadd, 1) := sorry
theorem dL_law_2765 : decode cL_law 2765 = .ok (.iaload, 1) := sorry
theorem dL_law_2766 : decode cL_law 2766 = .ok (.invokevirtual 296, 3) := sorry
theorem dL_law_2769 : decode cL_law 2769 = .ok (.istore 7, 2) := sorry
theorem dL_law_2771 : decode cL_law 2771 = .ok (.aload_n 2, 1) := sorry
theorem dL_law_2772 : decode cL_law 2772 = .ok (.invokevirtual 160, 3) := sorry
theorem dL_law_2775 : decode cL_law 2775 = .ok (.iload 6, 2) := sorry
theorem dL_law_2777 : decode cL_law 2777 = .ok (.if_icmp .eq 5, 3) := sorry
theorem dL_law_2780 : decode cL_law 2780 = .ok (.iconst 0, 1) := sorry
theorem dL_law_2781 : decode cL_law 2781 = .ok (.ireturn, 1) := sorry
theorem dL_law_2782 : decode cL_law 2782 = .ok (.iload 6, 2) := sorry
theorem dL_law_2784 : decode cL_law 2784 = .ok (.ifCond .ne 15, 3) := sorry
theorem dL_law_2787 : decode cL_law 2787 = .ok (.aload_n 3, 1) := sorry
theorem dL_law_2788 : decode cL_law 2788 = .ok (.iconst 0, 1) := sorry
theorem dL_law_2789 : decode cL_law 2789 = .ok (.laload, 1) := sorry
theorem dL_law_2790 : decode cL_law 2790 = .ok (.iload 7, 2) := sorry
theorem dL_law_2792 : decode cL_law 2792 = .ok (.i2l, 1) := sorry
theorem dL_law_2793 : decode cL_law 2793 = .ok (.lcmp, 1) := sorry
theorem dL_law_2794 : decode cL_law 2794 = .ok (.ifCond .eq 5, 3) := sorry
theorem dL_law_2797 : decode cL_law 2797 = .ok (.iconst 0, 1) := sorry
theorem dL_law_2798 : decode cL_law 2798 = .ok (.ireturn, 1) := sorry
theorem dL_law_2799 : decode cL_law 2799 = .ok (.goto 573, 3) := sorry
theorem dL_law_2802 : decode cL_law 2802 = .ok (.aload_n 1, 1) := sorry
theorem dL_law_2803 : decode cL_law 2803 = .ok (.aload_n 0, 1) := sorry
theorem dL_law_2804 : decode cL_law 2804 = .ok (.iload 5, 2) := sorry
theorem dL_law_2806 : decode cL_law 2806 = .ok (.iconst 1, 1) := sorry
theorem dL_law_2807 : decode cL_law 2807 = .ok (.iadd, 1) := sorry
theorem dL_law_2808 : decode cL_law 2808 = .ok (.iaload, 1) := sorry
theorem dL_law_2809 : decode cL_law 2809 = .ok (.aload_n 3, 1) := sorry
theorem dL_law_2810 : decode cL_law 2810 = .ok (.invokestatic 297, 3) := sorry
theorem dL_law_2813 : decode cL_law 2813 = .ok (.istore 6, 2) := sorry
theorem dL_law_2815 : decode cL_law 2815 = .ok (.aload_n 2, 1) := sorry
theorem dL_law_2816 : decode cL_law 2816 = .ok (.aload_n 0, 1) := sorry
theorem dL_law_2817 : decode cL_law 2817 = .ok (.iload 5, 2) := sorry
theorem dL_law_2819 : decode cL_law 2819 = .ok (.iconst 1, 1) := sorry
theorem dL_law_2820 : decode cL_law 2820 = .ok (.iadd, 1) := sorry
theorem dL_law_2821 : decode cL_law 2821 = .ok (.iaload, 1) := sorry
theorem dL_law_2822 : decode cL_law 2822 = .ok (.invokevirtual 299, 3) := sorry
theorem dL_law_2825 : decode cL_law 2825 = .ok (.istore 7, 2) := sorry
theorem dL_law_2827 : decode cL_law 2827 = .ok (.aload_n 2, 1) := sorry
theorem dL_law_2828 : decode cL_law 2828 = .ok (.invokevirtual 160, 3) := sorry
theorem dL_law_2831 : decode cL_law 2831 = .ok (.iload 6, 2) := sorry
theorem dL_law_2833 : decode cL_law 2833 = .ok (.if_icmp .eq 5, 3) := sorry
theorem dL_law_2836 : decode cL_law 2836 = .ok (.iconst 0, 1) := sorry
theorem dL_law_2837 : decode cL_law 2837 = .ok (.ireturn, 1) := sorry
theorem dL_law_2838 : decode cL_law 2838 = .ok (.iload 6, 2) := sorry
theorem dL_law_2840 : decode cL_law 2840 = .ok (.ifCond .ne 15, 3) := sorry
theorem dL_law_2843 : decode cL_law 2843 = .ok (.aload_n 3, 1) := sorry
theorem dL_law_2844 : decode cL_law 2844 = .ok (.iconst 0, 1) := sorry
theorem dL_law_2845 : decode cL_law 2845 = .ok (.laload, 1) := sorry
theorem dL_law_2846 : decode cL_law 2846 = .ok (.iload 7, 2) := sorry
theorem dL_law_2848 : decode cL_law 2848 = .ok (.i2l, 1) := sorry
theorem dL_law_2849 : decode cL_law 2849 = .ok (.lcmp, 1) := sorry
theorem dL_law_2850 : decode cL_law 2850 = .ok (.ifCond .eq 5, 3) := sorry
theorem dL_law_2853 : decode cL_law 2853 = .ok (.iconst 0, 1) := sorry
theorem dL_law_2854 : decode cL_law 2854 = .ok (.ireturn, 1) := sorry
theorem dL_law_2855 : decode cL_law 2855 = .ok (.goto 517, 3) := sorry
theorem dL_law_2858 : decode cL_law 2858 = .ok (.aload_n 1, 1) := sorry
theorem dL_law_2859 : decode cL_law 2859 = .ok (.aload_n 0, 1) := sorry
theorem dL_law_2860 : decode cL_law 2860 = .ok (.iload 5, 2) := sorry
theorem dL_law_2862 : decode cL_law 2862 = .ok (.iconst 1, 1) := sorry
theorem dL_law_2863 : decode cL_law 2863 = .ok (.iadd, 1) := sorry
theorem dL_law_2864 : decode cL_law 2864 = .ok (.iaload, 1) := sorry
theorem dL_law_2865 : decode cL_law 2865 = .ok (.aload_n 0, 1) := sorry
theorem dL_law_2866 : decode cL_law 2866 = .ok (.iload 5, 2) := sorry
theorem dL_law_2868 : decode cL_law 2868 = .ok (.iconst 2, 1) := sorry
theorem dL_law_2869 : decode cL_law 2869 = .ok (.iadd, 1) := sorry
theorem dL_law_2870 : decode cL_law 2870 = .ok (.iaload, 1) := sorry
theorem dL_law_2871 : decode cL_law 2871 = .ok (.ifCond .eq 7, 3) := sorry
theorem dL_law_2874 : decode cL_law 2874 = .ok (.iconst 1, 1) := sorry
theorem dL_law_2875 : decode cL_law 2875 = .ok (.goto 4, 3) := sorry
theorem dL_law_2878 : decode cL_law 2878 = .ok (.iconst 0, 1) := sorry
theorem dL_law_2879 : decode cL_law 2879 = .ok (.aload_n 0, 1) := sorry
theorem dL_law_2880 : decode cL_law 2880 = .ok (.iload 5, 2) := sorry
theorem dL_law_2882 : decode cL_law 2882 = .ok (.iconst 3, 1) := sorry
theorem dL_law_2883 : decode cL_law 2883 = .ok (.iadd, 1) := sorry
theorem dL_law_2884 : decode cL_law 2884 = .ok (.iaload, 1) := sorry
theorem dL_law_2885 : decode cL_law 2885 = .ok (.aload_n 3, 1) := sorry
theorem dL_law_2886 : decode cL_law 2886 = .ok (.invokestatic 300, 3) := sorry
theorem dL_law_2889 : decode cL_law 2889 = .ok (.istore 6, 2) := sorry
theorem dL_law_2891 : decode cL_law 2891 = .ok (.aload_n 2, 1) := sorry
theorem dL_law_2892 : decode cL_law 2892 = .ok (.aload_n 0, 1) := sorry
theorem dL_law_2893 : decode cL_law 2893 = .ok (.iload 5, 2) := sorry
theorem dL_law_2895 : decode cL_law 2895 = .ok (.iconst 1, 1) := sorry
theorem dL_law_2896 : decode cL_law 2896 = .ok (.iadd, 1) := sorry
theorem dL_law_2897 : decode cL_law 2897 = .ok (.iaload, 1) := sorry
theorem dL_law_2898 : decode cL_law 2898 = .ok (.aload_n 0, 1) := sorry
theorem dL_law_2899 : decode cL_law 2899 = .ok (.iload 5, 2) := sorry
theorem dL_law_2901 : decode cL_law 2901 = .ok (.iconst 2, 1) := sorry
theorem dL_law_2902 : decode cL_law 2902 = .ok (.iadd, 1) := sorry
theorem dL_law_2903 : decode cL_law 2903 = .ok (.iaload, 1) := sorry
theorem dL_law_2904 : decode cL_law 2904 = .ok (.ifCond .eq 7, 3) := sorry
theorem dL_law_2907 : decode cL_law 2907 = .ok (.iconst 1, 1) := sorry
theorem dL_law_2908 : decode cL_law 2908 = .ok (.goto 4, 3) := sorry
theorem dL_law_2911 : decode cL_law 2911 = .ok (.iconst 0, 1) := sorry
theorem dL_law_2912 : decode cL_law 2912 = .ok (.aload_n 0, 1) := sorry
theorem dL_law_2913 : decode cL_law 2913 = .ok (.iload 5, 2) := sorry
theorem dL_law_2915 : decode cL_law 2915 = .ok (.iconst 3, 1) := sorry
theorem dL_law_2916 : decode cL_law 2916 = .ok (.iadd, 1) := sorry
theorem dL_law_2917 : decode cL_law 2917 = .ok (.iaload, 1) := sorry
theorem dL_law_2918 : decode cL_law 2918 = .ok (.invokevirtual 302, 3) := sorry
theorem dL_law_2921 : decode cL_law 2921 = .ok (.istore 7, 2) := sorry
theorem dL_law_2923 : decode cL_law 2923 = .ok (.aload_n 2, 1) := sorry
theorem dL_law_2924 : decode cL_law 2924 = .ok (.invokevirtual 160, 3) := sorry
theorem dL_law_2927 : decode cL_law 2927 = .ok (.iload 6, 2) := sorry
theorem dL_law_2929 : decode cL_law 2929 = .ok (.if_icmp .eq 5, 3) := sorry
theorem dL_law_2932 : decode cL_law 2932 = .ok (.iconst 0, 1) := sorry
theorem dL_law_2933 : decode cL_law 2933 = .ok (.ireturn, 1) := sorry
theorem dL_law_2934 : decode cL_law 2934 = .ok (.iload 6, 2) := sorry
theorem dL_law_2936 : decode cL_law 2936 = .ok (.ifCond .ne 15, 3) := sorry
theorem dL_law_2939 : decode cL_law 2939 = .ok (.aload_n 3, 1) := sorry
theorem dL_law_2940 : decode cL_law 2940 = .ok (.iconst 0, 1) := sorry
theorem dL_law_2941 : decode cL_law 2941 = .ok (.laload, 1) := sorry
theorem dL_law_2942 : decode cL_law 2942 = .ok (.iload 7, 2) := sorry
theorem dL_law_2944 : decode cL_law 2944 = .ok (.i2l, 1) := sorry
theorem dL_law_2945 : decode cL_law 2945 = .ok (.lcmp, 1) := sorry
theorem dL_law_2946 : decode cL_law 2946 = .ok (.ifCond .eq 5, 3) := sorry
theorem dL_law_2949 : decode cL_law 2949 = .ok (.iconst 0, 1) := sorry
theorem dL_law_2950 : decode cL_law 2950 = .ok (.ireturn, 1) := sorry
theorem dL_law_2951 : decode cL_law 2951 = .ok (.goto 421, 3) := sorry
theorem dL_law_2954 : decode cL_law 2954 = .ok (.aload_n 1, 1) := sorry
theorem dL_law_2955 : decode cL_law 2955 = .ok (.aload_n 0, 1) := sorry
theorem dL_law_2956 : decode cL_law 2956 = .ok (.iload 5, 2) := sorry
theorem dL_law_2958 : decode cL_law 2958 = .ok (.iconst 1, 1) := sorry
theorem dL_law_2959 : decode cL_law 2959 = .ok (.iadd, 1) := sorry
theorem dL_law_2960 : decode cL_law 2960 = .ok (.iaload, 1) := sorry
theorem dL_law_2961 : decode cL_law 2961 = .ok (.aload_n 0, 1) := sorry
theorem dL_law_2962 : decode cL_law 2962 = .ok (.iload 5, 2) := sorry
theorem dL_law_2964 : decode cL_law 2964 = .ok (.iconst 2, 1) := sorry
theorem dL_law_2965 : decode cL_law 2965 = .ok (.iadd, 1) := sorry
theorem dL_law_2966 : decode cL_law 2966 = .ok (.iaload, 1) := sorry
theorem dL_law_2967 : decode cL_law 2967 = .ok (.aload_n 3, 1) := sorry
theorem dL_law_2968 : decode cL_law 2968 = .ok (.invokestatic 303, 3) := sorry
theorem dL_law_2971 : decode cL_law 2971 = .ok (.istore 6, 2) := sorry
theorem dL_law_2973 : decode cL_law 2973 = .ok (.aload_n 2, 1) := sorry
theorem dL_law_2974 : decode cL_law 2974 = .ok (.aload_n 0, 1) := sorry
theorem dL_law_2975 : decode cL_law 2975 = .ok (.iload 5, 2) := sorry
theorem dL_law_2977 : decode cL_law 2977 = .ok (.iconst 1, 1) := sorry
theorem dL_law_2978 : decode cL_law 2978 = .ok (.iadd, 1) := sorry
theorem dL_law_2979 : decode cL_law 2979 = .ok (.iaload, 1) := sorry
theorem dL_law_2980 : decode cL_law 2980 = .ok (.aload_n 0, 1) := sorry
theorem dL_law_2981 : decode cL_law 2981 = .ok (.iload 5, 2) := sorry
theorem dL_law_2983 : decode cL_law 2983 = .ok (.iconst 2, 1) := sorry
theorem dL_law_2984 : decode cL_law 2984 = .ok (.iadd, 1) := sorry
theorem dL_law_2985 : decode cL_law 2985 = .ok (.iaload, 1) := sorry
theorem dL_law_2986 : decode cL_law 2986 = .ok (.invokevirtual 305, 3) := sorry
theorem dL_law_2989 : decode cL_law 2989 = .ok (.istore 7, 2) := sorry
theorem dL_law_2991 : decode cL_law 2991 = .ok (.aload_n 2, 1) := sorry
theorem dL_law_2992 : decode cL_law 2992 = .ok (.invokevirtual 160, 3) := sorry
theorem dL_law_2995 : decode cL_law 2995 = .ok (.iload 6, 2) := sorry
theorem dL_law_2997 : decode cL_law 2997 = .ok (.if_icmp .eq 5, 3) := sorry
theorem dL_law_3000 : decode cL_law 3000 = .ok (.iconst 0, 1) := sorry
theorem dL_law_3001 : decode cL_law 3001 = .ok (.ireturn, 1) := sorry
theorem dL_law_3002 : decode cL_law 3002 = .ok (.iload 6, 2) := sorry
theorem dL_law_3004 : decode cL_law 3004 = .ok (.ifCond .ne 15, 3) := sorry
theorem dL_law_3007 : decode cL_law 3007 = .ok (.aload_n 3, 1) := sorry
theorem dL_law_3008 : decode cL_law 3008 = .ok (.iconst 0, 1) := sorry
theorem dL_law_3009 : decode cL_law 3009 = .ok (.laload, 1) := sorry
theorem dL_law_3010 : decode cL_law 3010 = .ok (.iload 7, 2) := sorry
theorem dL_law_3012 : decode cL_law 3012 = .ok (.i2l, 1) := sorry
theorem dL_law_3013 : decode cL_law 3013 = .ok (.lcmp, 1) := sorry
theorem dL_law_3014 : decode cL_law 3014 = .ok (.ifCond .eq 5, 3) := sorry
theorem dL_law_3017 : decode cL_law 3017 = .ok (.iconst 0, 1) := sorry
theorem dL_law_3018 : decode cL_law 3018 = .ok (.ireturn, 1) := sorry
theorem dL_law_3019 : decode cL_law 3019 = .ok (.goto 353, 3) := sorry
theorem dL_law_3022 : decode cL_law 3022 = .ok (.aload_n 1, 1) := sorry
theorem dL_law_3023 : decode cL_law 3023 = .ok (.aload_n 0, 1) := sorry
theorem dL_law_3024 : decode cL_law 3024 = .ok (.iload 5, 2) := sorry
theorem dL_law_3026 : decode cL_law 3026 = .ok (.iconst 1, 1) := sorry
theorem dL_law_3027 : decode cL_law 3027 = .ok (.iadd, 1) := sorry
theorem dL_law_3028 : decode cL_law 3028 = .ok (.iaload, 1) := sorry
theorem dL_law_3029 : decode cL_law 3029 = .ok (.aload_n 3, 1) := sorry
theorem dL_law_3030 : decode cL_law 3030 = .ok (.invokestatic 306, 3) := sorry
theorem dL_law_3033 : decode cL_law 3033 = .ok (.istore 6, 2) := sorry
theorem dL_law_3035 : decode cL_law 3035 = .ok (.aload_n 2, 1) := sorry
theorem dL_law_3036 : decode cL_law 3036 = .ok (.aload_n 0, 1) := sorry
theorem dL_law_3037 : decode cL_law 3037 = .ok (.iload 5, 2) := sorry
theorem dL_law_3039 : decode cL_law 3039 = .ok (.iconst 1, 1) := sorry
theorem dL_law_3040 : decode cL_law 3040 = .ok (.iadd, 1) := sorry
theorem dL_law_3041 : decode cL_law 3041 = .ok (.iaload, 1) := sorry
theorem dL_law_3042 : decode cL_law 3042 = .ok (.invokevirtual 308, 3) := sorry
theorem dL_law_3045 : decode cL_law 3045 = .ok (.istore 7, 2) := sorry
theorem dL_law_3047 : decode cL_law 3047 = .ok (.aload_n 2, 1) := sorry
theorem dL_law_3048 : decode cL_law 3048 = .ok (.invokevirtual 160, 3) := sorry
theorem dL_law_3051 : decode cL_law 3051 = .ok (.iload 6, 2) := sorry
theorem dL_law_3053 : decode cL_law 3053 = .ok (.if_icmp .eq 5, 3) := sorry
theorem dL_law_3056 : decode cL_law 3056 = .ok (.iconst 0, 1) := sorry
theorem dL_law_3057 : decode cL_law 3057 = .ok (.ireturn, 1) := sorry
theorem dL_law_3058 : decode cL_law 3058 = .ok (.iload 6, 2) := sorry
theorem dL_law_3060 : decode cL_law 3060 = .ok (.ifCond .ne 15, 3) := sorry
theorem dL_law_3063 : decode cL_law 3063 = .ok (.aload_n 3, 1) := sorry
theorem dL_law_3064 : decode cL_law 3064 = .ok (.iconst 0, 1) := sorry
theorem dL_law_3065 : decode cL_law 3065 = .ok (.laload, 1) := sorry
theorem dL_law_3066 : decode cL_law 3066 = .ok (.iload 7, 2) := sorry
theorem dL_law_3068 : decode cL_law 3068 = .ok (.i2l, 1) := sorry
theorem dL_law_3069 : decode cL_law 3069 = .ok (.lcmp, 1) := sorry
theorem dL_law_3070 : decode cL_law 3070 = .ok (.ifCond .eq 5, 3) := sorry
theorem dL_law_3073 : decode cL_law 3073 = .ok (.iconst 0, 1) := sorry
theorem dL_law_3074 : decode cL_law 3074 = .ok (.ireturn, 1) := sorry
theorem dL_law_3075 : decode cL_law 3075 = .ok (.goto 297, 3) := sorry
theorem dL_law_3078 : decode cL_law 3078 = .ok (.aload_n 1, 1) := sorry
theorem dL_law_3079 : decode cL_law 3079 = .ok (.aload_n 0, 1) := sorry
theorem dL_law_3080 : decode cL_law 3080 = .ok (.iload 5, 2) := sorry
theorem dL_law_3082 : decode cL_law 3082 = .ok (.iconst 1, 1) := sorry
theorem dL_law_3083 : decode cL_law 3083 = .ok (.iadd, 1) := sorry
theorem dL_law_3084 : decode cL_law 3084 = .ok (.iaload, 1) := sorry
theorem dL_law_3085 : decode cL_law 3085 = .ok (.aload_n 3, 1) := sorry
theorem dL_law_3086 : decode cL_law 3086 = .ok (.invokestatic 309, 3) := sorry
theorem dL_law_3089 : decode cL_law 3089 = .ok (.istore 6, 2) := sorry
theorem dL_law_3091 : decode cL_law 3091 = .ok (.aload_n 2, 1) := sorry
theorem dL_law_3092 : decode cL_law 3092 = .ok (.aload_n 0, 1) := sorry
theorem dL_law_3093 : decode cL_law 3093 = .ok (.iload 5, 2) := sorry
theorem dL_law_3095 : decode cL_law 3095 = .ok (.iconst 1, 1) := sorry
theorem dL_law_3096 : decode cL_law 3096 = .ok (.iadd, 1) := sorry
theorem dL_law_3097 : decode cL_law 3097 = .ok (.iaload, 1) := sorry
theorem dL_law_3098 : decode cL_law 3098 = .ok (.invokevirtual 311, 3) := sorry
theorem dL_law_3101 : decode cL_law 3101 = .ok (.istore 7, 2) := sorry
theorem dL_law_3103 : decode cL_law 3103 = .ok (.aload_n 2, 1) := sorry
theorem dL_law_3104 : decode cL_law 3104 = .ok (.invokevirtual 160, 3) := sorry
theorem dL_law_3107 : decode cL_law 3107 = .ok (.iload 6, 2) := sorry
theorem dL_law_3109 : decode cL_law 3109 = .ok (.if_icmp .eq 5, 3) := sorry
theorem dL_law_3112 : decode cL_law 3112 = .ok (.iconst 0, 1) := sorry
theorem dL_law_3113 : decode cL_law 3113 = .ok (.ireturn, 1) := sorry
theorem dL_law_3114 : decode cL_law 3114 = .ok (.iload 6, 2) := sorry
theorem dL_law_3116 : decode cL_law 3116 = .ok (.ifCond .ne 15, 3) := sorry
theorem dL_law_3119 : decode cL_law 3119 = .ok (.aload_n 3, 1) := sorry
theorem dL_law_3120 : decode cL_law 3120 = .ok (.iconst 0, 1) := sorry
theorem dL_law_3121 : decode cL_law 3121 = .ok (.laload, 1) := sorry
theorem dL_law_3122 : decode cL_law 3122 = .ok (.iload 7, 2) := sorry
theorem dL_law_3124 : decode cL_law 3124 = .ok (.i2l, 1) := sorry
theorem dL_law_3125 : decode cL_law 3125 = .ok (.lcmp, 1) := sorry
theorem dL_law_3126 : decode cL_law 3126 = .ok (.ifCond .eq 5, 3) := sorry
theorem dL_law_3129 : decode cL_law 3129 = .ok (.iconst 0, 1) := sorry
theorem dL_law_3130 : decode cL_law 3130 = .ok (.ireturn, 1) := sorry
theorem dL_law_3131 : decode cL_law 3131 = .ok (.goto 241, 3) := sorry
theorem dL_law_3134 : decode cL_law 3134 = .ok (.aload_n 1, 1) := sorry
theorem dL_law_3135 : decode cL_law 3135 = .ok (.aload_n 0, 1) := sorry
theorem dL_law_3136 : decode cL_law 3136 = .ok (.iload 5, 2) := sorry
theorem dL_law_3138 : decode cL_law 3138 = .ok (.iconst 1, 1) := sorry
theorem dL_law_3139 : decode cL_law 3139 = .ok (.iadd, 1) := sorry
theorem dL_law_3140 : decode cL_law 3140 = .ok (.iaload, 1) := sorry
theorem dL_law_3141 : decode cL_law 3141 = .ok (.aload_n 3, 1) := sorry
theorem dL_law_3142 : decode cL_law 3142 = .ok (.invokestatic 312, 3) := sorry
theorem dL_law_3145 : decode cL_law 3145 = .ok (.istore 6, 2) := sorry
theorem dL_law_3147 : decode cL_law 3147 = .ok (.aload_n 2, 1) := sorry
theorem dL_law_3148 : decode cL_law 3148 = .ok (.aload_n 0, 1) := sorry
theorem dL_law_3149 : decode cL_law 3149 = .ok (.iload 5, 2) := sorry
theorem dL_law_3151 : decode cL_law 3151 = .ok (.iconst 1, 1) := sorry
theorem dL_law_3152 : decode cL_law 3152 = .ok (.iadd, 1) := sorry
theorem dL_law_3153 : decode cL_law 3153 = .ok (.iaload, 1) := sorry
theorem dL_law_3154 : decode cL_law 3154 = .ok (.invokevirtual 314, 3) := sorry
theorem dL_law_3157 : decode cL_law 3157 = .ok (.istore 7, 2) := sorry
theorem dL_law_3159 : decode cL_law 3159 = .ok (.aload_n 2, 1) := sorry
theorem dL_law_3160 : decode cL_law 3160 = .ok (.invokevirtual 160, 3) := sorry
theorem dL_law_3163 : decode cL_law 3163 = .ok (.iload 6, 2) := sorry
theorem dL_law_3165 : decode cL_law 3165 = .ok (.if_icmp .eq 5, 3) := sorry
theorem dL_law_3168 : decode cL_law 3168 = .ok (.iconst 0, 1) := sorry
theorem dL_law_3169 : decode cL_law 3169 = .ok (.ireturn, 1) := sorry
theorem dL_law_3170 : decode cL_law 3170 = .ok (.iload 6, 2) := sorry
theorem dL_law_3172 : decode cL_law 3172 = .ok (.ifCond .ne 15, 3) := sorry
theorem dL_law_3175 : decode cL_law 3175 = .ok (.aload_n 3, 1) := sorry
theorem dL_law_3176 : decode cL_law 3176 = .ok (.iconst 0, 1) := sorry
theorem dL_law_3177 : decode cL_law 3177 = .ok (.laload, 1) := sorry
theorem dL_law_3178 : decode cL_law 3178 = .ok (.iload 7, 2) := sorry
theorem dL_law_3180 : decode cL_law 3180 = .ok (.i2l, 1) := sorry
theorem dL_law_3181 : decode cL_law 3181 = .ok (.lcmp, 1) := sorry
theorem dL_law_3182 : decode cL_law 3182 = .ok (.ifCond .eq 5, 3) := sorry
theorem dL_law_3185 : decode cL_law 3185 = .ok (.iconst 0, 1) := sorry
theorem dL_law_3186 : decode cL_law 3186 = .ok (.ireturn, 1) := sorry
theorem dL_law_3187 : decode cL_law 3187 = .ok (.goto 185, 3) := sorry
theorem dL_law_3190 : decode cL_law 3190 = .ok (.aload_n 1, 1) := sorry
theorem dL_law_3191 : decode cL_law 3191 = .ok (.aload_n 3, 1) := sorry
theorem dL_law_3192 : decode cL_law 3192 = .ok (.invokestatic 315, 3) := sorry
theorem dL_law_3195 : decode cL_law 3195 = .ok (.istore 6, 2) := sorry
theorem dL_law_3197 : decode cL_law 3197 = .ok (.aload_n 2, 1) := sorry
theorem dL_law_3198 : decode cL_law 3198 = .ok (.invokevirtual 318, 3) := sorry
theorem dL_law_3201 : decode cL_law 3201 = .ok (.istore 7, 2) := sorry
theorem dL_law_3203 : decode cL_law 3203 = .ok (.aload_n 2, 1) := sorry
theorem dL_law_3204 : decode cL_law 3204 = .ok (.invokevirtual 160, 3) := sorry
theorem dL_law_3207 : decode cL_law 3207 = .ok (.iload 6, 2) := sorry
theorem dL_law_3209 : decode cL_law 3209 = .ok (.if_icmp .eq 5, 3) := sorry
theorem dL_law_3212 : decode cL_law 3212 = .ok (.iconst 0, 1) := sorry
theorem dL_law_3213 : decode cL_law 3213 = .ok (.ireturn, 1) := sorry
theorem dL_law_3214 : decode cL_law 3214 = .ok (.iload 6, 2) := sorry
theorem dL_law_3216 : decode cL_law 3216 = .ok (.ifCond .ne 15, 3) := sorry
theorem dL_law_3219 : decode cL_law 3219 = .ok (.aload_n 3, 1) := sorry
theorem dL_law_3220 : decode cL_law 3220 = .ok (.iconst 0, 1) := sorry
theorem dL_law_3221 : decode cL_law 3221 = .ok (.laload, 1) := sorry
theorem dL_law_3222 : decode cL_law 3222 = .ok (.iload 7, 2) := sorry
theorem dL_law_3224 : decode cL_law 3224 = .ok (.i2l, 1) := sorry
theorem dL_law_3225 : decode cL_law 3225 = .ok (.lcmp, 1) := sorry
theorem dL_law_3226 : decode cL_law 3226 = .ok (.ifCond .eq 5, 3) := sorry
theorem dL_law_3229 : decode cL_law 3229 = .ok (.iconst 0, 1) := sorry
theorem dL_law_3230 : decode cL_law 3230 = .ok (.ireturn, 1) := sorry
theorem dL_law_3231 : decode cL_law 3231 = .ok (.goto 141, 3) := sorry
theorem dL_law_3234 : decode cL_law 3234 = .ok (.aload_n 1, 1) := sorry
theorem dL_law_3235 : decode cL_law 3235 = .ok (.invokevirtual 319, 3) := sorry
theorem dL_law_3238 : decode cL_law 3238 = .ok (.aload_n 2, 1) := sorry
theorem dL_law_3239 : decode cL_law 3239 = .ok (.invokevirtual 322, 3) := sorry
theorem dL_law_3242 : decode cL_law 3242 = .ok (.if_icmp .eq 130, 3) := sorry
theorem dL_law_3245 : decode cL_law 3245 = .ok (.iconst 0, 1) := sorry
theorem dL_law_3246 : decode cL_law 3246 = .ok (.ireturn, 1) := sorry
theorem dL_law_3247 : decode cL_law 3247 = .ok (.aload_n 1, 1) := sorry
theorem dL_law_3248 : decode cL_law 3248 = .ok (.invokevirtual 323, 3) := sorry
theorem dL_law_3251 : decode cL_law 3251 = .ok (.aload_n 2, 1) := sorry
theorem dL_law_3252 : decode cL_law 3252 = .ok (.invokevirtual 326, 3) := sorry
theorem dL_law_3255 : decode cL_law 3255 = .ok (.if_icmp .eq 117, 3) := sorry
theorem dL_law_3258 : decode cL_law 3258 = .ok (.iconst 0, 1) := sorry
theorem dL_law_3259 : decode cL_law 3259 = .ok (.ireturn, 1) := sorry
theorem dL_law_3260 : decode cL_law 3260 = .ok (.aload_n 1, 1) := sorry
theorem dL_law_3261 : decode cL_law 3261 = .ok (.aload_n 0, 1) := sorry
theorem dL_law_3262 : decode cL_law 3262 = .ok (.iload 5, 2) := sorry
theorem dL_law_3264 : decode cL_law 3264 = .ok (.iconst 1, 1) := sorry
theorem dL_law_3265 : decode cL_law 3265 = .ok (.iadd, 1) := sorry
theorem dL_law_3266 : decode cL_law 3266 = .ok (.iaload, 1) := sorry
theorem dL_law_3267 : decode cL_law 3267 = .ok (.aload_n 3, 1) := sorry
theorem dL_law_3268 : decode cL_law 3268 = .ok (.invokestatic 327, 3) := sorry
theorem dL_law_3271 : decode cL_law 3271 = .ok (.istore 6, 2) := sorry
theorem dL_law_3273 : decode cL_law 3273 = .ok (.aload_n 2, 1) := sorry
theorem dL_law_3274 : decode cL_law 3274 = .ok (.aload_n 0, 1) := sorry
theorem dL_law_3275 : decode cL_law 3275 = .ok (.iload 5, 2) := sorry
theorem dL_law_3277 : decode cL_law 3277 = .ok (.iconst 1, 1) := sorry
theorem dL_law_3278 : decode cL_law 3278 = .ok (.iadd, 1) := sorry
theorem dL_law_3279 : decode cL_law 3279 = .ok (.iaload, 1) := sorry
theorem dL_law_3280 : decode cL_law 3280 = .ok (.invokevirtual 329, 3) := sorry
theorem dL_law_3283 : decode cL_law 3283 = .ok (.istore 7, 2) := sorry
theorem dL_law_3285 : decode cL_law 3285 = .ok (.aload_n 2, 1) := sorry
theorem dL_law_3286 : decode cL_law 3286 = .ok (.invokevirtual 160, 3) := sorry
theorem dL_law_3289 : decode cL_law 3289 = .ok (.iload 6, 2) := sorry
theorem dL_law_3291 : decode cL_law 3291 = .ok (.if_icmp .eq 5, 3) := sorry
theorem dL_law_3294 : decode cL_law 3294 = .ok (.iconst 0, 1) := sorry
theorem dL_law_3295 : decode cL_law 3295 = .ok (.ireturn, 1) := sorry
theorem dL_law_3296 : decode cL_law 3296 = .ok (.iload 6, 2) := sorry
theorem dL_law_3298 : decode cL_law 3298 = .ok (.ifCond .ne 15, 3) := sorry
theorem dL_law_3301 : decode cL_law 3301 = .ok (.aload_n 3, 1) := sorry
theorem dL_law_3302 : decode cL_law 3302 = .ok (.iconst 0, 1) := sorry
theorem dL_law_3303 : decode cL_law 3303 = .ok (.laload, 1) := sorry
theorem dL_law_3304 : decode cL_law 3304 = .ok (.iload 7, 2) := sorry
theorem dL_law_3306 : decode cL_law 3306 = .ok (.i2l, 1) := sorry
theorem dL_law_3307 : decode cL_law 3307 = .ok (.lcmp, 1) := sorry
theorem dL_law_3308 : decode cL_law 3308 = .ok (.ifCond .eq 5, 3) := sorry
theorem dL_law_3311 : decode cL_law 3311 = .ok (.iconst 0, 1) := sorry
theorem dL_law_3312 : decode cL_law 3312 = .ok (.ireturn, 1) := sorry
theorem dL_law_3313 : decode cL_law 3313 = .ok (.goto 59, 3) := sorry
theorem dL_law_3316 : decode cL_law 3316 = .ok (.aload_n 1, 1) := sorry
theorem dL_law_3317 : decode cL_law 3317 = .ok (.aload_n 0, 1) := sorry
theorem dL_law_3318 : decode cL_law 3318 = .ok (.iload 5, 2) := sorry
theorem dL_law_3320 : decode cL_law 3320 = .ok (.iconst 1, 1) := sorry
theorem dL_law_3321 : decode cL_law 3321 = .ok (.iadd, 1) := sorry
theorem dL_law_3322 : decode cL_law 3322 = .ok (.iaload, 1) := sorry
theorem dL_law_3323 : decode cL_law 3323 = .ok (.aload_n 3, 1) := sorry
theorem dL_law_3324 : decode cL_law 3324 = .ok (.invokestatic 330, 3) := sorry
theorem dL_law_3327 : decode cL_law 3327 = .ok (.istore 6, 2) := sorry
theorem dL_law_3329 : decode cL_law 3329 = .ok (.aload_n 2, 1) := sorry
theorem dL_law_3330 : decode cL_law 3330 = .ok (.aload_n 0, 1) := sorry
theorem dL_law_3331 : decode cL_law 3331 = .ok (.iload 5, 2) := sorry
theorem dL_law_3333 : decode cL_law 3333 = .ok (.iconst 1, 1) := sorry
theorem dL_law_3334 : decode cL_law 3334 = .ok (.iadd, 1) := sorry
theorem dL_law_3335 : decode cL_law 3335 = .ok (.iaload, 1) := sorry
theorem dL_law_3336 : decode cL_law 3336 = .ok (.invokevirtual 332, 3) := sorry
theorem dL_law_3339 : decode cL_law 3339 = .ok (.istore 7, 2) := sorry
theorem dL_law_3341 : decode cL_law 3341 = .ok (.aload_n 2, 1) := sorry
theorem dL_law_3342 : decode cL_law 3342 = .ok (.invokevirtual 160, 3) := sorry
theorem dL_law_3345 : decode cL_law 3345 = .ok (.iload 6, 2) := sorry
theorem dL_law_3347 : decode cL_law 3347 = .ok (.if_icmp .eq 5, 3) := sorry
theorem dL_law_3350 : decode cL_law 3350 = .ok (.iconst 0, 1) := sorry
theorem dL_law_3351 : decode cL_law 3351 = .ok (.ireturn, 1) := sorry
theorem dL_law_3352 : decode cL_law 3352 = .ok (.iload 6, 2) := sorry
theorem dL_law_3354 : decode cL_law 3354 = .ok (.ifCond .ne 15, 3) := sorry
theorem dL_law_3357 : decode cL_law 3357 = .ok (.aload_n 3, 1) := sorry
theorem dL_law_3358 : decode cL_law 3358 = .ok (.iconst 0, 1) := sorry
theorem dL_law_3359 : decode cL_law 3359 = .ok (.laload, 1) := sorry
theorem dL_law_3360 : decode cL_law 3360 = .ok (.iload 7, 2) := sorry
theorem dL_law_3362 : decode cL_law 3362 = .ok (.i2l, 1) := sorry
theorem dL_law_3363 : decode cL_law 3363 = .ok (.lcmp, 1) := sorry
theorem dL_law_3364 : decode cL_law 3364 = .ok (.ifCond .eq 5, 3) := sorry
theorem dL_law_3367 : decode cL_law 3367 = .ok (.iconst 0, 1) := sorry
theorem dL_law_3368 : decode cL_law 3368 = .ok (.ireturn, 1) := sorry
theorem dL_law_3369 : decode cL_law 3369 = .ok (.goto 3, 3) := sorry
theorem dL_law_3372 : decode cL_law 3372 = .ok (.iinc 5 6, 3) := sorry
theorem dL_law_3375 : decode cL_law 3375 = .ok (.goto (-3347), 3) := sorry
theorem dL_law_3378 : decode cL_law 3378 = .ok (.iconst 1, 1) := sorry
theorem dL_law_3379 : decode cL_law 3379 = .ok (.ireturn, 1) := sorry
