theorem dL_law_0 : decode cL_law 0 = .ok (.new 8, 3) := by decide +kernel
theorem dL_law_3 : decode cL_law 3 = .ok (.dup, 1) := by decide +kernel
theorem dL_law_4 : decode cL_law 4 = .ok (.invokespecial 136, 3) := by decide +kernel
theorem dL_law_7 : decode cL_law 7 = .ok (.astore_n 1, 1) := by decide +kernel
theorem dL_law_8 : decode cL_law 8 = .ok (.new 137, 3) := by decide +kernel
theorem dL_law_11 : decode cL_law 11 = .ok (.dup, 1) := by decide +kernel
theorem dL_law_12 : decode cL_law 12 = .ok (.invokespecial 139, 3) := by decide +kernel
theorem dL_law_15 : decode cL_law 15 = .ok (.astore_n 2, 1) := by decide +kernel
theorem dL_law_16 : decode cL_law 16 = .ok (.iconst 1, 1) := by decide +kernel
theorem dL_law_17 : decode cL_law 17 = .ok (.newarray .long, 2) := by decide +kernel
theorem dL_law_19 : decode cL_law 19 = .ok (.astore_n 3, 1) := by decide +kernel
theorem dL_law_20 : decode cL_law 20 = .ok (.iconst 0, 1) := by decide +kernel
theorem dL_law_21 : decode cL_law 21 = .ok (.istore 4, 2) := by decide +kernel
theorem dL_law_23 : decode cL_law 23 = .ok (.iload 4, 2) := by decide +kernel
theorem dL_law_25 : decode cL_law 25 = .ok (.aload_n 0, 1) := by decide +kernel
theorem dL_law_26 : decode cL_law 26 = .ok (.arraylength, 1) := by decide +kernel
theorem dL_law_27 : decode cL_law 27 = .ok (.bipush 6, 2) := by decide +kernel
theorem dL_law_29 : decode cL_law 29 = .ok (.isub, 1) := by decide +kernel
theorem dL_law_30 : decode cL_law 30 = .ok (.if_icmp .gt 1790, 3) := by decide +kernel
theorem dL_law_33 : decode cL_law 33 = .ok (.aload_n 0, 1) := by decide +kernel
theorem dL_law_34 : decode cL_law 34 = .ok (.iload 4, 2) := by decide +kernel
theorem dL_law_36 : decode cL_law 36 = .ok (.iaload, 1) := by decide +kernel
theorem dL_law_37 : decode cL_law 37 = .ok (.bipush 63, 2) := by decide +kernel
theorem dL_law_39 : decode cL_law 39 = .ok (.iand, 1) := by decide +kernel
theorem dL_law_40 : decode cL_law 40 = .ok (.tableswitch 1774 0 59 #[256, 329, 357, 370, 383, 396, 409, 422, 435, 448, 461, 474, 487, 500, 513, 526, 554, 582, 610, 638, 666, 694, 722, 750, 763, 776, 804, 817, 845, 885, 925, 953, 966, 979, 1007, 1047, 1075, 1103, 1143, 1183, 1211, 1239, 1267, 1295, 1335, 1363, 1391, 1431, 1459, 1487, 1503, 1543, 1571, 1599, 1612, 1640, 1668, 1681, 1721, 1761], 256) := by decide +kernel
theorem dL_law_296 : decode cL_law 296 = .ok (.aload_n 1, 1) := by decide +kernel
theorem dL_law_297 : decode cL_law 297 = .ok (.aload_n 0, 1) := by decide +kernel
theorem dL_law_298 : decode cL_law 298 = .ok (.iload 4, 2) := by decide +kernel
theorem dL_law_300 : decode cL_law 300 = .ok (.iconst 1, 1) := by decide +kernel
theorem dL_law_301 : decode cL_law 301 = .ok (.iadd, 1) := by decide +kernel
theorem dL_law_302 : decode cL_law 302 = .ok (.iaload, 1) := by decide +kernel
theorem dL_law_303 : decode cL_law 303 = .ok (.aload_n 0, 1) := by decide +kernel
theorem dL_law_304 : decode cL_law 304 = .ok (.iload 4, 2) := by decide +kernel
theorem dL_law_306 : decode cL_law 306 = .ok (.iconst 2, 1) := by decide +kernel
theorem dL_law_307 : decode cL_law 307 = .ok (.iadd, 1) := by decide +kernel
theorem dL_law_308 : decode cL_law 308 = .ok (.iaload, 1) := by decide +kernel
theorem dL_law_309 : decode cL_law 309 = .ok (.aload_n 0, 1) := by decide +kernel
theorem dL_law_310 : decode cL_law 310 = .ok (.iload 4, 2) := by decide +kernel
theorem dL_law_312 : decode cL_law 312 = .ok (.iconst 3, 1) := by decide +kernel
theorem dL_law_313 : decode cL_law 313 = .ok (.iadd, 1) := by decide +kernel
theorem dL_law_314 : decode cL_law 314 = .ok (.iaload, 1) := by decide +kernel
theorem dL_law_315 : decode cL_law 315 = .ok (.aload_n 0, 1) := by decide +kernel
theorem dL_law_316 : decode cL_law 316 = .ok (.iload 4, 2) := by decide +kernel
theorem dL_law_318 : decode cL_law 318 = .ok (.iconst 4, 1) := by decide +kernel
theorem dL_law_319 : decode cL_law 319 = .ok (.iadd, 1) := by decide +kernel
theorem dL_law_320 : decode cL_law 320 = .ok (.iaload, 1) := by decide +kernel
theorem dL_law_321 : decode cL_law 321 = .ok (.aload_n 0, 1) := by decide +kernel
theorem dL_law_322 : decode cL_law 322 = .ok (.iload 4, 2) := by decide +kernel
theorem dL_law_324 : decode cL_law 324 = .ok (.iconst 5, 1) := by decide +kernel
theorem dL_law_325 : decode cL_law 325 = .ok (.iadd, 1) := by decide +kernel
theorem dL_law_326 : decode cL_law 326 = .ok (.iaload, 1) := by decide +kernel
theorem dL_law_327 : decode cL_law 327 = .ok (.invokevirtual 140, 3) := by decide +kernel
theorem dL_law_330 : decode cL_law 330 = .ok (.pop, 1) := by decide +kernel
theorem dL_law_331 : decode cL_law 331 = .ok (.aload_n 2, 1) := by decide +kernel
theorem dL_law_332 : decode cL_law 332 = .ok (.aload_n 0, 1) := by decide +kernel
theorem dL_law_333 : decode cL_law 333 = .ok (.iload 4, 2) := by decide +kernel
theorem dL_law_335 : decode cL_law 335 = .ok (.iconst 1, 1) := by decide +kernel
theorem dL_law_336 : decode cL_law 336 = .ok (.iadd, 1) := by decide +kernel
theorem dL_law_337 : decode cL_law 337 = .ok (.iaload, 1) := by decide +kernel
theorem dL_law_338 : decode cL_law 338 = .ok (.aload_n 0, 1) := by decide +kernel
theorem dL_law_339 : decode cL_law 339 = .ok (.iload 4, 2) := by decide +kernel
theorem dL_law_341 : decode cL_law 341 = .ok (.iconst 2, 1) := by decide +kernel
theorem dL_law_342 : decode cL_law 342 = .ok (.iadd, 1) := by decide +kernel
theorem dL_law_343 : decode cL_law 343 = .ok (.iaload, 1) := by decide +kernel
theorem dL_law_344 : decode cL_law 344 = .ok (.aload_n 0, 1) := by decide +kernel
theorem dL_law_345 : decode cL_law 345 = .ok (.iload 4, 2) := by decide +kernel
theorem dL_law_347 : decode cL_law 347 = .ok (.iconst 3, 1) := by decide +kernel
theorem dL_law_348 : decode cL_law 348 = .ok (.iadd, 1) := by decide +kernel
theorem dL_law_349 : decode cL_law 349 = .ok (.iaload, 1) := by decide +kernel
theorem dL_law_350 : decode cL_law 350 = .ok (.aload_n 0, 1) := by decide +kernel
theorem dL_law_351 : decode cL_law 351 = .ok (.iload 4, 2) := by decide +kernel
theorem dL_law_353 : decode cL_law 353 = .ok (.iconst 4, 1) := by decide +kernel
theorem dL_law_354 : decode cL_law 354 = .ok (.iadd, 1) := by decide +kernel
theorem dL_law_355 : decode cL_law 355 = .ok (.iaload, 1) := by decide +kernel
theorem dL_law_356 : decode cL_law 356 = .ok (.aload_n 0, 1) := by decide +kernel
theorem dL_law_357 : decode cL_law 357 = .ok (.iload 4, 2) := by decide +kernel
theorem dL_law_359 : decode cL_law 359 = .ok (.iconst 5, 1) := by decide +kernel
theorem dL_law_360 : decode cL_law 360 = .ok (.iadd, 1) := by decide +kernel
theorem dL_law_361 : decode cL_law 361 = .ok (.iaload, 1) := by decide +kernel
theorem dL_law_362 : decode cL_law 362 = .ok (.invokevirtual 144, 3) := by decide +kernel
theorem dL_law_365 : decode cL_law 365 = .ok (.pop, 1) := by decide +kernel
theorem dL_law_366 : decode cL_law 366 = .ok (.goto 1448, 3) := by decide +kernel
theorem dL_law_369 : decode cL_law 369 = .ok (.aload_n 1, 1) := by decide +kernel
theorem dL_law_370 : decode cL_law 370 = .ok (.aload_n 0, 1) := by decide +kernel
theorem dL_law_371 : decode cL_law 371 = .ok (.iload 4, 2) := by decide +kernel
theorem dL_law_373 : decode cL_law 373 = .ok (.iconst 1, 1) := by decide +kernel
theorem dL_law_374 : decode cL_law 374 = .ok (.iadd, 1) := by decide +kernel
theorem dL_law_375 : decode cL_law 375 = .ok (.iaload, 1) := by decide +kernel
theorem dL_law_376 : decode cL_law 376 = .ok (.aload_n 3, 1) := by decide +kernel
theorem dL_law_377 : decode cL_law 377 = .ok (.invokestatic 145, 3) := by decide +kernel
theorem dL_law_380 : decode cL_law 380 = .ok (.istore 5, 2) := by decide +kernel
theorem dL_law_382 : decode cL_law 382 = .ok (.aload_n 2, 1) := by decide +kernel
theorem dL_law_383 : decode cL_law 383 = .ok (.aload_n 0, 1) := by decide +kernel
theorem dL_law_384 : decode cL_law 384 = .ok (.iload 4, 2) := by decide +kernel
theorem dL_law_386 : decode cL_law 386 = .ok (.iconst 1, 1) := by decide +kernel
theorem dL_law_387 : decode cL_law 387 = .ok (.iadd, 1) := by decide +kernel
theorem dL_law_388 : decode cL_law 388 = .ok (.iaload, 1) := by decide +kernel
theorem dL_law_389 : decode cL_law 389 = .ok (.invokevirtual 150, 3) := by decide +kernel
theorem dL_law_392 : decode cL_law 392 = .ok (.istore 6, 2) := by decide +kernel
theorem dL_law_394 : decode cL_law 394 = .ok (.goto 1420, 3) := by decide +kernel
theorem dL_law_397 : decode cL_law 397 = .ok (.aload_n 1, 1) := by decide +kernel
theorem dL_law_398 : decode cL_law 398 = .ok (.invokevirtual 151, 3) := by decide +kernel
theorem dL_law_401 : decode cL_law 401 = .ok (.pop, 1) := by decide +kernel
theorem dL_law_402 : decode cL_law 402 = .ok (.aload_n 2, 1) := by decide +kernel
theorem dL_law_403 : decode cL_law 403 = .ok (.invokevirtual 154, 3) := by decide +kernel
theorem dL_law_406 : decode cL_law 406 = .ok (.pop, 1) := by decide +kernel
theorem dL_law_407 : decode cL_law 407 = .ok (.goto 1407, 3) := by decide +kernel
theorem dL_law_410 : decode cL_law 410 = .ok (.aload_n 1, 1) := by decide +kernel
theorem dL_law_411 : decode cL_law 411 = .ok (.invokevirtual 155, 3) := by decide +kernel
theorem dL_law_414 : decode cL_law 414 = .ok (.pop, 1) := by decide +kernel
theorem dL_law_415 : decode cL_law 415 = .ok (.aload_n 2, 1) := by decide +kernel
theorem dL_law_416 : decode cL_law 416 = .ok (.invokevirtual 158, 3) := by decide +kernel
theorem dL_law_419 : decode cL_law 419 = .ok (.pop, 1) := by decide +kernel
theorem dL_law_420 : decode cL_law 420 = .ok (.goto 1394, 3) := by decide +kernel
theorem dL_law_423 : decode cL_law 423 = .ok (.aload_n 1, 1) := by decide +kernel
theorem dL_law_424 : decode cL_law 424 = .ok (.invokevirtual 159, 3) := by decide +kernel
theorem dL_law_427 : decode cL_law 427 = .ok (.pop, 1) := by decide +kernel
theorem dL_law_428 : decode cL_law 428 = .ok (.aload_n 2, 1) := by decide +kernel
theorem dL_law_429 : decode cL_law 429 = .ok (.invokevirtual 162, 3) := by decide +kernel
theorem dL_law_432 : decode cL_law 432 = .ok (.pop, 1) := by decide +kernel
theorem dL_law_433 : decode cL_law 433 = .ok (.goto 1381, 3) := by decide +kernel
theorem dL_law_436 : decode cL_law 436 = .ok (.aload_n 1, 1) := by decide +kernel
theorem dL_law_437 : decode cL_law 437 = .ok (.invokevirtual 163, 3) := by decide +kernel
theorem dL_law_440 : decode cL_law 440 = .ok (.pop, 1) := by decide +kernel
theorem dL_law_441 : decode cL_law 441 = .ok (.aload_n 2, 1) := by decide +kernel
theorem dL_law_442 : decode cL_law 442 = .ok (.invokevirtual 166, 3) := by decide +kernel
theorem dL_law_445 : decode cL_law 445 = .ok (.pop, 1) := by decide +kernel
theorem dL_law_446 : decode cL_law 446 = .ok (.goto 1368, 3) := by decide +kernel
theorem dL_law_449 : decode cL_law 449 = .ok (.aload_n 1, 1) := by decide +kernel
theorem dL_law_450 : decode cL_law 450 = .ok (.invokevirtual 167, 3) := by decide +kernel
theorem dL_law_453 : decode cL_law 453 = .ok (.pop, 1) := by decide +kernel
theorem dL_law_454 : decode cL_law 454 = .ok (.aload_n 2, 1) := by decide +kernel
theorem dL_law_455 : decode cL_law 455 = .ok (.invokevirtual 170, 3) := by decide +kernel
theorem dL_law_458 : decode cL_law 458 = .ok (.pop, 1) := by decide +kernel
theorem dL_law_459 : decode cL_law 459 = .ok (.goto 1355, 3) := by decide +kernel
theorem dL_law_462 : decode cL_law 462 = .ok (.aload_n 1, 1) := by decide +kernel
theorem dL_law_463 : decode cL_law 463 = .ok (.invokevirtual 171, 3) := by decide +kernel
theorem dL_law_466 : decode cL_law 466 = .ok (.pop, 1) := by decide +kernel
theorem dL_law_467 : decode cL_law 467 = .ok (.aload_n 2, 1) := by decide +kernel
theorem dL_law_468 : decode cL_law 468 = .ok (.invokevirtual 174, 3) := by decide +kernel
theorem dL_law_471 : decode cL_law 471 = .ok (.pop, 1) := by decide +kernel
theorem dL_law_472 : decode cL_law 472 = .ok (.goto 1342, 3) := by decide +kernel
theorem dL_law_475 : decode cL_law 475 = .ok (.aload_n 1, 1) := by decide +kernel
theorem dL_law_476 : decode cL_law 476 = .ok (.invokevirtual 175, 3) := by decide +kernel
theorem dL_law_479 : decode cL_law 479 = .ok (.pop, 1) := by decide +kernel
theorem dL_law_480 : decode cL_law 480 = .ok (.aload_n 2, 1) := by decide +kernel
theorem dL_law_481 : decode cL_law 481 = .ok (.invokevirtual 178, 3) := by decide +kernel
theorem dL_law_484 : decode cL_law 484 = .ok (.pop, 1) := by decide +kernel
theorem dL_law_485 : decode cL_law 485 = .ok (.goto 1329, 3) := by decide +kernel
theorem dL_law_488 : decode cL_law 488 = .ok (.aload_n 1, 1) := by decide +kernel
theorem dL_law_489 : decode cL_law 489 = .ok (.invokevirtual 179, 3) := by decide +kernel
theorem dL_law_492 : decode cL_law 492 = .ok (.pop, 1) := by decide +kernel
theorem dL_law_493 : decode cL_law 493 = .ok (.aload_n 2, 1) := by decide +kernel
theorem dL_law_494 : decode cL_law 494 = .ok (.invokevirtual 182, 3) := by decide +kernel
theorem dL_law_497 : decode cL_law 497 = .ok (.pop, 1) := by decide +kernel
theorem dL_law_498 : decode cL_law 498 = .ok (.goto 1316, 3) := by decide +kernel
theorem dL_law_501 : decode cL_law 501 = .ok (.aload_n 1, 1) := by decide +kernel
theorem dL_law_502 : decode cL_law 502 = .ok (.invokevirtual 183, 3) := by decide +kernel
theorem dL_law_505 : decode cL_law 505 = .ok (.pop2, 1) := by decide +kernel
theorem dL_law_506 : decode cL_law 506 = .ok (.aload_n 2, 1) := by decide +kernel
theorem dL_law_507 : decode cL_law 507 = .ok (.invokevirtual 187, 3) := by decide +kernel
theorem dL_law_510 : decode cL_law 510 = .ok (.pop2, 1) := by decide +kernel
theorem dL_law_511 : decode cL_law 511 = .ok (.goto 1303, 3) := by decide +kernel
theorem dL_law_514 : decode cL_law 514 = .ok (.aload_n 1, 1) := by decide +kernel
theorem dL_law_515 : decode cL_law 515 = .ok (.invokevirtual 188, 3) := by decide +kernel
theorem dL_law_518 : decode cL_law 518 = .ok (.pop, 1) := by decide +kernel
theorem dL_law_519 : decode cL_law 519 = .ok (.aload_n 2, 1) := by decide +kernel
theorem dL_law_520 : decode cL_law 520 = .ok (.invokevirtual 191, 3) := by decide +kernel
theorem dL_law_523 : decode cL_law 523 = .ok (.pop, 1) := by decide +kernel
theorem dL_law_524 : decode cL_law 524 = .ok (.goto 1290, 3) := by decide +kernel
theorem dL_law_527 : decode cL_law 527 = .ok (.aload_n 1, 1) := by decide +kernel
theorem dL_law_528 : decode cL_law 528 = .ok (.invokevirtual 192, 3) := by decide +kernel
theorem dL_law_531 : decode cL_law 531 = .ok (.pop, 1) := by decide +kernel
theorem dL_law_532 : decode cL_law 532 = .ok (.aload_n 2, 1) := by decide +kernel
theorem dL_law_533 : decode cL_law 533 = .ok (.invokevirtual 195, 3) := by decide +kernel
theorem dL_law_536 : decode cL_law 536 = .ok (.pop, 1) := by decide +kernel
theorem dL_law_537 : decode cL_law 537 = .ok (.goto 1277, 3) := by decide +kernel
theorem dL_law_540 : decode cL_law 540 = .ok (.aload_n 1, 1) := by decide +kernel
theorem dL_law_541 : decode cL_law 541 = .ok (.invokevirtual 196, 3) := by decide +kernel
theorem dL_law_544 : decode cL_law 544 = .ok (.pop, 1) := by decide +kernel
theorem dL_law_545 : decode cL_law 545 = .ok (.aload_n 2, 1) := by decide +kernel
theorem dL_law_546 : decode cL_law 546 = .ok (.invokevirtual 199, 3) := by decide +kernel
theorem dL_law_549 : decode cL_law 549 = .ok (.pop, 1) := by decide +kernel
theorem dL_law_550 : decode cL_law 550 = .ok (.goto 1264, 3) := by decide +kernel
theorem dL_law_553 : decode cL_law 553 = .ok (.aload_n 1, 1) := by decide +kernel
theorem dL_law_554 : decode cL_law 554 = .ok (.invokevirtual 200, 3) := by decide +kernel
theorem dL_law_557 : decode cL_law 557 = .ok (.pop, 1) := by decide +kernel
theorem dL_law_558 : decode cL_law 558 = .ok (.aload_n 2, 1) := by decide +kernel
theorem dL_law_559 : decode cL_law 559 = .ok (.invokevirtual 203, 3) := by decide +kernel
theorem dL_law_562 : decode cL_law 562 = .ok (.pop, 1) := by decide +kernel
theorem dL_law_563 : decode cL_law 563 = .ok (.goto 1251, 3) := by decide +kernel
theorem dL_law_566 : decode cL_law 566 = .ok (.aload_n 1, 1) := by decide +kernel
theorem dL_law_567 : decode cL_law 567 = .ok (.aload_n 0, 1) := by decide +kernel
theorem dL_law_568 : decode cL_law 568 = .ok (.iload 4, 2) := by decide +kernel
theorem dL_law_570 : decode cL_law 570 = .ok (.iconst 1, 1) := by decide +kernel
theorem dL_law_571 : decode cL_law 571 = .ok (.iadd, 1) := by decide +kernel
theorem dL_law_572 : decode cL_law 572 = .ok (.iaload, 1) := by decide +kernel
theorem dL_law_573 : decode cL_law 573 = .ok (.aload_n 3, 1) := by decide +kernel
theorem dL_law_574 : decode cL_law 574 = .ok (.invokestatic 204, 3) := by decide +kernel
theorem dL_law_577 : decode cL_law 577 = .ok (.istore 5, 2) := by decide +kernel
theorem dL_law_579 : decode cL_law 579 = .ok (.aload_n 2, 1) := by decide +kernel
theorem dL_law_580 : decode cL_law 580 = .ok (.aload_n 0, 1) := by decide +kernel
theorem dL_law_581 : decode cL_law 581 = .ok (.iload 4, 2) := by decide +kernel
theorem dL_law_583 : decode cL_law 583 = .ok (.iconst 1, 1) := by decide +kernel
theorem dL_law_584 : decode cL_law 584 = .ok (.iadd, 1) := by decide +kernel
theorem dL_law_585 : decode cL_law 585 = .ok (.iaload, 1) := by decide +kernel
theorem dL_law_586 : decode cL_law 586 = .ok (.invokevirtual 206, 3) := by decide +kernel
theorem dL_law_589 : decode cL_law 589 = .ok (.istore 6, 2) := by decide +kernel
theorem dL_law_591 : decode cL_law 591 = .ok (.goto 1223, 3) := by decide +kernel
theorem dL_law_594 : decode cL_law 594 = .ok (.aload_n 1, 1) := by decide +kernel
theorem dL_law_595 : decode cL_law 595 = .ok (.aload_n 0, 1) := by decide +kernel
theorem dL_law_596 : decode cL_law 596 = .ok (.iload 4, 2) := by decide +kernel
theorem dL_law_598 : decode cL_law 598 = .ok (.iconst 1, 1) := by decide +kernel
theorem dL_law_599 : decode cL_law 599 = .ok (.iadd, 1) := by decide +kernel
theorem dL_law_600 : decode cL_law 600 = .ok (.iaload, 1) := by decide +kernel
theorem dL_law_601 : decode cL_law 601 = .ok (.aload_n 3, 1) := by decide +kernel
theorem dL_law_602 : decode cL_law 602 = .ok (.invokestatic 207, 3) := by decide +kernel
theorem dL_law_605 : decode cL_law 605 = .ok (.istore 5, 2) := by decide +kernel
theorem dL_law_607 : decode cL_law 607 = .ok (.aload_n 2, 1) := by decide +kernel
theorem dL_law_608 : decode cL_law 608 = .ok (.aload_n 0, 1) := by decide +kernel
theorem dL_law_609 : decode cL_law 609 = .ok (.iload 4, 2) := by decide +kernel
theorem dL_law_611 : decode cL_law 611 = .ok (.iconst 1, 1) := by decide +kernel
theorem dL_law_612 : decode cL_law 612 = .ok (.iadd, 1) := by decide +kernel
theorem dL_law_613 : decode cL_law 613 = .ok (.iaload, 1) := by decide +kernel
theorem dL_law_614 : decode cL_law 614 = .ok (.invokevirtual 209, 3) := by decide +kernel
theorem dL_law_617 : decode cL_law 617 = .ok (.istore 6, 2) := by decide +kernel
theorem dL_law_619 : decode cL_law 619 = .ok (.goto 1195, 3) := by decide +kernel
theorem dL_law_622 : decode cL_law 622 = .ok (.aload_n 1, 1) := by decide +kernel
theorem dL_law_623 : decode cL_law 623 = .ok (.aload_n 0, 1) := by decide +kernel
theorem dL_law_624 : decode cL_law 624 = .ok (.iload 4, 2) := by decide +kernel
theorem dL_law_626 : decode cL_law 626 = .ok (.iconst 1, 1) := by decide +kernel
theorem dL_law_627 : decode cL_law 627 = .ok (.iadd, 1) := by decide +kernel
theorem dL_law_628 : decode cL_law 628 = .ok (.iaload, 1) := by decide +kernel
theorem dL_law_629 : decode cL_law 629 = .ok (.aload_n 3, 1) := by decide +kernel
theorem dL_law_630 : decode cL_law 630 = .ok (.invokestatic 210, 3) := by decide +kernel
theorem dL_law_633 : decode cL_law 633 = .ok (.istore 5, 2) := by decide +kernel
theorem dL_law_635 : decode cL_law 635 = .ok (.aload_n 2, 1) := by decide +kernel
theorem dL_law_636 : decode cL_law 636 = .ok (.aload_n 0, 1) := by decide +kernel
theorem dL_law_637 : decode cL_law 637 = .ok (.iload 4, 2) := by decide +kernel
theorem dL_law_639 : decode cL_law 639 = .ok (.iconst 1, 1) := by decide +kernel
theorem dL_law_640 : decode cL_law 640 = .ok (.iadd, 1) := by decide +kernel
theorem dL_law_641 : decode cL_law 641 = .ok (.iaload, 1) := by decide +kernel
theorem dL_law_642 : decode cL_law 642 = .ok (.invokevirtual 212, 3) := by decide +kernel
theorem dL_law_645 : decode cL_law 645 = .ok (.istore 6, 2) := by decide +kernel
theorem dL_law_647 : decode cL_law 647 = .ok (.goto 1167, 3) := by decide +kernel
theorem dL_law_650 : decode cL_law 650 = .ok (.aload_n 1, 1) := by decide +kernel
theorem dL_law_651 : decode cL_law 651 = .ok (.aload_n 0, 1) := by decide +kernel
theorem dL_law_652 : decode cL_law 652 = .ok (.iload 4, 2) := by decide +kernel
theorem dL_law_654 : decode cL_law 654 = .ok (.iconst 1, 1) := by decide +kernel
theorem dL_law_655 : decode cL_law 655 = .ok (.iadd, 1) := by decide +kernel
theorem dL_law_656 : decode cL_law 656 = .ok (.iaload, 1) := by decide +kernel
theorem dL_law_657 : decode cL_law 657 = .ok (.aload_n 3, 1) := by decide +kernel
theorem dL_law_658 : decode cL_law 658 = .ok (.invokestatic 213, 3) := by decide +kernel
theorem dL_law_661 : decode cL_law 661 = .ok (.istore 5, 2) := by decide +kernel
theorem dL_law_663 : decode cL_law 663 = .ok (.aload_n 2, 1) := by decide +kernel
theorem dL_law_664 : decode cL_law 664 = .ok (.aload_n 0, 1) := by decide +kernel
theorem dL_law_665 : decode cL_law 665 = .ok (.iload 4, 2) := by decide +kernel
theorem dL_law_667 : decode cL_law 667 = .ok (.iconst 1, 1) := by decide +kernel
theorem dL_law_668 : decode cL_law 668 = .ok (.iadd, 1) := by decide +kernel
theorem dL_law_669 : decode cL_law 669 = .ok (.iaload, 1) := by decide +kernel
theorem dL_law_670 : decode cL_law 670 = .ok (.invokevirtual 215, 3) := by decide +kernel
theorem dL_law_673 : decode cL_law 673 = .ok (.istore 6, 2) := by decide +kernel
theorem dL_law_675 : decode cL_law 675 = .ok (.goto 1139, 3) := by decide +kernel
theorem dL_law_678 : decode cL_law 678 = .ok (.aload_n 1, 1) := by decide +kernel
theorem dL_law_679 : decode cL_law 679 = .ok (.aload_n 0, 1) := by decide +kernel
theorem dL_law_680 : decode cL_law 680 = .ok (.iload 4, 2) := by decide +kernel
theorem dL_law_682 : decode cL_law 682 = .ok (.iconst 1, 1) := by decide +kernel
theorem dL_law_683 : decode cL_law 683 = .ok (.iadd, 1) := by decide +kernel
theorem dL_law_684 : decode cL_law 684 = .ok (.iaload, 1) := by decide +kernel
theorem dL_law_685 : decode cL_law 685 = .ok (.aload_n 3, 1) := by decide +kernel
theorem dL_law_686 : decode cL_law 686 = .ok (.invokestatic 216, 3) := by decide +kernel
theorem dL_law_689 : decode cL_law 689 = .ok (.istore 5, 2) := by decide +kernel
theorem dL_law_691 : decode cL_law 691 = .ok (.aload_n 2, 1) := by decide +kernel
theorem dL_law_692 : decode cL_law 692 = .ok (.aload_n 0, 1) := by decide +kernel
theorem dL_law_693 : decode cL_law 693 = .ok (.iload 4, 2) := by decide +kernel
theorem dL_law_695 : decode cL_law 695 = .ok (.iconst 1, 1) := by decide +kernel
theorem dL_law_696 : decode cL_law 696 = .ok (.iadd, 1) := by decide +kernel
theorem dL_law_697 : decode cL_law 697 = .ok (.iaload, 1) := by decide +kernel
theorem dL_law_698 : decode cL_law 698 = .ok (.invokevirtual 218, 3) := by decide +kernel
theorem dL_law_701 : decode cL_law 701 = .ok (.istore 6, 2) := by decide +kernel
theorem dL_law_703 : decode cL_law 703 = .ok (.goto 1111, 3) := by decide +kernel
theorem dL_law_706 : decode cL_law 706 = .ok (.aload_n 1, 1) := by decide +kernel
theorem dL_law_707 : decode cL_law 707 = .ok (.aload_n 0, 1) := by decide +kernel
theorem dL_law_708 : decode cL_law 708 = .ok (.iload 4, 2) := by decide +kernel
theorem dL_law_710 : decode cL_law 710 = .ok (.iconst 1, 1) := by decide +kernel
theorem dL_law_711 : decode cL_law 711 = .ok (.iadd, 1) := by decide +kernel
theorem dL_law_712 : decode cL_law 712 = .ok (.iaload, 1) := by decide +kernel
theorem dL_law_713 : decode cL_law 713 = .ok (.aload_n 3, 1) := by decide +kernel
theorem dL_law_714 : decode cL_law 714 = .ok (.invokestatic 219, 3) := by decide +kernel
theorem dL_law_717 : decode cL_law 717 = .ok (.istore 5, 2) := by decide +kernel
theorem dL_law_719 : decode cL_law 719 = .ok (.aload_n 2, 1) := by decide +kernel
theorem dL_law_720 : decode cL_law 720 = .ok (.aload_n 0, 1) := by decide +kernel
theorem dL_law_721 : decode cL_law 721 = .ok (.iload 4, 2) := by decide +kernel
theorem dL_law_723 : decode cL_law 723 = .ok (.iconst 1, 1) := by decide +kernel
theorem dL_law_724 : decode cL_law 724 = .ok (.iadd, 1) := by decide +kernel
theorem dL_law_725 : decode cL_law 725 = .ok (.iaload, 1) := by decide +kernel
theorem dL_law_726 : decode cL_law 726 = .ok (.invokevirtual 221, 3) := by decide +kernel
theorem dL_law_729 : decode cL_law 729 = .ok (.istore 6, 2) := by decide +kernel
theorem dL_law_731 : decode cL_law 731 = .ok (.goto 1083, 3) := by decide +kernel
theorem dL_law_734 : decode cL_law 734 = .ok (.aload_n 1, 1) := by decide +kernel
theorem dL_law_735 : decode cL_law 735 = .ok (.aload_n 0, 1) := by decide +kernel
theorem dL_law_736 : decode cL_law 736 = .ok (.iload 4, 2) := by decide +kernel
theorem dL_law_738 : decode cL_law 738 = .ok (.iconst 1, 1) := by decide +kernel
theorem dL_law_739 : decode cL_law 739 = .ok (.iadd, 1) := by decide +kernel
theorem dL_law_740 : decode cL_law 740 = .ok (.iaload, 1) := by decide +kernel
theorem dL_law_741 : decode cL_law 741 = .ok (.aload_n 3, 1) := by decide +kernel
theorem dL_law_742 : decode cL_law 742 = .ok (.invokestatic 222, 3) := by decide +kernel
theorem dL_law_745 : decode cL_law 745 = .ok (.istore 5, 2) := by decide +kernel
theorem dL_law_747 : decode cL_law 747 = .ok (.aload_n 2, 1) := by decide +kernel
theorem dL_law_748 : decode cL_law 748 = .ok (.aload_n 0, 1) := by decide +kernel
theorem dL_law_749 : decode cL_law 749 = .ok (.iload 4, 2) := by decide +kernel
theorem dL_law_751 : decode cL_law 751 = .ok (.iconst 1, 1) := by decide +kernel
theorem dL_law_752 : decode cL_law 752 = .ok (.iadd, 1) := by decide +kernel
theorem dL_law_753 : decode cL_law 753 = .ok (.iaload, 1) := by decide +kernel
theorem dL_law_754 : decode cL_law 754 = .ok (.invokevirtual 224, 3) := by decide +kernel
theorem dL_law_757 : decode cL_law 757 = .ok (.istore 6, 2) := by decide +kernel
theorem dL_law_759 : decode cL_law 759 = .ok (.goto 1055, 3) := by decide +kernel
theorem dL_law_762 : decode cL_law 762 = .ok (.aload_n 1, 1) := by decide +kernel
theorem dL_law_763 : decode cL_law 763 = .ok (.aload_n 0, 1) := by decide +kernel
theorem dL_law_764 : decode cL_law 764 = .ok (.iload 4, 2) := by decide +kernel
theorem dL_law_766 : decode cL_law 766 = .ok (.iconst 1, 1) := by decide +kernel
theorem dL_law_767 : decode cL_law 767 = .ok (.iadd, 1) := by decide +kernel
theorem dL_law_768 : decode cL_law 768 = .ok (.iaload, 1) := by decide +kernel
theorem dL_law_769 : decode cL_law 769 = .ok (.aload_n 3, 1) := by decide +kernel
theorem dL_law_770 : decode cL_law 770 = .ok (.invokestatic 225, 3) := by decide +kernel
theorem dL_law_773 : decode cL_law 773 = .ok (.istore 5, 2) := by decide +kernel
theorem dL_law_775 : decode cL_law 775 = .ok (.aload_n 2, 1) := by decide +kernel
theorem dL_law_776 : decode cL_law 776 = .ok (.aload_n 0, 1) := by decide +kernel
theorem dL_law_777 : decode cL_law 777 = .ok (.iload 4, 2) := by decide +kernel
theorem dL_law_779 : decode cL_law 779 = .ok (.iconst 1, 1) := by decide +kernel
theorem dL_law_780 : decode cL_law 780 = .ok (.iadd, 1) := by decide +kernel
theorem dL_law_781 : decode cL_law 781 = .ok (.iaload, 1) := by decide +kernel
theorem dL_law_782 : decode cL_law 782 = .ok (.invokevirtual 227, 3) := by decide +kernel
theorem dL_law_785 : decode cL_law 785 = .ok (.istore 6, 2) := by decide +kernel
theorem dL_law_787 : decode cL_law 787 = .ok (.goto 1027, 3) := by decide +kernel
theorem dL_law_790 : decode cL_law 790 = .ok (.aload_n 1, 1) := by decide +kernel
theorem dL_law_791 : decode cL_law 791 = .ok (.invokevirtual 228, 3) := by decide +kernel
theorem dL_law_794 : decode cL_law 794 = .ok (.pop, 1) := by decide +kernel
theorem dL_law_795 : decode cL_law 795 = .ok (.aload_n 2, 1) := by decide +kernel
theorem dL_law_796 : decode cL_law 796 = .ok (.invokevirtual 231, 3) := by decide +kernel
theorem dL_law_799 : decode cL_law 799 = .ok (.pop, 1) := by decide +kernel
theorem dL_law_800 : decode cL_law 800 = .ok (.goto 1014, 3) := by decide +kernel
theorem dL_law_803 : decode cL_law 803 = .ok (.aload_n 1, 1) := by decide +kernel
theorem dL_law_804 : decode cL_law 804 = .ok (.invokevirtual 232, 3) := by decide +kernel
theorem dL_law_807 : decode cL_law 807 = .ok (.pop, 1) := by decide +kernel
theorem dL_law_808 : decode cL_law 808 = .ok (.aload_n 2, 1) := by decide +kernel
theorem dL_law_809 : decode cL_law 809 = .ok (.invokevirtual 235, 3) := by decide +kernel
theorem dL_law_812 : decode cL_law 812 = .ok (.pop, 1) := by decide +kernel
theorem dL_law_813 : decode cL_law 813 = .ok (.goto 1001, 3) := by decide +kernel
theorem dL_law_816 : decode cL_law 816 = .ok (.aload_n 1, 1) := by decide +kernel
theorem dL_law_817 : decode cL_law 817 = .ok (.aload_n 0, 1) := by decide +kernel
theorem dL_law_818 : decode cL_law 818 = .ok (.iload 4, 2) := by decide +kernel
theorem dL_law_820 : decode cL_law 820 = .ok (.iconst 1, 1) := by decide +kernel
theorem dL_law_821 : decode cL_law 821 = .ok (.iadd, 1) := by decide +kernel
theorem dL_law_822 : decode cL_law 822 = .ok (.iaload, 1) := by decide +kernel
theorem dL_law_823 : decode cL_law 823 = .ok (.aload_n 3, 1) := by decide +kernel
theorem dL_law_824 : decode cL_law 824 = .ok (.invokestatic 236, 3) := by decide +kernel
theorem dL_law_827 : decode cL_law 827 = .ok (.istore 5, 2) := by decide +kernel
theorem dL_law_829 : decode cL_law 829 = .ok (.aload_n 2, 1) := by decide +kernel
theorem dL_law_830 : decode cL_law 830 = .ok (.aload_n 0, 1) := by decide +kernel
theorem dL_law_831 : decode cL_law 831 = .ok (.iload 4, 2) := by decide +kernel
theorem dL_law_833 : decode cL_law 833 = .ok (.iconst 1, 1) := by decide +kernel
theorem dL_law_834 : decode cL_law 834 = .ok (.iadd, 1) := by decide +kernel
theorem dL_law_835 : decode cL_law 835 = .ok (.iaload, 1) := by decide +kernel
theorem dL_law_836 : decode cL_law 836 = .ok (.invokevirtual 238, 3) := by decide +kernel
theorem dL_law_839 : decode cL_law 839 = .ok (.istore 6, 2) := by decide +kernel
theorem dL_law_841 : decode cL_law 841 = .ok (.goto 973, 3) := by decide +kernel
theorem dL_law_844 : decode cL_law 844 = .ok (.aload_n 1, 1) := by decide +kernel
theorem dL_law_845 : decode cL_law 845 = .ok (.invokevirtual 239, 3) := by decide +kernel
theorem dL_law_848 : decode cL_law 848 = .ok (.pop, 1) := by decide +kernel
theorem dL_law_849 : decode cL_law 849 = .ok (.aload_n 2, 1) := by decide +kernel
theorem dL_law_850 : decode cL_law 850 = .ok (.invokevirtual 242, 3) := by decide +kernel
theorem dL_law_853 : decode cL_law 853 = .ok (.pop, 1) := by decide +kernel
theorem dL_law_854 : decode cL_law 854 = .ok (.goto 960, 3) := by decide +kernel
theorem dL_law_857 : decode cL_law 857 = .ok (.aload_n 1, 1) := by decide +kernel
theorem dL_law_858 : decode cL_law 858 = .ok (.aload_n 0, 1) := by decide +kernel
theorem dL_law_859 : decode cL_law 859 = .ok (.iload 4, 2) := by decide +kernel
theorem dL_law_861 : decode cL_law 861 = .ok (.iconst 1, 1) := by decide +kernel
theorem dL_law_862 : decode cL_law 862 = .ok (.iadd, 1) := by decide +kernel
theorem dL_law_863 : decode cL_law 863 = .ok (.iaload, 1) := by decide +kernel
theorem dL_law_864 : decode cL_law 864 = .ok (.aload_n 3, 1) := by decide +kernel
theorem dL_law_865 : decode cL_law 865 = .ok (.invokestatic 243, 3) := by decide +kernel
theorem dL_law_868 : decode cL_law 868 = .ok (.istore 5, 2) := by decide +kernel
theorem dL_law_870 : decode cL_law 870 = .ok (.aload_n 2, 1) := by decide +kernel
theorem dL_law_871 : decode cL_law 871 = .ok (.aload_n 0, 1) := by decide +kernel
theorem dL_law_872 : decode cL_law 872 = .ok (.iload 4, 2) := by decide +kernel
theorem dL_law_874 : decode cL_law 874 = .ok (.iconst 1, 1) := by decide +kernel
theorem dL_law_875 : decode cL_law 875 = .ok (.iadd, 1) := by decide +kernel
theorem dL_law_876 : decode cL_law 876 = .ok (.iaload, 1) := by decide +kernel
theorem dL_law_877 : decode cL_law 877 = .ok (.invokevirtual 245, 3) := by decide +kernel
theorem dL_law_880 : decode cL_law 880 = .ok (.istore 6, 2) := by decide +kernel
theorem dL_law_882 : decode cL_law 882 = .ok (.goto 932, 3) := by decide +kernel
theorem dL_law_885 : decode cL_law 885 = .ok (.aload_n 1, 1) := by decide +kernel
theorem dL_law_886 : decode cL_law 886 = .ok (.aload_n 0, 1) := by decide +kernel
theorem dL_law_887 : decode cL_law 887 = .ok (.iload 4, 2) := by decide +kernel
theorem dL_law_889 : decode cL_law 889 = .ok (.iconst 1, 1) := by decide +kernel
theorem dL_law_890 : decode cL_law 890 = .ok (.iadd, 1) := by decide +kernel
theorem dL_law_891 : decode cL_law 891 = .ok (.iaload, 1) := by decide +kernel
theorem dL_law_892 : decode cL_law 892 = .ok (.aload_n 0, 1) := by decide +kernel
theorem dL_law_893 : decode cL_law 893 = .ok (.iload 4, 2) := by decide +kernel
theorem dL_law_895 : decode cL_law 895 = .ok (.iconst 2, 1) := by decide +kernel
theorem dL_law_896 : decode cL_law 896 = .ok (.iadd, 1) := by decide +kernel
theorem dL_law_897 : decode cL_law 897 = .ok (.iaload, 1) := by decide +kernel
theorem dL_law_898 : decode cL_law 898 = .ok (.aload_n 3, 1) := by decide +kernel
theorem dL_law_899 : decode cL_law 899 = .ok (.invokestatic 246, 3) := by decide +kernel
theorem dL_law_902 : decode cL_law 902 = .ok (.istore 5, 2) := by decide +kernel
theorem dL_law_904 : decode cL_law 904 = .ok (.aload_n 2, 1) := by decide +kernel
theorem dL_law_905 : decode cL_law 905 = .ok (.aload_n 0, 1) := by decide +kernel
theorem dL_law_906 : decode cL_law 906 = .ok (.iload 4, 2) := by decide +kernel
theorem dL_law_908 : decode cL_law 908 = .ok (.iconst 1, 1) := by decide +kernel
theorem dL_law_909 : decode cL_law 909 = .ok (.iadd, 1) := by decide +kernel
theorem dL_law_910 : decode cL_law 910 = .ok (.iaload, 1) := by decide +kernel
theorem dL_law_911 : decode cL_law 911 = .ok (.aload_n 0, 1) := by decide +kernel
theorem dL_law_912 : decode cL_law 912 = .ok (.iload 4, 2) := by decide +kernel
theorem dL_law_914 : decode cL_law 914 = .ok (.iconst 2, 1) := by decide +kernel
theorem dL_law_915 : decode cL_law 915 = .ok (.iadd, 1) := by decide +kernel
theorem dL_law_916 : decode cL_law 916 = .ok (.iaload, 1) := by decide +kernel
theorem dL_law_917 : decode cL_law 917 = .ok (.invokevirtual 249, 3) := by decide +kernel
theorem dL_law_920 : decode cL_law 920 = .ok (.istore 6, 2) := by decide +kernel
theorem dL_law_922 : decode cL_law 922 = .ok (.goto 892, 3) := by decide +kernel
theorem dL_law_925 : decode cL_law 925 = .ok (.aload_n 1, 1) := by decide +kernel
theorem dL_law_926 : decode cL_law 926 = .ok (.aload_n 0, 1) := by decide +kernel
theorem dL_law_927 : decode cL_law 927 = .ok (.iload 4, 2) := by decide +kernel
theorem dL_law_929 : decode cL_law 929 = .ok (.iconst 1, 1) := by decide +kernel
theorem dL_law_930 : decode cL_law 930 = .ok (.iadd, 1) := by decide +kernel
theorem dL_law_931 : decode cL_law 931 = .ok (.iaload, 1) := by decide +kernel
theorem dL_law_932 : decode cL_law 932 = .ok (.aload_n 0, 1) := by decide +kernel
theorem dL_law_933 : decode cL_law 933 = .ok (.iload 4, 2) := by decide +kernel
theorem dL_law_935 : decode cL_law 935 = .ok (.iconst 2, 1) := by decide +kernel
theorem dL_law_936 : decode cL_law 936 = .ok (.iadd, 1) := by decide +kernel
theorem dL_law_937 : decode cL_law 937 = .ok (.iaload, 1) := by decide +kernel
theorem dL_law_938 : decode cL_law 938 = .ok (.aload_n 3, 1) := by decide +kernel
theorem dL_law_939 : decode cL_law 939 = .ok (.invokestatic 250, 3) := by decide +kernel
theorem dL_law_942 : decode cL_law 942 = .ok (.istore 5, 2) := by decide +kernel
theorem dL_law_944 : decode cL_law 944 = .ok (.aload_n 2, 1) := by decide +kernel
theorem dL_law_945 : decode cL_law 945 = .ok (.aload_n 0, 1) := by decide +kernel
theorem dL_law_946 : decode cL_law 946 = .ok (.iload 4, 2) := by decide +kernel
theorem dL_law_948 : decode cL_law 948 = .ok (.iconst 1, 1) := by decide +kernel
theorem dL_law_949 : decode cL_law 949 = .ok (.iadd, 1) := by decide +kernel
theorem dL_law_950 : decode cL_law 950 = .ok (.iaload, 1) := by decide +kernel
theorem dL_law_951 : decode cL_law 951 = .ok (.aload_n 0, 1) := by decide +kernel
theorem dL_law_952 : decode cL_law 952 = .ok (.iload 4, 2) := by decide +kernel
theorem dL_law_954 : decode cL_law 954 = .ok (.iconst 2, 1) := by decide +kernel
theorem dL_law_955 : decode cL_law 955 = .ok (.iadd, 1) := by decide +kernel
theorem dL_law_956 : decode cL_law 956 = .ok (.iaload, 1) := by decide +kernel
theorem dL_law_957 : decode cL_law 957 = .ok (.invokevirtual 252, 3) := by decide +kernel
theorem dL_law_960 : decode cL_law 960 = .ok (.istore 6, 2) := by decide +kernel
theorem dL_law_962 : decode cL_law 962 = .ok (.goto 852, 3) := by decide +kernel
theorem dL_law_965 : decode cL_law 965 = .ok (.aload_n 1, 1) := by decide +kernel
theorem dL_law_966 : decode cL_law 966 = .ok (.aload_n 0, 1) := by decide +kernel
theorem dL_law_967 : decode cL_law 967 = .ok (.iload 4, 2) := by decide +kernel
theorem dL_law_969 : decode cL_law 969 = .ok (.iconst 1, 1) := by decide +kernel
theorem dL_law_970 : decode cL_law 970 = .ok (.iadd, 1) := by decide +kernel
theorem dL_law_971 : decode cL_law 971 = .ok (.iaload, 1) := by decide +kernel
theorem dL_law_972 : decode cL_law 972 = .ok (.aload_n 3, 1) := by decide +kernel
theorem dL_law_973 : decode cL_law 973 = .ok (.invokestatic 253, 3) := by decide +kernel
theorem dL_law_976 : decode cL_law 976 = .ok (.istore 5, 2) := by decide +kernel
theorem dL_law_978 : decode cL_law 978 = .ok (.aload_n 2, 1) := by decide +kernel
theorem dL_law_979 : decode cL_law 979 = .ok (.aload_n 0, 1) := by decide +kernel
theorem dL_law_980 : decode cL_law 980 = .ok (.iload 4, 2) := by decide +kernel
theorem dL_law_982 : decode cL_law 982 = .ok (.iconst 1, 1) := by decide +kernel
theorem dL_law_983 : decode cL_law 983 = .ok (.iadd, 1) := by decide +kernel
theorem dL_law_984 : decode cL_law 984 = .ok (.iaload, 1) := by decide +kernel
theorem dL_law_985 : decode cL_law 985 = .ok (.invokevirtual 255, 3) := by decide +kernel
theorem dL_law_988 : decode cL_law 988 = .ok (.istore 6, 2) := by decide +kernel
theorem dL_law_990 : decode cL_law 990 = .ok (.goto 824, 3) := by decide +kernel
theorem dL_law_993 : decode cL_law 993 = .ok (.aload_n 1, 1) := by decide +kernel
theorem dL_law_994 : decode cL_law 994 = .ok (.invokevirtual 256, 3) := by decide +kernel
theorem dL_law_997 : decode cL_law 997 = .ok (.pop, 1) := by decide +kernel
theorem dL_law_998 : decode cL_law 998 = .ok (.aload_n 2, 1) := by decide +kernel
theorem dL_law_999 : decode cL_law 999 = .ok (.invokevirtual 259, 3) := by decide +kernel
theorem dL_law_1002 : decode cL_law 1002 = .ok (.pop, 1) := by decide +kernel
theorem dL_law_1003 : decode cL_law 1003 = .ok (.goto 811, 3) := by decide +kernel
theorem dL_law_1006 : decode cL_law 1006 = .ok (.aload_n 1, 1) := by decide +kernel
theorem dL_law_1007 : decode cL_law 1007 = .ok (.invokevirtual 260, 3) := by decide +kernel
theorem dL_law_1010 : decode cL_law 1010 = .ok (.pop, 1) := by decide +kernel
theorem dL_law_1011 : decode cL_law 1011 = .ok (.aload_n 2, 1) := by decide +kernel
theorem dL_law_1012 : decode cL_law 1012 = .ok (.invokevirtual 263, 3) := by decide +kernel
theorem dL_law_1015 : decode cL_law 1015 = .ok (.pop, 1) := by decide +kernel
theorem dL_law_1016 : decode cL_law 1016 = .ok (.goto 798, 3) := by decide +kernel
theorem dL_law_1019 : decode cL_law 1019 = .ok (.aload_n 1, 1) := by decide +kernel
theorem dL_law_1020 : decode cL_law 1020 = .ok (.aload_n 0, 1) := by decide +kernel
theorem dL_law_1021 : decode cL_law 1021 = .ok (.iload 4, 2) := by decide +kernel
theorem dL_law_1023 : decode cL_law 1023 = .ok (.iconst 1, 1) := by decide +kernel
theorem dL_law_1024 : decode cL_law 1024 = .ok (.iadd, 1) := by decide +kernel
theorem dL_law_1025 : decode cL_law 1025 = .ok (.iaload, 1) := by decide +kernel
theorem dL_law_1026 : decode cL_law 1026 = .ok (.aload_n 3, 1) := by decide +kernel
theorem dL_law_1027 : decode cL_law 1027 = .ok (.invokestatic 264, 3) := by decide +kernel
theorem dL_law_1030 : decode cL_law 1030 = .ok (.istore 5, 2) := by decide +kernel
theorem dL_law_1032 : decode cL_law 1032 = .ok (.aload_n 2, 1) := by decide +kernel
theorem dL_law_1033 : decode cL_law 1033 = .ok (.aload_n 0, 1) := by decide +kernel
theorem dL_law_1034 : decode cL_law 1034 = .ok (.iload 4, 2) := by decide +kernel
theorem dL_law_1036 : decode cL_law 1036 = .ok (.iconst 1, 1) := by decide +kernel
theorem dL_law_1037 : decode cL_law 1037 = .ok (.iadd, 1) := by decide +kernel
theorem dL_law_1038 : decode cL_law 1038 = .ok (.iaload, 1) := by decide +kernel
theorem dL_law_1039 : decode cL_law 1039 = .ok (.invokevirtual 266, 3) := by decide +kernel
theorem dL_law_1042 : decode cL_law 1042 = .ok (.istore 6, 2) := by decide +kernel
theorem dL_law_1044 : decode cL_law 1044 = .ok (.goto 770, 3) := by decide +kernel
theorem dL_law_1047 : decode cL_law 1047 = .ok (.aload_n 1, 1) := by decide +kernel
theorem dL_law_1048 : decode cL_law 1048 = .ok (.aload_n 0, 1) := by decide +kernel
theorem dL_law_1049 : decode cL_law 1049 = .ok (.iload 4, 2) := by decide +kernel
theorem dL_law_1051 : decode cL_law 1051 = .ok (.iconst 1, 1) := by decide +kernel
theorem dL_law_1052 : decode cL_law 1052 = .ok (.iadd, 1) := by decide +kernel
theorem dL_law_1053 : decode cL_law 1053 = .ok (.iaload, 1) := by decide +kernel
theorem dL_law_1054 : decode cL_law 1054 = .ok (.aload_n 0, 1) := by decide +kernel
theorem dL_law_1055 : decode cL_law 1055 = .ok (.iload 4, 2) := by decide +kernel
theorem dL_law_1057 : decode cL_law 1057 = .ok (.iconst 2, 1) := by decide +kernel
theorem dL_law_1058 : decode cL_law 1058 = .ok (.iadd, 1) := by decide +kernel
theorem dL_law_1059 : decode cL_law 1059 = .ok (.iaload, 1) := by decide +kernel
theorem dL_law_1060 : decode cL_law 1060 = .ok (.aload_n 3, 1) := by decide +kernel
theorem dL_law_1061 : decode cL_law 1061 = .ok (.invokestatic 267, 3) := by decide +kernel
theorem dL_law_1064 : decode cL_law 1064 = .ok (.istore 5, 2) := by decide +kernel
theorem dL_law_1066 : decode cL_law 1066 = .ok (.aload_n 2, 1) := by decide +kernel
theorem dL_law_1067 : decode cL_law 1067 = .ok (.aload_n 0, 1) := by decide +kernel
theorem dL_law_1068 : decode cL_law 1068 = .ok (.iload 4, 2) := by decide +kernel
theorem dL_law_1070 : decode cL_law 1070 = .ok (.iconst 1, 1) := by decide +kernel
theorem dL_law_1071 : decode cL_law 1071 = .ok (.iadd, 1) := by decide +kernel
theorem dL_law_1072 : decode cL_law 1072 = .ok (.iaload, 1) := by decide +kernel
theorem dL_law_1073 : decode cL_law 1073 = .ok (.aload_n 0, 1) := by decide +kernel
theorem dL_law_1074 : decode cL_law 1074 = .ok (.iload 4, 2) := by decide +kernel
theorem dL_law_1076 : decode cL_law 1076 = .ok (.iconst 2, 1) := by decide +kernel
theorem dL_law_1077 : decode cL_law 1077 = .ok (.iadd, 1) := by decide +kernel
theorem dL_law_1078 : decode cL_law 1078 = .ok (.iaload, 1) := by decide +kernel
theorem dL_law_1079 : decode cL_law 1079 = .ok (.invokevirtual 269, 3) := by decide +kernel
theorem dL_law_1082 : decode cL_law 1082 = .ok (.istore 6, 2) := by decide +kernel
theorem dL_law_1084 : decode cL_law 1084 = .ok (.goto 730, 3) := by decide +kernel
theorem dL_law_1087 : decode cL_law 1087 = .ok (.aload_n 1, 1) := by decide +kernel
theorem dL_law_1088 : decode cL_law 1088 = .ok (.aload_n 0, 1) := by decide +kernel
theorem dL_law_1089 : decode cL_law 1089 = .ok (.iload 4, 2) := by decide +kernel
theorem dL_law_1091 : decode cL_law 1091 = .ok (.iconst 1, 1) := by decide +kernel
theorem dL_law_1092 : decode cL_law 1092 = .ok (.iadd, 1) := by decide +kernel
theorem dL_law_1093 : decode cL_law 1093 = .ok (.iaload, 1) := by decide +kernel
theorem dL_law_1094 : decode cL_law 1094 = .ok (.aload_n 3, 1) := by decide +kernel
theorem dL_law_1095 : decode cL_law 1095 = .ok (.invokestatic 270, 3) := by decide +kernel
theorem dL_law_1098 : decode cL_law 1098 = .ok (.istore 5, 2) := by decide +kernel
theorem dL_law_1100 : decode cL_law 1100 = .ok (.aload_n 2, 1) := by decide +kernel
theorem dL_law_1101 : decode cL_law 1101 = .ok (.aload_n 0, 1) := by decide +kernel
theorem dL_law_1102 : decode cL_law 1102 = .ok (.iload 4, 2) := by decide +kernel
theorem dL_law_1104 : decode cL_law 1104 = .ok (.iconst 1, 1) := by decide +kernel
theorem dL_law_1105 : decode cL_law 1105 = .ok (.iadd, 1) := by decide +kernel
theorem dL_law_1106 : decode cL_law 1106 = .ok (.iaload, 1) := by decide +kernel
theorem dL_law_1107 : decode cL_law 1107 = .ok (.invokevirtual 272, 3) := by decide +kernel
theorem dL_law_1110 : decode cL_law 1110 = .ok (.istore 6, 2) := by decide +kernel
theorem dL_law_1112 : decode cL_law 1112 = .ok (.goto 702, 3) := by decide +kernel
theorem dL_law_1115 : decode cL_law 1115 = .ok (.aload_n 1, 1) := by decide +kernel
theorem dL_law_1116 : decode cL_law 1116 = .ok (.aload_n 0, 1) := by decide +kernel
theorem dL_law_1117 : decode cL_law 1117 = .ok (.iload 4, 2) := by decide +kernel
theorem dL_law_1119 : decode cL_law 1119 = .ok (.iconst 1, 1) := by decide +kernel
theorem dL_law_1120 : decode cL_law 1120 = .ok (.iadd, 1) := by decide +kernel
theorem dL_law_1121 : decode cL_law 1121 = .ok (.iaload, 1) := by decide +kernel
theorem dL_law_1122 : decode cL_law 1122 = .ok (.aload_n 3, 1) := by decide +kernel
theorem dL_law_1123 : decode cL_law 1123 = .ok (.invokestatic 273, 3) := by decide +kernel
theorem dL_law_1126 : decode cL_law 1126 = .ok (.istore 5, 2) := by decide +kernel
theorem dL_law_1128 : decode cL_law 1128 = .ok (.aload_n 2, 1) := by decide +kernel
theorem dL_law_1129 : decode cL_law 1129 = .ok (.aload_n 0, 1) := by decide +kernel
theorem dL_law_1130 : decode cL_law 1130 = .ok (.iload 4, 2) := by decide +kernel
theorem dL_law_1132 : decode cL_law 1132 = .ok (.iconst 1, 1) := by decide +kernel
theorem dL_law_1133 : decode cL_law 1133 = .ok (.iadd, 1) := by decide +kernel
theorem dL_law_1134 : decode cL_law 1134 = .ok (.iaload, 1) := by decide +kernel
theorem dL_law_1135 : decode cL_law 1135 = .ok (.invokevirtual 275, 3) := by decide +kernel
