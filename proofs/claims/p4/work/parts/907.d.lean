theorem dL_law_0 : decode cL_law 0 = .ok (.new 8, 3) := by sorry
theorem dL_law_3 : decode cL_law 3 = .ok (.dup, 1) := by sorry
theorem dL_law_4 : decode cL_law 4 = .ok (.invokespecial 136, 3) := by sorry
theorem dL_law_7 : decode cL_law 7 = .ok (.astore_n 1, 1) := by sorry
theorem dL_law_8 : decode cL_law 8 = .ok (.new 137, 3) := by sorry
theorem dL_law_11 : decode cL_law 11 = .ok (.dup, 1) := by sorry
theorem dL_law_12 : decode cL_law 12 = .ok (.invokespecial 139, 3) := by sorry
theorem dL_law_15 : decode cL_law 15 = .ok (.astore_n 2, 1) := by sorry
theorem dL_law_16 : decode cL_law 16 = .ok (.iconst 1, 1) := by sorry
theorem dL_law_17 : decode cL_law 17 = .ok (.newarray .long, 2) := by sorry
theorem dL_law_19 : decode cL_law 19 = .ok (.astore_n 3, 1) := by sorry
theorem dL_law_20 : decode cL_law 20 = .ok (.iconst 0, 1) := by sorry
theorem dL_law_21 : decode cL_law 21 = .ok (.istore 4, 2) := by sorry
theorem dL_law_23 : decode cL_law 23 = .ok (.iload 4, 2) := by sorry
theorem dL_law_25 : decode cL_law 25 = .ok (.aload_n 0, 1) := by sorry
theorem dL_law_26 : decode cL_law 26 = .ok (.arraylength, 1) := by sorry
theorem dL_law_27 : decode cL_law 27 = .ok (.bipush 6, 2) := by sorry
theorem dL_law_29 : decode cL_law 29 = .ok (.isub, 1) := by sorry
theorem dL_law_30 : decode cL_law 30 = .ok (.if_icmp .gt 1790, 3) := by sorry
theorem dL_law_33 : decode cL_law 33 = .ok (.aload_n 0, 1) := by sorry
theorem dL_law_34 : decode cL_law 34 = .ok (.iload 4, 2) := by sorry
theorem dL_law_36 : decode cL_law 36 = .ok (.iaload, 1) := by sorry
theorem dL_law_37 : decode cL_law 37 = .ok (.bipush 63, 2) := by sorry
theorem dL_law_39 : decode cL_law 39 = .ok (.iand, 1) := by sorry
theorem dL_law_40 : decode cL_law 40 = .ok (.tableswitch 1774 0 59 #[256, 329, 357, 370, 383, 396, 409, 422, 435, 448, 461, 474, 487, 500, 513, 526, 554, 582, 610, 638, 666, 694, 722, 750, 763, 776, 804, 817, 845, 885, 925, 953, 966, 979, 1007, 1047, 1075, 1103, 1143, 1183, 1211, 1239, 1267, 1295, 1335, 1363, 1391, 1431, 1459, 1487, 1503, 1543, 1571, 1599, 1612, 1640, 1668, 1681, 1721, 1761], 256) := by sorry
theorem dL_law_296 : decode cL_law 296 = .ok (.aload_n 1, 1) := by sorry
theorem dL_law_297 : decode cL_law 297 = .ok (.aload_n 0, 1) := by sorry
theorem dL_law_298 : decode cL_law 298 = .ok (.iload 4, 2) := by sorry
theorem dL_law_300 : decode cL_law 300 = .ok (.iconst 1, 1) := by sorry
theorem dL_law_301 : decode cL_law 301 = .ok (.iadd, 1) := by sorry
theorem dL_law_302 : decode cL_law 302 = .ok (.iaload, 1) := by sorry
theorem dL_law_303 : decode cL_law 303 = .ok (.aload_n 0, 1) := by sorry
theorem dL_law_304 : decode cL_law 304 = .ok (.iload 4, 2) := by sorry
theorem dL_law_306 : decode cL_law 306 = .ok (.iconst 2, 1) := by sorry
theorem dL_law_307 : decode cL_law 307 = .ok (.iadd, 1) := by sorry
theorem dL_law_308 : decode cL_law 308 = .ok (.iaload, 1) := by sorry
theorem dL_law_309 : decode cL_law 309 = .ok (.aload_n 0, 1) := by sorry
theorem dL_law_310 : decode cL_law 310 = .ok (.iload 4, 2) := by sorry
theorem dL_law_312 : decode cL_law 312 = .ok (.iconst 3, 1) := by sorry
theorem dL_law_313 : decode cL_law 313 = .ok (.iadd, 1) := by sorry
theorem dL_law_314 : decode cL_law 314 = .ok (.iaload, 1) := by sorry
theorem dL_law_315 : decode cL_law 315 = .ok (.aload_n 0, 1) := by sorry
theorem dL_law_316 : decode cL_law 316 = .ok (.iload 4, 2) := by sorry
theorem dL_law_318 : decode cL_law 318 = .ok (.iconst 4, 1) := by sorry
theorem dL_law_319 : decode cL_law 319 = .ok (.iadd, 1) := by sorry
theorem dL_law_320 : decode cL_law 320 = .ok (.iaload, 1) := by sorry
theorem dL_law_321 : decode cL_law 321 = .ok (.aload_n 0, 1) := by sorry
theorem dL_law_322 : decode cL_law 322 = .ok (.iload 4, 2) := by sorry
theorem dL_law_324 : decode cL_law 324 = .ok (.iconst 5, 1) := by sorry
theorem dL_law_325 : decode cL_law 325 = .ok (.iadd, 1) := by sorry
theorem dL_law_326 : decode cL_law 326 = .ok (.iaload, 1) := by sorry
theorem dL_law_327 : decode cL_law 327 = .ok (.invokevirtual 140, 3) := by sorry
theorem dL_law_330 : decode cL_law 330 = .ok (.pop, 1) := by sorry
theorem dL_law_331 : decode cL_law 331 = .ok (.aload_n 2, 1) := by sorry
theorem dL_law_332 : decode cL_law 332 = .ok (.aload_n 0, 1) := by sorry
theorem dL_law_333 : decode cL_law 333 = .ok (.iload 4, 2) := by sorry
theorem dL_law_335 : decode cL_law 335 = .ok (.iconst 1, 1) := by sorry
theorem dL_law_336 : decode cL_law 336 = .ok (.iadd, 1) := by sorry
theorem dL_law_337 : decode cL_law 337 = .ok (.iaload, 1) := by sorry
theorem dL_law_338 : decode cL_law 338 = .ok (.aload_n 0, 1) := by sorry
theorem dL_law_339 : decode cL_law 339 = .ok (.iload 4, 2) := by sorry
theorem dL_law_341 : decode cL_law 341 = .ok (.iconst 2, 1) := by sorry
theorem dL_law_342 : decode cL_law 342 = .ok (.iadd, 1) := by sorry
theorem dL_law_343 : decode cL_law 343 = .ok (.iaload, 1) := by sorry
theorem dL_law_344 : decode cL_law 344 = .ok (.aload_n 0, 1) := by sorry
theorem dL_law_345 : decode cL_law 345 = .ok (.iload 4, 2) := by sorry
theorem dL_law_347 : decode cL_law 347 = .ok (.iconst 3, 1) := by sorry
theorem dL_law_348 : decode cL_law 348 = .ok (.iadd, 1) := by sorry
theorem dL_law_349 : decode cL_law 349 = .ok (.iaload, 1) := by sorry
theorem dL_law_350 : decode cL_law 350 = .ok (.aload_n 0, 1) := by sorry
theorem dL_law_351 : decode cL_law 351 = .ok (.iload 4, 2) := by sorry
theorem dL_law_353 : decode cL_law 353 = .ok (.iconst 4, 1) := by sorry
theorem dL_law_354 : decode cL_law 354 = .ok (.iadd, 1) := by sorry
theorem dL_law_355 : decode cL_law 355 = .ok (.iaload, 1) := by sorry
theorem dL_law_356 : decode cL_law 356 = .ok (.aload_n 0, 1) := by sorry
theorem dL_law_357 : decode cL_law 357 = .ok (.iload 4, 2) := by sorry
theorem dL_law_359 : decode cL_law 359 = .ok (.iconst 5, 1) := by sorry
theorem dL_law_360 : decode cL_law 360 = .ok (.iadd, 1) := by sorry
theorem dL_law_361 : decode cL_law 361 = .ok (.iaload, 1) := by sorry
theorem dL_law_362 : decode cL_law 362 = .ok (.invokevirtual 144, 3) := by sorry
theorem dL_law_365 : decode cL_law 365 = .ok (.pop, 1) := by sorry
theorem dL_law_366 : decode cL_law 366 = .ok (.goto 1448, 3) := by sorry
theorem dL_law_369 : decode cL_law 369 = .ok (.aload_n 1, 1) := by sorry
theorem dL_law_370 : decode cL_law 370 = .ok (.aload_n 0, 1) := by sorry
theorem dL_law_371 : decode cL_law 371 = .ok (.iload 4, 2) := by sorry
theorem dL_law_373 : decode cL_law 373 = .ok (.iconst 1, 1) := by sorry
theorem dL_law_374 : decode cL_law 374 = .ok (.iadd, 1) := by sorry
theorem dL_law_375 : decode cL_law 375 = .ok (.iaload, 1) := by sorry
theorem dL_law_376 : decode cL_law 376 = .ok (.aload_n 3, 1) := by sorry
theorem dL_law_377 : decode cL_law 377 = .ok (.invokestatic 145, 3) := by sorry
theorem dL_law_380 : decode cL_law 380 = .ok (.istore 5, 2) := by sorry
theorem dL_law_382 : decode cL_law 382 = .ok (.aload_n 2, 1) := by sorry
theorem dL_law_383 : decode cL_law 383 = .ok (.aload_n 0, 1) := by sorry
theorem dL_law_384 : decode cL_law 384 = .ok (.iload 4, 2) := by sorry
theorem dL_law_386 : decode cL_law 386 = .ok (.iconst 1, 1) := by sorry
theorem dL_law_387 : decode cL_law 387 = .ok (.iadd, 1) := by sorry
theorem dL_law_388 : decode cL_law 388 = .ok (.iaload, 1) := by sorry
theorem dL_law_389 : decode cL_law 389 = .ok (.invokevirtual 150, 3) := by sorry
theorem dL_law_392 : decode cL_law 392 = .ok (.istore 6, 2) := by sorry
theorem dL_law_394 : decode cL_law 394 = .ok (.goto 1420, 3) := by sorry
theorem dL_law_397 : decode cL_law 397 = .ok (.aload_n 1, 1) := by sorry
theorem dL_law_398 : decode cL_law 398 = .ok (.invokevirtual 151, 3) := by sorry
theorem dL_law_401 : decode cL_law 401 = .ok (.aload_n 2, 1) := by sorry
theorem dL_law_402 : decode cL_law 402 = .ok (.invokevirtual 154, 3) := by sorry
theorem dL_law_405 : decode cL_law 405 = .ok (.if_icmp .eq 1409, 3) := by sorry
theorem dL_law_408 : decode cL_law 408 = .ok (.iconst 0, 1) := by sorry
theorem dL_law_409 : decode cL_law 409 = .ok (.ireturn, 1) := by sorry
theorem dL_law_410 : decode cL_law 410 = .ok (.aload_n 1, 1) := by sorry
theorem dL_law_411 : decode cL_law 411 = .ok (.invokevirtual 155, 3) := by sorry
theorem dL_law_414 : decode cL_law 414 = .ok (.pop, 1) := by sorry
theorem dL_law_415 : decode cL_law 415 = .ok (.aload_n 2, 1) := by sorry
theorem dL_law_416 : decode cL_law 416 = .ok (.invokevirtual 158, 3) := by sorry
theorem dL_law_419 : decode cL_law 419 = .ok (.pop, 1) := by sorry
theorem dL_law_420 : decode cL_law 420 = .ok (.goto 1394, 3) := by sorry
theorem dL_law_423 : decode cL_law 423 = .ok (.aload_n 1, 1) := by sorry
theorem dL_law_424 : decode cL_law 424 = .ok (.invokevirtual 159, 3) := by sorry
theorem dL_law_427 : decode cL_law 427 = .ok (.pop, 1) := by sorry
theorem dL_law_428 : decode cL_law 428 = .ok (.aload_n 2, 1) := by sorry
theorem dL_law_429 : decode cL_law 429 = .ok (.invokevirtual 162, 3) := by sorry
theorem dL_law_432 : decode cL_law 432 = .ok (.pop, 1) := by sorry
theorem dL_law_433 : decode cL_law 433 = .ok (.goto 1381, 3) := by sorry
theorem dL_law_436 : decode cL_law 436 = .ok (.aload_n 1, 1) := by sorry
theorem dL_law_437 : decode cL_law 437 = .ok (.invokevirtual 163, 3) := by sorry
theorem dL_law_440 : decode cL_law 440 = .ok (.pop, 1) := by sorry
theorem dL_law_441 : decode cL_law 441 = .ok (.aload_n 2, 1) := by sorry
theorem dL_law_442 : decode cL_law 442 = .ok (.invokevirtual 166, 3) := by sorry
theorem dL_law_445 : decode cL_law 445 = .ok (.pop, 1) := by sorry
theorem dL_law_446 : decode cL_law 446 = .ok (.goto 1368, 3) := by sorry
theorem dL_law_449 : decode cL_law 449 = .ok (.aload_n 1, 1) := by sorry
theorem dL_law_450 : decode cL_law 450 = .ok (.invokevirtual 167, 3) := by sorry
theorem dL_law_453 : decode cL_law 453 = .ok (.pop, 1) := by sorry
theorem dL_law_454 : decode cL_law 454 = .ok (.aload_n 2, 1) := by sorry
theorem dL_law_455 : decode cL_law 455 = .ok (.invokevirtual 170, 3) := by sorry
theorem dL_law_458 : decode cL_law 458 = .ok (.pop, 1) := by sorry
theorem dL_law_459 : decode cL_law 459 = .ok (.goto 1355, 3) := by sorry
theorem dL_law_462 : decode cL_law 462 = .ok (.aload_n 1, 1) := by sorry
theorem dL_law_463 : decode cL_law 463 = .ok (.invokevirtual 171, 3) := by sorry
theorem dL_law_466 : decode cL_law 466 = .ok (.pop, 1) := by sorry
theorem dL_law_467 : decode cL_law 467 = .ok (.aload_n 2, 1) := by sorry
theorem dL_law_468 : decode cL_law 468 = .ok (.invokevirtual 174, 3) := by sorry
theorem dL_law_471 : decode cL_law 471 = .ok (.pop, 1) := by sorry
theorem dL_law_472 : decode cL_law 472 = .ok (.goto 1342, 3) := by sorry
theorem dL_law_475 : decode cL_law 475 = .ok (.aload_n 1, 1) := by sorry
theorem dL_law_476 : decode cL_law 476 = .ok (.invokevirtual 175, 3) := by sorry
theorem dL_law_479 : decode cL_law 479 = .ok (.pop, 1) := by sorry
theorem dL_law_480 : decode cL_law 480 = .ok (.aload_n 2, 1) := by sorry
theorem dL_law_481 : decode cL_law 481 = .ok (.invokevirtual 178, 3) := by sorry
theorem dL_law_484 : decode cL_law 484 = .ok (.pop, 1) := by sorry
theorem dL_law_485 : decode cL_law 485 = .ok (.goto 1329, 3) := by sorry
theorem dL_law_488 : decode cL_law 488 = .ok (.aload_n 1, 1) := by sorry
theorem dL_law_489 : decode cL_law 489 = .ok (.invokevirtual 179, 3) := by sorry
theorem dL_law_492 : decode cL_law 492 = .ok (.pop, 1) := by sorry
theorem dL_law_493 : decode cL_law 493 = .ok (.aload_n 2, 1) := by sorry
theorem dL_law_494 : decode cL_law 494 = .ok (.invokevirtual 182, 3) := by sorry
theorem dL_law_497 : decode cL_law 497 = .ok (.pop, 1) := by sorry
theorem dL_law_498 : decode cL_law 498 = .ok (.goto 1316, 3) := by sorry
theorem dL_law_501 : decode cL_law 501 = .ok (.aload_n 1, 1) := by sorry
theorem dL_law_502 : decode cL_law 502 = .ok (.invokevirtual 183, 3) := by sorry
theorem dL_law_505 : decode cL_law 505 = .ok (.pop2, 1) := by sorry
theorem dL_law_506 : decode cL_law 506 = .ok (.aload_n 2, 1) := by sorry
theorem dL_law_507 : decode cL_law 507 = .ok (.invokevirtual 187, 3) := by sorry
theorem dL_law_510 : decode cL_law 510 = .ok (.pop2, 1) := by sorry
theorem dL_law_511 : decode cL_law 511 = .ok (.goto 1303, 3) := by sorry
theorem dL_law_514 : decode cL_law 514 = .ok (.aload_n 1, 1) := by sorry
theorem dL_law_515 : decode cL_law 515 = .ok (.invokevirtual 188, 3) := by sorry
theorem dL_law_518 : decode cL_law 518 = .ok (.pop, 1) := by sorry
theorem dL_law_519 : decode cL_law 519 = .ok (.aload_n 2, 1) := by sorry
theorem dL_law_520 : decode cL_law 520 = .ok (.invokevirtual 191, 3) := by sorry
theorem dL_law_523 : decode cL_law 523 = .ok (.pop, 1) := by sorry
theorem dL_law_524 : decode cL_law 524 = .ok (.goto 1290, 3) := by sorry
theorem dL_law_527 : decode cL_law 527 = .ok (.aload_n 1, 1) := by sorry
theorem dL_law_528 : decode cL_law 528 = .ok (.invokevirtual 192, 3) := by sorry
theorem dL_law_531 : decode cL_law 531 = .ok (.pop, 1) := by sorry
theorem dL_law_532 : decode cL_law 532 = .ok (.aload_n 2, 1) := by sorry
theorem dL_law_533 : decode cL_law 533 = .ok (.invokevirtual 195, 3) := by sorry
theorem dL_law_536 : decode cL_law 536 = .ok (.pop, 1) := by sorry
theorem dL_law_537 : decode cL_law 537 = .ok (.goto 1277, 3) := by sorry
theorem dL_law_540 : decode cL_law 540 = .ok (.aload_n 1, 1) := by sorry
theorem dL_law_541 : decode cL_law 541 = .ok (.invokevirtual 196, 3) := by sorry
theorem dL_law_544 : decode cL_law 544 = .ok (.pop, 1) := by sorry
theorem dL_law_545 : decode cL_law 545 = .ok (.aload_n 2, 1) := by sorry
theorem dL_law_546 : decode cL_law 546 = .ok (.invokevirtual 199, 3) := by sorry
theorem dL_law_549 : decode cL_law 549 = .ok (.pop, 1) := by sorry
theorem dL_law_550 : decode cL_law 550 = .ok (.goto 1264, 3) := by sorry
theorem dL_law_553 : decode cL_law 553 = .ok (.aload_n 1, 1) := by sorry
theorem dL_law_554 : decode cL_law 554 = .ok (.invokevirtual 200, 3) := by sorry
theorem dL_law_557 : decode cL_law 557 = .ok (.pop, 1) := by sorry
theorem dL_law_558 : decode cL_law 558 = .ok (.aload_n 2, 1) := by sorry
theorem dL_law_559 : decode cL_law 559 = .ok (.invokevirtual 203, 3) := by sorry
theorem dL_law_562 : decode cL_law 562 = .ok (.pop, 1) := by sorry
theorem dL_law_563 : decode cL_law 563 = .ok (.goto 1251, 3) := by sorry
theorem dL_law_566 : decode cL_law 566 = .ok (.aload_n 1, 1) := by sorry
theorem dL_law_567 : decode cL_law 567 = .ok (.aload_n 0, 1) := by sorry
theorem dL_law_568 : decode cL_law 568 = .ok (.iload 4, 2) := by sorry
theorem dL_law_570 : decode cL_law 570 = .ok (.iconst 1, 1) := by sorry
theorem dL_law_571 : decode cL_law 571 = .ok (.iadd, 1) := by sorry
theorem dL_law_572 : decode cL_law 572 = .ok (.iaload, 1) := by sorry
theorem dL_law_573 : decode cL_law 573 = .ok (.aload_n 3, 1) := by sorry
theorem dL_law_574 : decode cL_law 574 = .ok (.invokestatic 204, 3) := by sorry
theorem dL_law_577 : decode cL_law 577 = .ok (.istore 5, 2) := by sorry
theorem dL_law_579 : decode cL_law 579 = .ok (.aload_n 2, 1) := by sorry
theorem dL_law_580 : decode cL_law 580 = .ok (.aload_n 0, 1) := by sorry
theorem dL_law_581 : decode cL_law 581 = .ok (.iload 4, 2) := by sorry
theorem dL_law_583 : decode cL_law 583 = .ok (.iconst 1, 1) := by sorry
theorem dL_law_584 : decode cL_law 584 = .ok (.iadd, 1) := by sorry
theorem dL_law_585 : decode cL_law 585 = .ok (.iaload, 1) := by sorry
theorem dL_law_586 : decode cL_law 586 = .ok (.invokevirtual 206, 3) := by sorry
theorem dL_law_589 : decode cL_law 589 = .ok (.istore 6, 2) := by sorry
theorem dL_law_591 : decode cL_law 591 = .ok (.goto 1223, 3) := by sorry
theorem dL_law_594 : decode cL_law 594 = .ok (.aload_n 1, 1) := by sorry
theorem dL_law_595 : decode cL_law 595 = .ok (.aload_n 0, 1) := by sorry
theorem dL_law_596 : decode cL_law 596 = .ok (.iload 4, 2) := by sorry
theorem dL_law_598 : decode cL_law 598 = .ok (.iconst 1, 1) := by sorry
theorem dL_law_599 : decode cL_law 599 = .ok (.iadd, 1) := by sorry
theorem dL_law_600 : decode cL_law 600 = .ok (.iaload, 1) := by sorry
theorem dL_law_601 : decode cL_law 601 = .ok (.aload_n 3, 1) := by sorry
theorem dL_law_602 : decode cL_law 602 = .ok (.invokestatic 207, 3) := by sorry
theorem dL_law_605 : decode cL_law 605 = .ok (.istore 5, 2) := by sorry
theorem dL_law_607 : decode cL_law 607 = .ok (.aload_n 2, 1) := by sorry
theorem dL_law_608 : decode cL_law 608 = .ok (.aload_n 0, 1) := by sorry
theorem dL_law_609 : decode cL_law 609 = .ok (.iload 4, 2) := by sorry
theorem dL_law_611 : decode cL_law 611 = .ok (.iconst 1, 1) := by sorry
theorem dL_law_612 : decode cL_law 612 = .ok (.iadd, 1) := by sorry
theorem dL_law_613 : decode cL_law 613 = .ok (.iaload, 1) := by sorry
theorem dL_law_614 : decode cL_law 614 = .ok (.invokevirtual 209, 3) := by sorry
theorem dL_law_617 : decode cL_law 617 = .ok (.istore 6, 2) := by sorry
theorem dL_law_619 : decode cL_law 619 = .ok (.goto 1195, 3) := by sorry
theorem dL_law_622 : decode cL_law 622 = .ok (.aload_n 1, 1) := by sorry
theorem dL_law_623 : decode cL_law 623 = .ok (.aload_n 0, 1) := by sorry
theorem dL_law_624 : decode cL_law 624 = .ok (.iload 4, 2) := by sorry
theorem dL_law_626 : decode cL_law 626 = .ok (.iconst 1, 1) := by sorry
theorem dL_law_627 : decode cL_law 627 = .ok (.iadd, 1) := by sorry
theorem dL_law_628 : decode cL_law 628 = .ok (.iaload, 1) := by sorry
theorem dL_law_629 : decode cL_law 629 = .ok (.aload_n 3, 1) := by sorry
theorem dL_law_630 : decode cL_law 630 = .ok (.invokestatic 210, 3) := by sorry
theorem dL_law_633 : decode cL_law 633 = .ok (.istore 5, 2) := by sorry
theorem dL_law_635 : decode cL_law 635 = .ok (.aload_n 2, 1) := by sorry
theorem dL_law_636 : decode cL_law 636 = .ok (.aload_n 0, 1) := by sorry
theorem dL_law_637 : decode cL_law 637 = .ok (.iload 4, 2) := by sorry
theorem dL_law_639 : decode cL_law 639 = .ok (.iconst 1, 1) := by sorry
theorem dL_law_640 : decode cL_law 640 = .ok (.iadd, 1) := by sorry
theorem dL_law_641 : decode cL_law 641 = .ok (.iaload, 1) := by sorry
theorem dL_law_642 : decode cL_law 642 = .ok (.invokevirtual 212, 3) := by sorry
theorem dL_law_645 : decode cL_law 645 = .ok (.istore 6, 2) := by sorry
theorem dL_law_647 : decode cL_law 647 = .ok (.goto 1167, 3) := by sorry
theorem dL_law_650 : decode cL_law 650 = .ok (.aload_n 1, 1) := by sorry
theorem dL_law_651 : decode cL_law 651 = .ok (.aload_n 0, 1) := by sorry
theorem dL_law_652 : decode cL_law 652 = .ok (.iload 4, 2) := by sorry
theorem dL_law_654 : decode cL_law 654 = .ok (.iconst 1, 1) := by sorry
theorem dL_law_655 : decode cL_law 655 = .ok (.iadd, 1) := by sorry
theorem dL_law_656 : decode cL_law 656 = .ok (.iaload, 1) := by sorry
theorem dL_law_657 : decode cL_law 657 = .ok (.aload_n 3, 1) := by sorry
theorem dL_law_658 : decode cL_law 658 = .ok (.invokestatic 213, 3) := by sorry
theorem dL_law_661 : decode cL_law 661 = .ok (.istore 5, 2) := by sorry
theorem dL_law_663 : decode cL_law 663 = .ok (.aload_n 2, 1) := by sorry
theorem dL_law_664 : decode cL_law 664 = .ok (.aload_n 0, 1) := by sorry
theorem dL_law_665 : decode cL_law 665 = .ok (.iload 4, 2) := by sorry
theorem dL_law_667 : decode cL_law 667 = .ok (.iconst 1, 1) := by sorry
theorem dL_law_668 : decode cL_law 668 = .ok (.iadd, 1) := by sorry
theorem dL_law_669 : decode cL_law 669 = .ok (.iaload, 1) := by sorry
theorem dL_law_670 : decode cL_law 670 = .ok (.invokevirtual 215, 3) := by sorry
theorem dL_law_673 : decode cL_law 673 = .ok (.istore 6, 2) := by sorry
theorem dL_law_675 : decode cL_law 675 = .ok (.goto 1139, 3) := by sorry
theorem dL_law_678 : decode cL_law 678 = .ok (.aload_n 1, 1) := by sorry
theorem dL_law_679 : decode cL_law 679 = .ok (.aload_n 0, 1) := by sorry
theorem dL_law_680 : decode cL_law 680 = .ok (.iload 4, 2) := by sorry
theorem dL_law_682 : decode cL_law 682 = .ok (.iconst 1, 1) := by sorry
theorem dL_law_683 : decode cL_law 683 = .ok (.iadd, 1) := by sorry
theorem dL_law_684 : decode cL_law 684 = .ok (.iaload, 1) := by sorry
theorem dL_law_685 : decode cL_law 685 = .ok (.aload_n 3, 1) := by sorry
theorem dL_law_686 : decode cL_law 686 = .ok (.invokestatic 216, 3) := by sorry
theorem dL_law_689 : decode cL_law 689 = .ok (.istore 5, 2) := by sorry
theorem dL_law_691 : decode cL_law 691 = .ok (.aload_n 2, 1) := by sorry
theorem dL_law_692 : decode cL_law 692 = .ok (.aload_n 0, 1) := by sorry
theorem dL_law_693 : decode cL_law 693 = .ok (.iload 4, 2) := by sorry
theorem dL_law_695 : decode cL_law 695 = .ok (.iconst 1, 1) := by sorry
theorem dL_law_696 : decode cL_law 696 = .ok (.iadd, 1) := by sorry
theorem dL_law_697 : decode cL_law 697 = .ok (.iaload, 1) := by sorry
theorem dL_law_698 : decode cL_law 698 = .ok (.invokevirtual 218, 3) := by sorry
theorem dL_law_701 : decode cL_law 701 = .ok (.istore 6, 2) := by sorry
theorem dL_law_703 : decode cL_law 703 = .ok (.goto 1111, 3) := by sorry
theorem dL_law_706 : decode cL_law 706 = .ok (.aload_n 1, 1) := by sorry
theorem dL_law_707 : decode cL_law 707 = .ok (.aload_n 0, 1) := by sorry
theorem dL_law_708 : decode cL_law 708 = .ok (.iload 4, 2) := by sorry
theorem dL_law_710 : decode cL_law 710 = .ok (.iconst 1, 1) := by sorry
theorem dL_law_711 : decode cL_law 711 = .ok (.iadd, 1) := by sorry
theorem dL_law_712 : decode cL_law 712 = .ok (.iaload, 1) := by sorry
theorem dL_law_713 : decode cL_law 713 = .ok (.aload_n 3, 1) := by sorry
theorem dL_law_714 : decode cL_law 714 = .ok (.invokestatic 219, 3) := by sorry
theorem dL_law_717 : decode cL_law 717 = .ok (.istore 5, 2) := by sorry
theorem dL_law_719 : decode cL_law 719 = .ok (.aload_n 2, 1) := by sorry
theorem dL_law_720 : decode cL_law 720 = .ok (.aload_n 0, 1) := by sorry
theorem dL_law_721 : decode cL_law 721 = .ok (.iload 4, 2) := by sorry
theorem dL_law_723 : decode cL_law 723 = .ok (.iconst 1, 1) := by sorry
theorem dL_law_724 : decode cL_law 724 = .ok (.iadd, 1) := by sorry
theorem dL_law_725 : decode cL_law 725 = .ok (.iaload, 1) := by sorry
theorem dL_law_726 : decode cL_law 726 = .ok (.invokevirtual 221, 3) := by sorry
theorem dL_law_729 : decode cL_law 729 = .ok (.istore 6, 2) := by sorry
theorem dL_law_731 : decode cL_law 731 = .ok (.goto 1083, 3) := by sorry
theorem dL_law_734 : decode cL_law 734 = .ok (.aload_n 1, 1) := by sorry
theorem dL_law_735 : decode cL_law 735 = .ok (.aload_n 0, 1) := by sorry
theorem dL_law_736 : decode cL_law 736 = .ok (.iload 4, 2) := by sorry
theorem dL_law_738 : decode cL_law 738 = .ok (.iconst 1, 1) := by sorry
theorem dL_law_739 : decode cL_law 739 = .ok (.iadd, 1) := by sorry
theorem dL_law_740 : decode cL_law 740 = .ok (.iaload, 1) := by sorry
theorem dL_law_741 : decode cL_law 741 = .ok (.aload_n 3, 1) := by sorry
theorem dL_law_742 : decode cL_law 742 = .ok (.invokestatic 222, 3) := by sorry
theorem dL_law_745 : decode cL_law 745 = .ok (.istore 5, 2) := by sorry
theorem dL_law_747 : decode cL_law 747 = .ok (.aload_n 2, 1) := by sorry
theorem dL_law_748 : decode cL_law 748 = .ok (.aload_n 0, 1) := by sorry
theorem dL_law_749 : decode cL_law 749 = .ok (.iload 4, 2) := by sorry
theorem dL_law_751 : decode cL_law 751 = .ok (.iconst 1, 1) := by sorry
theorem dL_law_752 : decode cL_law 752 = .ok (.iadd, 1) := by sorry
theorem dL_law_753 : decode cL_law 753 = .ok (.iaload, 1) := by sorry
theorem dL_law_754 : decode cL_law 754 = .ok (.invokevirtual 224, 3) := by sorry
theorem dL_law_757 : decode cL_law 757 = .ok (.istore 6, 2) := by sorry
theorem dL_law_759 : decode cL_law 759 = .ok (.goto 1055, 3) := by sorry
theorem dL_law_762 : decode cL_law 762 = .ok (.aload_n 1, 1) := by sorry
theorem dL_law_763 : decode cL_law 763 = .ok (.aload_n 0, 1) := by sorry
theorem dL_law_764 : decode cL_law 764 = .ok (.iload 4, 2) := by sorry
theorem dL_law_766 : decode cL_law 766 = .ok (.iconst 1, 1) := by sorry
theorem dL_law_767 : decode cL_law 767 = .ok (.iadd, 1) := by sorry
theorem dL_law_768 : decode cL_law 768 = .ok (.iaload, 1) := by sorry
theorem dL_law_769 : decode cL_law 769 = .ok (.aload_n 3, 1) := by sorry
theorem dL_law_770 : decode cL_law 770 = .ok (.invokestatic 225, 3) := by sorry
theorem dL_law_773 : decode cL_law 773 = .ok (.istore 5, 2) := by sorry
theorem dL_law_775 : decode cL_law 775 = .ok (.aload_n 2, 1) := by sorry
theorem dL_law_776 : decode cL_law 776 = .ok (.aload_n 0, 1) := by sorry
theorem dL_law_777 : decode cL_law 777 = .ok (.iload 4, 2) := by sorry
theorem dL_law_779 : decode cL_law 779 = .ok (.iconst 1, 1) := by sorry
theorem dL_law_780 : decode cL_law 780 = .ok (.iadd, 1) := by sorry
theorem dL_law_781 : decode cL_law 781 = .ok (.iaload, 1) := by sorry
theorem dL_law_782 : decode cL_law 782 = .ok (.invokevirtual 227, 3) := by sorry
theorem dL_law_785 : decode cL_law 785 = .ok (.istore 6, 2) := by sorry
theorem dL_law_787 : decode cL_law 787 = .ok (.goto 1027, 3) := by sorry
theorem dL_law_790 : decode cL_law 790 = .ok (.aload_n 1, 1) := by sorry
theorem dL_law_791 : decode cL_law 791 = .ok (.invokevirtual 228, 3) := by sorry
theorem dL_law_794 : decode cL_law 794 = .ok (.pop, 1) := by sorry
theorem dL_law_795 : decode cL_law 795 = .ok (.aload_n 2, 1) := by sorry
theorem dL_law_796 : decode cL_law 796 = .ok (.invokevirtual 231, 3) := by sorry
theorem dL_law_799 : decode cL_law 799 = .ok (.pop, 1) := by sorry
theorem dL_law_800 : decode cL_law 800 = .ok (.goto 1014, 3) := by sorry
theorem dL_law_803 : decode cL_law 803 = .ok (.aload_n 1, 1) := by sorry
theorem dL_law_804 : decode cL_law 804 = .ok (.invokevirtual 232, 3) := by sorry
theorem dL_law_807 : decode cL_law 807 = .ok (.pop, 1) := by sorry
theorem dL_law_808 : decode cL_law 808 = .ok (.aload_n 2, 1) := by sorry
theorem dL_law_809 : decode cL_law 809 = .ok (.invokevirtual 235, 3) := by sorry
theorem dL_law_812 : decode cL_law 812 = .ok (.pop, 1) := by sorry
theorem dL_law_813 : decode cL_law 813 = .ok (.goto 1001, 3) := by sorry
theorem dL_law_816 : decode cL_law 816 = .ok (.aload_n 1, 1) := by sorry
theorem dL_law_817 : decode cL_law 817 = .ok (.aload_n 0, 1) := by sorry
theorem dL_law_818 : decode cL_law 818 = .ok (.iload 4, 2) := by sorry
theorem dL_law_820 : decode cL_law 820 = .ok (.iconst 1, 1) := by sorry
theorem dL_law_821 : decode cL_law 821 = .ok (.iadd, 1) := by sorry
theorem dL_law_822 : decode cL_law 822 = .ok (.iaload, 1) := by sorry
theorem dL_law_823 : decode cL_law 823 = .ok (.aload_n 3, 1) := by sorry
theorem dL_law_824 : decode cL_law 824 = .ok (.invokestatic 236, 3) := by sorry
theorem dL_law_827 : decode cL_law 827 = .ok (.istore 5, 2) := by sorry
theorem dL_law_829 : decode cL_law 829 = .ok (.aload_n 2, 1) := by sorry
theorem dL_law_830 : decode cL_law 830 = .ok (.aload_n 0, 1) := by sorry
theorem dL_law_831 : decode cL_law 831 = .ok (.iload 4, 2) := by sorry
theorem dL_law_833 : decode cL_law 833 = .ok (.iconst 1, 1) := by sorry
theorem dL_law_834 : decode cL_law 834 = .ok (.iadd, 1) := by sorry
theorem dL_law_835 : decode cL_law 835 = .ok (.iaload, 1) := by sorry
theorem dL_law_836 : decode cL_law 836 = .ok (.invokevirtual 238, 3) := by sorry
theorem dL_law_839 : decode cL_law 839 = .ok (.istore 6, 2) := by sorry
theorem dL_law_841 : decode cL_law 841 = .ok (.goto 973, 3) := by sorry
theorem dL_law_844 : decode cL_law 844 = .ok (.aload_n 1, 1) := by sorry
theorem dL_law_845 : decode cL_law 845 = .ok (.invokevirtual 239, 3) := by sorry
theorem dL_law_848 : decode cL_law 848 = .ok (.pop, 1) := by sorry
theorem dL_law_849 : decode cL_law 849 = .ok (.aload_n 2, 1) := by sorry
theorem dL_law_850 : decode cL_law 850 = .ok (.invokevirtual 242, 3) := by sorry
theorem dL_law_853 : decode cL_law 853 = .ok (.pop, 1) := by sorry
theorem dL_law_854 : decode cL_law 854 = .ok (.goto 960, 3) := by sorry
theorem dL_law_857 : decode cL_law 857 = .ok (.aload_n 1, 1) := by sorry
theorem dL_law_858 : decode cL_law 858 = .ok (.aload_n 0, 1) := by sorry
theorem dL_law_859 : decode cL_law 859 = .ok (.iload 4, 2) := by sorry
theorem dL_law_861 : decode cL_law 861 = .ok (.iconst 1, 1) := by sorry
theorem dL_law_862 : decode cL_law 862 = .ok (.iadd, 1) := by sorry
theorem dL_law_863 : decode cL_law 863 = .ok (.iaload, 1) := by sorry
theorem dL_law_864 : decode cL_law 864 = .ok (.aload_n 3, 1) := by sorry
theorem dL_law_865 : decode cL_law 865 = .ok (.invokestatic 243, 3) := by sorry
theorem dL_law_868 : decode cL_law 868 = .ok (.istore 5, 2) := by sorry
theorem dL_law_870 : decode cL_law 870 = .ok (.aload_n 2, 1) := by sorry
theorem dL_law_871 : decode cL_law 871 = .ok (.aload_n 0, 1) := by sorry
theorem dL_law_872 : decode cL_law 872 = .ok (.iload 4, 2) := by sorry
theorem dL_law_874 : decode cL_law 874 = .ok (.iconst 1, 1) := by sorry
theorem dL_law_875 : decode cL_law 875 = .ok (.iadd, 1) := by sorry
theorem dL_law_876 : decode cL_law 876 = .ok (.iaload, 1) := by sorry
theorem dL_law_877 : decode cL_law 877 = .ok (.invokevirtual 245, 3) := by sorry
theorem dL_law_880 : decode cL_law 880 = .ok (.istore 6, 2) := by sorry
theorem dL_law_882 : decode cL_law 882 = .ok (.goto 932, 3) := by sorry
theorem dL_law_885 : decode cL_law 885 = .ok (.aload_n 1, 1) := by sorry
theorem dL_law_886 : decode cL_law 886 = .ok (.aload_n 0, 1) := by sorry
theorem dL_law_887 : decode cL_law 887 = .ok (.iload 4, 2) := by sorry
theorem dL_law_889 : decode cL_law 889 = .ok (.iconst 1, 1) := by sorry
theorem dL_law_890 : decode cL_law 890 = .ok (.iadd, 1) := by sorry
theorem dL_law_891 : decode cL_law 891 = .ok (.iaload, 1) := by sorry
theorem dL_law_892 : decode cL_law 892 = .ok (.aload_n 0, 1) := by sorry
theorem dL_law_893 : decode cL_law 893 = .ok (.iload 4, 2) := by sorry
theorem dL_law_895 : decode cL_law 895 = .ok (.iconst 2, 1) := by sorry
theorem dL_law_896 : decode cL_law 896 = .ok (.iadd, 1) := by sorry
theorem dL_law_897 : decode cL_law 897 = .ok (.iaload, 1) := by sorry
theorem dL_law_898 : decode cL_law 898 = .ok (.aload_n 3, 1) := by sorry
theorem dL_law_899 : decode cL_law 899 = .ok (.invokestatic 246, 3) := by sorry
theorem dL_law_902 : decode cL_law 902 = .ok (.istore 5, 2) := by sorry
theorem dL_law_904 : decode cL_law 904 = .ok (.aload_n 2, 1) := by sorry
theorem dL_law_905 : decode cL_law 905 = .ok (.aload_n 0, 1) := by sorry
theorem dL_law_906 : decode cL_law 906 = .ok (.iload 4, 2) := by sorry
theorem dL_law_908 : decode cL_law 908 = .ok (.iconst 1, 1) := by sorry
theorem dL_law_909 : decode cL_law 909 = .ok (.iadd, 1) := by sorry
theorem dL_law_910 : decode cL_law 910 = .ok (.iaload, 1) := by sorry
theorem dL_law_911 : decode cL_law 911 = .ok (.aload_n 0, 1) := by sorry
theorem dL_law_912 : decode cL_law 912 = .ok (.iload 4, 2) := by sorry
theorem dL_law_914 : decode cL_law 914 = .ok (.iconst 2, 1) := by sorry
theorem dL_law_915 : decode cL_law 915 = .ok (.iadd, 1) := by sorry
theorem dL_law_916 : decode cL_law 916 = .ok (.iaload, 1) := by sorry
theorem dL_law_917 : decode cL_law 917 = .ok (.invokevirtual 249, 3) := by sorry
theorem dL_law_920 : decode cL_law 920 = .ok (.istore 6, 2) := by sorry
theorem dL_law_922 : decode cL_law 922 = .ok (.goto 892, 3) := by sorry
theorem dL_law_925 : decode cL_law 925 = .ok (.aload_n 1, 1) := by sorry
theorem dL_law_926 : decode cL_law 926 = .ok (.aload_n 0, 1) := by sorry
theorem dL_law_927 : decode cL_law 927 = .ok (.iload 4, 2) := by sorry
theorem dL_law_929 : decode cL_law 929 = .ok (.iconst 1, 1) := by sorry
theorem dL_law_930 : decode cL_law 930 = .ok (.iadd, 1) := by sorry
theorem dL_law_931 : decode cL_law 931 = .ok (.iaload, 1) := by sorry
theorem dL_law_932 : decode cL_law 932 = .ok (.aload_n 0, 1) := by sorry
theorem dL_law_933 : decode cL_law 933 = .ok (.iload 4, 2) := by sorry
theorem dL_law_935 : decode cL_law 935 = .ok (.iconst 2, 1) := by sorry
theorem dL_law_936 : decode cL_law 936 = .ok (.iadd, 1) := by sorry
theorem dL_law_937 : decode cL_law 937 = .ok (.iaload, 1) := by sorry
theorem dL_law_938 : decode cL_law 938 = .ok (.aload_n 3, 1) := by sorry
theorem dL_law_939 : decode cL_law 939 = .ok (.invokestatic 250, 3) := by sorry
theorem dL_law_942 : decode cL_law 942 = .ok (.istore 5, 2) := by sorry
theorem dL_law_944 : decode cL_law 944 = .ok (.aload_n 2, 1) := by sorry
theorem dL_law_945 : decode cL_law 945 = .ok (.aload_n 0, 1) := by sorry
theorem dL_law_946 : decode cL_law 946 = .ok (.iload 4, 2) := by sorry
theorem dL_law_948 : decode cL_law 948 = .ok (.iconst 1, 1) := by sorry
theorem dL_law_949 : decode cL_law 949 = .ok (.iadd, 1) := by sorry
theorem dL_law_950 : decode cL_law 950 = .ok (.iaload, 1) := by sorry
theorem dL_law_951 : decode cL_law 951 = .ok (.aload_n 0, 1) := by sorry
theorem dL_law_952 : decode cL_law 952 = .ok (.iload 4, 2) := by sorry
theorem dL_law_954 : decode cL_law 954 = .ok (.iconst 2, 1) := by sorry
theorem dL_law_955 : decode cL_law 955 = .ok (.iadd, 1) := by sorry
theorem dL_law_956 : decode cL_law 956 = .ok (.iaload, 1) := by sorry
theorem dL_law_957 : decode cL_law 957 = .ok (.invokevirtual 252, 3) := by sorry
theorem dL_law_960 : decode cL_law 960 = .ok (.istore 6, 2) := by sorry
theorem dL_law_962 : decode cL_law 962 = .ok (.goto 852, 3) := by sorry
theorem dL_law_965 : decode cL_law 965 = .ok (.aload_n 1, 1) := by sorry
theorem dL_law_966 : decode cL_law 966 = .ok (.aload_n 0, 1) := by sorry
theorem dL_law_967 : decode cL_law 967 = .ok (.iload 4, 2) := by sorry
theorem dL_law_969 : decode cL_law 969 = .ok (.iconst 1, 1) := by sorry
theorem dL_law_970 : decode cL_law 970 = .ok (.iadd, 1) := by sorry
theorem dL_law_971 : decode cL_law 971 = .ok (.iaload, 1) := by sorry
theorem dL_law_972 : decode cL_law 972 = .ok (.aload_n 3, 1) := by sorry
theorem dL_law_973 : decode cL_law 973 = .ok (.invokestatic 253, 3) := by sorry
theorem dL_law_976 : decode cL_law 976 = .ok (.istore 5, 2) := by sorry
theorem dL_law_978 : decode cL_law 978 = .ok (.aload_n 2, 1) := by sorry
theorem dL_law_979 : decode cL_law 979 = .ok (.aload_n 0, 1) := by sorry
theorem dL_law_980 : decode cL_law 980 = .ok (.iload 4, 2) := by sorry
theorem dL_law_982 : decode cL_law 982 = .ok (.iconst 1, 1) := by sorry
theorem dL_law_983 : decode cL_law 983 = .ok (.iadd, 1) := by sorry
theorem dL_law_984 : decode cL_law 984 = .ok (.iaload, 1) := by sorry
theorem dL_law_985 : decode cL_law 985 = .ok (.invokevirtual 255, 3) := by sorry
theorem dL_law_988 : decode cL_law 988 = .ok (.istore 6, 2) := by sorry
theorem dL_law_990 : decode cL_law 990 = .ok (.goto 824, 3) := by sorry
theorem dL_law_993 : decode cL_law 993 = .ok (.aload_n 1, 1) := by sorry
theorem dL_law_994 : decode cL_law 994 = .ok (.invokevirtual 256, 3) := by sorry
theorem dL_law_997 : decode cL_law 997 = .ok (.pop, 1) := by sorry
theorem dL_law_998 : decode cL_law 998 = .ok (.aload_n 2, 1) := by sorry
theorem dL_law_999 : decode cL_law 999 = .ok (.invokevirtual 259, 3) := by sorry
theorem dL_law_1002 : decode cL_law 1002 = .ok (.pop, 1) := by sorry
theorem dL_law_1003 : decode cL_law 1003 = .ok (.goto 811, 3) := by sorry
theorem dL_law_1006 : decode cL_law 1006 = .ok (.aload_n 1, 1) := by sorry
theorem dL_law_1007 : decode cL_law 1007 = .ok (.invokevirtual 260, 3) := by sorry
theorem dL_law_1010 : decode cL_law 1010 = .ok (.pop, 1) := by sorry
theorem dL_law_1011 : decode cL_law 1011 = .ok (.aload_n 2, 1) := by sorry
theorem dL_law_1012 : decode cL_law 1012 = .ok (.invokevirtual 263, 3) := by sorry
theorem dL_law_1015 : decode cL_law 1015 = .ok (.pop, 1) := by sorry
theorem dL_law_1016 : decode cL_law 1016 = .ok (.goto 798, 3) := by sorry
theorem dL_law_1019 : decode cL_law 1019 = .ok (.aload_n 1, 1) := by sorry
theorem dL_law_1020 : decode cL_law 1020 = .ok (.aload_n 0, 1) := by sorry
theorem dL_law_1021 : decode cL_law 1021 = .ok (.iload 4, 2) := by sorry
theorem dL_law_1023 : decode cL_law 1023 = .ok (.iconst 1, 1) := by sorry
theorem dL_law_1024 : decode cL_law 1024 = .ok (.iadd, 1) := by sorry
theorem dL_law_1025 : decode cL_law 1025 = .ok (.iaload, 1) := by sorry
theorem dL_law_1026 : decode cL_law 1026 = .ok (.aload_n 3, 1) := by sorry
theorem dL_law_1027 : decode cL_law 1027 = .ok (.invokestatic 264, 3) := by sorry
theorem dL_law_1030 : decode cL_law 1030 = .ok (.istore 5, 2) := by sorry
theorem dL_law_1032 : decode cL_law 1032 = .ok (.aload_n 2, 1) := by sorry
theorem dL_law_1033 : decode cL_law 1033 = .ok (.aload_n 0, 1) := by sorry
theorem dL_law_1034 : decode cL_law 1034 = .ok (.iload 4, 2) := by sorry
theorem dL_law_1036 : decode cL_law 1036 = .ok (.iconst 1, 1) := by sorry
theorem dL_law_1037 : decode cL_law 1037 = .ok (.iadd, 1) := by sorry
theorem dL_law_1038 : decode cL_law 1038 = .ok (.iaload, 1) := by sorry
theorem dL_law_1039 : decode cL_law 1039 = .ok (.invokevirtual 266, 3) := by sorry
theorem dL_law_1042 : decode cL_law 1042 = .ok (.istore 6, 2) := by sorry
theorem dL_law_1044 : decode cL_law 1044 = .ok (.goto 770, 3) := by sorry
theorem dL_law_1047 : decode cL_law 1047 = .ok (.aload_n 1, 1) := by sorry
theorem dL_law_1048 : decode cL_law 1048 = .ok (.aload_n 0, 1) := by sorry
theorem dL_law_1049 : decode cL_law 1049 = .ok (.iload 4, 2) := by sorry
theorem dL_law_1051 : decode cL_law 1051 = .ok (.iconst 1, 1) := by sorry
theorem dL_law_1052 : decode cL_law 1052 = .ok (.iadd, 1) := by sorry
theorem dL_law_1053 : decode cL_law 1053 = .ok (.iaload, 1) := by sorry
theorem dL_law_1054 : decode cL_law 1054 = .ok (.aload_n 0, 1) := by sorry
theorem dL_law_1055 : decode cL_law 1055 = .ok (.iload 4, 2) := by sorry
theorem dL_law_1057 : decode cL_law 1057 = .ok (.iconst 2, 1) := by sorry
theorem dL_law_1058 : decode cL_law 1058 = .ok (.iadd, 1) := by sorry
theorem dL_law_1059 : decode cL_law 1059 = .ok (.iaload, 1) := by sorry
theorem dL_law_1060 : decode cL_law 1060 = .ok (.aload_n 3, 1) := by sorry
theorem dL_law_1061 : decode cL_law 1061 = .ok (.invokestatic 267, 3) := by sorry
theorem dL_law_1064 : decode cL_law 1064 = .ok (.istore 5, 2) := by sorry
theorem dL_law_1066 : decode cL_law 1066 = .ok (.aload_n 2, 1) := by sorry
theorem dL_law_1067 : decode cL_law 1067 = .ok (.aload_n 0, 1) := by sorry
theorem dL_law_1068 : decode cL_law 1068 = .ok (.iload 4, 2) := by sorry
theorem dL_law_1070 : decode cL_law 1070 = .ok (.iconst 1, 1) := by sorry
theorem dL_law_1071 : decode cL_law 1071 = .ok (.iadd, 1) := by sorry
theorem dL_law_1072 : decode cL_law 1072 = .ok (.iaload, 1) := by sorry
theorem dL_law_1073 : decode cL_law 1073 = .ok (.aload_n 0, 1) := by sorry
theorem dL_law_1074 : decode cL_law 1074 = .ok (.iload 4, 2) := by sorry
theorem dL_law_1076 : decode cL_law 1076 = .ok (.iconst 2, 1) := by sorry
theorem dL_law_1077 : decode cL_law 1077 = .ok (.iadd, 1) := by sorry
theorem dL_law_1078 : decode cL_law 1078 = .ok (.iaload, 1) := by sorry
theorem dL_law_1079 : decode cL_law 1079 = .ok (.invokevirtual 269, 3) := by sorry
theorem dL_law_1082 : decode cL_law 1082 = .ok (.istore 6, 2) := by sorry
theorem dL_law_1084 : decode cL_law 1084 = .ok (.goto 730, 3) := by sorry
theorem dL_law_1087 : decode cL_law 1087 = .ok (.aload_n 1, 1) := by sorry
theorem dL_law_1088 : decode cL_law 1088 = .ok (.aload_n 0, 1) := by sorry
theorem dL_law_1089 : decode cL_law 1089 = .ok (.iload 4, 2) := by sorry
theorem dL_law_1091 : decode cL_law 1091 = .ok (.iconst 1, 1) := by sorry
theorem dL_law_1092 : decode cL_law 1092 = .ok (.iadd, 1) := by sorry
theorem dL_law_1093 : decode cL_law 1093 = .ok (.iaload, 1) := by sorry
theorem dL_law_1094 : decode cL_law 1094 = .ok (.aload_n 3, 1) := by sorry
theorem dL_law_1095 : decode cL_law 1095 = .ok (.invokestatic 270, 3) := by sorry
theorem dL_law_1098 : decode cL_law 1098 = .ok (.istore 5, 2) := by sorry
theorem dL_law_1100 : decode cL_law 1100 = .ok (.aload_n 2, 1) := by sorry
theorem dL_law_1101 : decode cL_law 1101 = .ok (.aload_n 0, 1) := by sorry
theorem dL_law_1102 : decode cL_law 1102 = .ok (.iload 4, 2) := by sorry
theorem dL_law_1104 : decode cL_law 1104 = .ok (.iconst 1, 1) := by sorry
theorem dL_law_1105 : decode cL_law 1105 = .ok (.iadd, 1) := by sorry
theorem dL_law_1106 : decode cL_law 1106 = .ok (.iaload, 1) := by sorry
theorem dL_law_1107 : decode cL_law 1107 = .ok (.invokevirtual 272, 3) := by sorry
theorem dL_law_1110 : decode cL_law 1110 = .ok (.istore 6, 2) := by sorry
theorem dL_law_1112 : decode cL_law 1112 = .ok (.goto 702, 3) := by sorry
theorem dL_law_1115 : decode cL_law 1115 = .ok (.aload_n 1, 1) := by sorry
theorem dL_law_1116 : decode cL_law 1116 = .ok (.aload_n 0, 1) := by sorry
theorem dL_law_1117 : decode cL_law 1117 = .ok (.iload 4, 2) := by sorry
theorem dL_law_1119 : decode cL_law 1119 = .ok (.iconst 1, 1) := by sorry
theorem dL_law_1120 : decode cL_law 1120 = .ok (.iadd, 1) := by sorry
theorem dL_law_1121 : decode cL_law 1121 = .ok (.iaload, 1) := by sorry
theorem dL_law_1122 : decode cL_law 1122 = .ok (.aload_n 3, 1) := by sorry
theorem dL_law_1123 : decode cL_law 1123 = .ok (.invokestatic 273, 3) := by sorry
theorem dL_law_1126 : decode cL_law 1126 = .ok (.istore 5, 2) := by sorry
theorem dL_law_1128 : decode cL_law 1128 = .ok (.aload_n 2, 1) := by sorry
theorem dL_law_1129 : decode cL_law 1129 = .ok (.aload_n 0, 1) := by sorry
theorem dL_law_1130 : decode cL_law 1130 = .ok (.iload 4, 2) := by sorry
theorem dL_law_1132 : decode cL_law 1132 = .ok (.iconst 1, 1) := by sorry
theorem dL_law_1133 : decode cL_law 1133 = .ok (.iadd, 1) := by sorry
theorem dL_law_1134 : decode cL_law 1134 = .ok (.iaload, 1) := by sorry
theorem dL_law_1135 : decode cL_law 1135 = .ok (.invokevirtual 275, 3) := by sorry
theorem dL_law_1138 : decode cL_law 1138 = .ok (.istore 6, 2) := by sorry
theorem dL_law_1140 : decode cL_law 1140 = .ok (.goto 674, 3) := by sorry
theorem dL_law_1143 : decode cL_law 1143 = .ok (.aload_n 1, 1) := by sorry
theorem dL_law_1144 : decode cL_law 1144 = .ok (.aload_n 0, 1) := by sorry
theorem dL_law_1145 : decode cL_law 1145 = .ok (.iload 4, 2) := by sorry
theorem dL_law_1147 : decode cL_law 1147 = .ok (.iconst 1, 1) := by sorry
theorem dL_law_1148 : decode cL_law 1148 = .ok (.iadd, 1) := by sorry
theorem dL_law_1149 : decode cL_law 1149 = .ok (.iaload, 1) := by sorry
theorem dL_law_1150 : decode cL_law 1150 = .ok (.aload_n 0, 1) := by sorry
theorem dL_law_1151 : decode cL_law 1151 = .ok (.iload 4, 2) := by sorry
theorem dL_law_1153 : decode cL_law 1153 = .ok (.iconst 2, 1) := by sorry
theorem dL_law_1154 : decode cL_law 1154 = .ok (.iadd, 1) := by sorry
theorem dL_law_1155 : decode cL_law 1155 = .ok (.iaload, 1) := by sorry
theorem dL_law_1156 : decode cL_law 1156 = .ok (.aload_n 3, 1) := by sorry
theorem dL_law_1157 : decode cL_law 1157 = .ok (.invokestatic 276, 3) := by sorry
theorem dL_law_1160 : decode cL_law 1160 = .ok (.istore 5, 2) := by sorry
theorem dL_law_1162 : decode cL_law 1162 = .ok (.aload_n 2, 1) := by sorry
theorem dL_law_1163 : decode cL_law 1163 = .ok (.aload_n 0, 1) := by sorry
theorem dL_law_1164 : decode cL_law 1164 = .ok (.iload 4, 2) := by sorry
theorem dL_law_1166 : decode cL_law 1166 = .ok (.iconst 1, 1) := by sorry
theorem dL_law_1167 : decode cL_law 1167 = .ok (.iadd, 1) := by sorry
theorem dL_law_1168 : decode cL_law 1168 = .ok (.iaload, 1) := by sorry
theorem dL_law_1169 : decode cL_law 1169 = .ok (.aload_n 0, 1) := by sorry
theorem dL_law_1170 : decode cL_law 1170 = .ok (.iload 4, 2) := by sorry
theorem dL_law_1172 : decode cL_law 1172 = .ok (.iconst 2, 1) := by sorry
theorem dL_law_1173 : decode cL_law 1173 = .ok (.iadd, 1) := by sorry
theorem dL_law_1174 : decode cL_law 1174 = .ok (.iaload, 1) := by sorry
theorem dL_law_1175 : decode cL_law 1175 = .ok (.invokevirtual 278, 3) := by sorry
theorem dL_law_1178 : decode cL_law 1178 = .ok (.istore 6, 2) := by sorry
theorem dL_law_1180 : decode cL_law 1180 = .ok (.goto 634, 3) := by sorry
theorem dL_law_1183 : decode cL_law 1183 = .ok (.aload_n 1, 1) := by sorry
theorem dL_law_1184 : decode cL_law 1184 = .ok (.aload_n 0, 1) := by sorry
theorem dL_law_1185 : decode cL_law 1185 = .ok (.iload 4, 2) := by sorry
theorem dL_law_1187 : decode cL_law 1187 = .ok (.iconst 1, 1) := by sorry
theorem dL_law_1188 : decode cL_law 1188 = .ok (.iadd, 1) := by sorry
theorem dL_law_1189 : decode cL_law 1189 = .ok (.iaload, 1) := by sorry
theorem dL_law_1190 : decode cL_law 1190 = .ok (.aload_n 0, 1) := by sorry
theorem dL_law_1191 : decode cL_law 1191 = .ok (.iload 4, 2) := by sorry
theorem dL_law_1193 : decode cL_law 1193 = .ok (.iconst 2, 1) := by sorry
theorem dL_law_1194 : decode cL_law 1194 = .ok (.iadd, 1) := by sorry
theorem dL_law_1195 : decode cL_law 1195 = .ok (.iaload, 1) := by sorry
theorem dL_law_1196 : decode cL_law 1196 = .ok (.aload_n 3, 1) := by sorry
theorem dL_law_1197 : decode cL_law 1197 = .ok (.invokestatic 279, 3) := by sorry
theorem dL_law_1200 : decode cL_law 1200 = .ok (.istore 5, 2) := by sorry
theorem dL_law_1202 : decode cL_law 1202 = .ok (.aload_n 2, 1) := by sorry
theorem dL_law_1203 : decode cL_law 1203 = .ok (.aload_n 0, 1) := by sorry
theorem dL_law_1204 : decode cL_law 1204 = .ok (.iload 4, 2) := by sorry
theorem dL_law_1206 : decode cL_law 1206 = .ok (.iconst 1, 1) := by sorry
theorem dL_law_1207 : decode cL_law 1207 = .ok (.iadd, 1) := by sorry
theorem dL_law_1208 : decode cL_law 1208 = .ok (.iaload, 1) := by sorry
theorem dL_law_1209 : decode cL_law 1209 = .ok (.aload_n 0, 1) := by sorry
theorem dL_law_1210 : decode cL_law 1210 = .ok (.iload 4, 2) := by sorry
theorem dL_law_1212 : decode cL_law 1212 = .ok (.iconst 2, 1) := by sorry
theorem dL_law_1213 : decode cL_law 1213 = .ok (.iadd, 1) := by sorry
theorem dL_law_1214 : decode cL_law 1214 = .ok (.iaload, 1) := by sorry
theorem dL_law_1215 : decode cL_law 1215 = .ok (.invokevirtual 281, 3) := by sorry
theorem dL_law_1218 : decode cL_law 1218 = .ok (.istore 6, 2) := by sorry
theorem dL_law_1220 : decode cL_law 1220 = .ok (.goto 594, 3) := by sorry
theorem dL_law_1223 : decode cL_law 1223 = .ok (.aload_n 1, 1) := by sorry
theorem dL_law_1224 : decode cL_law 1224 = .ok (.aload_n 0, 1) := by sorry
theorem dL_law_1225 : decode cL_law 1225 = .ok (.iload 4, 2) := by sorry
theorem dL_law_1227 : decode cL_law 1227 = .ok (.iconst 1, 1) := by sorry
theorem dL_law_1228 : decode cL_law 1228 = .ok (.iadd, 1) := by sorry
theorem dL_law_1229 : decode cL_law 1229 = .ok (.iaload, 1) := by sorry
theorem dL_law_1230 : decode cL_law 1230 = .ok (.aload_n 3, 1) := by sorry
theorem dL_law_1231 : decode cL_law 1231 = .ok (.invokestatic 282, 3) := by sorry
theorem dL_law_1234 : decode cL_law 1234 = .ok (.istore 5, 2) := by sorry
theorem dL_law_1236 : decode cL_law 1236 = .ok (.aload_n 2, 1) := by sorry
theorem dL_law_1237 : decode cL_law 1237 = .ok (.aload_n 0, 1) := by sorry
theorem dL_law_1238 : decode cL_law 1238 = .ok (.iload 4, 2) := by sorry
theorem dL_law_1240 : decode cL_law 1240 = .ok (.iconst 1, 1) := by sorry
theorem dL_law_1241 : decode cL_law 1241 = .ok (.iadd, 1) := by sorry
theorem dL_law_1242 : decode cL_law 1242 = .ok (.iaload, 1) := by sorry
theorem dL_law_1243 : decode cL_law 1243 = .ok (.invokevirtual 284, 3) := by sorry
theorem dL_law_1246 : decode cL_law 1246 = .ok (.istore 6, 2) := by sorry
theorem dL_law_1248 : decode cL_law 1248 = .ok (.goto 566, 3) := by sorry
theorem dL_law_1251 : decode cL_law 1251 = .ok (.aload_n 1, 1) := by sorry
theorem dL_law_1252 : decode cL_law 1252 = .ok (.aload_n 0, 1) := by sorry
theorem dL_law_1253 : decode cL_law 1253 = .ok (.iload 4, 2) := by sorry
theorem dL_law_1255 : decode cL_law 1255 = .ok (.iconst 1, 1) := by sorry
theorem dL_law_1256 : decode cL_law 1256 = .ok (.iadd, 1) := by sorry
theorem dL_law_1257 : decode cL_law 1257 = .ok (.iaload, 1) := by sorry
theorem dL_law_1258 : decode cL_law 1258 = .ok (.aload_n 3, 1) := by sorry
theorem dL_law_1259 : decode cL_law 1259 = .ok (.invokestatic 285, 3) := by sorry
theorem dL_law_1262 : decode cL_law 1262 = .ok (.istore 5, 2) := by sorry
theorem dL_law_1264 : decode cL_law 1264 = .ok (.aload_n 2, 1) := by sorry
theorem dL_law_1265 : decode cL_law 1265 = .ok (.aload_n 0, 1) := by sorry
theorem dL_law_1266 : decode cL_law 1266 = .ok (.iload 4, 2) := by sorry
theorem dL_law_1268 : decode cL_law 1268 = .ok (.iconst 1, 1) := by sorry
theorem dL_law_1269 : decode cL_law 1269 = .ok (.iadd, 1) := by sorry
theorem dL_law_1270 : decode cL_law 1270 = .ok (.iaload, 1) := by sorry
theorem dL_law_1271 : decode cL_law 1271 = .ok (.invokevirtual 287, 3) := by sorry
theorem dL_law_1274 : decode cL_law 1274 = .ok (.istore 6, 2) := by sorry
theorem dL_law_1276 : decode cL_law 1276 = .ok (.goto 538, 3) := by sorry
theorem dL_law_1279 : decode cL_law 1279 = .ok (.aload_n 1, 1) := by sorry
theorem dL_law_1280 : decode cL_law 1280 = .ok (.aload_n 0, 1) := by sorry
theorem dL_law_1281 : decode cL_law 1281 = .ok (.iload 4, 2) := by sorry
theorem dL_law_1283 : decode cL_law 1283 = .ok (.iconst 1, 1) := by sorry
theorem dL_law_1284 : decode cL_law 1284 = .ok (.iadd, 1) := by sorry
theorem dL_law_1285 : decode cL_law 1285 = .ok (.iaload, 1) := by sorry
theorem dL_law_1286 : decode cL_law 1286 = .ok (.aload_n 3, 1) := by sorry
theorem dL_law_1287 : decode cL_law 1287 = .ok (.invokestatic 288, 3) := by sorry
theorem dL_law_1290 : decode cL_law 1290 = .ok (.istore 5, 2) := by sorry
theorem dL_law_1292 : decode cL_law 1292 = .ok (.aload_n 2, 1) := by sorry
theorem dL_law_1293 : decode cL_law 1293 = .ok (.aload_n 0, 1) := by sorry
theorem dL_law_1294 : decode cL_law 1294 = .ok (.iload 4, 2) := by sorry
theorem dL_law_1296 : decode cL_law 1296 = .ok (.iconst 1, 1) := by sorry
theorem dL_law_1297 : decode cL_law 1297 = .ok (.iadd, 1) := by sorry
theorem dL_law_1298 : decode cL_law 1298 = .ok (.iaload, 1) := by sorry
theorem dL_law_1299 : decode cL_law 1299 = .ok (.invokevirtual 290, 3) := by sorry
theorem dL_law_1302 : decode cL_law 1302 = .ok (.istore 6, 2) := by sorry
theorem dL_law_1304 : decode cL_law 1304 = .ok (.goto 510, 3) := by sorry
theorem dL_law_1307 : decode cL_law 1307 = .ok (.aload_n 1, 1) := by sorry
theorem dL_law_1308 : decode cL_law 1308 = .ok (.aload_n 0, 1) := by sorry
theorem dL_law_1309 : decode cL_law 1309 = .ok (.iload 4, 2) := by sorry
theorem dL_law_1311 : decode cL_law 1311 = .ok (.iconst 1, 1) := by sorry
theorem dL_law_1312 : decode cL_law 1312 = .ok (.iadd, 1) := by sorry
theorem dL_law_1313 : decode cL_law 1313 = .ok (.iaload, 1) := by sorry
theorem dL_law_1314 : decode cL_law 1314 = .ok (.aload_n 3, 1) := by sorry
theorem dL_law_1315 : decode cL_law 1315 = .ok (.invokestatic 291, 3) := by sorry
theorem dL_law_1318 : decode cL_law 1318 = .ok (.istore 5, 2) := by sorry
theorem dL_law_1320 : decode cL_law 1320 = .ok (.aload_n 2, 1) := by sorry
theorem dL_law_1321 : decode cL_law 1321 = .ok (.aload_n 0, 1) := by sorry
theorem dL_law_1322 : decode cL_law 1322 = .ok (.iload 4, 2) := by sorry
theorem dL_law_1324 : decode cL_law 1324 = .ok (.iconst 1, 1) := by sorry
theorem dL_law_1325 : decode cL_law 1325 = .ok (.iadd, 1) := by sorry
theorem dL_law_1326 : decode cL_law 1326 = .ok (.iaload, 1) := by sorry
theorem dL_law_1327 : decode cL_law 1327 = .ok (.invokevirtual 293, 3) := by sorry
theorem dL_law_1330 : decode cL_law 1330 = .ok (.istore 6, 2) := by sorry
theorem dL_law_1332 : decode cL_law 1332 = .ok (.goto 482, 3) := by sorry
theorem dL_law_1335 : decode cL_law 1335 = .ok (.aload_n 1, 1) := by sorry
theorem dL_law_1336 : decode cL_law 1336 = .ok (.aload_n 0, 1) := by sorry
theorem dL_law_1337 : decode cL_law 1337 = .ok (.iload 4, 2) := by sorry
theorem dL_law_1339 : decode cL_law 1339 = .ok (.iconst 1, 1) := by sorry
theorem dL_law_1340 : decode cL_law 1340 = .ok (.iadd, 1) := by sorry
theorem dL_law_1341 : decode cL_law 1341 = .ok (.iaload, 1) := by sorry
theorem dL_law_1342 : decode cL_law 1342 = .ok (.aload_n 0, 1) := by sorry
theorem dL_law_1343 : decode cL_law 1343 = .ok (.iload 4, 2) := by sorry
theorem dL_law_1345 : decode cL_law 1345 = .ok (.iconst 2, 1) := by sorry
theorem dL_law_1346 : decode cL_law 1346 = .ok (.iadd, 1) := by sorry
theorem dL_law_1347 : decode cL_law 1347 = .ok (.iaload, 1) := by sorry
theorem dL_law_1348 : decode cL_law 1348 = .ok (.aload_n 3, 1) := by sorry
theorem dL_law_1349 : decode cL_law 1349 = .ok (.invokestatic 294, 3) := by sorry
theorem dL_law_1352 : decode cL_law 1352 = .ok (.istore 5, 2) := by sorry
theorem dL_law_1354 : decode cL_law 1354 = .ok (.aload_n 2, 1) := by sorry
theorem dL_law_1355 : decode cL_law 1355 = .ok (.aload_n 0, 1) := by sorry
theorem dL_law_1356 : decode cL_law 1356 = .ok (.iload 4, 2) := by sorry
theorem dL_law_1358 : decode cL_law 1358 = .ok (.iconst 1, 1) := by sorry
theorem dL_law_1359 : decode cL_law 1359 = .ok (.iadd, 1) := by sorry
theorem dL_law_1360 : decode cL_law 1360 = .ok (.iaload, 1) := by sorry
theorem dL_law_1361 : decode cL_law 1361 = .ok (.aload_n 0, 1) := by sorry
theorem dL_law_1362 : decode cL_law 1362 = .ok (.iload 4, 2) := by sorry
theorem dL_law_1364 : decode cL_law 1364 = .ok (.iconst 2, 1) := by sorry
theorem dL_law_1365 : decode cL_law 1365 = .ok (.iadd, 1) := by sorry
theorem dL_law_1366 : decode cL_law 1366 = .ok (.iaload, 1) := by sorry
theorem dL_law_1367 : decode cL_law 1367 = .ok (.invokevirtual 296, 3) := by sorry
theorem dL_law_1370 : decode cL_law 1370 = .ok (.istore 6, 2) := by sorry
theorem dL_law_1372 : decode cL_law 1372 = .ok (.goto 442, 3) := by sorry
theorem dL_law_1375 : decode cL_law 1375 = .ok (.aload_n 1, 1) := by sorry
theorem dL_law_1376 : decode cL_law 1376 = .ok (.aload_n 0, 1) := by sorry
theorem dL_law_1377 : decode cL_law 1377 = .ok (.iload 4, 2) := by sorry
theorem dL_law_1379 : decode cL_law 1379 = .ok (.iconst 1, 1) := by sorry
theorem dL_law_1380 : decode cL_law 1380 = .ok (.iadd, 1) := by sorry
theorem dL_law_1381 : decode cL_law 1381 = .ok (.iaload, 1) := by sorry
theorem dL_law_1382 : decode cL_law 1382 = .ok (.aload_n 3, 1) := by sorry
theorem dL_law_1383 : decode cL_law 1383 = .ok (.invokestatic 297, 3) := by sorry
theorem dL_law_1386 : decode cL_law 1386 = .ok (.istore 5, 2) := by sorry
theorem dL_law_1388 : decode cL_law 1388 = .ok (.aload_n 2, 1) := by sorry
theorem dL_law_1389 : decode cL_law 1389 = .ok (.aload_n 0, 1) := by sorry
theorem dL_law_1390 : decode cL_law 1390 = .ok (.iload 4, 2) := by sorry
theorem dL_law_1392 : decode cL_law 1392 = .ok (.iconst 1, 1) := by sorry
theorem dL_law_1393 : decode cL_law 1393 = .ok (.iadd, 1) := by sorry
theorem dL_law_1394 : decode cL_law 1394 = .ok (.iaload, 1) := by sorry
theorem dL_law_1395 : decode cL_law 1395 = .ok (.invokevirtual 299, 3) := by sorry
theorem dL_law_1398 : decode cL_law 1398 = .ok (.istore 6, 2) := by sorry
theorem dL_law_1400 : decode cL_law 1400 = .ok (.goto 414, 3) := by sorry
theorem dL_law_1403 : decode cL_law 1403 = .ok (.aload_n 1, 1) := by sorry
theorem dL_law_1404 : decode cL_law 1404 = .ok (.aload_n 0, 1) := by sorry
theorem dL_law_1405 : decode cL_law 1405 = .ok (.iload 4, 2) := by sorry
theorem dL_law_1407 : decode cL_law 1407 = .ok (.iconst 1, 1) := by sorry
theorem dL_law_1408 : decode cL_law 1408 = .ok (.iadd, 1) := by sorry
theorem dL_law_1409 : decode cL_law 1409 = .ok (.iaload, 1) := by sorry
theorem dL_law_1410 : decode cL_law 1410 = .ok (.aload_n 3, 1) := by sorry
theorem dL_law_1411 : decode cL_law 1411 = .ok (.invokestatic 300, 3) := by sorry
theorem dL_law_1414 : decode cL_law 1414 = .ok (.istore 5, 2) := by sorry
theorem dL_law_1416 : decode cL_law 1416 = .ok (.aload_n 2, 1) := by sorry
theorem dL_law_1417 : decode cL_law 1417 = .ok (.aload_n 0, 1) := by sorry
theorem dL_law_1418 : decode cL_law 1418 = .ok (.iload 4, 2) := by sorry
theorem dL_law_1420 : decode cL_law 1420 = .ok (.iconst 1, 1) := by sorry
theorem dL_law_1421 : decode cL_law 1421 = .ok (.iadd, 1) := by sorry
theorem dL_law_1422 : decode cL_law 1422 = .ok (.iaload, 1) := by sorry
theorem dL_law_1423 : decode cL_law 1423 = .ok (.invokevirtual 302, 3) := by sorry
theorem dL_law_1426 : decode cL_law 1426 = .ok (.istore 6, 2) := by sorry
theorem dL_law_1428 : decode cL_law 1428 = .ok (.goto 386, 3) := by sorry
theorem dL_law_1431 : decode cL_law 1431 = .ok (.aload_n 1, 1) := by sorry
theorem dL_law_1432 : decode cL_law 1432 = .ok (.aload_n 0, 1) := by sorry
theorem dL_law_1433 : decode cL_law 1433 = .ok (.iload 4, 2) := by sorry
theorem dL_law_1435 : decode cL_law 1435 = .ok (.iconst 1, 1) := by sorry
theorem dL_law_1436 : decode cL_law 1436 = .ok (.iadd, 1) := by sorry
theorem dL_law_1437 : decode cL_law 1437 = .ok (.iaload, 1) := by sorry
theorem dL_law_1438 : decode cL_law 1438 = .ok (.aload_n 0, 1) := by sorry
theorem dL_law_1439 : decode cL_law 1439 = .ok (.iload 4, 2) := by sorry
theorem dL_law_1441 : decode cL_law 1441 = .ok (.iconst 2, 1) := by sorry
theorem dL_law_1442 : decode cL_law 1442 = .ok (.iadd, 1) := by sorry
theorem dL_law_1443 : decode cL_law 1443 = .ok (.iaload, 1) := by sorry
theorem dL_law_1444 : decode cL_law 1444 = .ok (.aload_n 3, 1) := by sorry
theorem dL_law_1445 : decode cL_law 1445 = .ok (.invokestatic 303, 3) := by sorry
theorem dL_law_1448 : decode cL_law 1448 = .ok (.istore 5, 2) := by sorry
theorem dL_law_1450 : decode cL_law 1450 = .ok (.aload_n 2, 1) := by sorry
theorem dL_law_1451 : decode cL_law 1451 = .ok (.aload_n 0, 1) := by sorry
theorem dL_law_1452 : decode cL_law 1452 = .ok (.iload 4, 2) := by sorry
theorem dL_law_1454 : decode cL_law 1454 = .ok (.iconst 1, 1) := by sorry
theorem dL_law_1455 : decode cL_law 1455 = .ok (.iadd, 1) := by sorry
theorem dL_law_1456 : decode cL_law 1456 = .ok (.iaload, 1) := by sorry
theorem dL_law_1457 : decode cL_law 1457 = .ok (.aload_n 0, 1) := by sorry
theorem dL_law_1458 : decode cL_law 1458 = .ok (.iload 4, 2) := by sorry
theorem dL_law_1460 : decode cL_law 1460 = .ok (.iconst 2, 1) := by sorry
theorem dL_law_1461 : decode cL_law 1461 = .ok (.iadd, 1) := by sorry
theorem dL_law_1462 : decode cL_law 1462 = .ok (.iaload, 1) := by sorry
theorem dL_law_1463 : decode cL_law 1463 = .ok (.invokevirtual 305, 3) := by sorry
theorem dL_law_1466 : decode cL_law 1466 = .ok (.istore 6, 2) := by sorry
theorem dL_law_1468 : decode cL_law 1468 = .ok (.goto 346, 3) := by sorry
theorem dL_law_1471 : decode cL_law 1471 = .ok (.aload_n 1, 1) := by sorry
theorem dL_law_1472 : decode cL_law 1472 = .ok (.aload_n 0, 1) := by sorry
theorem dL_law_1473 : decode cL_law 1473 = .ok (.iload 4, 2) := by sorry
theorem dL_law_1475 : decode cL_law 1475 = .ok (.iconst 1, 1) := by sorry
theorem dL_law_1476 : decode cL_law 1476 = .ok (.iadd, 1) := by sorry
theorem dL_law_1477 : decode cL_law 1477 = .ok (.iaload, 1) := by sorry
theorem dL_law_1478 : decode cL_law 1478 = .ok (.aload_n 3, 1) := by sorry
theorem dL_law_1479 : decode cL_law 1479 = .ok (.invokestatic 306, 3) := by sorry
theorem dL_law_1482 : decode cL_law 1482 = .ok (.istore 5, 2) := by sorry
theorem dL_law_1484 : decode cL_law 1484 = .ok (.aload_n 2, 1) := by sorry
theorem dL_law_1485 : decode cL_law 1485 = .ok (.aload_n 0, 1) := by sorry
theorem dL_law_1486 : decode cL_law 1486 = .ok (.iload 4, 2) := by sorry
theorem dL_law_1488 : decode cL_law 1488 = .ok (.iconst 1, 1) := by sorry
theorem dL_law_1489 : decode cL_law 1489 = .ok (.iadd, 1) := by sorry
theorem dL_law_1490 : decode cL_law 1490 = .ok (.iaload, 1) := by sorry
theorem dL_law_1491 : decode cL_law 1491 = .ok (.invokevirtual 308, 3) := by sorry
theorem dL_law_1494 : decode cL_law 1494 = .ok (.istore 6, 2) := by sorry
theorem dL_law_1496 : decode cL_law 1496 = .ok (.goto 318, 3) := by sorry
theorem dL_law_1499 : decode cL_law 1499 = .ok (.aload_n 1, 1) := by sorry
theorem dL_law_1500 : decode cL_law 1500 = .ok (.aload_n 0, 1) := by sorry
theorem dL_law_1501 : decode cL_law 1501 = .ok (.iload 4, 2) := by sorry
theorem dL_law_1503 : decode cL_law 1503 = .ok (.iconst 1, 1) := by sorry
theorem dL_law_1504 : decode cL_law 1504 = .ok (.iadd, 1) := by sorry
theorem dL_law_1505 : decode cL_law 1505 = .ok (.iaload, 1) := by sorry
theorem dL_law_1506 : decode cL_law 1506 = .ok (.aload_n 3, 1) := by sorry
theorem dL_law_1507 : decode cL_law 1507 = .ok (.invokestatic 309, 3) := by sorry
theorem dL_law_1510 : decode cL_law 1510 = .ok (.istore 5, 2) := by sorry
theorem dL_law_1512 : decode cL_law 1512 = .ok (.aload_n 2, 1) := by sorry
theorem dL_law_1513 : decode cL_law 1513 = .ok (.aload_n 0, 1) := by sorry
theorem dL_law_1514 : decode cL_law 1514 = .ok (.iload 4, 2) := by sorry
theorem dL_law_1516 : decode cL_law 1516 = .ok (.iconst 1, 1) := by sorry
theorem dL_law_1517 : decode cL_law 1517 = .ok (.iadd, 1) := by sorry
theorem dL_law_1518 : decode cL_law 1518 = .ok (.iaload, 1) := by sorry
theorem dL_law_1519 : decode cL_law 1519 = .ok (.invokevirtual 311, 3) := by sorry
theorem dL_law_1522 : decode cL_law 1522 = .ok (.istore 6, 2) := by sorry
theorem dL_law_1524 : decode cL_law 1524 = .ok (.goto 290, 3) := by sorry
theorem dL_law_1527 : decode cL_law 1527 = .ok (.aload_n 1, 1) := by sorry
theorem dL_law_1528 : decode cL_law 1528 = .ok (.aload_n 3, 1) := by sorry
theorem dL_law_1529 : decode cL_law 1529 = .ok (.invokestatic 312, 3) := by sorry
theorem dL_law_1532 : decode cL_law 1532 = .ok (.istore 5, 2) := by sorry
theorem dL_law_1534 : decode cL_law 1534 = .ok (.aload_n 2, 1) := by sorry
theorem dL_law_1535 : decode cL_law 1535 = .ok (.invokevirtual 315, 3) := by sorry
theorem dL_law_1538 : decode cL_law 1538 = .ok (.istore 6, 2) := by sorry
theorem dL_law_1540 : decode cL_law 1540 = .ok (.goto 274, 3) := by sorry
theorem dL_law_1543 : decode cL_law 1543 = .ok (.aload_n 1, 1) := by sorry
theorem dL_law_1544 : decode cL_law 1544 = .ok (.aload_n 0, 1) := by sorry
theorem dL_law_1545 : decode cL_law 1545 = .ok (.iload 4, 2) := by sorry
theorem dL_law_1547 : decode cL_law 1547 = .ok (.iconst 1, 1) := by sorry
theorem dL_law_1548 : decode cL_law 1548 = .ok (.iadd, 1) := by sorry
theorem dL_law_1549 : decode cL_law 1549 = .ok (.iaload, 1) := by sorry
theorem dL_law_1550 : decode cL_law 1550 = .ok (.aload_n 0, 1) := by sorry
theorem dL_law_1551 : decode cL_law 1551 = .ok (.iload 4, 2) := by sorry
theorem dL_law_1553 : decode cL_law 1553 = .ok (.iconst 2, 1) := by sorry
theorem dL_law_1554 : decode cL_law 1554 = .ok (.iadd, 1) := by sorry
theorem dL_law_1555 : decode cL_law 1555 = .ok (.iaload, 1) := by sorry
theorem dL_law_1556 : decode cL_law 1556 = .ok (.aload_n 3, 1) := by sorry
theorem dL_law_1557 : decode cL_law 1557 = .ok (.invokestatic 316, 3) := by sorry
theorem dL_law_1560 : decode cL_law 1560 = .ok (.istore 5, 2) := by sorry
theorem dL_law_1562 : decode cL_law 1562 = .ok (.aload_n 2, 1) := by sorry
theorem dL_law_1563 : decode cL_law 1563 = .ok (.aload_n 0, 1) := by sorry
theorem dL_law_1564 : decode cL_law 1564 = .ok (.iload 4, 2) := by sorry
theorem dL_law_1566 : decode cL_law 1566 = .ok (.iconst 1, 1) := by sorry
theorem dL_law_1567 : decode cL_law 1567 = .ok (.iadd, 1) := by sorry
theorem dL_law_1568 : decode cL_law 1568 = .ok (.iaload, 1) := by sorry
theorem dL_law_1569 : decode cL_law 1569 = .ok (.aload_n 0, 1) := by sorry
theorem dL_law_1570 : decode cL_law 1570 = .ok (.iload 4, 2) := by sorry
theorem dL_law_1572 : decode cL_law 1572 = .ok (.iconst 2, 1) := by sorry
theorem dL_law_1573 : decode cL_law 1573 = .ok (.iadd, 1) := by sorry
theorem dL_law_1574 : decode cL_law 1574 = .ok (.iaload, 1) := by sorry
theorem dL_law_1575 : decode cL_law 1575 = .ok (.invokevirtual 318, 3) := by sorry
theorem dL_law_1578 : decode cL_law 1578 = .ok (.istore 6, 2) := by sorry
theorem dL_law_1580 : decode cL_law 1580 = .ok (.goto 234, 3) := by sorry
theorem dL_law_1583 : decode cL_law 1583 = .ok (.aload_n 1, 1) := by sorry
theorem dL_law_1584 : decode cL_law 1584 = .ok (.aload_n 0, 1) := by sorry
theorem dL_law_1585 : decode cL_law 1585 = .ok (.iload 4, 2) := by sorry
theorem dL_law_1587 : decode cL_law 1587 = .ok (.iconst 1, 1) := by sorry
theorem dL_law_1588 : decode cL_law 1588 = .ok (.iadd, 1) := by sorry
theorem dL_law_1589 : decode cL_law 1589 = .ok (.iaload, 1) := by sorry
theorem dL_law_1590 : decode cL_law 1590 = .ok (.aload_n 3, 1) := by sorry
theorem dL_law_1591 : decode cL_law 1591 = .ok (.invokestatic 319, 3) := by sorry
theorem dL_law_1594 : decode cL_law 1594 = .ok (.istore 5, 2) := by sorry
theorem dL_law_1596 : decode cL_law 1596 = .ok (.aload_n 2, 1) := by sorry
theorem dL_law_1597 : decode cL_law 1597 = .ok (.aload_n 0, 1) := by sorry
theorem dL_law_1598 : decode cL_law 1598 = .ok (.iload 4, 2) := by sorry
theorem dL_law_1600 : decode cL_law 1600 = .ok (.iconst 1, 1) := by sorry
theorem dL_law_1601 : decode cL_law 1601 = .ok (.iadd, 1) := by sorry
theorem dL_law_1602 : decode cL_law 1602 = .ok (.iaload, 1) := by sorry
theorem dL_law_1603 : decode cL_law 1603 = .ok (.invokevirtual 321, 3) := by sorry
theorem dL_law_1606 : decode cL_law 1606 = .ok (.istore 6, 2) := by sorry
theorem dL_law_1608 : decode cL_law 1608 = .ok (.goto 206, 3) := by sorry
theorem dL_law_1611 : decode cL_law 1611 = .ok (.aload_n 1, 1) := by sorry
theorem dL_law_1612 : decode cL_law 1612 = .ok (.aload_n 0, 1) := by sorry
theorem dL_law_1613 : decode cL_law 1613 = .ok (.iload 4, 2) := by sorry
theorem dL_law_1615 : decode cL_law 1615 = .ok (.iconst 1, 1) := by sorry
theorem dL_law_1616 : decode cL_law 1616 = .ok (.iadd, 1) := by sorry
theorem dL_law_1617 : decode cL_law 1617 = .ok (.iaload, 1) := by sorry
theorem dL_law_1618 : decode cL_law 1618 = .ok (.aload_n 3, 1) := by sorry
theorem dL_law_1619 : decode cL_law 1619 = .ok (.invokestatic 322, 3) := by sorry
theorem dL_law_1622 : decode cL_law 1622 = .ok (.istore 5, 2) := by sorry
theorem dL_law_1624 : decode cL_law 1624 = .ok (.aload_n 2, 1) := by sorry
theorem dL_law_1625 : decode cL_law 1625 = .ok (.aload_n 0, 1) := by sorry
theorem dL_law_1626 : decode cL_law 1626 = .ok (.iload 4, 2) := by sorry
theorem dL_law_1628 : decode cL_law 1628 = .ok (.iconst 1, 1) := by sorry
theorem dL_law_1629 : decode cL_law 1629 = .ok (.iadd, 1) := by sorry
theorem dL_law_1630 : decode cL_law 1630 = .ok (.iaload, 1) := by sorry
theorem dL_law_1631 : decode cL_law 1631 = .ok (.invokevirtual 324, 3) := by sorry
theorem dL_law_1634 : decode cL_law 1634 = .ok (.istore 6, 2) := by sorry
theorem dL_law_1636 : decode cL_law 1636 = .ok (.goto 178, 3) := by sorry
theorem dL_law_1639 : decode cL_law 1639 = .ok (.aload_n 1, 1) := by sorry
theorem dL_law_1640 : decode cL_law 1640 = .ok (.invokevirtual 325, 3) := by sorry
theorem dL_law_1643 : decode cL_law 1643 = .ok (.pop, 1) := by sorry
theorem dL_law_1644 : decode cL_law 1644 = .ok (.aload_n 2, 1) := by sorry
theorem dL_law_1645 : decode cL_law 1645 = .ok (.invokevirtual 328, 3) := by sorry
theorem dL_law_1648 : decode cL_law 1648 = .ok (.pop, 1) := by sorry
theorem dL_law_1649 : decode cL_law 1649 = .ok (.goto 165, 3) := by sorry
theorem dL_law_1652 : decode cL_law 1652 = .ok (.aload_n 1, 1) := by sorry
theorem dL_law_1653 : decode cL_law 1653 = .ok (.aload_n 0, 1) := by sorry
theorem dL_law_1654 : decode cL_law 1654 = .ok (.iload 4, 2) := by sorry
theorem dL_law_1656 : decode cL_law 1656 = .ok (.iconst 1, 1) := by sorry
theorem dL_law_1657 : decode cL_law 1657 = .ok (.iadd, 1) := by sorry
theorem dL_law_1658 : decode cL_law 1658 = .ok (.iaload, 1) := by sorry
theorem dL_law_1659 : decode cL_law 1659 = .ok (.aload_n 3, 1) := by sorry
theorem dL_law_1660 : decode cL_law 1660 = .ok (.invokestatic 329, 3) := by sorry
theorem dL_law_1663 : decode cL_law 1663 = .ok (.istore 5, 2) := by sorry
theorem dL_law_1665 : decode cL_law 1665 = .ok (.aload_n 2, 1) := by sorry
theorem dL_law_1666 : decode cL_law 1666 = .ok (.aload_n 0, 1) := by sorry
theorem dL_law_1667 : decode cL_law 1667 = .ok (.iload 4, 2) := by sorry
theorem dL_law_1669 : decode cL_law 1669 = .ok (.iconst 1, 1) := by sorry
theorem dL_law_1670 : decode cL_law 1670 = .ok (.iadd, 1) := by sorry
theorem dL_law_1671 : decode cL_law 1671 = .ok (.iaload, 1) := by sorry
theorem dL_law_1672 : decode cL_law 1672 = .ok (.invokevirtual 331, 3) := by sorry
theorem dL_law_1675 : decode cL_law 1675 = .ok (.istore 6, 2) := by sorry
theorem dL_law_1677 : decode cL_law 1677 = .ok (.goto 137, 3) := by sorry
theorem dL_law_1680 : decode cL_law 1680 = .ok (.aload_n 1, 1) := by sorry
theorem dL_law_1681 : decode cL_law 1681 = .ok (.aload_n 0, 1) := by sorry
theorem dL_law_1682 : decode cL_law 1682 = .ok (.iload 4, 2) := by sorry
theorem dL_law_1684 : decode cL_law 1684 = .ok (.iconst 1, 1) := by sorry
theorem dL_law_1685 : decode cL_law 1685 = .ok (.iadd, 1) := by sorry
theorem dL_law_1686 : decode cL_law 1686 = .ok (.iaload, 1) := by sorry
theorem dL_law_1687 : decode cL_law 1687 = .ok (.aload_n 3, 1) := by sorry
theorem dL_law_1688 : decode cL_law 1688 = .ok (.invokestatic 332, 3) := by sorry
theorem dL_law_1691 : decode cL_law 1691 = .ok (.istore 5, 2) := by sorry
theorem dL_law_1693 : decode cL_law 1693 = .ok (.aload_n 2, 1) := by sorry
theorem dL_law_1694 : decode cL_law 1694 = .ok (.aload_n 0, 1) := by sorry
theorem dL_law_1695 : decode cL_law 1695 = .ok (.iload 4, 2) := by sorry
theorem dL_law_1697 : decode cL_law 1697 = .ok (.iconst 1, 1) := by sorry
theorem dL_law_1698 : decode cL_law 1698 = .ok (.iadd, 1) := by sorry
theorem dL_law_1699 : decode cL_law 1699 = .ok (.iaload, 1) := by sorry
theorem dL_law_1700 : decode cL_law 1700 = .ok (.invokevirtual 334, 3) := by sorry
theorem dL_law_1703 : decode cL_law 1703 = .ok (.istore 6, 2) := by sorry
theorem dL_law_1705 : decode cL_law 1705 = .ok (.goto 109, 3) := by sorry
theorem dL_law_1708 : decode cL_law 1708 = .ok (.aload_n 1, 1) := by sorry
theorem dL_law_1709 : decode cL_law 1709 = .ok (.invokevirtual 335, 3) := by sorry
theorem dL_law_1712 : decode cL_law 1712 = .ok (.pop, 1) := by sorry
theorem dL_law_1713 : decode cL_law 1713 = .ok (.aload_n 2, 1) := by sorry
theorem dL_law_1714 : decode cL_law 1714 = .ok (.invokevirtual 338, 3) := by sorry
theorem dL_law_1717 : decode cL_law 1717 = .ok (.pop, 1) := by sorry
theorem dL_law_1718 : decode cL_law 1718 = .ok (.goto 96, 3) := by sorry
theorem dL_law_1721 : decode cL_law 1721 = .ok (.aload_n 1, 1) := by sorry
theorem dL_law_1722 : decode cL_law 1722 = .ok (.aload_n 0, 1) := by sorry
theorem dL_law_1723 : decode cL_law 1723 = .ok (.iload 4, 2) := by sorry
theorem dL_law_1725 : decode cL_law 1725 = .ok (.iconst 1, 1) := by sorry
theorem dL_law_1726 : decode cL_law 1726 = .ok (.iadd, 1) := by sorry
theorem dL_law_1727 : decode cL_law 1727 = .ok (.iaload, 1) := by sorry
theorem dL_law_1728 : decode cL_law 1728 = .ok (.aload_n 0, 1) := by sorry
theorem dL_law_1729 : decode cL_law 1729 = .ok (.iload 4, 2) := by sorry
theorem dL_law_1731 : decode cL_law 1731 = .ok (.iconst 2, 1) := by sorry
theorem dL_law_1732 : decode cL_law 1732 = .ok (.iadd, 1) := by sorry
theorem dL_law_1733 : decode cL_law 1733 = .ok (.iaload, 1) := by sorry
theorem dL_law_1734 : decode cL_law 1734 = .ok (.aload_n 3, 1) := by sorry
theorem dL_law_1735 : decode cL_law 1735 = .ok (.invokestatic 339, 3) := by sorry
theorem dL_law_1738 : decode cL_law 1738 = .ok (.istore 5, 2) := by sorry
theorem dL_law_1740 : decode cL_law 1740 = .ok (.aload_n 2, 1) := by sorry
theorem dL_law_1741 : decode cL_law 1741 = .ok (.aload_n 0, 1) := by sorry
theorem dL_law_1742 : decode cL_law 1742 = .ok (.iload 4, 2) := by sorry
theorem dL_law_1744 : decode cL_law 1744 = .ok (.iconst 1, 1) := by sorry
theorem dL_law_1745 : decode cL_law 1745 = .ok (.iadd, 1) := by sorry
theorem dL_law_1746 : decode cL_law 1746 = .ok (.iaload, 1) := by sorry
theorem dL_law_1747 : decode cL_law 1747 = .ok (.aload_n 0, 1) := by sorry
theorem dL_law_1748 : decode cL_law 1748 = .ok (.iload 4, 2) := by sorry
theorem dL_law_1750 : decode cL_law 1750 = .ok (.iconst 2, 1) := by sorry
theorem dL_law_1751 : decode cL_law 1751 = .ok (.iadd, 1) := by sorry
theorem dL_law_1752 : decode cL_law 1752 = .ok (.iaload, 1) := by sorry
theorem dL_law_1753 : decode cL_law 1753 = .ok (.invokevirtual 341, 3) := by sorry
theorem dL_law_1756 : decode cL_law 1756 = .ok (.istore 6, 2) := by sorry
theorem dL_law_1758 : decode cL_law 1758 = .ok (.goto 56, 3) := by sorry
theorem dL_law_1761 : decode cL_law 1761 = .ok (.aload_n 1, 1) := by sorry
theorem dL_law_1762 : decode cL_law 1762 = .ok (.aload_n 0, 1) := by sorry
theorem dL_law_1763 : decode cL_law 1763 = .ok (.iload 4, 2) := by sorry
theorem dL_law_1765 : decode cL_law 1765 = .ok (.iconst 1, 1) := by sorry
theorem dL_law_1766 : decode cL_law 1766 = .ok (.iadd, 1) := by sorry
theorem dL_law_1767 : decode cL_law 1767 = .ok (.iaload, 1) := by sorry
theorem dL_law_1768 : decode cL_law 1768 = .ok (.aload_n 0, 1) := by sorry
theorem dL_law_1769 : decode cL_law 1769 = .ok (.iload 4, 2) := by sorry
theorem dL_law_1771 : decode cL_law 1771 = .ok (.iconst 2, 1) := by sorry
theorem dL_law_1772 : decode cL_law 1772 = .ok (.iadd, 1) := by sorry
theorem dL_law_1773 : decode cL_law 1773 = .ok (.iaload, 1) := by sorry
theorem dL_law_1774 : decode cL_law 1774 = .ok (.aload_n 3, 1) := by sorry
theorem dL_law_1775 : decode cL_law 1775 = .ok (.invokestatic 342, 3) := by sorry
theorem dL_law_1778 : decode cL_law 1778 = .ok (.istore 5, 2) := by sorry
theorem dL_law_1780 : decode cL_law 1780 = .ok (.aload_n 2, 1) := by sorry
theorem dL_law_1781 : decode cL_law 1781 = .ok (.aload_n 0, 1) := by sorry
theorem dL_law_1782 : decode cL_law 1782 = .ok (.iload 4, 2) := by sorry
theorem dL_law_1784 : decode cL_law 1784 = .ok (.iconst 1, 1) := by sorry
theorem dL_law_1785 : decode cL_law 1785 = .ok (.iadd, 1) := by sorry
theorem dL_law_1786 : decode cL_law 1786 = .ok (.iaload, 1) := by sorry
theorem dL_law_1787 : decode cL_law 1787 = .ok (.aload_n 0, 1) := by sorry
theorem dL_law_1788 : decode cL_law 1788 = .ok (.iload 4, 2) := by sorry
theorem dL_law_1790 : decode cL_law 1790 = .ok (.iconst 2, 1) := by sorry
theorem dL_law_1791 : decode cL_law 1791 = .ok (.iadd, 1) := by sorry
theorem dL_law_1792 : decode cL_law 1792 = .ok (.iaload, 1) := by sorry
theorem dL_law_1793 : decode cL_law 1793 = .ok (.invokevirtual 344, 3) := by sorry
theorem dL_law_1796 : decode cL_law 1796 = .ok (.istore 6, 2) := by sorry
theorem dL_law_1798 : decode cL_law 1798 = .ok (.goto 16, 3) := by sorry
theorem dL_law_1801 : decode cL_law 1801 = .ok (.aload_n 1, 1) := by sorry
theorem dL_law_1802 : decode cL_law 1802 = .ok (.invokevirtual 345, 3) := by sorry
theorem dL_law_1805 : decode cL_law 1805 = .ok (.pop, 1) := by sorry
theorem dL_law_1806 : decode cL_law 1806 = .ok (.aload_n 2, 1) := by sorry
theorem dL_law_1807 : decode cL_law 1807 = .ok (.invokevirtual 348, 3) := by sorry
theorem dL_law_1810 : decode cL_law 1810 = .ok (.pop, 1) := by sorry
theorem dL_law_1811 : decode cL_law 1811 = .ok (.goto 3, 3) := by sorry
theorem dL_law_1814 : decode cL_law 1814 = .ok (.iinc 4 6, 3) := by sorry
theorem dL_law_1817 : decode cL_law 1817 = .ok (.goto (-1794), 3) := by sorry
theorem dL_law_1820 : decode cL_law 1820 = .ok (.iconst 1, 1) := by sorry
theorem dL_law_1821 : decode cL_law 1821 = .ok (.ireturn, 1) := by sorry
