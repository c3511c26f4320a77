set_option maxRecDepth 20000 in
theorem dqL_law_0 : (([(0, .new 8, 3), (3, .dup, 1), (4, .invokespecial 136, 3), (7, .astore_n 1, 1), (8, .new 137, 3), (11, .dup, 1), (12, .invokespecial 139, 3), (15, .astore_n 2, 1), (16, .iconst 1, 1), (17, .newarray .long, 2), (19, .astore_n 3, 1), (20, .iconst 0, 1), (21, .istore 4, 2), (23, .iload 4, 2), (25, .aload_n 0, 1), (26, .arraylength, 1), (27, .bipush 6, 2), (29, .isub, 1), (30, .if_icmp .gt 1790, 3), (33, .aload_n 0, 1), (34, .iload 4, 2), (36, .iaload, 1), (37, .bipush 63, 2), (39, .iand, 1), (40, .tableswitch 1774 0 59 #[256, 329, 357, 370, 383, 396, 409, 422, 435, 448, 461, 474, 487, 500, 513, 526, 554, 582, 610, 638, 666, 694, 722, 750, 763, 776, 804, 817, 845, 885, 925, 953, 966, 979, 1007, 1047, 1075, 1103, 1143, 1183, 1211, 1239, 1267, 1295, 1335, 1363, 1391, 1431, 1459, 1487, 1503, 1543, 1571, 1599, 1612, 1640, 1668, 1681, 1721, 1761], 256), (296, .aload_n 1, 1), (297, .aload_n 0, 1), (298, .iload 4, 2), (300, .iconst 1, 1), (301, .iadd, 1), (302, .iaload, 1), (303, .aload_n 0, 1), (304, .iload 4, 2), (306, .iconst 2, 1), (307, .iadd, 1), (308, .iaload, 1), (309, .aload_n 0, 1), (310, .iload 4, 2), (312, .iconst 3, 1), (313, .iadd, 1), (314, .iaload, 1), (315, .aload_n 0, 1), (316, .iload 4, 2), (318, .iconst 4, 1), (319, .iadd, 1), (320, .iaload, 1), (321, .aload_n 0, 1), (322, .iload 4, 2), (324, .iconst 5, 1), (325, .iadd, 1)] : List (Nat × Instr × Nat)).all fun x => decide (decode cL_law x.1 = .ok (x.2.1, x.2.2))) = true := by decide +kernel
theorem dL_law_0 : decode cL_law 0 = .ok (.new 8, 3) := dq_at dqL_law_0 0 rfl
theorem dL_law_3 : decode cL_law 3 = .ok (.dup, 1) := dq_at dqL_law_0 1 rfl
theorem dL_law_4 : decode cL_law 4 = .ok (.invokespecial 136, 3) := dq_at dqL_law_0 2 rfl
theorem dL_law_7 : decode cL_law 7 = .ok (.astore_n 1, 1) := dq_at dqL_law_0 3 rfl
theorem dL_law_8 : decode cL_law 8 = .ok (.new 137, 3) := dq_at dqL_law_0 4 rfl
theorem dL_law_11 : decode cL_law 11 = .ok (.dup, 1) := dq_at dqL_law_0 5 rfl
theorem dL_law_12 : decode cL_law 12 = .ok (.invokespecial 139, 3) := dq_at dqL_law_0 6 rfl
theorem dL_law_15 : decode cL_law 15 = .ok (.astore_n 2, 1) := dq_at dqL_law_0 7 rfl
theorem dL_law_16 : decode cL_law 16 = .ok (.iconst 1, 1) := dq_at dqL_law_0 8 rfl
theorem dL_law_17 : decode cL_law 17 = .ok (.newarray .long, 2) := dq_at dqL_law_0 9 rfl
theorem dL_law_19 : decode cL_law 19 = .ok (.astore_n 3, 1) := dq_at dqL_law_0 10 rfl
theorem dL_law_20 : decode cL_law 20 = .ok (.iconst 0, 1) := dq_at dqL_law_0 11 rfl
theorem dL_law_21 : decode cL_law 21 = .ok (.istore 4, 2) := dq_at dqL_law_0 12 rfl
theorem dL_law_23 : decode cL_law 23 = .ok (.iload 4, 2) := dq_at dqL_law_0 13 rfl
theorem dL_law_25 : decode cL_law 25 = .ok (.aload_n 0, 1) := dq_at dqL_law_0 14 rfl
theorem dL_law_26 : decode cL_law 26 = .ok (.arraylength, 1) := dq_at dqL_law_0 15 rfl
theorem dL_law_27 : decode cL_law 27 = .ok (.bipush 6, 2) := dq_at dqL_law_0 16 rfl
theorem dL_law_29 : decode cL_law 29 = .ok (.isub, 1) := dq_at dqL_law_0 17 rfl
theorem dL_law_30 : decode cL_law 30 = .ok (.if_icmp .gt 1790, 3) := dq_at dqL_law_0 18 rfl
theorem dL_law_33 : decode cL_law 33 = .ok (.aload_n 0, 1) := dq_at dqL_law_0 19 rfl
theorem dL_law_34 : decode cL_law 34 = .ok (.iload 4, 2) := dq_at dqL_law_0 20 rfl
theorem dL_law_36 : decode cL_law 36 = .ok (.iaload, 1) := dq_at dqL_law_0 21 rfl
theorem dL_law_37 : decode cL_law 37 = .ok (.bipush 63, 2) := dq_at dqL_law_0 22 rfl
theorem dL_law_39 : decode cL_law 39 = .ok (.iand, 1) := dq_at dqL_law_0 23 rfl
theorem dL_law_40 : decode cL_law 40 = .ok (.tableswitch 1774 0 59 #[256, 329, 357, 370, 383, 396, 409, 422, 435, 448, 461, 474, 487, 500, 513, 526, 554, 582, 610, 638, 666, 694, 722, 750, 763, 776, 804, 817, 845, 885, 925, 953, 966, 979, 1007, 1047, 1075, 1103, 1143, 1183, 1211, 1239, 1267, 1295, 1335, 1363, 1391, 1431, 1459, 1487, 1503, 1543, 1571, 1599, 1612, 1640, 1668, 1681, 1721, 1761], 256) := dq_at dqL_law_0 24 rfl
theorem dL_law_296 : decode cL_law 296 = .ok (.aload_n 1, 1) := dq_at dqL_law_0 25 rfl
theorem dL_law_297 : decode cL_law 297 = .ok (.aload_n 0, 1) := dq_at dqL_law_0 26 rfl
theorem dL_law_298 : decode cL_law 298 = .ok (.iload 4, 2) := dq_at dqL_law_0 27 rfl
theorem dL_law_300 : decode cL_law 300 = .ok (.iconst 1, 1) := dq_at dqL_law_0 28 rfl
theorem dL_law_301 : decode cL_law 301 = .ok (.iadd, 1) := dq_at dqL_law_0 29 rfl
theorem dL_law_302 : decode cL_law 302 = .ok (.iaload, 1) := dq_at dqL_law_0 30 rfl
theorem dL_law_303 : decode cL_law 303 = .ok (.aload_n 0, 1) := dq_at dqL_law_0 31 rfl
theorem dL_law_304 : decode cL_law 304 = .ok (.iload 4, 2) := dq_at dqL_law_0 32 rfl
theorem dL_law_306 : decode cL_law 306 = .ok (.iconst 2, 1) := dq_at dqL_law_0 33 rfl
theorem dL_law_307 : decode cL_law 307 = .ok (.iadd, 1) := dq_at dqL_law_0 34 rfl
theorem dL_law_308 : decode cL_law 308 = .ok (.iaload, 1) := dq_at dqL_law_0 35 rfl
theorem dL_law_309 : decode cL_law 309 = .ok (.aload_n 0, 1) := dq_at dqL_law_0 36 rfl
theorem dL_law_310 : decode cL_law 310 = .ok (.iload 4, 2) := dq_at dqL_law_0 37 rfl
theorem dL_law_312 : decode cL_law 312 = .ok (.iconst 3, 1) := dq_at dqL_law_0 38 rfl
theorem dL_law_313 : decode cL_law 313 = .ok (.iadd, 1) := dq_at dqL_law_0 39 rfl
theorem dL_law_314 : decode cL_law 314 = .ok (.iaload, 1) := dq_at dqL_law_0 40 rfl
theorem dL_law_315 : decode cL_law 315 = .ok (.aload_n 0, 1) := dq_at dqL_law_0 41 rfl
theorem dL_law_316 : decode cL_law 316 = .ok (.iload 4, 2) := dq_at dqL_law_0 42 rfl
theorem dL_law_318 : decode cL_law 318 = .ok (.iconst 4, 1) := dq_at dqL_law_0 43 rfl
theorem dL_law_319 : decode cL_law 319 = .ok (.iadd, 1) := dq_at dqL_law_0 44 rfl
theorem dL_law_320 : decode cL_law 320 = .ok (.iaload, 1) := dq_at dqL_law_0 45 rfl
theorem dL_law_321 : decode cL_law 321 = .ok (.aload_n 0, 1) := dq_at dqL_law_0 46 rfl
theorem dL_law_322 : decode cL_law 322 = .ok (.iload 4, 2) := dq_at dqL_law_0 47 rfl
theorem dL_law_324 : decode cL_law 324 = .ok (.iconst 5, 1) := dq_at dqL_law_0 48 rfl
theorem dL_law_325 : decode cL_law 325 = .ok (.iadd, 1) := dq_at dqL_law_0 49 rfl
set_option maxRecDepth 20000 in
theorem dqL_law_326 : (([(326, .iaload, 1), (327, .invokevirtual 140, 3), (330, .pop, 1), (331, .aload_n 2, 1), (332, .aload_n 0, 1), (333, .iload 4, 2), (335, .iconst 1, 1), (336, .iadd, 1), (337, .iaload, 1), (338, .aload_n 0, 1), (339, .iload 4, 2), (341, .iconst 2, 1), (342, .iadd, 1), (343, .iaload, 1), (344, .aload_n 0, 1), (345, .iload 4, 2), (347, .iconst 3, 1), (348, .iadd, 1), (349, .iaload, 1), (350, .aload_n 0, 1), (351, .iload 4, 2), (353, .iconst 4, 1), (354, .iadd, 1), (355, .iaload, 1), (356, .aload_n 0, 1), (357, .iload 4, 2), (359, .iconst 5, 1), (360, .iadd, 1), (361, .iaload, 1), (362, .invokevirtual 144, 3), (365, .pop, 1), (366, .goto 1448, 3), (369, .aload_n 1, 1), (370, .aload_n 0, 1), (371, .iload 4, 2), (373, .iconst 1, 1), (374, .iadd, 1), (375, .iaload, 1), (376, .aload_n 3, 1), (377, .invokestatic 145, 3), (380, .istore 5, 2), (382, .aload_n 2, 1), (383, .aload_n 0, 1), (384, .iload 4, 2), (386, .iconst 1, 1), (387, .iadd, 1), (388, .iaload, 1), (389, .invokevirtual 150, 3), (392, .istore 6, 2), (394, .goto 1420, 3)] : List (Nat × Instr × Nat)).all fun x => decide (decode cL_law x.1 = .ok (x.2.1, x.2.2))) = true := by decide +kernel
theorem dL_law_326 : decode cL_law 326 = .ok (.iaload, 1) := dq_at dqL_law_326 0 rfl
theorem dL_law_327 : decode cL_law 327 = .ok (.invokevirtual 140, 3) := dq_at dqL_law_326 1 rfl
theorem dL_law_330 : decode cL_law 330 = .ok (.pop, 1) := dq_at dqL_law_326 2 rfl
theorem dL_law_331 : decode cL_law 331 = .ok (.aload_n 2, 1) := dq_at dqL_law_326 3 rfl
theorem dL_law_332 : decode cL_law 332 = .ok (.aload_n 0, 1) := dq_at dqL_law_326 4 rfl
theorem dL_law_333 : decode cL_law 333 = .ok (.iload 4, 2) := dq_at dqL_law_326 5 rfl
theorem dL_law_335 : decode cL_law 335 = .ok (.iconst 1, 1) := dq_at dqL_law_326 6 rfl
theorem dL_law_336 : decode cL_law 336 = .ok (.iadd, 1) := dq_at dqL_law_326 7 rfl
theorem dL_law_337 : decode cL_law 337 = .ok (.iaload, 1) := dq_at dqL_law_326 8 rfl
theorem dL_law_338 : decode cL_law 338 = .ok (.aload_n 0, 1) := dq_at dqL_law_326 9 rfl
theorem dL_law_339 : decode cL_law 339 = .ok (.iload 4, 2) := dq_at dqL_law_326 10 rfl
theorem dL_law_341 : decode cL_law 341 = .ok (.iconst 2, 1) := dq_at dqL_law_326 11 rfl
theorem dL_law_342 : decode cL_law 342 = .ok (.iadd, 1) := dq_at dqL_law_326 12 rfl
theorem dL_law_343 : decode cL_law 343 = .ok (.iaload, 1) := dq_at dqL_law_326 13 rfl
theorem dL_law_344 : decode cL_law 344 = .ok (.aload_n 0, 1) := dq_at dqL_law_326 14 rfl
theorem dL_law_345 : decode cL_law 345 = .ok (.iload 4, 2) := dq_at dqL_law_326 15 rfl
theorem dL_law_347 : decode cL_law 347 = .ok (.iconst 3, 1) := dq_at dqL_law_326 16 rfl
theorem dL_law_348 : decode cL_law 348 = .ok (.iadd, 1) := dq_at dqL_law_326 17 rfl
theorem dL_law_349 : decode cL_law 349 = .ok (.iaload, 1) := dq_at dqL_law_326 18 rfl
theorem dL_law_350 : decode cL_law 350 = .ok (.aload_n 0, 1) := dq_at dqL_law_326 19 rfl
theorem dL_law_351 : decode cL_law 351 = .ok (.iload 4, 2) := dq_at dqL_law_326 20 rfl
theorem dL_law_353 : decode cL_law 353 = .ok (.iconst 4, 1) := dq_at dqL_law_326 21 rfl
theorem dL_law_354 : decode cL_law 354 = .ok (.iadd, 1) := dq_at dqL_law_326 22 rfl
theorem dL_law_355 : decode cL_law 355 = .ok (.iaload, 1) := dq_at dqL_law_326 23 rfl
theorem dL_law_356 : decode cL_law 356 = .ok (.aload_n 0, 1) := dq_at dqL_law_326 24 rfl
theorem dL_law_357 : decode cL_law 357 = .ok (.iload 4, 2) := dq_at dqL_law_326 25 rfl
theorem dL_law_359 : decode cL_law 359 = .ok (.iconst 5, 1) := dq_at dqL_law_326 26 rfl
theorem dL_law_360 : decode cL_law 360 = .ok (.iadd, 1) := dq_at dqL_law_326 27 rfl
theorem dL_law_361 : decode cL_law 361 = .ok (.iaload, 1) := dq_at dqL_law_326 28 rfl
theorem dL_law_362 : decode cL_law 362 = .ok (.invokevirtual 144, 3) := dq_at dqL_law_326 29 rfl
theorem dL_law_365 : decode cL_law 365 = .ok (.pop, 1) := dq_at dqL_law_326 30 rfl
theorem dL_law_366 : decode cL_law 366 = .ok (.goto 1448, 3) := dq_at dqL_law_326 31 rfl
theorem dL_law_369 : decode cL_law 369 = .ok (.aload_n 1, 1) := dq_at dqL_law_326 32 rfl
theorem dL_law_370 : decode cL_law 370 = .ok (.aload_n 0, 1) := dq_at dqL_law_326 33 rfl
theorem dL_law_371 : decode cL_law 371 = .ok (.iload 4, 2) := dq_at dqL_law_326 34 rfl
theorem dL_law_373 : decode cL_law 373 = .ok (.iconst 1, 1) := dq_at dqL_law_326 35 rfl
theorem dL_law_374 : decode cL_law 374 = .ok (.iadd, 1) := dq_at dqL_law_326 36 rfl
theorem dL_law_375 : decode cL_law 375 = .ok (.iaload, 1) := dq_at dqL_law_326 37 rfl
theorem dL_law_376 : decode cL_law 376 = .ok (.aload_n 3, 1) := dq_at dqL_law_326 38 rfl
theorem dL_law_377 : decode cL_law 377 = .ok (.invokestatic 145, 3) := dq_at dqL_law_326 39 rfl
theorem dL_law_380 : decode cL_law 380 = .ok (.istore 5, 2) := dq_at dqL_law_326 40 rfl
theorem dL_law_382 : decode cL_law 382 = .ok (.aload_n 2, 1) := dq_at dqL_law_326 41 rfl
theorem dL_law_383 : decode cL_law 383 = .ok (.aload_n 0, 1) := dq_at dqL_law_326 42 rfl
theorem dL_law_384 : decode cL_law 384 = .ok (.iload 4, 2) := dq_at dqL_law_326 43 rfl
theorem dL_law_386 : decode cL_law 386 = .ok (.iconst 1, 1) := dq_at dqL_law_326 44 rfl
theorem dL_law_387 : decode cL_law 387 = .ok (.iadd, 1) := dq_at dqL_law_326 45 rfl
theorem dL_law_388 : decode cL_law 388 = .ok (.iaload, 1) := dq_at dqL_law_326 46 rfl
theorem dL_law_389 : decode cL_law 389 = .ok (.invokevirtual 150, 3) := dq_at dqL_law_326 47 rfl
theorem dL_law_392 : decode cL_law 392 = .ok (.istore 6, 2) := dq_at dqL_law_326 48 rfl
theorem dL_law_394 : decode cL_law 394 = .ok (.goto 1420, 3) := dq_at dqL_law_326 49 rfl
set_option maxRecDepth 20000 in
theorem dqL_law_397 : (([(397, .aload_n 1, 1), (398, .invokevirtual 151, 3), (401, .pop, 1), (402, .aload_n 2, 1), (403, .invokevirtual 154, 3), (406, .pop, 1), (407, .goto 1407, 3), (410, .aload_n 1, 1), (411, .invokevirtual 155, 3), (414, .aload_n 2, 1), (415, .invokevirtual 158, 3), (418, .if_icmp .eq 1396, 3), (421, .iconst 0, 1), (422, .ireturn, 1), (423, .aload_n 1, 1), (424, .invokevirtual 159, 3), (427, .pop, 1), (428, .aload_n 2, 1), (429, .invokevirtual 162, 3), (432, .pop, 1), (433, .goto 1381, 3), (436, .aload_n 1, 1), (437, .invokevirtual 163, 3), (440, .pop, 1), (441, .aload_n 2, 1), (442, .invokevirtual 166, 3), (445, .pop, 1), (446, .goto 1368, 3), (449, .aload_n 1, 1), (450, .invokevirtual 167, 3), (453, .pop, 1), (454, .aload_n 2, 1), (455, .invokevirtual 170, 3), (458, .pop, 1), (459, .goto 1355, 3), (462, .aload_n 1, 1), (463, .invokevirtual 171, 3), (466, .pop, 1), (467, .aload_n 2, 1), (468, .invokevirtual 174, 3), (471, .pop, 1), (472, .goto 1342, 3), (475, .aload_n 1, 1), (476, .invokevirtual 175, 3), (479, .pop, 1), (480, .aload_n 2, 1), (481, .invokevirtual 178, 3), (484, .pop, 1), (485, .goto 1329, 3), (488, .aload_n 1, 1)] : List (Nat × Instr × Nat)).all fun x => decide (decode cL_law x.1 = .ok (x.2.1, x.2.2))) = true := by decide +kernel
theorem dL_law_397 : decode cL_law 397 = .ok (.aload_n 1, 1) := dq_at dqL_law_397 0 rfl
theorem dL_law_398 : decode cL_law 398 = .ok (.invokevirtual 151, 3) := dq_at dqL_law_397 1 rfl
theorem dL_law_401 : decode cL_law 401 = .ok (.pop, 1) := dq_at dqL_law_397 2 rfl
theorem dL_law_402 : decode cL_law 402 = .ok (.aload_n 2, 1) := dq_at dqL_law_397 3 rfl
theorem dL_law_403 : decode cL_law 403 = .ok (.invokevirtual 154, 3) := dq_at dqL_law_397 4 rfl
theorem dL_law_406 : decode cL_law 406 = .ok (.pop, 1) := dq_at dqL_law_397 5 rfl
theorem dL_law_407 : decode cL_law 407 = .ok (.goto 1407, 3) := dq_at dqL_law_397 6 rfl
theorem dL_law_410 : decode cL_law 410 = .ok (.aload_n 1, 1) := dq_at dqL_law_397 7 rfl
theorem dL_law_411 : decode cL_law 411 = .ok (.invokevirtual 155, 3) := dq_at dqL_law_397 8 rfl
theorem dL_law_414 : decode cL_law 414 = .ok (.aload_n 2, 1) := dq_at dqL_law_397 9 rfl
theorem dL_law_415 : decode cL_law 415 = .ok (.invokevirtual 158, 3) := dq_at dqL_law_397 10 rfl
theorem dL_law_418 : decode cL_law 418 = .ok (.if_icmp .eq 1396, 3) := dq_at dqL_law_397 11 rfl
theorem dL_law_421 : decode cL_law 421 = .ok (.iconst 0, 1) := dq_at dqL_law_397 12 rfl
theorem dL_law_422 : decode cL_law 422 = .ok (.ireturn, 1) := dq_at dqL_law_397 13 rfl
theorem dL_law_423 : decode cL_law 423 = .ok (.aload_n 1, 1) := dq_at dqL_law_397 14 rfl
theorem dL_law_424 : decode cL_law 424 = .ok (.invokevirtual 159, 3) := dq_at dqL_law_397 15 rfl
theorem dL_law_427 : decode cL_law 427 = .ok (.pop, 1) := dq_at dqL_law_397 16 rfl
theorem dL_law_428 : decode cL_law 428 = .ok (.aload_n 2, 1) := dq_at dqL_law_397 17 rfl
theorem dL_law_429 : decode cL_law 429 = .ok (.invokevirtual 162, 3) := dq_at dqL_law_397 18 rfl
theorem dL_law_432 : decode cL_law 432 = .ok (.pop, 1) := dq_at dqL_law_397 19 rfl
theorem dL_law_433 : decode cL_law 433 = .ok (.goto 1381, 3) := dq_at dqL_law_397 20 rfl
theorem dL_law_436 : decode cL_law 436 = .ok (.aload_n 1, 1) := dq_at dqL_law_397 21 rfl
theorem dL_law_437 : decode cL_law 437 = .ok (.invokevirtual 163, 3) := dq_at dqL_law_397 22 rfl
theorem dL_law_440 : decode cL_law 440 = .ok (.pop, 1) := dq_at dqL_law_397 23 rfl
theorem dL_law_441 : decode cL_law 441 = .ok (.aload_n 2, 1) := dq_at dqL_law_397 24 rfl
theorem dL_law_442 : decode cL_law 442 = .ok (.invokevirtual 166, 3) := dq_at dqL_law_397 25 rfl
theorem dL_law_445 : decode cL_law 445 = .ok (.pop, 1) := dq_at dqL_law_397 26 rfl
theorem dL_law_446 : decode cL_law 446 = .ok (.goto 1368, 3) := dq_at dqL_law_397 27 rfl
theorem dL_law_449 : decode cL_law 449 = .ok (.aload_n 1, 1) := dq_at dqL_law_397 28 rfl
theorem dL_law_450 : decode cL_law 450 = .ok (.invokevirtual 167, 3) := dq_at dqL_law_397 29 rfl
theorem dL_law_453 : decode cL_law 453 = .ok (.pop, 1) := dq_at dqL_law_397 30 rfl
theorem dL_law_454 : decode cL_law 454 = .ok (.aload_n 2, 1) := dq_at dqL_law_397 31 rfl
theorem dL_law_455 : decode cL_law 455 = .ok (.invokevirtual 170, 3) := dq_at dqL_law_397 32 rfl
theorem dL_law_458 : decode cL_law 458 = .ok (.pop, 1) := dq_at dqL_law_397 33 rfl
theorem dL_law_459 : decode cL_law 459 = .ok (.goto 1355, 3) := dq_at dqL_law_397 34 rfl
theorem dL_law_462 : decode cL_law 462 = .ok (.aload_n 1, 1) := dq_at dqL_law_397 35 rfl
theorem dL_law_463 : decode cL_law 463 = .ok (.invokevirtual 171, 3) := dq_at dqL_law_397 36 rfl
theorem dL_law_466 : decode cL_law 466 = .ok (.pop, 1) := dq_at dqL_law_397 37 rfl
theorem dL_law_467 : decode cL_law 467 = .ok (.aload_n 2, 1) := dq_at dqL_law_397 38 rfl
theorem dL_law_468 : decode cL_law 468 = .ok (.invokevirtual 174, 3) := dq_at dqL_law_397 39 rfl
theorem dL_law_471 : decode cL_law 471 = .ok (.pop, 1) := dq_at dqL_law_397 40 rfl
theorem dL_law_472 : decode cL_law 472 = .ok (.goto 1342, 3) := dq_at dqL_law_397 41 rfl
theorem dL_law_475 : decode cL_law 475 = .ok (.aload_n 1, 1) := dq_at dqL_law_397 42 rfl
theorem dL_law_476 : decode cL_law 476 = .ok (.invokevirtual 175, 3) := dq_at dqL_law_397 43 rfl
theorem dL_law_479 : decode cL_law 479 = .ok (.pop, 1) := dq_at dqL_law_397 44 rfl
theorem dL_law_480 : decode cL_law 480 = .ok (.aload_n 2, 1) := dq_at dqL_law_397 45 rfl
theorem dL_law_481 : decode cL_law 481 = .ok (.invokevirtual 178, 3) := dq_at dqL_law_397 46 rfl
theorem dL_law_484 : decode cL_law 484 = .ok (.pop, 1) := dq_at dqL_law_397 47 rfl
theorem dL_law_485 : decode cL_law 485 = .ok (.goto 1329, 3) := dq_at dqL_law_397 48 rfl
theorem dL_law_488 : decode cL_law 488 = .ok (.aload_n 1, 1) := dq_at dqL_law_397 49 rfl
set_option maxRecDepth 20000 in
theorem dqL_law_489 : (([(489, .invokevirtual 179, 3), (492, .pop, 1), (493, .aload_n 2, 1), (494, .invokevirtual 182, 3), (497, .pop, 1), (498, .goto 1316, 3), (501, .aload_n 1, 1), (502, .invokevirtual 183, 3), (505, .pop2, 1), (506, .aload_n 2, 1), (507, .invokevirtual 187, 3), (510, .pop2, 1), (511, .goto 1303, 3), (514, .aload_n 1, 1), (515, .invokevirtual 188, 3), (518, .pop, 1), (519, .aload_n 2, 1), (520, .invokevirtual 191, 3), (523, .pop, 1), (524, .goto 1290, 3), (527, .aload_n 1, 1), (528, .invokevirtual 192, 3), (531, .pop, 1), (532, .aload_n 2, 1), (533, .invokevirtual 195, 3), (536, .pop, 1), (537, .goto 1277, 3), (540, .aload_n 1, 1), (541, .invokevirtual 196, 3), (544, .pop, 1), (545, .aload_n 2, 1), (546, .invokevirtual 199, 3), (549, .pop, 1), (550, .goto 1264, 3), (553, .aload_n 1, 1), (554, .invokevirtual 200, 3), (557, .pop, 1), (558, .aload_n 2, 1), (559, .invokevirtual 203, 3), (562, .pop, 1), (563, .goto 1251, 3), (566, .aload_n 1, 1), (567, .aload_n 0, 1), (568, .iload 4, 2), (570, .iconst 1, 1), (571, .iadd, 1), (572, .iaload, 1), (573, .aload_n 3, 1), (574, .invokestatic 204, 3), (577, .istore 5, 2)] : List (Nat × Instr × Nat)).all fun x => decide (decode cL_law x.1 = .ok (x.2.1, x.2.2))) = true := by decide +kernel
theorem dL_law_489 : decode cL_law 489 = .ok (.invokevirtual 179, 3) := dq_at dqL_law_489 0 rfl
theorem dL_law_492 : decode cL_law 492 = .ok (.pop, 1) := dq_at dqL_law_489 1 rfl
theorem dL_law_493 : decode cL_law 493 = .ok (.aload_n 2, 1) := dq_at dqL_law_489 2 rfl
theorem dL_law_494 : decode cL_law 494 = .ok (.invokevirtual 182, 3) := dq_at dqL_law_489 3 rfl
theorem dL_law_497 : decode cL_law 497 = .ok (.pop, 1) := dq_at dqL_law_489 4 rfl
theorem dL_law_498 : decode cL_law 498 = .ok (.goto 1316, 3) := dq_at dqL_law_489 5 rfl
theorem dL_law_501 : decode cL_law 501 = .ok (.aload_n 1, 1) := dq_at dqL_law_489 6 rfl
theorem dL_law_502 : decode cL_law 502 = .ok (.invokevirtual 183, 3) := dq_at dqL_law_489 7 rfl
theorem dL_law_505 : decode cL_law 505 = .ok (.pop2, 1) := dq_at dqL_law_489 8 rfl
theorem dL_law_506 : decode cL_law 506 = .ok (.aload_n 2, 1) := dq_at dqL_law_489 9 rfl
theorem dL_law_507 : decode cL_law 507 = .ok (.invokevirtual 187, 3) := dq_at dqL_law_489 10 rfl
theorem dL_law_510 : decode cL_law 510 = .ok (.pop2, 1) := dq_at dqL_law_489 11 rfl
theorem dL_law_511 : decode cL_law 511 = .ok (.goto 1303, 3) := dq_at dqL_law_489 12 rfl
theorem dL_law_514 : decode cL_law 514 = .ok (.aload_n 1, 1) := dq_at dqL_law_489 13 rfl
theorem dL_law_515 : decode cL_law 515 = .ok (.invokevirtual 188, 3) := dq_at dqL_law_489 14 rfl
theorem dL_law_518 : decode cL_law 518 = .ok (.pop, 1) := dq_at dqL_law_489 15 rfl
theorem dL_law_519 : decode cL_law 519 = .ok (.aload_n 2, 1) := dq_at dqL_law_489 16 rfl
theorem dL_law_520 : decode cL_law 520 = .ok (.invokevirtual 191, 3) := dq_at dqL_law_489 17 rfl
theorem dL_law_523 : decode cL_law 523 = .ok (.pop, 1) := dq_at dqL_law_489 18 rfl
theorem dL_law_524 : decode cL_law 524 = .ok (.goto 1290, 3) := dq_at dqL_law_489 19 rfl
theorem dL_law_527 : decode cL_law 527 = .ok (.aload_n 1, 1) := dq_at dqL_law_489 20 rfl
theorem dL_law_528 : decode cL_law 528 = .ok (.invokevirtual 192, 3) := dq_at dqL_law_489 21 rfl
theorem dL_law_531 : decode cL_law 531 = .ok (.pop, 1) := dq_at dqL_law_489 22 rfl
theorem dL_law_532 : decode cL_law 532 = .ok (.aload_n 2, 1) := dq_at dqL_law_489 23 rfl
theorem dL_law_533 : decode cL_law 533 = .ok (.invokevirtual 195, 3) := dq_at dqL_law_489 24 rfl
theorem dL_law_536 : decode cL_law 536 = .ok (.pop, 1) := dq_at dqL_law_489 25 rfl
theorem dL_law_537 : decode cL_law 537 = .ok (.goto 1277, 3) := dq_at dqL_law_489 26 rfl
theorem dL_law_540 : decode cL_law 540 = .ok (.aload_n 1, 1) := dq_at dqL_law_489 27 rfl
theorem dL_law_541 : decode cL_law 541 = .ok (.invokevirtual 196, 3) := dq_at dqL_law_489 28 rfl
theorem dL_law_544 : decode cL_law 544 = .ok (.pop, 1) := dq_at dqL_law_489 29 rfl
theorem dL_law_545 : decode cL_law 545 = .ok (.aload_n 2, 1) := dq_at dqL_law_489 30 rfl
theorem dL_law_546 : decode cL_law 546 = .ok (.invokevirtual 199, 3) := dq_at dqL_law_489 31 rfl
theorem dL_law_549 : decode cL_law 549 = .ok (.pop, 1) := dq_at dqL_law_489 32 rfl
theorem dL_law_550 : decode cL_law 550 = .ok (.goto 1264, 3) := dq_at dqL_law_489 33 rfl
theorem dL_law_553 : decode cL_law 553 = .ok (.aload_n 1, 1) := dq_at dqL_law_489 34 rfl
theorem dL_law_554 : decode cL_law 554 = .ok (.invokevirtual 200, 3) := dq_at dqL_law_489 35 rfl
theorem dL_law_557 : decode cL_law 557 = .ok (.pop, 1) := dq_at dqL_law_489 36 rfl
theorem dL_law_558 : decode cL_law 558 = .ok (.aload_n 2, 1) := dq_at dqL_law_489 37 rfl
theorem dL_law_559 : decode cL_law 559 = .ok (.invokevirtual 203, 3) := dq_at dqL_law_489 38 rfl
theorem dL_law_562 : decode cL_law 562 = .ok (.pop, 1) := dq_at dqL_law_489 39 rfl
theorem dL_law_563 : decode cL_law 563 = .ok (.goto 1251, 3) := dq_at dqL_law_489 40 rfl
theorem dL_law_566 : decode cL_law 566 = .ok (.aload_n 1, 1) := dq_at dqL_law_489 41 rfl
theorem dL_law_567 : decode cL_law 567 = .ok (.aload_n 0, 1) := dq_at dqL_law_489 42 rfl
theorem dL_law_568 : decode cL_law 568 = .ok (.iload 4, 2) := dq_at dqL_law_489 43 rfl
theorem dL_law_570 : decode cL_law 570 = .ok (.iconst 1, 1) := dq_at dqL_law_489 44 rfl
theorem dL_law_571 : decode cL_law 571 = .ok (.iadd, 1) := dq_at dqL_law_489 45 rfl
theorem dL_law_572 : decode cL_law 572 = .ok (.iaload, 1) := dq_at dqL_law_489 46 rfl
theorem dL_law_573 : decode cL_law 573 = .ok (.aload_n 3, 1) := dq_at dqL_law_489 47 rfl
theorem dL_law_574 : decode cL_law 574 = .ok (.invokestatic 204, 3) := dq_at dqL_law_489 48 rfl
theorem dL_law_577 : decode cL_law 577 = .ok (.istore 5, 2) := dq_at dqL_law_489 49 rfl
set_option maxRecDepth 20000 in
theorem dqL_law_579 : (([(579, .aload_n 2, 1), (580, .aload_n 0, 1), (581, .iload 4, 2), (583, .iconst 1, 1), (584, .iadd, 1), (585, .iaload, 1), (586, .invokevirtual 206, 3), (589, .istore 6, 2), (591, .goto 1223, 3), (594, .aload_n 1, 1), (595, .aload_n 0, 1), (596, .iload 4, 2), (598, .iconst 1, 1), (599, .iadd, 1), (600, .iaload, 1), (601, .aload_n 3, 1), (602, .invokestatic 207, 3), (605, .istore 5, 2), (607, .aload_n 2, 1), (608, .aload_n 0, 1), (609, .iload 4, 2), (611, .iconst 1, 1), (612, .iadd, 1), (613, .iaload, 1), (614, .invokevirtual 209, 3), (617, .istore 6, 2), (619, .goto 1195, 3), (622, .aload_n 1, 1), (623, .aload_n 0, 1), (624, .iload 4, 2), (626, .iconst 1, 1), (627, .iadd, 1), (628, .iaload, 1), (629, .aload_n 3, 1), (630, .invokestatic 210, 3), (633, .istore 5, 2), (635, .aload_n 2, 1), (636, .aload_n 0, 1), (637, .iload 4, 2), (639, .iconst 1, 1), (640, .iadd, 1), (641, .iaload, 1), (642, .invokevirtual 212, 3), (645, .istore 6, 2), (647, .goto 1167, 3), (650, .aload_n 1, 1), (651, .aload_n 0, 1), (652, .iload 4, 2), (654, .iconst 1, 1), (655, .iadd, 1)] : List (Nat × Instr × Nat)).all fun x => decide (decode cL_law x.1 = .ok (x.2.1, x.2.2))) = true := by decide +kernel
theorem dL_law_579 : decode cL_law 579 = .ok (.aload_n 2, 1) := dq_at dqL_law_579 0 rfl
theorem dL_law_580 : decode cL_law 580 = .ok (.aload_n 0, 1) := dq_at dqL_law_579 1 rfl
theorem dL_law_581 : decode cL_law 581 = .ok (.iload 4, 2) := dq_at dqL_law_579 2 rfl
theorem dL_law_583 : decode cL_law 583 = .ok (.iconst 1, 1) := dq_at dqL_law_579 3 rfl
theorem dL_law_584 : decode cL_law 584 = .ok (.iadd, 1) := dq_at dqL_law_579 4 rfl
theorem dL_law_585 : decode cL_law 585 = .ok (.iaload, 1) := dq_at dqL_law_579 5 rfl
theorem dL_law_586 : decode cL_law 586 = .ok (.invokevirtual 206, 3) := dq_at dqL_law_579 6 rfl
theorem dL_law_589 : decode cL_law 589 = .ok (.istore 6, 2) := dq_at dqL_law_579 7 rfl
theorem dL_law_591 : decode cL_law 591 = .ok (.goto 1223, 3) := dq_at dqL_law_579 8 rfl
theorem dL_law_594 : decode cL_law 594 = .ok (.aload_n 1, 1) := dq_at dqL_law_579 9 rfl
theorem dL_law_595 : decode cL_law 595 = .ok (.aload_n 0, 1) := dq_at dqL_law_579 10 rfl
theorem dL_law_596 : decode cL_law 596 = .ok (.iload 4, 2) := dq_at dqL_law_579 11 rfl
theorem dL_law_598 : decode cL_law 598 = .ok (.iconst 1, 1) := dq_at dqL_law_579 12 rfl
theorem dL_law_599 : decode cL_law 599 = .ok (.iadd, 1) := dq_at dqL_law_579 13 rfl
theorem dL_law_600 : decode cL_law 600 = .ok (.iaload, 1) := dq_at dqL_law_579 14 rfl
theorem dL_law_601 : decode cL_law 601 = .ok (.aload_n 3, 1) := dq_at dqL_law_579 15 rfl
theorem dL_law_602 : decode cL_law 602 = .ok (.invokestatic 207, 3) := dq_at dqL_law_579 16 rfl
theorem dL_law_605 : decode cL_law 605 = .ok (.istore 5, 2) := dq_at dqL_law_579 17 rfl
theorem dL_law_607 : decode cL_law 607 = .ok (.aload_n 2, 1) := dq_at dqL_law_579 18 rfl
theorem dL_law_608 : decode cL_law 608 = .ok (.aload_n 0, 1) := dq_at dqL_law_579 19 rfl
theorem dL_law_609 : decode cL_law 609 = .ok (.iload 4, 2) := dq_at dqL_law_579 20 rfl
theorem dL_law_611 : decode cL_law 611 = .ok (.iconst 1, 1) := dq_at dqL_law_579 21 rfl
theorem dL_law_612 : decode cL_law 612 = .ok (.iadd, 1) := dq_at dqL_law_579 22 rfl
theorem dL_law_613 : decode cL_law 613 = .ok (.iaload, 1) := dq_at dqL_law_579 23 rfl
theorem dL_law_614 : decode cL_law 614 = .ok (.invokevirtual 209, 3) := dq_at dqL_law_579 24 rfl
theorem dL_law_617 : decode cL_law 617 = .ok (.istore 6, 2) := dq_at dqL_law_579 25 rfl
theorem dL_law_619 : decode cL_law 619 = .ok (.goto 1195, 3) := dq_at dqL_law_579 26 rfl
theorem dL_law_622 : decode cL_law 622 = .ok (.aload_n 1, 1) := dq_at dqL_law_579 27 rfl
theorem dL_law_623 : decode cL_law 623 = .ok (.aload_n 0, 1) := dq_at dqL_law_579 28 rfl
theorem dL_law_624 : decode cL_law 624 = .ok (.iload 4, 2) := dq_at dqL_law_579 29 rfl
theorem dL_law_626 : decode cL_law 626 = .ok (.iconst 1, 1) := dq_at dqL_law_579 30 rfl
theorem dL_law_627 : decode cL_law 627 = .ok (.iadd, 1) := dq_at dqL_law_579 31 rfl
theorem dL_law_628 : decode cL_law 628 = .ok (.iaload, 1) := dq_at dqL_law_579 32 rfl
theorem dL_law_629 : decode cL_law 629 = .ok (.aload_n 3, 1) := dq_at dqL_law_579 33 rfl
theorem dL_law_630 : decode cL_law 630 = .ok (.invokestatic 210, 3) := dq_at dqL_law_579 34 rfl
theorem dL_law_633 : decode cL_law 633 = .ok (.istore 5, 2) := dq_at dqL_law_579 35 rfl
theorem dL_law_635 : decode cL_law 635 = .ok (.aload_n 2, 1) := dq_at dqL_law_579 36 rfl
theorem dL_law_636 : decode cL_law 636 = .ok (.aload_n 0, 1) := dq_at dqL_law_579 37 rfl
theorem dL_law_637 : decode cL_law 637 = .ok (.iload 4, 2) := dq_at dqL_law_579 38 rfl
theorem dL_law_639 : decode cL_law 639 = .ok (.iconst 1, 1) := dq_at dqL_law_579 39 rfl
theorem dL_law_640 : decode cL_law 640 = .ok (.iadd, 1) := dq_at dqL_law_579 40 rfl
theorem dL_law_641 : decode cL_law 641 = .ok (.iaload, 1) := dq_at dqL_law_579 41 rfl
theorem dL_law_642 : decode cL_law 642 = .ok (.invokevirtual 212, 3) := dq_at dqL_law_579 42 rfl
theorem dL_law_645 : decode cL_law 645 = .ok (.istore 6, 2) := dq_at dqL_law_579 43 rfl
theorem dL_law_647 : decode cL_law 647 = .ok (.goto 1167, 3) := dq_at dqL_law_579 44 rfl
theorem dL_law_650 : decode cL_law 650 = .ok (.aload_n 1, 1) := dq_at dqL_law_579 45 rfl
theorem dL_law_651 : decode cL_law 651 = .ok (.aload_n 0, 1) := dq_at dqL_law_579 46 rfl
theorem dL_law_652 : decode cL_law 652 = .ok (.iload 4, 2) := dq_at dqL_law_579 47 rfl
theorem dL_law_654 : decode cL_law 654 = .ok (.iconst 1, 1) := dq_at dqL_law_579 48 rfl
theorem dL_law_655 : decode cL_law 655 = .ok (.iadd, 1) := dq_at dqL_law_579 49 rfl
set_option maxRecDepth 20000 in
theorem dqL_law_656 : (([(656, .iaload, 1), (657, .aload_n 3, 1), (658, .invokestatic 213, 3), (661, .istore 5, 2), (663, .aload_n 2, 1), (664, .aload_n 0, 1), (665, .iload 4, 2), (667, .iconst 1, 1), (668, .iadd, 1), (669, .iaload, 1), (670, .invokevirtual 215, 3), (673, .istore 6, 2), (675, .goto 1139, 3), (678, .aload_n 1, 1), (679, .aload_n 0, 1), (680, .iload 4, 2), (682, .iconst 1, 1), (683, .iadd, 1), (684, .iaload, 1), (685, .aload_n 3, 1), (686, .invokestatic 216, 3), (689, .istore 5, 2), (691, .aload_n 2, 1), (692, .aload_n 0, 1), (693, .iload 4, 2), (695, .iconst 1, 1), (696, .iadd, 1), (697, .iaload, 1), (698, .invokevirtual 218, 3), (701, .istore 6, 2), (703, .goto 1111, 3), (706, .aload_n 1, 1), (707, .aload_n 0, 1), (708, .iload 4, 2), (710, .iconst 1, 1), (711, .iadd, 1), (712, .iaload, 1), (713, .aload_n 3, 1), (714, .invokestatic 219, 3), (717, .istore 5, 2), (719, .aload_n 2, 1), (720, .aload_n 0, 1), (721, .iload 4, 2), (723, .iconst 1, 1), (724, .iadd, 1), (725, .iaload, 1), (726, .invokevirtual 221, 3), (729, .istore 6, 2), (731, .goto 1083, 3), (734, .aload_n 1, 1)] : List (Nat × Instr × Nat)).all fun x => decide (decode cL_law x.1 = .ok (x.2.1, x.2.2))) = true := by decide +kernel
theorem dL_law_656 : decode cL_law 656 = .ok (.iaload, 1) := dq_at dqL_law_656 0 rfl
theorem dL_law_657 : decode cL_law 657 = .ok (.aload_n 3, 1) := dq_at dqL_law_656 1 rfl
theorem dL_law_658 : decode cL_law 658 = .ok (.invokestatic 213, 3) := dq_at dqL_law_656 2 rfl
theorem dL_law_661 : decode cL_law 661 = .ok (.istore 5, 2) := dq_at dqL_law_656 3 rfl
theorem dL_law_663 : decode cL_law 663 = .ok (.aload_n 2, 1) := dq_at dqL_law_656 4 rfl
theorem dL_law_664 : decode cL_law 664 = .ok (.aload_n 0, 1) := dq_at dqL_law_656 5 rfl
theorem dL_law_665 : decode cL_law 665 = .ok (.iload 4, 2) := dq_at dqL_law_656 6 rfl
theorem dL_law_667 : decode cL_law 667 = .ok (.iconst 1, 1) := dq_at dqL_law_656 7 rfl
theorem dL_law_668 : decode cL_law 668 = .ok (.iadd, 1) := dq_at dqL_law_656 8 rfl
theorem dL_law_669 : decode cL_law 669 = .ok (.iaload, 1) := dq_at dqL_law_656 9 rfl
theorem dL_law_670 : decode cL_law 670 = .ok (.invokevirtual 215, 3) := dq_at dqL_law_656 10 rfl
theorem dL_law_673 : decode cL_law 673 = .ok (.istore 6, 2) := dq_at dqL_law_656 11 rfl
theorem dL_law_675 : decode cL_law 675 = .ok (.goto 1139, 3) := dq_at dqL_law_656 12 rfl
theorem dL_law_678 : decode cL_law 678 = .ok (.aload_n 1, 1) := dq_at dqL_law_656 13 rfl
theorem dL_law_679 : decode cL_law 679 = .ok (.aload_n 0, 1) := dq_at dqL_law_656 14 rfl
theorem dL_law_680 : decode cL_law 680 = .ok (.iload 4, 2) := dq_at dqL_law_656 15 rfl
theorem dL_law_682 : decode cL_law 682 = .ok (.iconst 1, 1) := dq_at dqL_law_656 16 rfl
theorem dL_law_683 : decode cL_law 683 = .ok (.iadd, 1) := dq_at dqL_law_656 17 rfl
theorem dL_law_684 : decode cL_law 684 = .ok (.iaload, 1) := dq_at dqL_law_656 18 rfl
theorem dL_law_685 : decode cL_law 685 = .ok (.aload_n 3, 1) := dq_at dqL_law_656 19 rfl
theorem dL_law_686 : decode cL_law 686 = .ok (.invokestatic 216, 3) := dq_at dqL_law_656 20 rfl
theorem dL_law_689 : decode cL_law 689 = .ok (.istore 5, 2) := dq_at dqL_law_656 21 rfl
theorem dL_law_691 : decode cL_law 691 = .ok (.aload_n 2, 1) := dq_at dqL_law_656 22 rfl
theorem dL_law_692 : decode cL_law 692 = .ok (.aload_n 0, 1) := dq_at dqL_law_656 23 rfl
theorem dL_law_693 : decode cL_law 693 = .ok (.iload 4, 2) := dq_at dqL_law_656 24 rfl
theorem dL_law_695 : decode cL_law 695 = .ok (.iconst 1, 1) := dq_at dqL_law_656 25 rfl
theorem dL_law_696 : decode cL_law 696 = .ok (.iadd, 1) := dq_at dqL_law_656 26 rfl
theorem dL_law_697 : decode cL_law 697 = .ok (.iaload, 1) := dq_at dqL_law_656 27 rfl
theorem dL_law_698 : decode cL_law 698 = .ok (.invokevirtual 218, 3) := dq_at dqL_law_656 28 rfl
theorem dL_law_701 : decode cL_law 701 = .ok (.istore 6, 2) := dq_at dqL_law_656 29 rfl
theorem dL_law_703 : decode cL_law 703 = .ok (.goto 1111, 3) := dq_at dqL_law_656 30 rfl
theorem dL_law_706 : decode cL_law 706 = .ok (.aload_n 1, 1) := dq_at dqL_law_656 31 rfl
theorem dL_law_707 : decode cL_law 707 = .ok (.aload_n 0, 1) := dq_at dqL_law_656 32 rfl
theorem dL_law_708 : decode cL_law 708 = .ok (.iload 4, 2) := dq_at dqL_law_656 33 rfl
theorem dL_law_710 : decode cL_law 710 = .ok (.iconst 1, 1) := dq_at dqL_law_656 34 rfl
theorem dL_law_711 : decode cL_law 711 = .ok (.iadd, 1) := dq_at dqL_law_656 35 rfl
theorem dL_law_712 : decode cL_law 712 = .ok (.iaload, 1) := dq_at dqL_law_656 36 rfl
theorem dL_law_713 : decode cL_law 713 = .ok (.aload_n 3, 1) := dq_at dqL_law_656 37 rfl
theorem dL_law_714 : decode cL_law 714 = .ok (.invokestatic 219, 3) := dq_at dqL_law_656 38 rfl
theorem dL_law_717 : decode cL_law 717 = .ok (.istore 5, 2) := dq_at dqL_law_656 39 rfl
theorem dL_law_719 : decode cL_law 719 = .ok (.aload_n 2, 1) := dq_at dqL_law_656 40 rfl
theorem dL_law_720 : decode cL_law 720 = .ok (.aload_n 0, 1) := dq_at dqL_law_656 41 rfl
theorem dL_law_721 : decode cL_law 721 = .ok (.iload 4, 2) := dq_at dqL_law_656 42 rfl
theorem dL_law_723 : decode cL_law 723 = .ok (.iconst 1, 1) := dq_at dqL_law_656 43 rfl
theorem dL_law_724 : decode cL_law 724 = .ok (.iadd, 1) := dq_at dqL_law_656 44 rfl
theorem dL_law_725 : decode cL_law 725 = .ok (.iaload, 1) := dq_at dqL_law_656 45 rfl
theorem dL_law_726 : decode cL_law 726 = .ok (.invokevirtual 221, 3) := dq_at dqL_law_656 46 rfl
theorem dL_law_729 : decode cL_law 729 = .ok (.istore 6, 2) := dq_at dqL_law_656 47 rfl
theorem dL_law_731 : decode cL_law 731 = .ok (.goto 1083, 3) := dq_at dqL_law_656 48 rfl
theorem dL_law_734 : decode cL_law 734 = .ok (.aload_n 1, 1) := dq_at dqL_law_656 49 rfl
set_option maxRecDepth 20000 in
theorem dqL_law_735 : (([(735, .aload_n 0, 1), (736, .iload 4, 2), (738, .iconst 1, 1), (739, .iadd, 1), (740, .iaload, 1), (741, .aload_n 3, 1), (742, .invokestatic 222, 3), (745, .istore 5, 2), (747, .aload_n 2, 1), (748, .aload_n 0, 1), (749, .iload 4, 2), (751, .iconst 1, 1), (752, .iadd, 1), (753, .iaload, 1), (754, .invokevirtual 224, 3), (757, .istore 6, 2), (759, .goto 1055, 3), (762, .aload_n 1, 1), (763, .aload_n 0, 1), (764, .iload 4, 2), (766, .iconst 1, 1), (767, .iadd, 1), (768, .iaload, 1), (769, .aload_n 3, 1), (770, .invokestatic 225, 3), (773, .istore 5, 2), (775, .aload_n 2, 1), (776, .aload_n 0, 1), (777, .iload 4, 2), (779, .iconst 1, 1), (780, .iadd, 1), (781, .iaload, 1), (782, .invokevirtual 227, 3), (785, .istore 6, 2), (787, .goto 1027, 3), (790, .aload_n 1, 1), (791, .invokevirtual 228, 3), (794, .pop, 1), (795, .aload_n 2, 1), (796, .invokevirtual 231, 3), (799, .pop, 1), (800, .goto 1014, 3), (803, .aload_n 1, 1), (804, .invokevirtual 232, 3), (807, .pop, 1), (808, .aload_n 2, 1), (809, .invokevirtual 235, 3), (812, .pop, 1), (813, .goto 1001, 3), (816, .aload_n 1, 1)] : List (Nat × Instr × Nat)).all fun x => decide (decode cL_law x.1 = .ok (x.2.1, x.2.2))) = true := by decide +kernel
theorem dL_law_735 : decode cL_law 735 = .ok (.aload_n 0, 1) := dq_at dqL_law_735 0 rfl
theorem dL_law_736 : decode cL_law 736 = .ok (.iload 4, 2) := dq_at dqL_law_735 1 rfl
theorem dL_law_738 : decode cL_law 738 = .ok (.iconst 1, 1) := dq_at dqL_law_735 2 rfl
theorem dL_law_739 : decode cL_law 739 = .ok (.iadd, 1) := dq_at dqL_law_735 3 rfl
theorem dL_law_740 : decode cL_law 740 = .ok (.iaload, 1) := dq_at dqL_law_735 4 rfl
theorem dL_law_741 : decode cL_law 741 = .ok (.aload_n 3, 1) := dq_at dqL_law_735 5 rfl
theorem dL_law_742 : decode cL_law 742 = .ok (.invokestatic 222, 3) := dq_at dqL_law_735 6 rfl
theorem dL_law_745 : decode cL_law 745 = .ok (.istore 5, 2) := dq_at dqL_law_735 7 rfl
theorem dL_law_747 : decode cL_law 747 = .ok (.aload_n 2, 1) := dq_at dqL_law_735 8 rfl
theorem dL_law_748 : decode cL_law 748 = .ok (.aload_n 0, 1) := dq_at dqL_law_735 9 rfl
theorem dL_law_749 : decode cL_law 749 = .ok (.iload 4, 2) := dq_at dqL_law_735 10 rfl
theorem dL_law_751 : decode cL_law 751 = .ok (.iconst 1, 1) := dq_at dqL_law_735 11 rfl
theorem dL_law_752 : decode cL_law 752 = .ok (.iadd, 1) := dq_at dqL_law_735 12 rfl
theorem dL_law_753 : decode cL_law 753 = .ok (.iaload, 1) := dq_at dqL_law_735 13 rfl
theorem dL_law_754 : decode cL_law 754 = .ok (.invokevirtual 224, 3) := dq_at dqL_law_735 14 rfl
theorem dL_law_757 : decode cL_law 757 = .ok (.istore 6, 2) := dq_at dqL_law_735 15 rfl
theorem dL_law_759 : decode cL_law 759 = .ok (.goto 1055, 3) := dq_at dqL_law_735 16 rfl
theorem dL_law_762 : decode cL_law 762 = .ok (.aload_n 1, 1) := dq_at dqL_law_735 17 rfl
theorem dL_law_763 : decode cL_law 763 = .ok (.aload_n 0, 1) := dq_at dqL_law_735 18 rfl
theorem dL_law_764 : decode cL_law 764 = .ok (.iload 4, 2) := dq_at dqL_law_735 19 rfl
theorem dL_law_766 : decode cL_law 766 = .ok (.iconst 1, 1) := dq_at dqL_law_735 20 rfl
theorem dL_law_767 : decode cL_law 767 = .ok (.iadd, 1) := dq_at dqL_law_735 21 rfl
theorem dL_law_768 : decode cL_law 768 = .ok (.iaload, 1) := dq_at dqL_law_735 22 rfl
theorem dL_law_769 : decode cL_law 769 = .ok (.aload_n 3, 1) := dq_at dqL_law_735 23 rfl
theorem dL_law_770 : decode cL_law 770 = .ok (.invokestatic 225, 3) := dq_at dqL_law_735 24 rfl
theorem dL_law_773 : decode cL_law 773 = .ok (.istore 5, 2) := dq_at dqL_law_735 25 rfl
theorem dL_law_775 : decode cL_law 775 = .ok (.aload_n 2, 1) := dq_at dqL_law_735 26 rfl
theorem dL_law_776 : decode cL_law 776 = .ok (.aload_n 0, 1) := dq_at dqL_law_735 27 rfl
theorem dL_law_777 : decode cL_law 777 = .ok (.iload 4, 2) := dq_at dqL_law_735 28 rfl
theorem dL_law_779 : decode cL_law 779 = .ok (.iconst 1, 1) := dq_at dqL_law_735 29 rfl
theorem dL_law_780 : decode cL_law 780 = .ok (.iadd, 1) := dq_at dqL_law_735 30 rfl
theorem dL_law_781 : decode cL_law 781 = .ok (.iaload, 1) := dq_at dqL_law_735 31 rfl
theorem dL_law_782 : decode cL_law 782 = .ok (.invokevirtual 227, 3) := dq_at dqL_law_735 32 rfl
theorem dL_law_785 : decode cL_law 785 = .ok (.istore 6, 2) := dq_at dqL_law_735 33 rfl
theorem dL_law_787 : decode cL_law 787 = .ok (.goto 1027, 3) := dq_at dqL_law_735 34 rfl
theorem dL_law_790 : decode cL_law 790 = .ok (.aload_n 1, 1) := dq_at dqL_law_735 35 rfl
theorem dL_law_791 : decode cL_law 791 = .ok (.invokevirtual 228, 3) := dq_at dqL_law_735 36 rfl
theorem dL_law_794 : decode cL_law 794 = .ok (.pop, 1) := dq_at dqL_law_735 37 rfl
theorem dL_law_795 : decode cL_law 795 = .ok (.aload_n 2, 1) := dq_at dqL_law_735 38 rfl
theorem dL_law_796 : decode cL_law 796 = .ok (.invokevirtual 231, 3) := dq_at dqL_law_735 39 rfl
theorem dL_law_799 : decode cL_law 799 = .ok (.pop, 1) := dq_at dqL_law_735 40 rfl
theorem dL_law_800 : decode cL_law 800 = .ok (.goto 1014, 3) := dq_at dqL_law_735 41 rfl
theorem dL_law_803 : decode cL_law 803 = .ok (.aload_n 1, 1) := dq_at dqL_law_735 42 rfl
theorem dL_law_804 : decode cL_law 804 = .ok (.invokevirtual 232, 3) := dq_at dqL_law_735 43 rfl
theorem dL_law_807 : decode cL_law 807 = .ok (.pop, 1) := dq_at dqL_law_735 44 rfl
theorem dL_law_808 : decode cL_law 808 = .ok (.aload_n 2, 1) := dq_at dqL_law_735 45 rfl
theorem dL_law_809 : decode cL_law 809 = .ok (.invokevirtual 235, 3) := dq_at dqL_law_735 46 rfl
theorem dL_law_812 : decode cL_law 812 = .ok (.pop, 1) := dq_at dqL_law_735 47 rfl
theorem dL_law_813 : decode cL_law 813 = .ok (.goto 1001, 3) := dq_at dqL_law_735 48 rfl
theorem dL_law_816 : decode cL_law 816 = .ok (.aload_n 1, 1) := dq_at dqL_law_735 49 rfl
set_option maxRecDepth 20000 in
theorem dqL_law_817 : (([(817, .aload_n 0, 1), (818, .iload 4, 2), (820, .iconst 1, 1), (821, .iadd, 1), (822, .iaload, 1), (823, .aload_n 3, 1), (824, .invokestatic 236, 3), (827, .istore 5, 2), (829, .aload_n 2, 1), (830, .aload_n 0, 1), (831, .iload 4, 2), (833, .iconst 1, 1), (834, .iadd, 1), (835, .iaload, 1), (836, .invokevirtual 238, 3), (839, .istore 6, 2), (841, .goto 973, 3), (844, .aload_n 1, 1), (845, .invokevirtual 239, 3), (848, .pop, 1), (849, .aload_n 2, 1), (850, .invokevirtual 242, 3), (853, .pop, 1), (854, .goto 960, 3), (857, .aload_n 1, 1), (858, .aload_n 0, 1), (859, .iload 4, 2), (861, .iconst 1, 1), (862, .iadd, 1), (863, .iaload, 1), (864, .aload_n 3, 1), (865, .invokestatic 243, 3), (868, .istore 5, 2), (870, .aload_n 2, 1), (871, .aload_n 0, 1), (872, .iload 4, 2), (874, .iconst 1, 1), (875, .iadd, 1), (876, .iaload, 1), (877, .invokevirtual 245, 3), (880, .istore 6, 2), (882, .goto 932, 3), (885, .aload_n 1, 1), (886, .aload_n 0, 1), (887, .iload 4, 2), (889, .iconst 1, 1), (890, .iadd, 1), (891, .iaload, 1), (892, .aload_n 0, 1), (893, .iload 4, 2)] : List (Nat × Instr × Nat)).all fun x => decide (decode cL_law x.1 = .ok (x.2.1, x.2.2))) = true := by decide +kernel
theorem dL_law_817 : decode cL_law 817 = .ok (.aload_n 0, 1) := dq_at dqL_law_817 0 rfl
theorem dL_law_818 : decode cL_law 818 = .ok (.iload 4, 2) := dq_at dqL_law_817 1 rfl
theorem dL_law_820 : decode cL_law 820 = .ok (.iconst 1, 1) := dq_at dqL_law_817 2 rfl
theorem dL_law_821 : decode cL_law 821 = .ok (.iadd, 1) := dq_at dqL_law_817 3 rfl
theorem dL_law_822 : decode cL_law 822 = .ok (.iaload, 1) := dq_at dqL_law_817 4 rfl
theorem dL_law_823 : decode cL_law 823 = .ok (.aload_n 3, 1) := dq_at dqL_law_817 5 rfl
theorem dL_law_824 : decode cL_law 824 = .ok (.invokestatic 236, 3) := dq_at dqL_law_817 6 rfl
theorem dL_law_827 : decode cL_law 827 = .ok (.istore 5, 2) := dq_at dqL_law_817 7 rfl
theorem dL_law_829 : decode cL_law 829 = .ok (.aload_n 2, 1) := dq_at dqL_law_817 8 rfl
theorem dL_law_830 : decode cL_law 830 = .ok (.aload_n 0, 1) := dq_at dqL_law_817 9 rfl
theorem dL_law_831 : decode cL_law 831 = .ok (.iload 4, 2) := dq_at dqL_law_817 10 rfl
theorem dL_law_833 : decode cL_law 833 = .ok (.iconst 1, 1) := dq_at dqL_law_817 11 rfl
theorem dL_law_834 : decode cL_law 834 = .ok (.iadd, 1) := dq_at dqL_law_817 12 rfl
theorem dL_law_835 : decode cL_law 835 = .ok (.iaload, 1) := dq_at dqL_law_817 13 rfl
theorem dL_law_836 : decode cL_law 836 = .ok (.invokevirtual 238, 3) := dq_at dqL_law_817 14 rfl
theorem dL_law_839 : decode cL_law 839 = .ok (.istore 6, 2) := dq_at dqL_law_817 15 rfl
theorem dL_law_841 : decode cL_law 841 = .ok (.goto 973, 3) := dq_at dqL_law_817 16 rfl
theorem dL_law_844 : decode cL_law 844 = .ok (.aload_n 1, 1) := dq_at dqL_law_817 17 rfl
theorem dL_law_845 : decode cL_law 845 = .ok (.invokevirtual 239, 3) := dq_at dqL_law_817 18 rfl
theorem dL_law_848 : decode cL_law 848 = .ok (.pop, 1) := dq_at dqL_law_817 19 rfl
theorem dL_law_849 : decode cL_law 849 = .ok (.aload_n 2, 1) := dq_at dqL_law_817 20 rfl
theorem dL_law_850 : decode cL_law 850 = .ok (.invokevirtual 242, 3) := dq_at dqL_law_817 21 rfl
theorem dL_law_853 : decode cL_law 853 = .ok (.pop, 1) := dq_at dqL_law_817 22 rfl
theorem dL_law_854 : decode cL_law 854 = .ok (.goto 960, 3) := dq_at dqL_law_817 23 rfl
theorem dL_law_857 : decode cL_law 857 = .ok (.aload_n 1, 1) := dq_at dqL_law_817 24 rfl
theorem dL_law_858 : decode cL_law 858 = .ok (.aload_n 0, 1) := dq_at dqL_law_817 25 rfl
theorem dL_law_859 : decode cL_law 859 = .ok (.iload 4, 2) := dq_at dqL_law_817 26 rfl
theorem dL_law_861 : decode cL_law 861 = .ok (.iconst 1, 1) := dq_at dqL_law_817 27 rfl
theorem dL_law_862 : decode cL_law 862 = .ok (.iadd, 1) := dq_at dqL_law_817 28 rfl
theorem dL_law_863 : decode cL_law 863 = .ok (.iaload, 1) := dq_at dqL_law_817 29 rfl
theorem dL_law_864 : decode cL_law 864 = .ok (.aload_n 3, 1) := dq_at dqL_law_817 30 rfl
theorem dL_law_865 : decode cL_law 865 = .ok (.invokestatic 243, 3) := dq_at dqL_law_817 31 rfl
theorem dL_law_868 : decode cL_law 868 = .ok (.istore 5, 2) := dq_at dqL_law_817 32 rfl
theorem dL_law_870 : decode cL_law 870 = .ok (.aload_n 2, 1) := dq_at dqL_law_817 33 rfl
theorem dL_law_871 : decode cL_law 871 = .ok (.aload_n 0, 1) := dq_at dqL_law_817 34 rfl
theorem dL_law_872 : decode cL_law 872 = .ok (.iload 4, 2) := dq_at dqL_law_817 35 rfl
theorem dL_law_874 : decode cL_law 874 = .ok (.iconst 1, 1) := dq_at dqL_law_817 36 rfl
theorem dL_law_875 : decode cL_law 875 = .ok (.iadd, 1) := dq_at dqL_law_817 37 rfl
theorem dL_law_876 : decode cL_law 876 = .ok (.iaload, 1) := dq_at dqL_law_817 38 rfl
theorem dL_law_877 : decode cL_law 877 = .ok (.invokevirtual 245, 3) := dq_at dqL_law_817 39 rfl
theorem dL_law_880 : decode cL_law 880 = .ok (.istore 6, 2) := dq_at dqL_law_817 40 rfl
theorem dL_law_882 : decode cL_law 882 = .ok (.goto 932, 3) := dq_at dqL_law_817 41 rfl
theorem dL_law_885 : decode cL_law 885 = .ok (.aload_n 1, 1) := dq_at dqL_law_817 42 rfl
theorem dL_law_886 : decode cL_law 886 = .ok (.aload_n 0, 1) := dq_at dqL_law_817 43 rfl
theorem dL_law_887 : decode cL_law 887 = .ok (.iload 4, 2) := dq_at dqL_law_817 44 rfl
theorem dL_law_889 : decode cL_law 889 = .ok (.iconst 1, 1) := dq_at dqL_law_817 45 rfl
theorem dL_law_890 : decode cL_law 890 = .ok (.iadd, 1) := dq_at dqL_law_817 46 rfl
theorem dL_law_891 : decode cL_law 891 = .ok (.iaload, 1) := dq_at dqL_law_817 47 rfl
theorem dL_law_892 : decode cL_law 892 = .ok (.aload_n 0, 1) := dq_at dqL_law_817 48 rfl
theorem dL_law_893 : decode cL_law 893 = .ok (.iload 4, 2) := dq_at dqL_law_817 49 rfl
set_option maxRecDepth 20000 in
theorem dqL_law_895 : (([(895, .iconst 2, 1), (896, .iadd, 1), (897, .iaload, 1), (898, .aload_n 3, 1), (899, .invokestatic 246, 3), (902, .istore 5, 2), (904, .aload_n 2, 1), (905, .aload_n 0, 1), (906, .iload 4, 2), (908, .iconst 1, 1), (909, .iadd, 1), (910, .iaload, 1), (911, .aload_n 0, 1), (912, .iload 4, 2), (914, .iconst 2, 1), (915, .iadd, 1), (916, .iaload, 1), (917, .invokevirtual 249, 3), (920, .istore 6, 2), (922, .goto 892, 3), (925, .aload_n 1, 1), (926, .aload_n 0, 1), (927, .iload 4, 2), (929, .iconst 1, 1), (930, .iadd, 1), (931, .iaload, 1), (932, .aload_n 0, 1), (933, .iload 4, 2), (935, .iconst 2, 1), (936, .iadd, 1), (937, .iaload, 1), (938, .aload_n 3, 1), (939, .invokestatic 250, 3), (942, .istore 5, 2), (944, .aload_n 2, 1), (945, .aload_n 0, 1), (946, .iload 4, 2), (948, .iconst 1, 1), (949, .iadd, 1), (950, .iaload, 1), (951, .aload_n 0, 1), (952, .iload 4, 2), (954, .iconst 2, 1), (955, .iadd, 1), (956, .iaload, 1), (957, .invokevirtual 252, 3), (960, .istore 6, 2), (962, .goto 852, 3), (965, .aload_n 1, 1), (966, .aload_n 0, 1)] : List (Nat × Instr × Nat)).all fun x => decide (decode cL_law x.1 = .ok (x.2.1, x.2.2))) = true := by decide +kernel
theorem dL_law_895 : decode cL_law 895 = .ok (.iconst 2, 1) := dq_at dqL_law_895 0 rfl
theorem dL_law_896 : decode cL_law 896 = .ok (.iadd, 1) := dq_at dqL_law_895 1 rfl
theorem dL_law_897 : decode cL_law 897 = .ok (.iaload, 1) := dq_at dqL_law_895 2 rfl
theorem dL_law_898 : decode cL_law 898 = .ok (.aload_n 3, 1) := dq_at dqL_law_895 3 rfl
theorem dL_law_899 : decode cL_law 899 = .ok (.invokestatic 246, 3) := dq_at dqL_law_895 4 rfl
theorem dL_law_902 : decode cL_law 902 = .ok (.istore 5, 2) := dq_at dqL_law_895 5 rfl
theorem dL_law_904 : decode cL_law 904 = .ok (.aload_n 2, 1) := dq_at dqL_law_895 6 rfl
theorem dL_law_905 : decode cL_law 905 = .ok (.aload_n 0, 1) := dq_at dqL_law_895 7 rfl
theorem dL_law_906 : decode cL_law 906 = .ok (.iload 4, 2) := dq_at dqL_law_895 8 rfl
theorem dL_law_908 : decode cL_law 908 = .ok (.iconst 1, 1) := dq_at dqL_law_895 9 rfl
theorem dL_law_909 : decode cL_law 909 = .ok (.iadd, 1) := dq_at dqL_law_895 10 rfl
theorem dL_law_910 : decode cL_law 910 = .ok (.iaload, 1) := dq_at dqL_law_895 11 rfl
theorem dL_law_911 : decode cL_law 911 = .ok (.aload_n 0, 1) := dq_at dqL_law_895 12 rfl
theorem dL_law_912 : decode cL_law 912 = .ok (.iload 4, 2) := dq_at dqL_law_895 13 rfl
theorem dL_law_914 : decode cL_law 914 = .ok (.iconst 2, 1) := dq_at dqL_law_895 14 rfl
theorem dL_law_915 : decode cL_law 915 = .ok (.iadd, 1) := dq_at dqL_law_895 15 rfl
theorem dL_law_916 : decode cL_law 916 = .ok (.iaload, 1) := dq_at dqL_law_895 16 rfl
theorem dL_law_917 : decode cL_law 917 = .ok (.invokevirtual 249, 3) := dq_at dqL_law_895 17 rfl
theorem dL_law_920 : decode cL_law 920 = .ok (.istore 6, 2) := dq_at dqL_law_895 18 rfl
theorem dL_law_922 : decode cL_law 922 = .ok (.goto 892, 3) := dq_at dqL_law_895 19 rfl
theorem dL_law_925 : decode cL_law 925 = .ok (.aload_n 1, 1) := dq_at dqL_law_895 20 rfl
theorem dL_law_926 : decode cL_law 926 = .ok (.aload_n 0, 1) := dq_at dqL_law_895 21 rfl
theorem dL_law_927 : decode cL_law 927 = .ok (.iload 4, 2) := dq_at dqL_law_895 22 rfl
theorem dL_law_929 : decode cL_law 929 = .ok (.iconst 1, 1) := dq_at dqL_law_895 23 rfl
theorem dL_law_930 : decode cL_law 930 = .ok (.iadd, 1) := dq_at dqL_law_895 24 rfl
theorem dL_law_931 : decode cL_law 931 = .ok (.iaload, 1) := dq_at dqL_law_895 25 rfl
theorem dL_law_932 : decode cL_law 932 = .ok (.aload_n 0, 1) := dq_at dqL_law_895 26 rfl
theorem dL_law_933 : decode cL_law 933 = .ok (.iload 4, 2) := dq_at dqL_law_895 27 rfl
theorem dL_law_935 : decode cL_law 935 = .ok (.iconst 2, 1) := dq_at dqL_law_895 28 rfl
theorem dL_law_936 : decode cL_law 936 = .ok (.iadd, 1) := dq_at dqL_law_895 29 rfl
theorem dL_law_937 : decode cL_law 937 = .ok (.iaload, 1) := dq_at dqL_law_895 30 rfl
theorem dL_law_938 : decode cL_law 938 = .ok (.aload_n 3, 1) := dq_at dqL_law_895 31 rfl
theorem dL_law_939 : decode cL_law 939 = .ok (.invokestatic 250, 3) := dq_at dqL_law_895 32 rfl
theorem dL_law_942 : decode cL_law 942 = .ok (.istore 5, 2) := dq_at dqL_law_895 33 rfl
theorem dL_law_944 : decode cL_law 944 = .ok (.aload_n 2, 1) := dq_at dqL_law_895 34 rfl
theorem dL_law_945 : decode cL_law 945 = .ok (.aload_n 0, 1) := dq_at dqL_law_895 35 rfl
theorem dL_law_946 : decode cL_law 946 = .ok (.iload 4, 2) := dq_at dqL_law_895 36 rfl
theorem dL_law_948 : decode cL_law 948 = .ok (.iconst 1, 1) := dq_at dqL_law_895 37 rfl
theorem dL_law_949 : decode cL_law 949 = .ok (.iadd, 1) := dq_at dqL_law_895 38 rfl
theorem dL_law_950 : decode cL_law 950 = .ok (.iaload, 1) := dq_at dqL_law_895 39 rfl
theorem dL_law_951 : decode cL_law 951 = .ok (.aload_n 0, 1) := dq_at dqL_law_895 40 rfl
theorem dL_law_952 : decode cL_law 952 = .ok (.iload 4, 2) := dq_at dqL_law_895 41 rfl
theorem dL_law_954 : decode cL_law 954 = .ok (.iconst 2, 1) := dq_at dqL_law_895 42 rfl
theorem dL_law_955 : decode cL_law 955 = .ok (.iadd, 1) := dq_at dqL_law_895 43 rfl
theorem dL_law_956 : decode cL_law 956 = .ok (.iaload, 1) := dq_at dqL_law_895 44 rfl
theorem dL_law_957 : decode cL_law 957 = .ok (.invokevirtual 252, 3) := dq_at dqL_law_895 45 rfl
theorem dL_law_960 : decode cL_law 960 = .ok (.istore 6, 2) := dq_at dqL_law_895 46 rfl
theorem dL_law_962 : decode cL_law 962 = .ok (.goto 852, 3) := dq_at dqL_law_895 47 rfl
theorem dL_law_965 : decode cL_law 965 = .ok (.aload_n 1, 1) := dq_at dqL_law_895 48 rfl
theorem dL_law_966 : decode cL_law 966 = .ok (.aload_n 0, 1) := dq_at dqL_law_895 49 rfl
set_option maxRecDepth 20000 in
theorem dqL_law_967 : (([(967, .iload 4, 2), (969, .iconst 1, 1), (970, .iadd, 1), (971, .iaload, 1), (972, .aload_n 3, 1), (973, .invokestatic 253, 3), (976, .istore 5, 2), (978, .aload_n 2, 1), (979, .aload_n 0, 1), (980, .iload 4, 2), (982, .iconst 1, 1), (983, .iadd, 1), (984, .iaload, 1), (985, .invokevirtual 255, 3), (988, .istore 6, 2), (990, .goto 824, 3), (993, .aload_n 1, 1), (994, .invokevirtual 256, 3), (997, .pop, 1), (998, .aload_n 2, 1), (999, .invokevirtual 259, 3), (1002, .pop, 1), (1003, .goto 811, 3), (1006, .aload_n 1, 1), (1007, .invokevirtual 260, 3), (1010, .pop, 1), (1011, .aload_n 2, 1), (1012, .invokevirtual 263, 3), (1015, .pop, 1), (1016, .goto 798, 3), (1019, .aload_n 1, 1), (1020, .aload_n 0, 1), (1021, .iload 4, 2), (1023, .iconst 1, 1), (1024, .iadd, 1), (1025, .iaload, 1), (1026, .aload_n 3, 1), (1027, .invokestatic 264, 3), (1030, .istore 5, 2), (1032, .aload_n 2, 1), (1033, .aload_n 0, 1), (1034, .iload 4, 2), (1036, .iconst 1, 1), (1037, .iadd, 1), (1038, .iaload, 1), (1039, .invokevirtual 266, 3), (1042, .istore 6, 2), (1044, .goto 770, 3), (1047, .aload_n 1, 1), (1048, .aload_n 0, 1)] : List (Nat × Instr × Nat)).all fun x => decide (decode cL_law x.1 = .ok (x.2.1, x.2.2))) = true := by decide +kernel
theorem dL_law_967 : decode cL_law 967 = .ok (.iload 4, 2) := dq_at dqL_law_967 0 rfl
theorem dL_law_969 : decode cL_law 969 = .ok (.iconst 1, 1) := dq_at dqL_law_967 1 rfl
theorem dL_law_970 : decode cL_law 970 = .ok (.iadd, 1) := dq_at dqL_law_967 2 rfl
theorem dL_law_971 : decode cL_law 971 = .ok (.iaload, 1) := dq_at dqL_law_967 3 rfl
theorem dL_law_972 : decode cL_law 972 = .ok (.aload_n 3, 1) := dq_at dqL_law_967 4 rfl
theorem dL_law_973 : decode cL_law 973 = .ok (.invokestatic 253, 3) := dq_at dqL_law_967 5 rfl
theorem dL_law_976 : decode cL_law 976 = .ok (.istore 5, 2) := dq_at dqL_law_967 6 rfl
theorem dL_law_978 : decode cL_law 978 = .ok (.aload_n 2, 1) := dq_at dqL_law_967 7 rfl
theorem dL_law_979 : decode cL_law 979 = .ok (.aload_n 0, 1) := dq_at dqL_law_967 8 rfl
theorem dL_law_980 : decode cL_law 980 = .ok (.iload 4, 2) := dq_at dqL_law_967 9 rfl
theorem dL_law_982 : decode cL_law 982 = .ok (.iconst 1, 1) := dq_at dqL_law_967 10 rfl
theorem dL_law_983 : decode cL_law 983 = .ok (.iadd, 1) := dq_at dqL_law_967 11 rfl
theorem dL_law_984 : decode cL_law 984 = .ok (.iaload, 1) := dq_at dqL_law_967 12 rfl
theorem dL_law_985 : decode cL_law 985 = .ok (.invokevirtual 255, 3) := dq_at dqL_law_967 13 rfl
theorem dL_law_988 : decode cL_law 988 = .ok (.istore 6, 2) := dq_at dqL_law_967 14 rfl
theorem dL_law_990 : decode cL_law 990 = .ok (.goto 824, 3) := dq_at dqL_law_967 15 rfl
theorem dL_law_993 : decode cL_law 993 = .ok (.aload_n 1, 1) := dq_at dqL_law_967 16 rfl
theorem dL_law_994 : decode cL_law 994 = .ok (.invokevirtual 256, 3) := dq_at dqL_law_967 17 rfl
theorem dL_law_997 : decode cL_law 997 = .ok (.pop, 1) := dq_at dqL_law_967 18 rfl
theorem dL_law_998 : decode cL_law 998 = .ok (.aload_n 2, 1) := dq_at dqL_law_967 19 rfl
theorem dL_law_999 : decode cL_law 999 = .ok (.invokevirtual 259, 3) := dq_at dqL_law_967 20 rfl
theorem dL_law_1002 : decode cL_law 1002 = .ok (.pop, 1) := dq_at dqL_law_967 21 rfl
theorem dL_law_1003 : decode cL_law 1003 = .ok (.goto 811, 3) := dq_at dqL_law_967 22 rfl
theorem dL_law_1006 : decode cL_law 1006 = .ok (.aload_n 1, 1) := dq_at dqL_law_967 23 rfl
theorem dL_law_1007 : decode cL_law 1007 = .ok (.invokevirtual 260, 3) := dq_at dqL_law_967 24 rfl
theorem dL_law_1010 : decode cL_law 1010 = .ok (.pop, 1) := dq_at dqL_law_967 25 rfl
theorem dL_law_1011 : decode cL_law 1011 = .ok (.aload_n 2, 1) := dq_at dqL_law_967 26 rfl
theorem dL_law_1012 : decode cL_law 1012 = .ok (.invokevirtual 263, 3) := dq_at dqL_law_967 27 rfl
theorem dL_law_1015 : decode cL_law 1015 = .ok (.pop, 1) := dq_at dqL_law_967 28 rfl
theorem dL_law_1016 : decode cL_law 1016 = .ok (.goto 798, 3) := dq_at dqL_law_967 29 rfl
theorem dL_law_1019 : decode cL_law 1019 = .ok (.aload_n 1, 1) := dq_at dqL_law_967 30 rfl
theorem dL_law_1020 : decode cL_law 1020 = .ok (.aload_n 0, 1) := dq_at dqL_law_967 31 rfl
theorem dL_law_1021 : decode cL_law 1021 = .ok (.iload 4, 2) := dq_at dqL_law_967 32 rfl
theorem dL_law_1023 : decode cL_law 1023 = .ok (.iconst 1, 1) := dq_at dqL_law_967 33 rfl
theorem dL_law_1024 : decode cL_law 1024 = .ok (.iadd, 1) := dq_at dqL_law_967 34 rfl
theorem dL_law_1025 : decode cL_law 1025 = .ok (.iaload, 1) := dq_at dqL_law_967 35 rfl
theorem dL_law_1026 : decode cL_law 1026 = .ok (.aload_n 3, 1) := dq_at dqL_law_967 36 rfl
theorem dL_law_1027 : decode cL_law 1027 = .ok (.invokestatic 264, 3) := dq_at dqL_law_967 37 rfl
theorem dL_law_1030 : decode cL_law 1030 = .ok (.istore 5, 2) := dq_at dqL_law_967 38 rfl
theorem dL_law_1032 : decode cL_law 1032 = .ok (.aload_n 2, 1) := dq_at dqL_law_967 39 rfl
theorem dL_law_1033 : decode cL_law 1033 = .ok (.aload_n 0, 1) := dq_at dqL_law_967 40 rfl
theorem dL_law_1034 : decode cL_law 1034 = .ok (.iload 4, 2) := dq_at dqL_law_967 41 rfl
theorem dL_law_1036 : decode cL_law 1036 = .ok (.iconst 1, 1) := dq_at dqL_law_967 42 rfl
theorem dL_law_1037 : decode cL_law 1037 = .ok (.iadd, 1) := dq_at dqL_law_967 43 rfl
theorem dL_law_1038 : decode cL_law 1038 = .ok (.iaload, 1) := dq_at dqL_law_967 44 rfl
theorem dL_law_1039 : decode cL_law 1039 = .ok (.invokevirtual 266, 3) := dq_at dqL_law_967 45 rfl
theorem dL_law_1042 : decode cL_law 1042 = .ok (.istore 6, 2) := dq_at dqL_law_967 46 rfl
theorem dL_law_1044 : decode cL_law 1044 = .ok (.goto 770, 3) := dq_at dqL_law_967 47 rfl
theorem dL_law_1047 : decode cL_law 1047 = .ok (.aload_n 1, 1) := dq_at dqL_law_967 48 rfl
theorem dL_law_1048 : decode cL_law 1048 = .ok (.aload_n 0, 1) := dq_at dqL_law_967 49 rfl
set_option maxRecDepth 20000 in
theorem dqL_law_1049 : (([(1049, .iload 4, 2), (1051, .iconst 1, 1), (1052, .iadd, 1), (1053, .iaload, 1), (1054, .aload_n 0, 1), (1055, .iload 4, 2), (1057, .iconst 2, 1), (1058, .iadd, 1), (1059, .iaload, 1), (1060, .aload_n 3, 1), (1061, .invokestatic 267, 3), (1064, .istore 5, 2), (1066, .aload_n 2, 1), (1067, .aload_n 0, 1), (1068, .iload 4, 2), (1070, .iconst 1, 1), (1071, .iadd, 1), (1072, .iaload, 1), (1073, .aload_n 0, 1), (1074, .iload 4, 2), (1076, .iconst 2, 1), (1077, .iadd, 1), (1078, .iaload, 1), (1079, .invokevirtual 269, 3), (1082, .istore 6, 2), (1084, .goto 730, 3), (1087, .aload_n 1, 1), (1088, .aload_n 0, 1), (1089, .iload 4, 2), (1091, .iconst 1, 1), (1092, .iadd, 1), (1093, .iaload, 1), (1094, .aload_n 3, 1), (1095, .invokestatic 270, 3), (1098, .istore 5, 2), (1100, .aload_n 2, 1), (1101, .aload_n 0, 1), (1102, .iload 4, 2), (1104, .iconst 1, 1), (1105, .iadd, 1), (1106, .iaload, 1), (1107, .invokevirtual 272, 3), (1110, .istore 6, 2), (1112, .goto 702, 3), (1115, .aload_n 1, 1), (1116, .aload_n 0, 1), (1117, .iload 4, 2), (1119, .iconst 1, 1), (1120, .iadd, 1), (1121, .iaload, 1)] : List (Nat × Instr × Nat)).all fun x => decide (decode cL_law x.1 = .ok (x.2.1, x.2.2))) = true := by decide +kernel
theorem dL_law_1049 : decode cL_law 1049 = .ok (.iload 4, 2) := dq_at dqL_law_1049 0 rfl
theorem dL_law_1051 : decode cL_law 1051 = .ok (.iconst 1, 1) := dq_at dqL_law_1049 1 rfl
theorem dL_law_1052 : decode cL_law 1052 = .ok (.iadd, 1) := dq_at dqL_law_1049 2 rfl
theorem dL_law_1053 : decode cL_law 1053 = .ok (.iaload, 1) := dq_at dqL_law_1049 3 rfl
theorem dL_law_1054 : decode cL_law 1054 = .ok (.aload_n 0, 1) := dq_at dqL_law_1049 4 rfl
theorem dL_law_1055 : decode cL_law 1055 = .ok (.iload 4, 2) := dq_at dqL_law_1049 5 rfl
theorem dL_law_1057 : decode cL_law 1057 = .ok (.iconst 2, 1) := dq_at dqL_law_1049 6 rfl
theorem dL_law_1058 : decode cL_law 1058 = .ok (.iadd, 1) := dq_at dqL_law_1049 7 rfl
theorem dL_law_1059 : decode cL_law 1059 = .ok (.iaload, 1) := dq_at dqL_law_1049 8 rfl
theorem dL_law_1060 : decode cL_law 1060 = .ok (.aload_n 3, 1) := dq_at dqL_law_1049 9 rfl
theorem dL_law_1061 : decode cL_law 1061 = .ok (.invokestatic 267, 3) := dq_at dqL_law_1049 10 rfl
theorem dL_law_1064 : decode cL_law 1064 = .ok (.istore 5, 2) := dq_at dqL_law_1049 11 rfl
theorem dL_law_1066 : decode cL_law 1066 = .ok (.aload_n 2, 1) := dq_at dqL_law_1049 12 rfl
theorem dL_law_1067 : decode cL_law 1067 = .ok (.aload_n 0, 1) := dq_at dqL_law_1049 13 rfl
theorem dL_law_1068 : decode cL_law 1068 = .ok (.iload 4, 2) := dq_at dqL_law_1049 14 rfl
theorem dL_law_1070 : decode cL_law 1070 = .ok (.iconst 1, 1) := dq_at dqL_law_1049 15 rfl
theorem dL_law_1071 : decode cL_law 1071 = .ok (.iadd, 1) := dq_at dqL_law_1049 16 rfl
theorem dL_law_1072 : decode cL_law 1072 = .ok (.iaload, 1) := dq_at dqL_law_1049 17 rfl
theorem dL_law_1073 : decode cL_law 1073 = .ok (.aload_n 0, 1) := dq_at dqL_law_1049 18 rfl
theorem dL_law_1074 : decode cL_law 1074 = .ok (.iload 4, 2) := dq_at dqL_law_1049 19 rfl
theorem dL_law_1076 : decode cL_law 1076 = .ok (.iconst 2, 1) := dq_at dqL_law_1049 20 rfl
theorem dL_law_1077 : decode cL_law 1077 = .ok (.iadd, 1) := dq_at dqL_law_1049 21 rfl
theorem dL_law_1078 : decode cL_law 1078 = .ok (.iaload, 1) := dq_at dqL_law_1049 22 rfl
theorem dL_law_1079 : decode cL_law 1079 = .ok (.invokevirtual 269, 3) := dq_at dqL_law_1049 23 rfl
theorem dL_law_1082 : decode cL_law 1082 = .ok (.istore 6, 2) := dq_at dqL_law_1049 24 rfl
theorem dL_law_1084 : decode cL_law 1084 = .ok (.goto 730, 3) := dq_at dqL_law_1049 25 rfl
theorem dL_law_1087 : decode cL_law 1087 = .ok (.aload_n 1, 1) := dq_at dqL_law_1049 26 rfl
theorem dL_law_1088 : decode cL_law 1088 = .ok (.aload_n 0, 1) := dq_at dqL_law_1049 27 rfl
theorem dL_law_1089 : decode cL_law 1089 = .ok (.iload 4, 2) := dq_at dqL_law_1049 28 rfl
theorem dL_law_1091 : decode cL_law 1091 = .ok (.iconst 1, 1) := dq_at dqL_law_1049 29 rfl
theorem dL_law_1092 : decode cL_law 1092 = .ok (.iadd, 1) := dq_at dqL_law_1049 30 rfl
theorem dL_law_1093 : decode cL_law 1093 = .ok (.iaload, 1) := dq_at dqL_law_1049 31 rfl
theorem dL_law_1094 : decode cL_law 1094 = .ok (.aload_n 3, 1) := dq_at dqL_law_1049 32 rfl
theorem dL_law_1095 : decode cL_law 1095 = .ok (.invokestatic 270, 3) := dq_at dqL_law_1049 33 rfl
theorem dL_law_1098 : decode cL_law 1098 = .ok (.istore 5, 2) := dq_at dqL_law_1049 34 rfl
theorem dL_law_1100 : decode cL_law 1100 = .ok (.aload_n 2, 1) := dq_at dqL_law_1049 35 rfl
theorem dL_law_1101 : decode cL_law 1101 = .ok (.aload_n 0, 1) := dq_at dqL_law_1049 36 rfl
theorem dL_law_1102 : decode cL_law 1102 = .ok (.iload 4, 2) := dq_at dqL_law_1049 37 rfl
theorem dL_law_1104 : decode cL_law 1104 = .ok (.iconst 1, 1) := dq_at dqL_law_1049 38 rfl
theorem dL_law_1105 : decode cL_law 1105 = .ok (.iadd, 1) := dq_at dqL_law_1049 39 rfl
theorem dL_law_1106 : decode cL_law 1106 = .ok (.iaload, 1) := dq_at dqL_law_1049 40 rfl
theorem dL_law_1107 : decode cL_law 1107 = .ok (.invokevirtual 272, 3) := dq_at dqL_law_1049 41 rfl
theorem dL_law_1110 : decode cL_law 1110 = .ok (.istore 6, 2) := dq_at dqL_law_1049 42 rfl
theorem dL_law_1112 : decode cL_law 1112 = .ok (.goto 702, 3) := dq_at dqL_law_1049 43 rfl
theorem dL_law_1115 : decode cL_law 1115 = .ok (.aload_n 1, 1) := dq_at dqL_law_1049 44 rfl
theorem dL_law_1116 : decode cL_law 1116 = .ok (.aload_n 0, 1) := dq_at dqL_law_1049 45 rfl
theorem dL_law_1117 : decode cL_law 1117 = .ok (.iload 4, 2) := dq_at dqL_law_1049 46 rfl
theorem dL_law_1119 : decode cL_law 1119 = .ok (.iconst 1, 1) := dq_at dqL_law_1049 47 rfl
theorem dL_law_1120 : decode cL_law 1120 = .ok (.iadd, 1) := dq_at dqL_law_1049 48 rfl
theorem dL_law_1121 : decode cL_law 1121 = .ok (.iaload, 1) := dq_at dqL_law_1049 49 rfl
set_option maxRecDepth 20000 in
theorem dqL_law_1122 : (([(1122, .aload_n 3, 1), (1123, .invokestatic 273, 3), (1126, .istore 5, 2), (1128, .aload_n 2, 1), (1129, .aload_n 0, 1), (1130, .iload 4, 2), (1132, .iconst 1, 1), (1133, .iadd, 1), (1134, .iaload, 1), (1135, .invokevirtual 275, 3)] : List (Nat × Instr × Nat)).all fun x => decide (decode cL_law x.1 = .ok (x.2.1, x.2.2))) = true := by decide +kernel
theorem dL_law_1122 : decode cL_law 1122 = .ok (.aload_n 3, 1) := dq_at dqL_law_1122 0 rfl
theorem dL_law_1123 : decode cL_law 1123 = .ok (.invokestatic 273, 3) := dq_at dqL_law_1122 1 rfl
theorem dL_law_1126 : decode cL_law 1126 = .ok (.istore 5, 2) := dq_at dqL_law_1122 2 rfl
theorem dL_law_1128 : decode cL_law 1128 = .ok (.aload_n 2, 1) := dq_at dqL_law_1122 3 rfl
theorem dL_law_1129 : decode cL_law 1129 = .ok (.aload_n 0, 1) := dq_at dqL_law_1122 4 rfl
theorem dL_law_1130 : decode cL_law 1130 = .ok (.iload 4, 2) := dq_at dqL_law_1122 5 rfl
theorem dL_law_1132 : decode cL_law 1132 = .ok (.iconst 1, 1) := dq_at dqL_law_1122 6 rfl
theorem dL_law_1133 : decode cL_law 1133 = .ok (.iadd, 1) := dq_at dqL_law_1122 7 rfl
theorem dL_law_1134 : decode cL_law 1134 = .ok (.iaload, 1) := dq_at dqL_law_1122 8 rfl
theorem dL_law_1135 : decode cL_law 1135 = .ok (.invokevirtual 275, 3) := dq_at dqL_law_1122 9 rfl
