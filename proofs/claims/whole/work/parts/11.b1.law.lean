def tb_L_law_3 : List (Nat × Instr × Nat) := [(294, .aload_n 2, 1), (295, .invokevirtual 72, 3), (298, .iload 5, 2), (300, .if_icmp .eq 5, 3), (303, .iconst 0, 1), (304, .ireturn, 1), (305, .iload 5, 2), (307, .ifCond .ne 15, 3), (310, .aload_n 3, 1), (311, .iconst 0, 1), (312, .laload, 1), (313, .iload 6, 2), (315, .i2l, 1), (316, .lcmp, 1), (317, .ifCond .eq 5, 3), (320, .iconst 0, 1), (321, .ireturn, 1), (322, .goto 652, 3), (325, .aload_n 1, 1), (326, .aload_n 0, 1), (327, .iload 4, 2), (329, .iconst 1, 1), (330, .iadd, 1), (331, .iaload, 1), (332, .aload_n 0, 1), (333, .iload 4, 2), (335, .iconst 2, 1), (336, .iadd, 1), (337, .iaload, 1), (338, .aload_n 3, 1), (339, .invokestatic 83, 3), (342, .istore 5, 2), (344, .aload_n 2, 1), (345, .aload_n 0, 1), (346, .iload 4, 2), (348, .iconst 1, 1), (349, .iadd, 1), (350, .iaload, 1), (351, .aload_n 0, 1), (352, .iload 4, 2), (354, .iconst 2, 1), (355, .iadd, 1), (356, .iaload, 1), (357, .invokevirtual 85, 3), (360, .istore 6, 2), (362, .aload_n 2, 1), (363, .invokevirtual 72, 3), (366, .iload 5, 2), (368, .if_icmp .eq 5, 3), (371, .iconst 0, 1)]
theorem dd_L_law_3 : ∀ (i : Nat) (q : Nat × Instr × Nat), tb_L_law_3[i]? = some q → decode b_L_law q.1 = .ok (q.2.1, q.2.2) := z_tab (by decide +kernel)
theorem d_L_law_294 : decode b_L_law 294 = .ok (.aload_n 2, 1) := dd_L_law_3 0 (294, .aload_n 2, 1) rfl
theorem d_L_law_295 : decode b_L_law 295 = .ok (.invokevirtual 72, 3) := dd_L_law_3 1 (295, .invokevirtual 72, 3) rfl
theorem d_L_law_298 : decode b_L_law 298 = .ok (.iload 5, 2) := dd_L_law_3 2 (298, .iload 5, 2) rfl
theorem d_L_law_300 : decode b_L_law 300 = .ok (.if_icmp .eq 5, 3) := dd_L_law_3 3 (300, .if_icmp .eq 5, 3) rfl
theorem d_L_law_303 : decode b_L_law 303 = .ok (.iconst 0, 1) := dd_L_law_3 4 (303, .iconst 0, 1) rfl
theorem d_L_law_304 : decode b_L_law 304 = .ok (.ireturn, 1) := dd_L_law_3 5 (304, .ireturn, 1) rfl
theorem d_L_law_305 : decode b_L_law 305 = .ok (.iload 5, 2) := dd_L_law_3 6 (305, .iload 5, 2) rfl
theorem d_L_law_307 : decode b_L_law 307 = .ok (.ifCond .ne 15, 3) := dd_L_law_3 7 (307, .ifCond .ne 15, 3) rfl
theorem d_L_law_310 : decode b_L_law 310 = .ok (.aload_n 3, 1) := dd_L_law_3 8 (310, .aload_n 3, 1) rfl
theorem d_L_law_311 : decode b_L_law 311 = .ok (.iconst 0, 1) := dd_L_law_3 9 (311, .iconst 0, 1) rfl
theorem d_L_law_312 : decode b_L_law 312 = .ok (.laload, 1) := dd_L_law_3 10 (312, .laload, 1) rfl
theorem d_L_law_313 : decode b_L_law 313 = .ok (.iload 6, 2) := dd_L_law_3 11 (313, .iload 6, 2) rfl
theorem d_L_law_315 : decode b_L_law 315 = .ok (.i2l, 1) := dd_L_law_3 12 (315, .i2l, 1) rfl
theorem d_L_law_316 : decode b_L_law 316 = .ok (.lcmp, 1) := dd_L_law_3 13 (316, .lcmp, 1) rfl
theorem d_L_law_317 : decode b_L_law 317 = .ok (.ifCond .eq 5, 3) := dd_L_law_3 14 (317, .ifCond .eq 5, 3) rfl
theorem d_L_law_320 : decode b_L_law 320 = .ok (.iconst 0, 1) := dd_L_law_3 15 (320, .iconst 0, 1) rfl
theorem d_L_law_321 : decode b_L_law 321 = .ok (.ireturn, 1) := dd_L_law_3 16 (321, .ireturn, 1) rfl
theorem d_L_law_322 : decode b_L_law 322 = .ok (.goto 652, 3) := dd_L_law_3 17 (322, .goto 652, 3) rfl
theorem d_L_law_325 : decode b_L_law 325 = .ok (.aload_n 1, 1) := dd_L_law_3 18 (325, .aload_n 1, 1) rfl
theorem d_L_law_326 : decode b_L_law 326 = .ok (.aload_n 0, 1) := dd_L_law_3 19 (326, .aload_n 0, 1) rfl
theorem d_L_law_327 : decode b_L_law 327 = .ok (.iload 4, 2) := dd_L_law_3 20 (327, .iload 4, 2) rfl
theorem d_L_law_329 : decode b_L_law 329 = .ok (.iconst 1, 1) := dd_L_law_3 21 (329, .iconst 1, 1) rfl
theorem d_L_law_330 : decode b_L_law 330 = .ok (.iadd, 1) := dd_L_law_3 22 (330, .iadd, 1) rfl
theorem d_L_law_331 : decode b_L_law 331 = .ok (.iaload, 1) := dd_L_law_3 23 (331, .iaload, 1) rfl
theorem d_L_law_332 : decode b_L_law 332 = .ok (.aload_n 0, 1) := dd_L_law_3 24 (332, .aload_n 0, 1) rfl
theorem d_L_law_333 : decode b_L_law 333 = .ok (.iload 4, 2) := dd_L_law_3 25 (333, .iload 4, 2) rfl
theorem d_L_law_335 : decode b_L_law 335 = .ok (.iconst 2, 1) := dd_L_law_3 26 (335, .iconst 2, 1) rfl
theorem d_L_law_336 : decode b_L_law 336 = .ok (.iadd, 1) := dd_L_law_3 27 (336, .iadd, 1) rfl
theorem d_L_law_337 : decode b_L_law 337 = .ok (.iaload, 1) := dd_L_law_3 28 (337, .iaload, 1) rfl
theorem d_L_law_338 : decode b_L_law 338 = .ok (.aload_n 3, 1) := dd_L_law_3 29 (338, .aload_n 3, 1) rfl
theorem d_L_law_339 : decode b_L_law 339 = .ok (.invokestatic 83, 3) := dd_L_law_3 30 (339, .invokestatic 83, 3) rfl
theorem d_L_law_342 : decode b_L_law 342 = .ok (.istore 5, 2) := dd_L_law_3 31 (342, .istore 5, 2) rfl
theorem d_L_law_344 : decode b_L_law 344 = .ok (.aload_n 2, 1) := dd_L_law_3 32 (344, .aload_n 2, 1) rfl
theorem d_L_law_345 : decode b_L_law 345 = .ok (.aload_n 0, 1) := dd_L_law_3 33 (345, .aload_n 0, 1) rfl
theorem d_L_law_346 : decode b_L_law 346 = .ok (.iload 4, 2) := dd_L_law_3 34 (346, .iload 4, 2) rfl
theorem d_L_law_348 : decode b_L_law 348 = .ok (.iconst 1, 1) := dd_L_law_3 35 (348, .iconst 1, 1) rfl
theorem d_L_law_349 : decode b_L_law 349 = .ok (.iadd, 1) := dd_L_law_3 36 (349, .iadd, 1) rfl
theorem d_L_law_350 : decode b_L_law 350 = .ok (.iaload, 1) := dd_L_law_3 37 (350, .iaload, 1) rfl
theorem d_L_law_351 : decode b_L_law 351 = .ok (.aload_n 0, 1) := dd_L_law_3 38 (351, .aload_n 0, 1) rfl
theorem d_L_law_352 : decode b_L_law 352 = .ok (.iload 4, 2) := dd_L_law_3 39 (352, .iload 4, 2) rfl
theorem d_L_law_354 : decode b_L_law 354 = .ok (.iconst 2, 1) := dd_L_law_3 40 (354, .iconst 2, 1) rfl
theorem d_L_law_355 : decode b_L_law 355 = .ok (.iadd, 1) := dd_L_law_3 41 (355, .iadd, 1) rfl
theorem d_L_law_356 : decode b_L_law 356 = .ok (.iaload, 1) := dd_L_law_3 42 (356, .iaload, 1) rfl
theorem d_L_law_357 : decode b_L_law 357 = .ok (.invokevirtual 85, 3) := dd_L_law_3 43 (357, .invokevirtual 85, 3) rfl
theorem d_L_law_360 : decode b_L_law 360 = .ok (.istore 6, 2) := dd_L_law_3 44 (360, .istore 6, 2) rfl
theorem d_L_law_362 : decode b_L_law 362 = .ok (.aload_n 2, 1) := dd_L_law_3 45 (362, .aload_n 2, 1) rfl
theorem d_L_law_363 : decode b_L_law 363 = .ok (.invokevirtual 72, 3) := dd_L_law_3 46 (363, .invokevirtual 72, 3) rfl
theorem d_L_law_366 : decode b_L_law 366 = .ok (.iload 5, 2) := dd_L_law_3 47 (366, .iload 5, 2) rfl
theorem d_L_law_368 : decode b_L_law 368 = .ok (.if_icmp .eq 5, 3) := dd_L_law_3 48 (368, .if_icmp .eq 5, 3) rfl
theorem d_L_law_371 : decode b_L_law 371 = .ok (.iconst 0, 1) := dd_L_law_3 49 (371, .iconst 0, 1) rfl
def tb_L_law_4 : List (Nat × Instr × Nat) := [(372, .ireturn, 1), (373, .iload 5, 2), (375, .ifCond .ne 15, 3), (378, .aload_n 3, 1), (379, .iconst 0, 1), (380, .laload, 1), (381, .iload 6, 2), (383, .i2l, 1), (384, .lcmp, 1), (385, .ifCond .eq 5, 3), (388, .iconst 0, 1), (389, .ireturn, 1), (390, .goto 584, 3), (393, .aload_n 1, 1), (394, .aload_n 0, 1), (395, .iload 4, 2), (397, .iconst 1, 1), (398, .iadd, 1), (399, .iaload, 1), (400, .aload_n 3, 1), (401, .invokestatic 86, 3), (404, .istore 5, 2), (406, .aload_n 2, 1), (407, .aload_n 0, 1), (408, .iload 4, 2), (410, .iconst 1, 1), (411, .iadd, 1), (412, .iaload, 1), (413, .invokevirtual 89, 3), (416, .istore 6, 2), (418, .aload_n 2, 1), (419, .invokevirtual 72, 3), (422, .iload 5, 2), (424, .if_icmp .eq 5, 3), (427, .iconst 0, 1), (428, .ireturn, 1), (429, .iload 5, 2), (431, .ifCond .ne 15, 3), (434, .aload_n 3, 1), (435, .iconst 0, 1), (436, .laload, 1), (437, .iload 6, 2), (439, .i2l, 1), (440, .lcmp, 1), (441, .ifCond .eq 5, 3), (444, .iconst 0, 1), (445, .ireturn, 1), (446, .goto 528, 3), (449, .aload_n 1, 1), (450, .aload_n 0, 1)]
theorem dd_L_law_4 : ∀ (i : Nat) (q : Nat × Instr × Nat), tb_L_law_4[i]? = some q → decode b_L_law q.1 = .ok (q.2.1, q.2.2) := z_tab (by decide +kernel)
theorem d_L_law_372 : decode b_L_law 372 = .ok (.ireturn, 1) := dd_L_law_4 0 (372, .ireturn, 1) rfl
theorem d_L_law_373 : decode b_L_law 373 = .ok (.iload 5, 2) := dd_L_law_4 1 (373, .iload 5, 2) rfl
theorem d_L_law_375 : decode b_L_law 375 = .ok (.ifCond .ne 15, 3) := dd_L_law_4 2 (375, .ifCond .ne 15, 3) rfl
theorem d_L_law_378 : decode b_L_law 378 = .ok (.aload_n 3, 1) := dd_L_law_4 3 (378, .aload_n 3, 1) rfl
theorem d_L_law_379 : decode b_L_law 379 = .ok (.iconst 0, 1) := dd_L_law_4 4 (379, .iconst 0, 1) rfl
theorem d_L_law_380 : decode b_L_law 380 = .ok (.laload, 1) := dd_L_law_4 5 (380, .laload, 1) rfl
theorem d_L_law_381 : decode b_L_law 381 = .ok (.iload 6, 2) := dd_L_law_4 6 (381, .iload 6, 2) rfl
theorem d_L_law_383 : decode b_L_law 383 = .ok (.i2l, 1) := dd_L_law_4 7 (383, .i2l, 1) rfl
theorem d_L_law_384 : decode b_L_law 384 = .ok (.lcmp, 1) := dd_L_law_4 8 (384, .lcmp, 1) rfl
theorem d_L_law_385 : decode b_L_law 385 = .ok (.ifCond .eq 5, 3) := dd_L_law_4 9 (385, .ifCond .eq 5, 3) rfl
theorem d_L_law_388 : decode b_L_law 388 = .ok (.iconst 0, 1) := dd_L_law_4 10 (388, .iconst 0, 1) rfl
theorem d_L_law_389 : decode b_L_law 389 = .ok (.ireturn, 1) := dd_L_law_4 11 (389, .ireturn, 1) rfl
theorem d_L_law_390 : decode b_L_law 390 = .ok (.goto 584, 3) := dd_L_law_4 12 (390, .goto 584, 3) rfl
theorem d_L_law_393 : decode b_L_law 393 = .ok (.aload_n 1, 1) := dd_L_law_4 13 (393, .aload_n 1, 1) rfl
theorem d_L_law_394 : decode b_L_law 394 = .ok (.aload_n 0, 1) := dd_L_law_4 14 (394, .aload_n 0, 1) rfl
theorem d_L_law_395 : decode b_L_law 395 = .ok (.iload 4, 2) := dd_L_law_4 15 (395, .iload 4, 2) rfl
theorem d_L_law_397 : decode b_L_law 397 = .ok (.iconst 1, 1) := dd_L_law_4 16 (397, .iconst 1, 1) rfl
theorem d_L_law_398 : decode b_L_law 398 = .ok (.iadd, 1) := dd_L_law_4 17 (398, .iadd, 1) rfl
theorem d_L_law_399 : decode b_L_law 399 = .ok (.iaload, 1) := dd_L_law_4 18 (399, .iaload, 1) rfl
theorem d_L_law_400 : decode b_L_law 400 = .ok (.aload_n 3, 1) := dd_L_law_4 19 (400, .aload_n 3, 1) rfl
theorem d_L_law_401 : decode b_L_law 401 = .ok (.invokestatic 86, 3) := dd_L_law_4 20 (401, .invokestatic 86, 3) rfl
theorem d_L_law_404 : decode b_L_law 404 = .ok (.istore 5, 2) := dd_L_law_4 21 (404, .istore 5, 2) rfl
theorem d_L_law_406 : decode b_L_law 406 = .ok (.aload_n 2, 1) := dd_L_law_4 22 (406, .aload_n 2, 1) rfl
theorem d_L_law_407 : decode b_L_law 407 = .ok (.aload_n 0, 1) := dd_L_law_4 23 (407, .aload_n 0, 1) rfl
theorem d_L_law_408 : decode b_L_law 408 = .ok (.iload 4, 2) := dd_L_law_4 24 (408, .iload 4, 2) rfl
theorem d_L_law_410 : decode b_L_law 410 = .ok (.iconst 1, 1) := dd_L_law_4 25 (410, .iconst 1, 1) rfl
theorem d_L_law_411 : decode b_L_law 411 = .ok (.iadd, 1) := dd_L_law_4 26 (411, .iadd, 1) rfl
theorem d_L_law_412 : decode b_L_law 412 = .ok (.iaload, 1) := dd_L_law_4 27 (412, .iaload, 1) rfl
theorem d_L_law_413 : decode b_L_law 413 = .ok (.invokevirtual 89, 3) := dd_L_law_4 28 (413, .invokevirtual 89, 3) rfl
theorem d_L_law_416 : decode b_L_law 416 = .ok (.istore 6, 2) := dd_L_law_4 29 (416, .istore 6, 2) rfl
theorem d_L_law_418 : decode b_L_law 418 = .ok (.aload_n 2, 1) := dd_L_law_4 30 (418, .aload_n 2, 1) rfl
theorem d_L_law_419 : decode b_L_law 419 = .ok (.invokevirtual 72, 3) := dd_L_law_4 31 (419, .invokevirtual 72, 3) rfl
theorem d_L_law_422 : decode b_L_law 422 = .ok (.iload 5, 2) := dd_L_law_4 32 (422, .iload 5, 2) rfl
theorem d_L_law_424 : decode b_L_law 424 = .ok (.if_icmp .eq 5, 3) := dd_L_law_4 33 (424, .if_icmp .eq 5, 3) rfl
theorem d_L_law_427 : decode b_L_law 427 = .ok (.iconst 0, 1) := dd_L_law_4 34 (427, .iconst 0, 1) rfl
theorem d_L_law_428 : decode b_L_law 428 = .ok (.ireturn, 1) := dd_L_law_4 35 (428, .ireturn, 1) rfl
theorem d_L_law_429 : decode b_L_law 429 = .ok (.iload 5, 2) := dd_L_law_4 36 (429, .iload 5, 2) rfl
theorem d_L_law_431 : decode b_L_law 431 = .ok (.ifCond .ne 15, 3) := dd_L_law_4 37 (431, .ifCond .ne 15, 3) rfl
theorem d_L_law_434 : decode b_L_law 434 = .ok (.aload_n 3, 1) := dd_L_law_4 38 (434, .aload_n 3, 1) rfl
theorem d_L_law_435 : decode b_L_law 435 = .ok (.iconst 0, 1) := dd_L_law_4 39 (435, .iconst 0, 1) rfl
theorem d_L_law_436 : decode b_L_law 436 = .ok (.laload, 1) := dd_L_law_4 40 (436, .laload, 1) rfl
theorem d_L_law_437 : decode b_L_law 437 = .ok (.iload 6, 2) := dd_L_law_4 41 (437, .iload 6, 2) rfl
theorem d_L_law_439 : decode b_L_law 439 = .ok (.i2l, 1) := dd_L_law_4 42 (439, .i2l, 1) rfl
theorem d_L_law_440 : decode b_L_law 440 = .ok (.lcmp, 1) := dd_L_law_4 43 (440, .lcmp, 1) rfl
theorem d_L_law_441 : decode b_L_law 441 = .ok (.ifCond .eq 5, 3) := dd_L_law_4 44 (441, .ifCond .eq 5, 3) rfl
theorem d_L_law_444 : decode b_L_law 444 = .ok (.iconst 0, 1) := dd_L_law_4 45 (444, .iconst 0, 1) rfl
theorem d_L_law_445 : decode b_L_law 445 = .ok (.ireturn, 1) := dd_L_law_4 46 (445, .ireturn, 1) rfl
theorem d_L_law_446 : decode b_L_law 446 = .ok (.goto 528, 3) := dd_L_law_4 47 (446, .goto 528, 3) rfl
theorem d_L_law_449 : decode b_L_law 449 = .ok (.aload_n 1, 1) := dd_L_law_4 48 (449, .aload_n 1, 1) rfl
theorem d_L_law_450 : decode b_L_law 450 = .ok (.aload_n 0, 1) := dd_L_law_4 49 (450, .aload_n 0, 1) rfl
def tb_L_law_5 : List (Nat × Instr × Nat) := [(451, .iload 4, 2), (453, .iconst 1, 1), (454, .iadd, 1), (455, .iaload, 1), (456, .aload_n 3, 1), (457, .invokestatic 90, 3), (460, .istore 5, 2), (462, .aload_n 2, 1), (463, .aload_n 0, 1), (464, .iload 4, 2), (466, .iconst 1, 1), (467, .iadd, 1), (468, .iaload, 1), (469, .invokevirtual 92, 3), (472, .istore 6, 2), (474, .aload_n 2, 1), (475, .invokevirtual 72, 3), (478, .iload 5, 2), (480, .if_icmp .eq 5, 3), (483, .iconst 0, 1), (484, .ireturn, 1), (485, .iload 5, 2), (487, .ifCond .ne 15, 3), (490, .aload_n 3, 1), (491, .iconst 0, 1), (492, .laload, 1), (493, .iload 6, 2), (495, .i2l, 1), (496, .lcmp, 1), (497, .ifCond .eq 5, 3), (500, .iconst 0, 1), (501, .ireturn, 1), (502, .goto 472, 3), (505, .aload_n 1, 1), (506, .aload_n 3, 1), (507, .invokestatic 93, 3), (510, .istore 5, 2), (512, .aload_n 2, 1), (513, .invokevirtual 96, 3), (516, .istore 6, 2), (518, .aload_n 2, 1), (519, .invokevirtual 72, 3), (522, .iload 5, 2), (524, .if_icmp .eq 5, 3), (527, .iconst 0, 1), (528, .ireturn, 1), (529, .iload 5, 2), (531, .ifCond .ne 15, 3), (534, .aload_n 3, 1), (535, .iconst 0, 1)]
theorem dd_L_law_5 : ∀ (i : Nat) (q : Nat × Instr × Nat), tb_L_law_5[i]? = some q → decode b_L_law q.1 = .ok (q.2.1, q.2.2) := z_tab (by decide +kernel)
theorem d_L_law_451 : decode b_L_law 451 = .ok (.iload 4, 2) := dd_L_law_5 0 (451, .iload 4, 2) rfl
theorem d_L_law_453 : decode b_L_law 453 = .ok (.iconst 1, 1) := dd_L_law_5 1 (453, .iconst 1, 1) rfl
theorem d_L_law_454 : decode b_L_law 454 = .ok (.iadd, 1) := dd_L_law_5 2 (454, .iadd, 1) rfl
theorem d_L_law_455 : decode b_L_law 455 = .ok (.iaload, 1) := dd_L_law_5 3 (455, .iaload, 1) rfl
theorem d_L_law_456 : decode b_L_law 456 = .ok (.aload_n 3, 1) := dd_L_law_5 4 (456, .aload_n 3, 1) rfl
theorem d_L_law_457 : decode b_L_law 457 = .ok (.invokestatic 90, 3) := dd_L_law_5 5 (457, .invokestatic 90, 3) rfl
theorem d_L_law_460 : decode b_L_law 460 = .ok (.istore 5, 2) := dd_L_law_5 6 (460, .istore 5, 2) rfl
theorem d_L_law_462 : decode b_L_law 462 = .ok (.aload_n 2, 1) := dd_L_law_5 7 (462, .aload_n 2, 1) rfl
theorem d_L_law_463 : decode b_L_law 463 = .ok (.aload_n 0, 1) := dd_L_law_5 8 (463, .aload_n 0, 1) rfl
theorem d_L_law_464 : decode b_L_law 464 = .ok (.iload 4, 2) := dd_L_law_5 9 (464, .iload 4, 2) rfl
theorem d_L_law_466 : decode b_L_law 466 = .ok (.iconst 1, 1) := dd_L_law_5 10 (466, .iconst 1, 1) rfl
theorem d_L_law_467 : decode b_L_law 467 = .ok (.iadd, 1) := dd_L_law_5 11 (467, .iadd, 1) rfl
theorem d_L_law_468 : decode b_L_law 468 = .ok (.iaload, 1) := dd_L_law_5 12 (468, .iaload, 1) rfl
theorem d_L_law_469 : decode b_L_law 469 = .ok (.invokevirtual 92, 3) := dd_L_law_5 13 (469, .invokevirtual 92, 3) rfl
theorem d_L_law_472 : decode b_L_law 472 = .ok (.istore 6, 2) := dd_L_law_5 14 (472, .istore 6, 2) rfl
theorem d_L_law_474 : decode b_L_law 474 = .ok (.aload_n 2, 1) := dd_L_law_5 15 (474, .aload_n 2, 1) rfl
theorem d_L_law_475 : decode b_L_law 475 = .ok (.invokevirtual 72, 3) := dd_L_law_5 16 (475, .invokevirtual 72, 3) rfl
theorem d_L_law_478 : decode b_L_law 478 = .ok (.iload 5, 2) := dd_L_law_5 17 (478, .iload 5, 2) rfl
theorem d_L_law_480 : decode b_L_law 480 = .ok (.if_icmp .eq 5, 3) := dd_L_law_5 18 (480, .if_icmp .eq 5, 3) rfl
theorem d_L_law_483 : decode b_L_law 483 = .ok (.iconst 0, 1) := dd_L_law_5 19 (483, .iconst 0, 1) rfl
theorem d_L_law_484 : decode b_L_law 484 = .ok (.ireturn, 1) := dd_L_law_5 20 (484, .ireturn, 1) rfl
theorem d_L_law_485 : decode b_L_law 485 = .ok (.iload 5, 2) := dd_L_law_5 21 (485, .iload 5, 2) rfl
theorem d_L_law_487 : decode b_L_law 487 = .ok (.ifCond .ne 15, 3) := dd_L_law_5 22 (487, .ifCond .ne 15, 3) rfl
theorem d_L_law_490 : decode b_L_law 490 = .ok (.aload_n 3, 1) := dd_L_law_5 23 (490, .aload_n 3, 1) rfl
theorem d_L_law_491 : decode b_L_law 491 = .ok (.iconst 0, 1) := dd_L_law_5 24 (491, .iconst 0, 1) rfl
theorem d_L_law_492 : decode b_L_law 492 = .ok (.laload, 1) := dd_L_law_5 25 (492, .laload, 1) rfl
theorem d_L_law_493 : decode b_L_law 493 = .ok (.iload 6, 2) := dd_L_law_5 26 (493, .iload 6, 2) rfl
theorem d_L_law_495 : decode b_L_law 495 = .ok (.i2l, 1) := dd_L_law_5 27 (495, .i2l, 1) rfl
theorem d_L_law_496 : decode b_L_law 496 = .ok (.lcmp, 1) := dd_L_law_5 28 (496, .lcmp, 1) rfl
theorem d_L_law_497 : decode b_L_law 497 = .ok (.ifCond .eq 5, 3) := dd_L_law_5 29 (497, .ifCond .eq 5, 3) rfl
theorem d_L_law_500 : decode b_L_law 500 = .ok (.iconst 0, 1) := dd_L_law_5 30 (500, .iconst 0, 1) rfl
theorem d_L_law_501 : decode b_L_law 501 = .ok (.ireturn, 1) := dd_L_law_5 31 (501, .ireturn, 1) rfl
theorem d_L_law_502 : decode b_L_law 502 = .ok (.goto 472, 3) := dd_L_law_5 32 (502, .goto 472, 3) rfl
theorem d_L_law_505 : decode b_L_law 505 = .ok (.aload_n 1, 1) := dd_L_law_5 33 (505, .aload_n 1, 1) rfl
theorem d_L_law_506 : decode b_L_law 506 = .ok (.aload_n 3, 1) := dd_L_law_5 34 (506, .aload_n 3, 1) rfl
theorem d_L_law_507 : decode b_L_law 507 = .ok (.invokestatic 93, 3) := dd_L_law_5 35 (507, .invokestatic 93, 3) rfl
theorem d_L_law_510 : decode b_L_law 510 = .ok (.istore 5, 2) := dd_L_law_5 36 (510, .istore 5, 2) rfl
theorem d_L_law_512 : decode b_L_law 512 = .ok (.aload_n 2, 1) := dd_L_law_5 37 (512, .aload_n 2, 1) rfl
theorem d_L_law_513 : decode b_L_law 513 = .ok (.invokevirtual 96, 3) := dd_L_law_5 38 (513, .invokevirtual 96, 3) rfl
theorem d_L_law_516 : decode b_L_law 516 = .ok (.istore 6, 2) := dd_L_law_5 39 (516, .istore 6, 2) rfl
theorem d_L_law_518 : decode b_L_law 518 = .ok (.aload_n 2, 1) := dd_L_law_5 40 (518, .aload_n 2, 1) rfl
theorem d_L_law_519 : decode b_L_law 519 = .ok (.invokevirtual 72, 3) := dd_L_law_5 41 (519, .invokevirtual 72, 3) rfl
theorem d_L_law_522 : decode b_L_law 522 = .ok (.iload 5, 2) := dd_L_law_5 42 (522, .iload 5, 2) rfl
theorem d_L_law_524 : decode b_L_law 524 = .ok (.if_icmp .eq 5, 3) := dd_L_law_5 43 (524, .if_icmp .eq 5, 3) rfl
theorem d_L_law_527 : decode b_L_law 527 = .ok (.iconst 0, 1) := dd_L_law_5 44 (527, .iconst 0, 1) rfl
theorem d_L_law_528 : decode b_L_law 528 = .ok (.ireturn, 1) := dd_L_law_5 45 (528, .ireturn, 1) rfl
theorem d_L_law_529 : decode b_L_law 529 = .ok (.iload 5, 2) := dd_L_law_5 46 (529, .iload 5, 2) rfl
theorem d_L_law_531 : decode b_L_law 531 = .ok (.ifCond .ne 15, 3) := dd_L_law_5 47 (531, .ifCond .ne 15, 3) rfl
theorem d_L_law_534 : decode b_L_law 534 = .ok (.aload_n 3, 1) := dd_L_law_5 48 (534, .aload_n 3, 1) rfl
theorem d_L_law_535 : decode b_L_law 535 = .ok (.iconst 0, 1) := dd_L_law_5 49 (535, .iconst 0, 1) rfl
