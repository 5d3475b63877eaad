noncomputable def tbX9_checked_n40 : List (Nat × Instr × Nat) := [(332, .laload, 1), (333, .lcmp, 1), (334, (.ifCond .ge 8), 3), (337, (.bipush 6), 2), (339, (.goto 4), 3), (342, (.iconst 0), 1), (343, .ireturn, 1), (344, (.lload 7), 2), (346, (.lconst 0), 1), (347, .lcmp, 1), (348, (.ifCond .ge 5), 3), (351, (.iconst 1), 1), (352, .ireturn, 1), (353, (.lload 7), 2), (355, .l2i, 1), (356, (.istore 11), 2), (358, (.aload_n 0), 1), (359, (.aload_n 0), 1), (360, (.getfield 45), 3), (363, (.iload 11), 2), (365, .iaload, 1), (366, (.aload_n 0), 1), (367, (.getfield 17), 3), (370, (.iconst 5), 1), (371, (.aload_n 0), 1), (372, (.getfield 45), 3), (375, (.iload_n 1), 1), (376, .iaload, 1), (377, .imul, 1), (378, (.iload 4), 2), (380, .iadd, 1), (381, .iaload, 1), (382, (.invokevirtual 161), 3), (385, (.istore 12), 2), (387, (.iload 12), 2), (389, (.ifCond .lt 15), 3), (392, (.aload_n 0), 1), (393, (.iload 11), 2), (395, (.iload 12), 2), (397, (.invokevirtual 170), 3), (400, (.iconst 2), 1), (401, (.if_icmp .eq 5), 3), (404, (.iconst 4), 1), (405, .ireturn, 1), (406, (.aload_n 0), 1), (407, (.getfield 48), 3), (410, (.iconst 5), 1), (411, (.iload 11), 2), (413, .imul, 1), (414, (.iload 12), 2), (416, .iadd, 1), (417, .laload, 1), (418, (.lconst 0), 1), (419, .lcmp, 1), (420, (.ifCond .ge 7), 3), (423, (.iconst 1), 1), (424, (.goto 4), 3), (427, (.iconst 0), 1), (428, .ireturn, 1)]
theorem tbX9_checked_n40_ok : ∀ q ∈ tbX9_checked_n40, decode cX9_checked q.1 = .ok q.2 := by decide +kernel
theorem dX9_checked_332 : decode cX9_checked 332 = .ok (.laload, 1) := tb_at tbX9_checked_n40_ok 0 rfl
theorem dX9_checked_333 : decode cX9_checked 333 = .ok (.lcmp, 1) := tb_at tbX9_checked_n40_ok 1 rfl
theorem dX9_checked_334 : decode cX9_checked 334 = .ok (.ifCond .ge 8, 3) := tb_at tbX9_checked_n40_ok 2 rfl
theorem dX9_checked_337 : decode cX9_checked 337 = .ok (.bipush 6, 2) := tb_at tbX9_checked_n40_ok 3 rfl
theorem dX9_checked_339 : decode cX9_checked 339 = .ok (.goto 4, 3) := tb_at tbX9_checked_n40_ok 4 rfl
theorem dX9_checked_342 : decode cX9_checked 342 = .ok (.iconst 0, 1) := tb_at tbX9_checked_n40_ok 5 rfl
theorem dX9_checked_343 : decode cX9_checked 343 = .ok (.ireturn, 1) := tb_at tbX9_checked_n40_ok 6 rfl
theorem dX9_checked_344 : decode cX9_checked 344 = .ok (.lload 7, 2) := tb_at tbX9_checked_n40_ok 7 rfl
theorem dX9_checked_346 : decode cX9_checked 346 = .ok (.lconst 0, 1) := tb_at tbX9_checked_n40_ok 8 rfl
theorem dX9_checked_347 : decode cX9_checked 347 = .ok (.lcmp, 1) := tb_at tbX9_checked_n40_ok 9 rfl
theorem dX9_checked_348 : decode cX9_checked 348 = .ok (.ifCond .ge 5, 3) := tb_at tbX9_checked_n40_ok 10 rfl
theorem dX9_checked_351 : decode cX9_checked 351 = .ok (.iconst 1, 1) := tb_at tbX9_checked_n40_ok 11 rfl
theorem dX9_checked_352 : decode cX9_checked 352 = .ok (.ireturn, 1) := tb_at tbX9_checked_n40_ok 12 rfl
theorem dX9_checked_353 : decode cX9_checked 353 = .ok (.lload 7, 2) := tb_at tbX9_checked_n40_ok 13 rfl
theorem dX9_checked_355 : decode cX9_checked 355 = .ok (.l2i, 1) := tb_at tbX9_checked_n40_ok 14 rfl
theorem dX9_checked_356 : decode cX9_checked 356 = .ok (.istore 11, 2) := tb_at tbX9_checked_n40_ok 15 rfl
theorem dX9_checked_358 : decode cX9_checked 358 = .ok (.aload_n 0, 1) := tb_at tbX9_checked_n40_ok 16 rfl
theorem dX9_checked_359 : decode cX9_checked 359 = .ok (.aload_n 0, 1) := tb_at tbX9_checked_n40_ok 17 rfl
theorem dX9_checked_360 : decode cX9_checked 360 = .ok (.getfield 45, 3) := tb_at tbX9_checked_n40_ok 18 rfl
theorem dX9_checked_363 : decode cX9_checked 363 = .ok (.iload 11, 2) := tb_at tbX9_checked_n40_ok 19 rfl
theorem dX9_checked_365 : decode cX9_checked 365 = .ok (.iaload, 1) := tb_at tbX9_checked_n40_ok 20 rfl
theorem dX9_checked_366 : decode cX9_checked 366 = .ok (.aload_n 0, 1) := tb_at tbX9_checked_n40_ok 21 rfl
theorem dX9_checked_367 : decode cX9_checked 367 = .ok (.getfield 17, 3) := tb_at tbX9_checked_n40_ok 22 rfl
theorem dX9_checked_370 : decode cX9_checked 370 = .ok (.iconst 5, 1) := tb_at tbX9_checked_n40_ok 23 rfl
theorem dX9_checked_371 : decode cX9_checked 371 = .ok (.aload_n 0, 1) := tb_at tbX9_checked_n40_ok 24 rfl
theorem dX9_checked_372 : decode cX9_checked 372 = .ok (.getfield 45, 3) := tb_at tbX9_checked_n40_ok 25 rfl
theorem dX9_checked_375 : decode cX9_checked 375 = .ok (.iload_n 1, 1) := tb_at tbX9_checked_n40_ok 26 rfl
theorem dX9_checked_376 : decode cX9_checked 376 = .ok (.iaload, 1) := tb_at tbX9_checked_n40_ok 27 rfl
theorem dX9_checked_377 : decode cX9_checked 377 = .ok (.imul, 1) := tb_at tbX9_checked_n40_ok 28 rfl
theorem dX9_checked_378 : decode cX9_checked 378 = .ok (.iload 4, 2) := tb_at tbX9_checked_n40_ok 29 rfl
theorem dX9_checked_380 : decode cX9_checked 380 = .ok (.iadd, 1) := tb_at tbX9_checked_n40_ok 30 rfl
theorem dX9_checked_381 : decode cX9_checked 381 = .ok (.iaload, 1) := tb_at tbX9_checked_n40_ok 31 rfl
theorem dX9_checked_382 : decode cX9_checked 382 = .ok (.invokevirtual 161, 3) := tb_at tbX9_checked_n40_ok 32 rfl
theorem dX9_checked_385 : decode cX9_checked 385 = .ok (.istore 12, 2) := tb_at tbX9_checked_n40_ok 33 rfl
theorem dX9_checked_387 : decode cX9_checked 387 = .ok (.iload 12, 2) := tb_at tbX9_checked_n40_ok 34 rfl
theorem dX9_checked_389 : decode cX9_checked 389 = .ok (.ifCond .lt 15, 3) := tb_at tbX9_checked_n40_ok 35 rfl
theorem dX9_checked_392 : decode cX9_checked 392 = .ok (.aload_n 0, 1) := tb_at tbX9_checked_n40_ok 36 rfl
theorem dX9_checked_393 : decode cX9_checked 393 = .ok (.iload 11, 2) := tb_at tbX9_checked_n40_ok 37 rfl
theorem dX9_checked_395 : decode cX9_checked 395 = .ok (.iload 12, 2) := tb_at tbX9_checked_n40_ok 38 rfl
theorem dX9_checked_397 : decode cX9_checked 397 = .ok (.invokevirtual 170, 3) := tb_at tbX9_checked_n40_ok 39 rfl
theorem dX9_checked_400 : decode cX9_checked 400 = .ok (.iconst 2, 1) := tb_at tbX9_checked_n40_ok 40 rfl
theorem dX9_checked_401 : decode cX9_checked 401 = .ok (.if_icmp .eq 5, 3) := tb_at tbX9_checked_n40_ok 41 rfl
theorem dX9_checked_404 : decode cX9_checked 404 = .ok (.iconst 4, 1) := tb_at tbX9_checked_n40_ok 42 rfl
theorem dX9_checked_405 : decode cX9_checked 405 = .ok (.ireturn, 1) := tb_at tbX9_checked_n40_ok 43 rfl
theorem dX9_checked_406 : decode cX9_checked 406 = .ok (.aload_n 0, 1) := tb_at tbX9_checked_n40_ok 44 rfl
theorem dX9_checked_407 : decode cX9_checked 407 = .ok (.getfield 48, 3) := tb_at tbX9_checked_n40_ok 45 rfl
theorem dX9_checked_410 : decode cX9_checked 410 = .ok (.iconst 5, 1) := tb_at tbX9_checked_n40_ok 46 rfl
theorem dX9_checked_411 : decode cX9_checked 411 = .ok (.iload 11, 2) := tb_at tbX9_checked_n40_ok 47 rfl
theorem dX9_checked_413 : decode cX9_checked 413 = .ok (.imul, 1) := tb_at tbX9_checked_n40_ok 48 rfl
theorem dX9_checked_414 : decode cX9_checked 414 = .ok (.iload 12, 2) := tb_at tbX9_checked_n40_ok 49 rfl
theorem dX9_checked_416 : decode cX9_checked 416 = .ok (.iadd, 1) := tb_at tbX9_checked_n40_ok 50 rfl
theorem dX9_checked_417 : decode cX9_checked 417 = .ok (.laload, 1) := tb_at tbX9_checked_n40_ok 51 rfl
theorem dX9_checked_418 : decode cX9_checked 418 = .ok (.lconst 0, 1) := tb_at tbX9_checked_n40_ok 52 rfl
theorem dX9_checked_419 : decode cX9_checked 419 = .ok (.lcmp, 1) := tb_at tbX9_checked_n40_ok 53 rfl
theorem dX9_checked_420 : decode cX9_checked 420 = .ok (.ifCond .ge 7, 3) := tb_at tbX9_checked_n40_ok 54 rfl
theorem dX9_checked_423 : decode cX9_checked 423 = .ok (.iconst 1, 1) := tb_at tbX9_checked_n40_ok 55 rfl
theorem dX9_checked_424 : decode cX9_checked 424 = .ok (.goto 4, 3) := tb_at tbX9_checked_n40_ok 56 rfl
theorem dX9_checked_427 : decode cX9_checked 427 = .ok (.iconst 0, 1) := tb_at tbX9_checked_n40_ok 57 rfl
theorem dX9_checked_428 : decode cX9_checked 428 = .ok (.ireturn, 1) := tb_at tbX9_checked_n40_ok 58 rfl
set_option maxRecDepth 20000 in
theorem ggX9_judged_X9_checked : GoodIn wsX9_judged wsX9_checked := goodIn_r _ [8, 9, 10, 11, 12, 13, 1, 14, 15, 16, 17, 18, 19, 20, 21, 7, 22, 23, 24, 25, 26, 27, 28, 29, 30, 31, 32, 33, 34, 35, 36, 37, 38, 39, 40, 41, 42, 43, 44, 45, 46, 47, 48, 49, 50, 51, 52, 53, 54, 55, 56, 57, 58, 59, 60, 61, 62, 63, 64, 65, 66, 67, 68, 69, 70, 71, 72, 73, 74, 75, 76, 77, 78, 79, 80, 81, 82] (by decide +kernel) (by decide +kernel)
set_option maxRecDepth 20000 in
theorem gX9_judged_X9_checked : GoodIn wsX9_judged (wsV RX9 203 RX9 yX9_checked wsX9_checked) := goodIn_app (goodIn_of _ (by decide +kernel)) ggX9_judged_X9_checked
noncomputable def tbX9_judged_n40 : List (Nat × Instr × Nat) := [(0, (.aload_n 0), 1), (1, (.getfield 45), 3), (4, (.iload_n 1), 1), (5, .iaload, 1), (6, (.istore_n 2), 1), (7, (.iconst 0), 1), (8, (.istore_n 3), 1), (9, (.iload_n 3), 1), (10, (.aload_n 0), 1), (11, (.getfield 30), 3), (14, (.iload_n 2), 1), (15, .iaload, 1), (16, (.if_icmp .ge 34), 3), (19, (.aload_n 0), 1), (20, (.iload_n 1), 1), (21, (.iconst 4), 1), (22, (.iload_n 2), 1), (23, .imul, 1), (24, (.iload_n 3), 1), (25, .iadd, 1), (26, (.invokevirtual 203), 3), (29, (.istore 4), 2), (31, (.iload 4), 2), (33, (.ifCond .eq 11), 3), (36, (.aload_n 0), 1), (37, (.iload_n 3), 1), (38, (.putfield 206), 3), (41, (.iload 4), 2), (43, .ireturn, 1), (44, (.iinc 3 1), 3), (47, (.goto (-38)), 3), (50, (.iconst 0), 1), (51, .ireturn, 1)]
theorem tbX9_judged_n40_ok : ∀ q ∈ tbX9_judged_n40, decode cX9_judged q.1 = .ok q.2 := by decide +kernel
theorem dX9_judged_0 : decode cX9_judged 0 = .ok (.aload_n 0, 1) := tb_at tbX9_judged_n40_ok 0 rfl
theorem dX9_judged_1 : decode cX9_judged 1 = .ok (.getfield 45, 3) := tb_at tbX9_judged_n40_ok 1 rfl
theorem dX9_judged_4 : decode cX9_judged 4 = .ok (.iload_n 1, 1) := tb_at tbX9_judged_n40_ok 2 rfl
theorem dX9_judged_5 : decode cX9_judged 5 = .ok (.iaload, 1) := tb_at tbX9_judged_n40_ok 3 rfl
theorem dX9_judged_6 : decode cX9_judged 6 = .ok (.istore_n 2, 1) := tb_at tbX9_judged_n40_ok 4 rfl
theorem dX9_judged_7 : decode cX9_judged 7 = .ok (.iconst 0, 1) := tb_at tbX9_judged_n40_ok 5 rfl
theorem dX9_judged_8 : decode cX9_judged 8 = .ok (.istore_n 3, 1) := tb_at tbX9_judged_n40_ok 6 rfl
theorem dX9_judged_9 : decode cX9_judged 9 = .ok (.iload_n 3, 1) := tb_at tbX9_judged_n40_ok 7 rfl
theorem dX9_judged_10 : decode cX9_judged 10 = .ok (.aload_n 0, 1) := tb_at tbX9_judged_n40_ok 8 rfl
theorem dX9_judged_11 : decode cX9_judged 11 = .ok (.getfield 30, 3) := tb_at tbX9_judged_n40_ok 9 rfl
theorem dX9_judged_14 : decode cX9_judged 14 = .ok (.iload_n 2, 1) := tb_at tbX9_judged_n40_ok 10 rfl
theorem dX9_judged_15 : decode cX9_judged 15 = .ok (.iaload, 1) := tb_at tbX9_judged_n40_ok 11 rfl
theorem dX9_judged_16 : decode cX9_judged 16 = .ok (.if_icmp .ge 34, 3) := tb_at tbX9_judged_n40_ok 12 rfl
theorem dX9_judged_19 : decode cX9_judged 19 = .ok (.aload_n 0, 1) := tb_at tbX9_judged_n40_ok 13 rfl
theorem dX9_judged_20 : decode cX9_judged 20 = .ok (.iload_n 1, 1) := tb_at tbX9_judged_n40_ok 14 rfl
theorem dX9_judged_21 : decode cX9_judged 21 = .ok (.iconst 4, 1) := tb_at tbX9_judged_n40_ok 15 rfl
theorem dX9_judged_22 : decode cX9_judged 22 = .ok (.iload_n 2, 1) := tb_at tbX9_judged_n40_ok 16 rfl
theorem dX9_judged_23 : decode cX9_judged 23 = .ok (.imul, 1) := tb_at tbX9_judged_n40_ok 17 rfl
theorem dX9_judged_24 : decode cX9_judged 24 = .ok (.iload_n 3, 1) := tb_at tbX9_judged_n40_ok 18 rfl
theorem dX9_judged_25 : decode cX9_judged 25 = .ok (.iadd, 1) := tb_at tbX9_judged_n40_ok 19 rfl
theorem dX9_judged_26 : decode cX9_judged 26 = .ok (.invokevirtual 203, 3) := tb_at tbX9_judged_n40_ok 20 rfl
theorem dX9_judged_29 : decode cX9_judged 29 = .ok (.istore 4, 2) := tb_at tbX9_judged_n40_ok 21 rfl
theorem dX9_judged_31 : decode cX9_judged 31 = .ok (.iload 4, 2) := tb_at tbX9_judged_n40_ok 22 rfl
theorem dX9_judged_33 : decode cX9_judged 33 = .ok (.ifCond .eq 11, 3) := tb_at tbX9_judged_n40_ok 23 rfl
theorem dX9_judged_36 : decode cX9_judged 36 = .ok (.aload_n 0, 1) := tb_at tbX9_judged_n40_ok 24 rfl
theorem dX9_judged_37 : decode cX9_judged 37 = .ok (.iload_n 3, 1) := tb_at tbX9_judged_n40_ok 25 rfl
theorem dX9_judged_38 : decode cX9_judged 38 = .ok (.putfield 206, 3) := tb_at tbX9_judged_n40_ok 26 rfl
theorem dX9_judged_41 : decode cX9_judged 41 = .ok (.iload 4, 2) := tb_at tbX9_judged_n40_ok 27 rfl
theorem dX9_judged_43 : decode cX9_judged 43 = .ok (.ireturn, 1) := tb_at tbX9_judged_n40_ok 28 rfl
theorem dX9_judged_44 : decode cX9_judged 44 = .ok (.iinc 3 1, 3) := tb_at tbX9_judged_n40_ok 29 rfl
theorem dX9_judged_47 : decode cX9_judged 47 = .ok (.goto (-38), 3) := tb_at tbX9_judged_n40_ok 30 rfl
theorem dX9_judged_50 : decode cX9_judged 50 = .ok (.iconst 0, 1) := tb_at tbX9_judged_n40_ok 31 rfl
theorem dX9_judged_51 : decode cX9_judged 51 = .ok (.ireturn, 1) := tb_at tbX9_judged_n40_ok 32 rfl
set_option maxRecDepth 20000 in
theorem ggX9_judge_X9_isThing : GoodIn wsX9_judge wsX9_isThing := goodIn_r _ [6, 7, 42, 43, 44, 45, 46, 47, 48, 49, 50, 51, 52, 53, 54, 55, 56, 57, 58, 59, 60, 61, 62, 63, 64, 65, 66, 67, 68, 69, 70, 71, 72, 73, 74, 75, 76, 77, 78, 79, 80, 81, 82, 83, 84, 85, 86, 87, 88, 89, 90, 91, 92] (by decide +kernel) (by decide +kernel)
set_option maxRecDepth 20000 in
theorem gX9_judge_X9_isThing : GoodIn wsX9_judge (wsV RX9 154 RX9 yX9_isThing wsX9_isThing) := goodIn_app (goodIn_of _ (by decide +kernel)) ggX9_judge_X9_isThing
set_option maxRecDepth 20000 in
theorem ggX9_judge_X9_judged : GoodIn wsX9_judge wsX9_judged := goodIn_r _ [11, 12, 13, 14, 15, 16, 17, 5, 18, 19, 20, 21, 22, 23, 24, 25, 26, 27, 28, 29, 30, 31, 32, 33, 34, 35, 36, 37, 38, 39, 40, 41, 42, 43, 44, 45, 46, 47, 48, 49, 50, 51, 52, 53, 54, 55, 56, 57, 58, 59, 60, 61, 62, 63, 64, 65, 66, 67, 68, 69, 70, 71, 72, 73, 74, 75, 76, 77, 78, 79, 80, 81, 82, 83, 84, 85, 86, 87, 88, 89, 90, 91, 92] (by decide +kernel) (by decide +kernel)
set_option maxRecDepth 20000 in
theorem gX9_judge_X9_judged : GoodIn wsX9_judge (wsV RX9 209 RX9 yX9_judged wsX9_judged) := goodIn_app (goodIn_of _ (by decide +kernel)) ggX9_judge_X9_judged
noncomputable def tbX9_judge_n40 : List (Nat × Instr × Nat) := [(0, (.aload_n 0), 1), (1, (.iconst 0), 1), (2, (.putfield 145), 3), (5, (.aload_n 0), 1), (6, (.iload_n 1), 1), (7, (.invokevirtual 154), 3), (10, (.ifCond .ne 5), 3), (13, (.iconst (-1)), 1), (14, .ireturn, 1), (15, (.aload_n 0), 1), (16, (.iload_n 1), 1), (17, (.invokevirtual 209), 3), (20, (.istore_n 2), 1), (21, (.iload_n 2), 1), (22, (.ifCond .ne 7), 3), (25, (.iconst 1), 1), (26, (.goto 7), 3), (29, (.bipush (-10)), 2), (31, (.iload_n 2), 1), (32, .isub, 1), (33, .ireturn, 1)]
theorem tbX9_judge_n40_ok : ∀ q ∈ tbX9_judge_n40, decode cX9_judge q.1 = .ok q.2 := by decide +kernel
theorem dX9_judge_0 : decode cX9_judge 0 = .ok (.aload_n 0, 1) := tb_at tbX9_judge_n40_ok 0 rfl
theorem dX9_judge_1 : decode cX9_judge 1 = .ok (.iconst 0, 1) := tb_at tbX9_judge_n40_ok 1 rfl
theorem dX9_judge_2 : decode cX9_judge 2 = .ok (.putfield 145, 3) := tb_at tbX9_judge_n40_ok 2 rfl
theorem dX9_judge_5 : decode cX9_judge 5 = .ok (.aload_n 0, 1) := tb_at tbX9_judge_n40_ok 3 rfl
theorem dX9_judge_6 : decode cX9_judge 6 = .ok (.iload_n 1, 1) := tb_at tbX9_judge_n40_ok 4 rfl
theorem dX9_judge_7 : decode cX9_judge 7 = .ok (.invokevirtual 154, 3) := tb_at tbX9_judge_n40_ok 5 rfl
theorem dX9_judge_10 : decode cX9_judge 10 = .ok (.ifCond .ne 5, 3) := tb_at tbX9_judge_n40_ok 6 rfl
theorem dX9_judge_13 : decode cX9_judge 13 = .ok (.iconst (-1), 1) := tb_at tbX9_judge_n40_ok 7 rfl
theorem dX9_judge_14 : decode cX9_judge 14 = .ok (.ireturn, 1) := tb_at tbX9_judge_n40_ok 8 rfl
theorem dX9_judge_15 : decode cX9_judge 15 = .ok (.aload_n 0, 1) := tb_at tbX9_judge_n40_ok 9 rfl
theorem dX9_judge_16 : decode cX9_judge 16 = .ok (.iload_n 1, 1) := tb_at tbX9_judge_n40_ok 10 rfl
theorem dX9_judge_17 : decode cX9_judge 17 = .ok (.invokevirtual 209, 3) := tb_at tbX9_judge_n40_ok 11 rfl
theorem dX9_judge_20 : decode cX9_judge 20 = .ok (.istore_n 2, 1) := tb_at tbX9_judge_n40_ok 12 rfl
theorem dX9_judge_21 : decode cX9_judge 21 = .ok (.iload_n 2, 1) := tb_at tbX9_judge_n40_ok 13 rfl
theorem dX9_judge_22 : decode cX9_judge 22 = .ok (.ifCond .ne 7, 3) := tb_at tbX9_judge_n40_ok 14 rfl
theorem dX9_judge_25 : decode cX9_judge 25 = .ok (.iconst 1, 1) := tb_at tbX9_judge_n40_ok 15 rfl
theorem dX9_judge_26 : decode cX9_judge 26 = .ok (.goto 7, 3) := tb_at tbX9_judge_n40_ok 16 rfl
theorem dX9_judge_29 : decode cX9_judge 29 = .ok (.bipush (-10), 2) := tb_at tbX9_judge_n40_ok 17 rfl
theorem dX9_judge_31 : decode cX9_judge 31 = .ok (.iload_n 2, 1) := tb_at tbX9_judge_n40_ok 18 rfl
theorem dX9_judge_32 : decode cX9_judge 32 = .ok (.isub, 1) := tb_at tbX9_judge_n40_ok 19 rfl
theorem dX9_judge_33 : decode cX9_judge 33 = .ok (.ireturn, 1) := tb_at tbX9_judge_n40_ok 20 rfl
noncomputable def tbX9_faulty_n40 : List (Nat × Instr × Nat) := [(0, (.aload_n 0), 1), (1, (.iload_n 2), 1), (2, (.putfield 117), 3), (5, (.aload_n 0), 1), (6, (.iload_n 3), 1), (7, (.putfield 121), 3), (10, (.aload_n 0), 1), (11, (.iload 4), 2), (13, (.putfield 124), 3), (16, (.bipush (-10)), 2), (18, (.iload_n 1), 1), (19, .isub, 1), (20, .ireturn, 1)]
theorem tbX9_faulty_n40_ok : ∀ q ∈ tbX9_faulty_n40, decode cX9_faulty q.1 = .ok q.2 := by decide +kernel
theorem dX9_faulty_0 : decode cX9_faulty 0 = .ok (.aload_n 0, 1) := tb_at tbX9_faulty_n40_ok 0 rfl
theorem dX9_faulty_1 : decode cX9_faulty 1 = .ok (.iload_n 2, 1) := tb_at tbX9_faulty_n40_ok 1 rfl
theorem dX9_faulty_2 : decode cX9_faulty 2 = .ok (.putfield 117, 3) := tb_at tbX9_faulty_n40_ok 2 rfl
theorem dX9_faulty_5 : decode cX9_faulty 5 = .ok (.aload_n 0, 1) := tb_at tbX9_faulty_n40_ok 3 rfl
theorem dX9_faulty_6 : decode cX9_faulty 6 = .ok (.iload_n 3, 1) := tb_at tbX9_faulty_n40_ok 4 rfl
theorem dX9_faulty_7 : decode cX9_faulty 7 = .ok (.putfield 121, 3) := tb_at tbX9_faulty_n40_ok 5 rfl
theorem dX9_faulty_10 : decode cX9_faulty 10 = .ok (.aload_n 0, 1) := tb_at tbX9_faulty_n40_ok 6 rfl
theorem dX9_faulty_11 : decode cX9_faulty 11 = .ok (.iload 4, 2) := tb_at tbX9_faulty_n40_ok 7 rfl
theorem dX9_faulty_13 : decode cX9_faulty 13 = .ok (.putfield 124, 3) := tb_at tbX9_faulty_n40_ok 8 rfl
theorem dX9_faulty_16 : decode cX9_faulty 16 = .ok (.bipush (-10), 2) := tb_at tbX9_faulty_n40_ok 9 rfl
theorem dX9_faulty_18 : decode cX9_faulty 18 = .ok (.iload_n 1, 1) := tb_at tbX9_faulty_n40_ok 10 rfl
theorem dX9_faulty_19 : decode cX9_faulty 19 = .ok (.isub, 1) := tb_at tbX9_faulty_n40_ok 11 rfl
theorem dX9_faulty_20 : decode cX9_faulty 20 = .ok (.ireturn, 1) := tb_at tbX9_faulty_n40_ok 12 rfl
noncomputable def tbX9_recordOf_n40 : List (Nat × Instr × Nat) := [(0, (.iconst 0), 1), (1, (.istore_n 3), 1), (2, (.iload_n 3), 1), (3, (.aload_n 0), 1), (4, (.getfield 81), 3), (7, (.iload_n 1), 1), (8, .iaload, 1), (9, (.if_icmp .ge 21), 3), (12, (.aload_n 0), 1), (13, (.getfield 111), 3), (16, (.iload_n 3), 1), (17, .iaload, 1), (18, (.iload_n 2), 1), (19, (.if_icmp .ne 5), 3), (22, (.iload_n 3), 1), (23, .ireturn, 1), (24, (.iinc 3 1), 3), (27, (.goto (-25)), 3), (30, (.aload_n 0), 1), (31, (.getfield 111), 3), (34, (.aload_n 0), 1), (35, (.getfield 81), 3), (38, (.iload_n 1), 1), (39, .iaload, 1), (40, (.iload_n 2), 1), (41, .iastore, 1), (42, (.aload_n 0), 1), (43, (.getfield 81), 3), (46, (.iload_n 1), 1), (47, .dup2, 1), (48, .iaload, 1), (49, (.iconst 1), 1), (50, .iadd, 1), (51, .iastore, 1), (52, (.aload_n 0), 1), (53, (.getfield 81), 3), (56, (.iload_n 1), 1), (57, .iaload, 1), (58, (.iconst 1), 1), (59, .isub, 1), (60, .ireturn, 1)]
theorem tbX9_recordOf_n40_ok : ∀ q ∈ tbX9_recordOf_n40, decode cX9_recordOf q.1 = .ok q.2 := by decide +kernel
theorem dX9_recordOf_0 : decode cX9_recordOf 0 = .ok (.iconst 0, 1) := tb_at tbX9_recordOf_n40_ok 0 rfl
theorem dX9_recordOf_1 : decode cX9_recordOf 1 = .ok (.istore_n 3, 1) := tb_at tbX9_recordOf_n40_ok 1 rfl
theorem dX9_recordOf_2 : decode cX9_recordOf 2 = .ok (.iload_n 3, 1) := tb_at tbX9_recordOf_n40_ok 2 rfl
theorem dX9_recordOf_3 : decode cX9_recordOf 3 = .ok (.aload_n 0, 1) := tb_at tbX9_recordOf_n40_ok 3 rfl
theorem dX9_recordOf_4 : decode cX9_recordOf 4 = .ok (.getfield 81, 3) := tb_at tbX9_recordOf_n40_ok 4 rfl
theorem dX9_recordOf_7 : decode cX9_recordOf 7 = .ok (.iload_n 1, 1) := tb_at tbX9_recordOf_n40_ok 5 rfl
theorem dX9_recordOf_8 : decode cX9_recordOf 8 = .ok (.iaload, 1) := tb_at tbX9_recordOf_n40_ok 6 rfl
theorem dX9_recordOf_9 : decode cX9_recordOf 9 = .ok (.if_icmp .ge 21, 3) := tb_at tbX9_recordOf_n40_ok 7 rfl
theorem dX9_recordOf_12 : decode cX9_recordOf 12 = .ok (.aload_n 0, 1) := tb_at tbX9_recordOf_n40_ok 8 rfl
theorem dX9_recordOf_13 : decode cX9_recordOf 13 = .ok (.getfield 111, 3) := tb_at tbX9_recordOf_n40_ok 9 rfl
theorem dX9_recordOf_16 : decode cX9_recordOf 16 = .ok (.iload_n 3, 1) := tb_at tbX9_recordOf_n40_ok 10 rfl
theorem dX9_recordOf_17 : decode cX9_recordOf 17 = .ok (.iaload, 1) := tb_at tbX9_recordOf_n40_ok 11 rfl
theorem dX9_recordOf_18 : decode cX9_recordOf 18 = .ok (.iload_n 2, 1) := tb_at tbX9_recordOf_n40_ok 12 rfl
theorem dX9_recordOf_19 : decode cX9_recordOf 19 = .ok (.if_icmp .ne 5, 3) := tb_at tbX9_recordOf_n40_ok 13 rfl
theorem dX9_recordOf_22 : decode cX9_recordOf 22 = .ok (.iload_n 3, 1) := tb_at tbX9_recordOf_n40_ok 14 rfl
theorem dX9_recordOf_23 : decode cX9_recordOf 23 = .ok (.ireturn, 1) := tb_at tbX9_recordOf_n40_ok 15 rfl
theorem dX9_recordOf_24 : decode cX9_recordOf 24 = .ok (.iinc 3 1, 3) := tb_at tbX9_recordOf_n40_ok 16 rfl
theorem dX9_recordOf_27 : decode cX9_recordOf 27 = .ok (.goto (-25), 3) := tb_at tbX9_recordOf_n40_ok 17 rfl
theorem dX9_recordOf_30 : decode cX9_recordOf 30 = .ok (.aload_n 0, 1) := tb_at tbX9_recordOf_n40_ok 18 rfl
theorem dX9_recordOf_31 : decode cX9_recordOf 31 = .ok (.getfield 111, 3) := tb_at tbX9_recordOf_n40_ok 19 rfl
theorem dX9_recordOf_34 : decode cX9_recordOf 34 = .ok (.aload_n 0, 1) := tb_at tbX9_recordOf_n40_ok 20 rfl
theorem dX9_recordOf_35 : decode cX9_recordOf 35 = .ok (.getfield 81, 3) := tb_at tbX9_recordOf_n40_ok 21 rfl
theorem dX9_recordOf_38 : decode cX9_recordOf 38 = .ok (.iload_n 1, 1) := tb_at tbX9_recordOf_n40_ok 22 rfl
theorem dX9_recordOf_39 : decode cX9_recordOf 39 = .ok (.iaload, 1) := tb_at tbX9_recordOf_n40_ok 23 rfl
theorem dX9_recordOf_40 : decode cX9_recordOf 40 = .ok (.iload_n 2, 1) := tb_at tbX9_recordOf_n40_ok 24 rfl
theorem dX9_recordOf_41 : decode cX9_recordOf 41 = .ok (.iastore, 1) := tb_at tbX9_recordOf_n40_ok 25 rfl
theorem dX9_recordOf_42 : decode cX9_recordOf 42 = .ok (.aload_n 0, 1) := tb_at tbX9_recordOf_n40_ok 26 rfl
theorem dX9_recordOf_43 : decode cX9_recordOf 43 = .ok (.getfield 81, 3) := tb_at tbX9_recordOf_n40_ok 27 rfl
theorem dX9_recordOf_46 : decode cX9_recordOf 46 = .ok (.iload_n 1, 1) := tb_at tbX9_recordOf_n40_ok 28 rfl
theorem dX9_recordOf_47 : decode cX9_recordOf 47 = .ok (.dup2, 1) := tb_at tbX9_recordOf_n40_ok 29 rfl
theorem dX9_recordOf_48 : decode cX9_recordOf 48 = .ok (.iaload, 1) := tb_at tbX9_recordOf_n40_ok 30 rfl
theorem dX9_recordOf_49 : decode cX9_recordOf 49 = .ok (.iconst 1, 1) := tb_at tbX9_recordOf_n40_ok 31 rfl
theorem dX9_recordOf_50 : decode cX9_recordOf 50 = .ok (.iadd, 1) := tb_at tbX9_recordOf_n40_ok 32 rfl
theorem dX9_recordOf_51 : decode cX9_recordOf 51 = .ok (.iastore, 1) := tb_at tbX9_recordOf_n40_ok 33 rfl
theorem dX9_recordOf_52 : decode cX9_recordOf 52 = .ok (.aload_n 0, 1) := tb_at tbX9_recordOf_n40_ok 34 rfl
theorem dX9_recordOf_53 : decode cX9_recordOf 53 = .ok (.getfield 81, 3) := tb_at tbX9_recordOf_n40_ok 35 rfl
theorem dX9_recordOf_56 : decode cX9_recordOf 56 = .ok (.iload_n 1, 1) := tb_at tbX9_recordOf_n40_ok 36 rfl
theorem dX9_recordOf_57 : decode cX9_recordOf 57 = .ok (.iaload, 1) := tb_at tbX9_recordOf_n40_ok 37 rfl
theorem dX9_recordOf_58 : decode cX9_recordOf 58 = .ok (.iconst 1, 1) := tb_at tbX9_recordOf_n40_ok 38 rfl
theorem dX9_recordOf_59 : decode cX9_recordOf 59 = .ok (.isub, 1) := tb_at tbX9_recordOf_n40_ok 39 rfl
theorem dX9_recordOf_60 : decode cX9_recordOf 60 = .ok (.ireturn, 1) := tb_at tbX9_recordOf_n40_ok 40 rfl
noncomputable def tbX9_rowOf_n40 : List (Nat × Instr × Nat) := [(0, (.iconst 0), 1), (1, (.istore_n 3), 1), (2, (.iload_n 3), 1), (3, (.aload_n 0), 1), (4, (.getfield 99), 3), (7, (.iload_n 1), 1), (8, .iaload, 1), (9, (.if_icmp .ge 21), 3), (12, (.aload_n 0), 1), (13, (.getfield 114), 3), (16, (.iload_n 3), 1), (17, .iaload, 1), (18, (.iload_n 2), 1), (19, (.if_icmp .ne 5), 3), (22, (.iload_n 3), 1), (23, .ireturn, 1), (24, (.iinc 3 1), 3), (27, (.goto (-25)), 3), (30, (.aload_n 0), 1), (31, (.getfield 99), 3), (34, (.iload_n 1), 1), (35, .iaload, 1), (36, (.istore_n 3), 1), (37, (.aload_n 0), 1), (38, (.getfield 114), 3), (41, (.iload_n 3), 1), (42, (.iload_n 2), 1), (43, .iastore, 1), (44, (.aload_n 0), 1), (45, (.getfield 102), 3), (48, (.sipush 150), 3), (51, (.iload_n 1), 1), (52, .imul, 1), (53, (.iload_n 3), 1), (54, .iadd, 1), (55, (.aload_n 0), 1), (56, (.getfield 51), 3), (59, (.iload_n 2), 1), (60, .iaload, 1), (61, .iastore, 1), (62, (.aload_n 0), 1), (63, (.getfield 105), 3), (66, (.sipush 150), 3), (69, (.iload_n 1), 1), (70, .imul, 1), (71, (.iload_n 3), 1), (72, .iadd, 1), (73, (.aload_n 0), 1), (74, (.getfield 54), 3), (77, (.iload_n 2), 1), (78, .iaload, 1), (79, .iastore, 1), (80, (.iconst 0), 1), (81, (.istore 4), 2), (83, (.iload 4), 2), (85, (.bipush 12), 2), (87, (.if_icmp .ge 39), 3), (90, (.aload_n 0), 1), (91, (.getfield 108), 3), (94, (.bipush 12), 2), (96, (.sipush 150), 3), (99, (.iload_n 1), 1), (100, .imul, 1), (101, (.iload_n 3), 1), (102, .iadd, 1), (103, .imul, 1), (104, (.iload 4), 2), (106, .iadd, 1), (107, (.aload_n 0), 1), (108, (.getfield 57), 3), (111, (.bipush 12), 2), (113, (.iload_n 2), 1), (114, .imul, 1), (115, (.iload 4), 2), (117, .iadd, 1), (118, .laload, 1), (119, .lastore, 1), (120, (.iinc 4 1), 3), (123, (.goto (-40)), 3), (126, (.aload_n 0), 1), (127, (.getfield 99), 3), (130, (.iload_n 1), 1), (131, .dup2, 1), (132, .iaload, 1), (133, (.iconst 1), 1), (134, .iadd, 1), (135, .iastore, 1), (136, (.iload_n 3), 1), (137, .ireturn, 1)]
theorem tbX9_rowOf_n40_ok : ∀ q ∈ tbX9_rowOf_n40, decode cX9_rowOf q.1 = .ok q.2 := by decide +kernel
theorem dX9_rowOf_0 : decode cX9_rowOf 0 = .ok (.iconst 0, 1) := tb_at tbX9_rowOf_n40_ok 0 rfl
theorem dX9_rowOf_1 : decode cX9_rowOf 1 = .ok (.istore_n 3, 1) := tb_at tbX9_rowOf_n40_ok 1 rfl
theorem dX9_rowOf_2 : decode cX9_rowOf 2 = .ok (.iload_n 3, 1) := tb_at tbX9_rowOf_n40_ok 2 rfl
theorem dX9_rowOf_3 : decode cX9_rowOf 3 = .ok (.aload_n 0, 1) := tb_at tbX9_rowOf_n40_ok 3 rfl
theorem dX9_rowOf_4 : decode cX9_rowOf 4 = .ok (.getfield 99, 3) := tb_at tbX9_rowOf_n40_ok 4 rfl
theorem dX9_rowOf_7 : decode cX9_rowOf 7 = .ok (.iload_n 1, 1) := tb_at tbX9_rowOf_n40_ok 5 rfl
theorem dX9_rowOf_8 : decode cX9_rowOf 8 = .ok (.iaload, 1) := tb_at tbX9_rowOf_n40_ok 6 rfl
theorem dX9_rowOf_9 : decode cX9_rowOf 9 = .ok (.if_icmp .ge 21, 3) := tb_at tbX9_rowOf_n40_ok 7 rfl
theorem dX9_rowOf_12 : decode cX9_rowOf 12 = .ok (.aload_n 0, 1) := tb_at tbX9_rowOf_n40_ok 8 rfl
theorem dX9_rowOf_13 : decode cX9_rowOf 13 = .ok (.getfield 114, 3) := tb_at tbX9_rowOf_n40_ok 9 rfl
theorem dX9_rowOf_16 : decode cX9_rowOf 16 = .ok (.iload_n 3, 1) := tb_at tbX9_rowOf_n40_ok 10 rfl
theorem dX9_rowOf_17 : decode cX9_rowOf 17 = .ok (.iaload, 1) := tb_at tbX9_rowOf_n40_ok 11 rfl
theorem dX9_rowOf_18 : decode cX9_rowOf 18 = .ok (.iload_n 2, 1) := tb_at tbX9_rowOf_n40_ok 12 rfl
theorem dX9_rowOf_19 : decode cX9_rowOf 19 = .ok (.if_icmp .ne 5, 3) := tb_at tbX9_rowOf_n40_ok 13 rfl
theorem dX9_rowOf_22 : decode cX9_rowOf 22 = .ok (.iload_n 3, 1) := tb_at tbX9_rowOf_n40_ok 14 rfl
theorem dX9_rowOf_23 : decode cX9_rowOf 23 = .ok (.ireturn, 1) := tb_at tbX9_rowOf_n40_ok 15 rfl
theorem dX9_rowOf_24 : decode cX9_rowOf 24 = .ok (.iinc 3 1, 3) := tb_at tbX9_rowOf_n40_ok 16 rfl
theorem dX9_rowOf_27 : decode cX9_rowOf 27 = .ok (.goto (-25), 3) := tb_at tbX9_rowOf_n40_ok 17 rfl
theorem dX9_rowOf_30 : decode cX9_rowOf 30 = .ok (.aload_n 0, 1) := tb_at tbX9_rowOf_n40_ok 18 rfl
theorem dX9_rowOf_31 : decode cX9_rowOf 31 = .ok (.getfield 99, 3) := tb_at tbX9_rowOf_n40_ok 19 rfl
theorem dX9_rowOf_34 : decode cX9_rowOf 34 = .ok (.iload_n 1, 1) := tb_at tbX9_rowOf_n40_ok 20 rfl
theorem dX9_rowOf_35 : decode cX9_rowOf 35 = .ok (.iaload, 1) := tb_at tbX9_rowOf_n40_ok 21 rfl
theorem dX9_rowOf_36 : decode cX9_rowOf 36 = .ok (.istore_n 3, 1) := tb_at tbX9_rowOf_n40_ok 22 rfl
theorem dX9_rowOf_37 : decode cX9_rowOf 37 = .ok (.aload_n 0, 1) := tb_at tbX9_rowOf_n40_ok 23 rfl
theorem dX9_rowOf_38 : decode cX9_rowOf 38 = .ok (.getfield 114, 3) := tb_at tbX9_rowOf_n40_ok 24 rfl
theorem dX9_rowOf_41 : decode cX9_rowOf 41 = .ok (.iload_n 3, 1) := tb_at tbX9_rowOf_n40_ok 25 rfl
theorem dX9_rowOf_42 : decode cX9_rowOf 42 = .ok (.iload_n 2, 1) := tb_at tbX9_rowOf_n40_ok 26 rfl
theorem dX9_rowOf_43 : decode cX9_rowOf 43 = .ok (.iastore, 1) := tb_at tbX9_rowOf_n40_ok 27 rfl
theorem dX9_rowOf_44 : decode cX9_rowOf 44 = .ok (.aload_n 0, 1) := tb_at tbX9_rowOf_n40_ok 28 rfl
theorem dX9_rowOf_45 : decode cX9_rowOf 45 = .ok (.getfield 102, 3) := tb_at tbX9_rowOf_n40_ok 29 rfl
theorem dX9_rowOf_48 : decode cX9_rowOf 48 = .ok (.sipush 150, 3) := tb_at tbX9_rowOf_n40_ok 30 rfl
theorem dX9_rowOf_51 : decode cX9_rowOf 51 = .ok (.iload_n 1, 1) := tb_at tbX9_rowOf_n40_ok 31 rfl
theorem dX9_rowOf_52 : decode cX9_rowOf 52 = .ok (.imul, 1) := tb_at tbX9_rowOf_n40_ok 32 rfl
theorem dX9_rowOf_53 : decode cX9_rowOf 53 = .ok (.iload_n 3, 1) := tb_at tbX9_rowOf_n40_ok 33 rfl
theorem dX9_rowOf_54 : decode cX9_rowOf 54 = .ok (.iadd, 1) := tb_at tbX9_rowOf_n40_ok 34 rfl
theorem dX9_rowOf_55 : decode cX9_rowOf 55 = .ok (.aload_n 0, 1) := tb_at tbX9_rowOf_n40_ok 35 rfl
theorem dX9_rowOf_56 : decode cX9_rowOf 56 = .ok (.getfield 51, 3) := tb_at tbX9_rowOf_n40_ok 36 rfl
theorem dX9_rowOf_59 : decode cX9_rowOf 59 = .ok (.iload_n 2, 1) := tb_at tbX9_rowOf_n40_ok 37 rfl
theorem dX9_rowOf_60 : decode cX9_rowOf 60 = .ok (.iaload, 1) := tb_at tbX9_rowOf_n40_ok 38 rfl
theorem dX9_rowOf_61 : decode cX9_rowOf 61 = .ok (.iastore, 1) := tb_at tbX9_rowOf_n40_ok 39 rfl
theorem dX9_rowOf_62 : decode cX9_rowOf 62 = .ok (.aload_n 0, 1) := tb_at tbX9_rowOf_n40_ok 40 rfl
theorem dX9_rowOf_63 : decode cX9_rowOf 63 = .ok (.getfield 105, 3) := tb_at tbX9_rowOf_n40_ok 41 rfl
theorem dX9_rowOf_66 : decode cX9_rowOf 66 = .ok (.sipush 150, 3) := tb_at tbX9_rowOf_n40_ok 42 rfl
theorem dX9_rowOf_69 : decode cX9_rowOf 69 = .ok (.iload_n 1, 1) := tb_at tbX9_rowOf_n40_ok 43 rfl
theorem dX9_rowOf_70 : decode cX9_rowOf 70 = .ok (.imul, 1) := tb_at tbX9_rowOf_n40_ok 44 rfl
theorem dX9_rowOf_71 : decode cX9_rowOf 71 = .ok (.iload_n 3, 1) := tb_at tbX9_rowOf_n40_ok 45 rfl
theorem dX9_rowOf_72 : decode cX9_rowOf 72 = .ok (.iadd, 1) := tb_at tbX9_rowOf_n40_ok 46 rfl
theorem dX9_rowOf_73 : decode cX9_rowOf 73 = .ok (.aload_n 0, 1) := tb_at tbX9_rowOf_n40_ok 47 rfl
theorem dX9_rowOf_74 : decode cX9_rowOf 74 = .ok (.getfield 54, 3) := tb_at tbX9_rowOf_n40_ok 48 rfl
theorem dX9_rowOf_77 : decode cX9_rowOf 77 = .ok (.iload_n 2, 1) := tb_at tbX9_rowOf_n40_ok 49 rfl
theorem dX9_rowOf_78 : decode cX9_rowOf 78 = .ok (.iaload, 1) := tb_at tbX9_rowOf_n40_ok 50 rfl
theorem dX9_rowOf_79 : decode cX9_rowOf 79 = .ok (.iastore, 1) := tb_at tbX9_rowOf_n40_ok 51 rfl
theorem dX9_rowOf_80 : decode cX9_rowOf 80 = .ok (.iconst 0, 1) := tb_at tbX9_rowOf_n40_ok 52 rfl
theorem dX9_rowOf_81 : decode cX9_rowOf 81 = .ok (.istore 4, 2) := tb_at tbX9_rowOf_n40_ok 53 rfl
theorem dX9_rowOf_83 : decode cX9_rowOf 83 = .ok (.iload 4, 2) := tb_at tbX9_rowOf_n40_ok 54 rfl
theorem dX9_rowOf_85 : decode cX9_rowOf 85 = .ok (.bipush 12, 2) := tb_at tbX9_rowOf_n40_ok 55 rfl
theorem dX9_rowOf_87 : decode cX9_rowOf 87 = .ok (.if_icmp .ge 39, 3) := tb_at tbX9_rowOf_n40_ok 56 rfl
theorem dX9_rowOf_90 : decode cX9_rowOf 90 = .ok (.aload_n 0, 1) := tb_at tbX9_rowOf_n40_ok 57 rfl
theorem dX9_rowOf_91 : decode cX9_rowOf 91 = .ok (.getfield 108, 3) := tb_at tbX9_rowOf_n40_ok 58 rfl
theorem dX9_rowOf_94 : decode cX9_rowOf 94 = .ok (.bipush 12, 2) := tb_at tbX9_rowOf_n40_ok 59 rfl
theorem dX9_rowOf_96 : decode cX9_rowOf 96 = .ok (.sipush 150, 3) := tb_at tbX9_rowOf_n40_ok 60 rfl
theorem dX9_rowOf_99 : decode cX9_rowOf 99 = .ok (.iload_n 1, 1) := tb_at tbX9_rowOf_n40_ok 61 rfl
theorem dX9_rowOf_100 : decode cX9_rowOf 100 = .ok (.imul, 1) := tb_at tbX9_rowOf_n40_ok 62 rfl
theorem dX9_rowOf_101 : decode cX9_rowOf 101 = .ok (.iload_n 3, 1) := tb_at tbX9_rowOf_n40_ok 63 rfl
theorem dX9_rowOf_102 : decode cX9_rowOf 102 = .ok (.iadd, 1) := tb_at tbX9_rowOf_n40_ok 64 rfl
theorem dX9_rowOf_103 : decode cX9_rowOf 103 = .ok (.imul, 1) := tb_at tbX9_rowOf_n40_ok 65 rfl
theorem dX9_rowOf_104 : decode cX9_rowOf 104 = .ok (.iload 4, 2) := tb_at tbX9_rowOf_n40_ok 66 rfl
theorem dX9_rowOf_106 : decode cX9_rowOf 106 = .ok (.iadd, 1) := tb_at tbX9_rowOf_n40_ok 67 rfl
theorem dX9_rowOf_107 : decode cX9_rowOf 107 = .ok (.aload_n 0, 1) := tb_at tbX9_rowOf_n40_ok 68 rfl
theorem dX9_rowOf_108 : decode cX9_rowOf 108 = .ok (.getfield 57, 3) := tb_at tbX9_rowOf_n40_ok 69 rfl
theorem dX9_rowOf_111 : decode cX9_rowOf 111 = .ok (.bipush 12, 2) := tb_at tbX9_rowOf_n40_ok 70 rfl
theorem dX9_rowOf_113 : decode cX9_rowOf 113 = .ok (.iload_n 2, 1) := tb_at tbX9_rowOf_n40_ok 71 rfl
theorem dX9_rowOf_114 : decode cX9_rowOf 114 = .ok (.imul, 1) := tb_at tbX9_rowOf_n40_ok 72 rfl
theorem dX9_rowOf_115 : decode cX9_rowOf 115 = .ok (.iload 4, 2) := tb_at tbX9_rowOf_n40_ok 73 rfl
theorem dX9_rowOf_117 : decode cX9_rowOf 117 = .ok (.iadd, 1) := tb_at tbX9_rowOf_n40_ok 74 rfl
theorem dX9_rowOf_118 : decode cX9_rowOf 118 = .ok (.laload, 1) := tb_at tbX9_rowOf_n40_ok 75 rfl
theorem dX9_rowOf_119 : decode cX9_rowOf 119 = .ok (.lastore, 1) := tb_at tbX9_rowOf_n40_ok 76 rfl
theorem dX9_rowOf_120 : decode cX9_rowOf 120 = .ok (.iinc 4 1, 3) := tb_at tbX9_rowOf_n40_ok 77 rfl
theorem dX9_rowOf_123 : decode cX9_rowOf 123 = .ok (.goto (-40), 3) := tb_at tbX9_rowOf_n40_ok 78 rfl
theorem dX9_rowOf_126 : decode cX9_rowOf 126 = .ok (.aload_n 0, 1) := tb_at tbX9_rowOf_n40_ok 79 rfl
theorem dX9_rowOf_127 : decode cX9_rowOf 127 = .ok (.getfield 99, 3) := tb_at tbX9_rowOf_n40_ok 80 rfl
theorem dX9_rowOf_130 : decode cX9_rowOf 130 = .ok (.iload_n 1, 1) := tb_at tbX9_rowOf_n40_ok 81 rfl
theorem dX9_rowOf_131 : decode cX9_rowOf 131 = .ok (.dup2, 1) := tb_at tbX9_rowOf_n40_ok 82 rfl
theorem dX9_rowOf_132 : decode cX9_rowOf 132 = .ok (.iaload, 1) := tb_at tbX9_rowOf_n40_ok 83 rfl
theorem dX9_rowOf_133 : decode cX9_rowOf 133 = .ok (.iconst 1, 1) := tb_at tbX9_rowOf_n40_ok 84 rfl
theorem dX9_rowOf_134 : decode cX9_rowOf 134 = .ok (.iadd, 1) := tb_at tbX9_rowOf_n40_ok 85 rfl
theorem dX9_rowOf_135 : decode cX9_rowOf 135 = .ok (.iastore, 1) := tb_at tbX9_rowOf_n40_ok 86 rfl
theorem dX9_rowOf_136 : decode cX9_rowOf 136 = .ok (.iload_n 3, 1) := tb_at tbX9_rowOf_n40_ok 87 rfl
theorem dX9_rowOf_137 : decode cX9_rowOf 137 = .ok (.ireturn, 1) := tb_at tbX9_rowOf_n40_ok 88 rfl
set_option maxRecDepth 20000 in
theorem ggX9_saves_X9_recordOf : GoodIn wsX9_saves wsX9_recordOf := goodIn_r _ [19, 1, 3, 38, 39, 40, 41, 42, 43, 44, 45, 46, 47, 48, 49, 50, 51, 52, 53, 54, 55, 56, 57, 58, 59, 60, 61, 62, 63, 64, 65, 66, 67, 68, 69, 70, 71, 72, 73, 74, 75, 76, 77, 78, 79, 80, 81, 82, 83, 84, 85, 86, 87, 88] (by decide +kernel) (by decide +kernel)
set_option maxRecDepth 20000 in
theorem gX9_saves_X9_recordOf : GoodIn wsX9_saves (wsV RX9 213 RX9 yX9_recordOf wsX9_recordOf) := goodIn_app (goodIn_of _ (by decide +kernel)) ggX9_saves_X9_recordOf
set_option maxRecDepth 20000 in
theorem ggX9_saves_X9_faulty : GoodIn wsX9_saves wsX9_faulty := goodIn_r _ [23, 24, 25, 26, 38, 39, 40, 41, 42, 43, 44, 45, 46, 47, 48, 49, 50, 51, 52, 53, 54, 55, 56, 57, 58, 59, 60, 61, 62, 63, 64, 65, 66, 67, 68, 69, 70, 71, 72, 73, 74, 75, 76, 77, 78, 79, 80, 81, 82, 83, 84, 85, 86, 87, 88] (by decide +kernel) (by decide +kernel)
set_option maxRecDepth 20000 in
theorem gX9_saves_X9_faulty : GoodIn wsX9_saves (wsV RX9 216 RX9 yX9_faulty wsX9_faulty) := goodIn_app (goodIn_of _ (by decide +kernel)) ggX9_saves_X9_faulty
set_option maxRecDepth 20000 in
theorem ggX9_saves_X9_rowOf : GoodIn wsX9_saves wsX9_rowOf := goodIn_r _ [30, 2, 31, 32, 33, 34, 35, 36, 37, 38, 39, 40, 41, 42, 43, 44, 45, 46, 47, 48, 49, 50, 51, 52, 53, 54, 55, 56, 57, 58, 59, 60, 61, 62, 63, 64, 65, 66, 67, 68, 69, 70, 71, 72, 73, 74, 75, 76, 77, 78, 79, 80, 81, 82, 83, 84, 85, 86, 87, 88] (by decide +kernel) (by decide +kernel)
set_option maxRecDepth 20000 in
theorem gX9_saves_X9_rowOf : GoodIn wsX9_saves (wsV RX9 220 RX9 yX9_rowOf wsX9_rowOf) := goodIn_app (goodIn_of _ (by decide +kernel)) ggX9_saves_X9_rowOf
noncomputable def tbX9_saves_n40 : List (Nat × Instr × Nat) := [(0, (.aload_n 0), 1), (1, (.getfield 81), 3), (4, (.iconst 4), 1), (5, (.iconst 0), 1), (6, .iastore, 1), (7, (.aload_n 0), 1), (8, (.getfield 99), 3), (11, (.iconst 4), 1), (12, (.iconst 0), 1), (13, .iastore, 1), (14, (.aload_n 0), 1), (15, (.iconst 4), 1), (16, (.iload_n 1), 1), (17, (.invokevirtual 213), 3), (20, .pop, 1), (21, (.iconst 0), 1), (22, (.istore_n 3), 1), (23, (.iload_n 3), 1), (24, (.aload_n 0), 1), (25, (.getfield 81), 3), (28, (.iconst 4), 1), (29, .iaload, 1), (30, (.if_icmp .ge 239), 3), (33, (.aload_n 0), 1), (34, (.getfield 111), 3), (37, (.iload_n 3), 1), (38, .iaload, 1), (39, (.istore 4), 2), (41, (.aload_n 0), 1), (42, (.getfield 45), 3), (45, (.iload 4), 2), (47, .iaload, 1), (48, (.istore 5), 2), (50, (.aload_n 0), 1), (51, (.getfield 84), 3), (54, (.bipush 120), 2), (56, (.iload_n 3), 1), (57, .iadd, 1), (58, (.iload 5), 2), (60, .iastore, 1), (61, (.aload_n 0), 1), (62, (.getfield 87), 3), (65, (.bipush 120), 2), (67, (.iload_n 3), 1), (68, .iadd, 1), (69, (.aload_n 0), 1), (70, (.getfield 13), 3), (73, (.iload 5), 2), (75, .iaload, 1), (76, .iastore, 1), (77, (.iconst 0), 1), (78, (.istore 6), 2), (80, (.iload 6), 2), (82, (.aload_n 0), 1), (83, (.getfield 13), 3), (86, (.iload 5), 2), (88, .iaload, 1), (89, (.if_icmp .ge 174), 3), (92, (.aload_n 0), 1), (93, (.getfield 27), 3), (96, (.iconst 5), 1), (97, (.iload 5), 2), (99, .imul, 1), (100, (.iload 6), 2), (102, .iadd, 1), (103, .baload, 1), (104, (.ifCond .eq 28), 3), (107, (.iload_n 2), 1), (108, (.ifCond .eq 24), 3), (111, (.aload_n 0), 1), (112, (.bipush 10), 2), (114, (.iload_n 3), 1), (115, (.aload_n 0), 1), (116, (.getfield 17), 3), (119, (.iconst 5), 1), (120, (.iload 5), 2), (122, .imul, 1), (123, (.iload 6), 2), (125, .iadd, 1), (126, .iaload, 1), (127, (.iconst (-1)), 1), (128, (.invokevirtual 216), 3), (131, .ireturn, 1), (132, (.iconst 5), 1), (133, (.bipush 120), 2), (135, (.iload_n 3), 1), (136, .iadd, 1), (137, .imul, 1), (138, (.iload 6), 2), (140, .iadd, 1), (141, (.istore 7), 2), (143, (.aload_n 0), 1), (144, (.getfield 48), 3), (147, (.iconst 5), 1), (148, (.iload 4), 2), (150, .imul, 1), (151, (.iload 6), 2), (153, .iadd, 1), (154, .laload, 1), (155, (.lstore 8), 2), (157, (.aload_n 0), 1), (158, (.getfield 90), 3), (161, (.iload 7), 2), (163, (.aload_n 0), 1), (164, (.getfield 17), 3), (167, (.iconst 5), 1), (168, (.iload 5), 2), (170, .imul, 1), (171, (.iload 6), 2), (173, .iadd, 1), (174, .iaload, 1), (175, .iastore, 1), (176, (.aload_n 0), 1), (177, (.getfield 93), 3), (180, (.iload 7), 2), (182, (.aload_n 0), 1), (183, (.getfield 20), 3), (186, (.iconst 5), 1), (187, (.iload 5), 2), (189, .imul, 1)]
theorem tbX9_saves_n40_ok : ∀ q ∈ tbX9_saves_n40, decode cX9_saves q.1 = .ok q.2 := by decide +kernel
theorem dX9_saves_0 : decode cX9_saves 0 = .ok (.aload_n 0, 1) := tb_at tbX9_saves_n40_ok 0 rfl
theorem dX9_saves_1 : decode cX9_saves 1 = .ok (.getfield 81, 3) := tb_at tbX9_saves_n40_ok 1 rfl
theorem dX9_saves_4 : decode cX9_saves 4 = .ok (.iconst 4, 1) := tb_at tbX9_saves_n40_ok 2 rfl
theorem dX9_saves_5 : decode cX9_saves 5 = .ok (.iconst 0, 1) := tb_at tbX9_saves_n40_ok 3 rfl
theorem dX9_saves_6 : decode cX9_saves 6 = .ok (.iastore, 1) := tb_at tbX9_saves_n40_ok 4 rfl
theorem dX9_saves_7 : decode cX9_saves 7 = .ok (.aload_n 0, 1) := tb_at tbX9_saves_n40_ok 5 rfl
theorem dX9_saves_8 : decode cX9_saves 8 = .ok (.getfield 99, 3) := tb_at tbX9_saves_n40_ok 6 rfl
theorem dX9_saves_11 : decode cX9_saves 11 = .ok (.iconst 4, 1) := tb_at tbX9_saves_n40_ok 7 rfl
theorem dX9_saves_12 : decode cX9_saves 12 = .ok (.iconst 0, 1) := tb_at tbX9_saves_n40_ok 8 rfl
theorem dX9_saves_13 : decode cX9_saves 13 = .ok (.iastore, 1) := tb_at tbX9_saves_n40_ok 9 rfl
theorem dX9_saves_14 : decode cX9_saves 14 = .ok (.aload_n 0, 1) := tb_at tbX9_saves_n40_ok 10 rfl
theorem dX9_saves_15 : decode cX9_saves 15 = .ok (.iconst 4, 1) := tb_at tbX9_saves_n40_ok 11 rfl
theorem dX9_saves_16 : decode cX9_saves 16 = .ok (.iload_n 1, 1) := tb_at tbX9_saves_n40_ok 12 rfl
theorem dX9_saves_17 : decode cX9_saves 17 = .ok (.invokevirtual 213, 3) := tb_at tbX9_saves_n40_ok 13 rfl
theorem dX9_saves_20 : decode cX9_saves 20 = .ok (.pop, 1) := tb_at tbX9_saves_n40_ok 14 rfl
theorem dX9_saves_21 : decode cX9_saves 21 = .ok (.iconst 0, 1) := tb_at tbX9_saves_n40_ok 15 rfl
theorem dX9_saves_22 : decode cX9_saves 22 = .ok (.istore_n 3, 1) := tb_at tbX9_saves_n40_ok 16 rfl
theorem dX9_saves_23 : decode cX9_saves 23 = .ok (.iload_n 3, 1) := tb_at tbX9_saves_n40_ok 17 rfl
theorem dX9_saves_24 : decode cX9_saves 24 = .ok (.aload_n 0, 1) := tb_at tbX9_saves_n40_ok 18 rfl
theorem dX9_saves_25 : decode cX9_saves 25 = .ok (.getfield 81, 3) := tb_at tbX9_saves_n40_ok 19 rfl
theorem dX9_saves_28 : decode cX9_saves 28 = .ok (.iconst 4, 1) := tb_at tbX9_saves_n40_ok 20 rfl
theorem dX9_saves_29 : decode cX9_saves 29 = .ok (.iaload, 1) := tb_at tbX9_saves_n40_ok 21 rfl
theorem dX9_saves_30 : decode cX9_saves 30 = .ok (.if_icmp .ge 239, 3) := tb_at tbX9_saves_n40_ok 22 rfl
theorem dX9_saves_33 : decode cX9_saves 33 = .ok (.aload_n 0, 1) := tb_at tbX9_saves_n40_ok 23 rfl
theorem dX9_saves_34 : decode cX9_saves 34 = .ok (.getfield 111, 3) := tb_at tbX9_saves_n40_ok 24 rfl
theorem dX9_saves_37 : decode cX9_saves 37 = .ok (.iload_n 3, 1) := tb_at tbX9_saves_n40_ok 25 rfl
theorem dX9_saves_38 : decode cX9_saves 38 = .ok (.iaload, 1) := tb_at tbX9_saves_n40_ok 26 rfl
theorem dX9_saves_39 : decode cX9_saves 39 = .ok (.istore 4, 2) := tb_at tbX9_saves_n40_ok 27 rfl
theorem dX9_saves_41 : decode cX9_saves 41 = .ok (.aload_n 0, 1) := tb_at tbX9_saves_n40_ok 28 rfl
theorem dX9_saves_42 : decode cX9_saves 42 = .ok (.getfield 45, 3) := tb_at tbX9_saves_n40_ok 29 rfl
theorem dX9_saves_45 : decode cX9_saves 45 = .ok (.iload 4, 2) := tb_at tbX9_saves_n40_ok 30 rfl
theorem dX9_saves_47 : decode cX9_saves 47 = .ok (.iaload, 1) := tb_at tbX9_saves_n40_ok 31 rfl
theorem dX9_saves_48 : decode cX9_saves 48 = .ok (.istore 5, 2) := tb_at tbX9_saves_n40_ok 32 rfl
theorem dX9_saves_50 : decode cX9_saves 50 = .ok (.aload_n 0, 1) := tb_at tbX9_saves_n40_ok 33 rfl
theorem dX9_saves_51 : decode cX9_saves 51 = .ok (.getfield 84, 3) := tb_at tbX9_saves_n40_ok 34 rfl
theorem dX9_saves_54 : decode cX9_saves 54 = .ok (.bipush 120, 2) := tb_at tbX9_saves_n40_ok 35 rfl
theorem dX9_saves_56 : decode cX9_saves 56 = .ok (.iload_n 3, 1) := tb_at tbX9_saves_n40_ok 36 rfl
theorem dX9_saves_57 : decode cX9_saves 57 = .ok (.iadd, 1) := tb_at tbX9_saves_n40_ok 37 rfl
theorem dX9_saves_58 : decode cX9_saves 58 = .ok (.iload 5, 2) := tb_at tbX9_saves_n40_ok 38 rfl
theorem dX9_saves_60 : decode cX9_saves 60 = .ok (.iastore, 1) := tb_at tbX9_saves_n40_ok 39 rfl
theorem dX9_saves_61 : decode cX9_saves 61 = .ok (.aload_n 0, 1) := tb_at tbX9_saves_n40_ok 40 rfl
theorem dX9_saves_62 : decode cX9_saves 62 = .ok (.getfield 87, 3) := tb_at tbX9_saves_n40_ok 41 rfl
theorem dX9_saves_65 : decode cX9_saves 65 = .ok (.bipush 120, 2) := tb_at tbX9_saves_n40_ok 42 rfl
theorem dX9_saves_67 : decode cX9_saves 67 = .ok (.iload_n 3, 1) := tb_at tbX9_saves_n40_ok 43 rfl
theorem dX9_saves_68 : decode cX9_saves 68 = .ok (.iadd, 1) := tb_at tbX9_saves_n40_ok 44 rfl
theorem dX9_saves_69 : decode cX9_saves 69 = .ok (.aload_n 0, 1) := tb_at tbX9_saves_n40_ok 45 rfl
theorem dX9_saves_70 : decode cX9_saves 70 = .ok (.getfield 13, 3) := tb_at tbX9_saves_n40_ok 46 rfl
theorem dX9_saves_73 : decode cX9_saves 73 = .ok (.iload 5, 2) := tb_at tbX9_saves_n40_ok 47 rfl
theorem dX9_saves_75 : decode cX9_saves 75 = .ok (.iaload, 1) := tb_at tbX9_saves_n40_ok 48 rfl
theorem dX9_saves_76 : decode cX9_saves 76 = .ok (.iastore, 1) := tb_at tbX9_saves_n40_ok 49 rfl
theorem dX9_saves_77 : decode cX9_saves 77 = .ok (.iconst 0, 1) := tb_at tbX9_saves_n40_ok 50 rfl
theorem dX9_saves_78 : decode cX9_saves 78 = .ok (.istore 6, 2) := tb_at tbX9_saves_n40_ok 51 rfl
theorem dX9_saves_80 : decode cX9_saves 80 = .ok (.iload 6, 2) := tb_at tbX9_saves_n40_ok 52 rfl
theorem dX9_saves_82 : decode cX9_saves 82 = .ok (.aload_n 0, 1) := tb_at tbX9_saves_n40_ok 53 rfl
theorem dX9_saves_83 : decode cX9_saves 83 = .ok (.getfield 13, 3) := tb_at tbX9_saves_n40_ok 54 rfl
theorem dX9_saves_86 : decode cX9_saves 86 = .ok (.iload 5, 2) := tb_at tbX9_saves_n40_ok 55 rfl
theorem dX9_saves_88 : decode cX9_saves 88 = .ok (.iaload, 1) := tb_at tbX9_saves_n40_ok 56 rfl
theorem dX9_saves_89 : decode cX9_saves 89 = .ok (.if_icmp .ge 174, 3) := tb_at tbX9_saves_n40_ok 57 rfl
theorem dX9_saves_92 : decode cX9_saves 92 = .ok (.aload_n 0, 1) := tb_at tbX9_saves_n40_ok 58 rfl
theorem dX9_saves_93 : decode cX9_saves 93 = .ok (.getfield 27, 3) := tb_at tbX9_saves_n40_ok 59 rfl
theorem dX9_saves_96 : decode cX9_saves 96 = .ok (.iconst 5, 1) := tb_at tbX9_saves_n40_ok 60 rfl
theorem dX9_saves_97 : decode cX9_saves 97 = .ok (.iload 5, 2) := tb_at tbX9_saves_n40_ok 61 rfl
theorem dX9_saves_99 : decode cX9_saves 99 = .ok (.imul, 1) := tb_at tbX9_saves_n40_ok 62 rfl
theorem dX9_saves_100 : decode cX9_saves 100 = .ok (.iload 6, 2) := tb_at tbX9_saves_n40_ok 63 rfl
theorem dX9_saves_102 : decode cX9_saves 102 = .ok (.iadd, 1) := tb_at tbX9_saves_n40_ok 64 rfl
theorem dX9_saves_103 : decode cX9_saves 103 = .ok (.baload, 1) := tb_at tbX9_saves_n40_ok 65 rfl
theorem dX9_saves_104 : decode cX9_saves 104 = .ok (.ifCond .eq 28, 3) := tb_at tbX9_saves_n40_ok 66 rfl
theorem dX9_saves_107 : decode cX9_saves 107 = .ok (.iload_n 2, 1) := tb_at tbX9_saves_n40_ok 67 rfl
theorem dX9_saves_108 : decode cX9_saves 108 = .ok (.ifCond .eq 24, 3) := tb_at tbX9_saves_n40_ok 68 rfl
theorem dX9_saves_111 : decode cX9_saves 111 = .ok (.aload_n 0, 1) := tb_at tbX9_saves_n40_ok 69 rfl
theorem dX9_saves_112 : decode cX9_saves 112 = .ok (.bipush 10, 2) := tb_at tbX9_saves_n40_ok 70 rfl
theorem dX9_saves_114 : decode cX9_saves 114 = .ok (.iload_n 3, 1) := tb_at tbX9_saves_n40_ok 71 rfl
theorem dX9_saves_115 : decode cX9_saves 115 = .ok (.aload_n 0, 1) := tb_at tbX9_saves_n40_ok 72 rfl
theorem dX9_saves_116 : decode cX9_saves 116 = .ok (.getfield 17, 3) := tb_at tbX9_saves_n40_ok 73 rfl
theorem dX9_saves_119 : decode cX9_saves 119 = .ok (.iconst 5, 1) := tb_at tbX9_saves_n40_ok 74 rfl
theorem dX9_saves_120 : decode cX9_saves 120 = .ok (.iload 5, 2) := tb_at tbX9_saves_n40_ok 75 rfl
theorem dX9_saves_122 : decode cX9_saves 122 = .ok (.imul, 1) := tb_at tbX9_saves_n40_ok 76 rfl
theorem dX9_saves_123 : decode cX9_saves 123 = .ok (.iload 6, 2) := tb_at tbX9_saves_n40_ok 77 rfl
theorem dX9_saves_125 : decode cX9_saves 125 = .ok (.iadd, 1) := tb_at tbX9_saves_n40_ok 78 rfl
theorem dX9_saves_126 : decode cX9_saves 126 = .ok (.iaload, 1) := tb_at tbX9_saves_n40_ok 79 rfl
theorem dX9_saves_127 : decode cX9_saves 127 = .ok (.iconst (-1), 1) := tb_at tbX9_saves_n40_ok 80 rfl
theorem dX9_saves_128 : decode cX9_saves 128 = .ok (.invokevirtual 216, 3) := tb_at tbX9_saves_n40_ok 81 rfl
theorem dX9_saves_131 : decode cX9_saves 131 = .ok (.ireturn, 1) := tb_at tbX9_saves_n40_ok 82 rfl
theorem dX9_saves_132 : decode cX9_saves 132 = .ok (.iconst 5, 1) := tb_at tbX9_saves_n40_ok 83 rfl
theorem dX9_saves_133 : decode cX9_saves 133 = .ok (.bipush 120, 2) := tb_at tbX9_saves_n40_ok 84 rfl
theorem dX9_saves_135 : decode cX9_saves 135 = .ok (.iload_n 3, 1) := tb_at tbX9_saves_n40_ok 85 rfl
theorem dX9_saves_136 : decode cX9_saves 136 = .ok (.iadd, 1) := tb_at tbX9_saves_n40_ok 86 rfl
theorem dX9_saves_137 : decode cX9_saves 137 = .ok (.imul, 1) := tb_at tbX9_saves_n40_ok 87 rfl
theorem dX9_saves_138 : decode cX9_saves 138 = .ok (.iload 6, 2) := tb_at tbX9_saves_n40_ok 88 rfl
theorem dX9_saves_140 : decode cX9_saves 140 = .ok (.iadd, 1) := tb_at tbX9_saves_n40_ok 89 rfl
theorem dX9_saves_141 : decode cX9_saves 141 = .ok (.istore 7, 2) := tb_at tbX9_saves_n40_ok 90 rfl
theorem dX9_saves_143 : decode cX9_saves 143 = .ok (.aload_n 0, 1) := tb_at tbX9_saves_n40_ok 91 rfl
theorem dX9_saves_144 : decode cX9_saves 144 = .ok (.getfield 48, 3) := tb_at tbX9_saves_n40_ok 92 rfl
theorem dX9_saves_147 : decode cX9_saves 147 = .ok (.iconst 5, 1) := tb_at tbX9_saves_n40_ok 93 rfl
theorem dX9_saves_148 : decode cX9_saves 148 = .ok (.iload 4, 2) := tb_at tbX9_saves_n40_ok 94 rfl
theorem dX9_saves_150 : decode cX9_saves 150 = .ok (.imul, 1) := tb_at tbX9_saves_n40_ok 95 rfl
theorem dX9_saves_151 : decode cX9_saves 151 = .ok (.iload 6, 2) := tb_at tbX9_saves_n40_ok 96 rfl
theorem dX9_saves_153 : decode cX9_saves 153 = .ok (.iadd, 1) := tb_at tbX9_saves_n40_ok 97 rfl
theorem dX9_saves_154 : decode cX9_saves 154 = .ok (.laload, 1) := tb_at tbX9_saves_n40_ok 98 rfl
theorem dX9_saves_155 : decode cX9_saves 155 = .ok (.lstore 8, 2) := tb_at tbX9_saves_n40_ok 99 rfl
theorem dX9_saves_157 : decode cX9_saves 157 = .ok (.aload_n 0, 1) := tb_at tbX9_saves_n40_ok 100 rfl
theorem dX9_saves_158 : decode cX9_saves 158 = .ok (.getfield 90, 3) := tb_at tbX9_saves_n40_ok 101 rfl
theorem dX9_saves_161 : decode cX9_saves 161 = .ok (.iload 7, 2) := tb_at tbX9_saves_n40_ok 102 rfl
theorem dX9_saves_163 : decode cX9_saves 163 = .ok (.aload_n 0, 1) := tb_at tbX9_saves_n40_ok 103 rfl
theorem dX9_saves_164 : decode cX9_saves 164 = .ok (.getfield 17, 3) := tb_at tbX9_saves_n40_ok 104 rfl
theorem dX9_saves_167 : decode cX9_saves 167 = .ok (.iconst 5, 1) := tb_at tbX9_saves_n40_ok 105 rfl
theorem dX9_saves_168 : decode cX9_saves 168 = .ok (.iload 5, 2) := tb_at tbX9_saves_n40_ok 106 rfl
theorem dX9_saves_170 : decode cX9_saves 170 = .ok (.imul, 1) := tb_at tbX9_saves_n40_ok 107 rfl
theorem dX9_saves_171 : decode cX9_saves 171 = .ok (.iload 6, 2) := tb_at tbX9_saves_n40_ok 108 rfl
theorem dX9_saves_173 : decode cX9_saves 173 = .ok (.iadd, 1) := tb_at tbX9_saves_n40_ok 109 rfl
theorem dX9_saves_174 : decode cX9_saves 174 = .ok (.iaload, 1) := tb_at tbX9_saves_n40_ok 110 rfl
theorem dX9_saves_175 : decode cX9_saves 175 = .ok (.iastore, 1) := tb_at tbX9_saves_n40_ok 111 rfl
theorem dX9_saves_176 : decode cX9_saves 176 = .ok (.aload_n 0, 1) := tb_at tbX9_saves_n40_ok 112 rfl
theorem dX9_saves_177 : decode cX9_saves 177 = .ok (.getfield 93, 3) := tb_at tbX9_saves_n40_ok 113 rfl
theorem dX9_saves_180 : decode cX9_saves 180 = .ok (.iload 7, 2) := tb_at tbX9_saves_n40_ok 114 rfl
theorem dX9_saves_182 : decode cX9_saves 182 = .ok (.aload_n 0, 1) := tb_at tbX9_saves_n40_ok 115 rfl
theorem dX9_saves_183 : decode cX9_saves 183 = .ok (.getfield 20, 3) := tb_at tbX9_saves_n40_ok 116 rfl
theorem dX9_saves_186 : decode cX9_saves 186 = .ok (.iconst 5, 1) := tb_at tbX9_saves_n40_ok 117 rfl
theorem dX9_saves_187 : decode cX9_saves 187 = .ok (.iload 5, 2) := tb_at tbX9_saves_n40_ok 118 rfl
theorem dX9_saves_189 : decode cX9_saves 189 = .ok (.imul, 1) := tb_at tbX9_saves_n40_ok 119 rfl
noncomputable def tbX9_saves_n41 : List (Nat × Instr × Nat) := [(190, (.iload 6), 2), (192, .iadd, 1), (193, .iaload, 1), (194, .iastore, 1), (195, (.aload_n 0), 1), (196, (.getfield 96), 3), (199, (.iload 7), 2), (201, (.aload_n 0), 1), (202, (.getfield 93), 3), (205, (.iload 7), 2), (207, .iaload, 1), (208, (.iconst 2), 1), (209, (.if_icmp .lt 10), 3), (212, (.lload 8), 2), (214, (.lconst 0), 1), (215, .lcmp, 1), (216, (.ifCond .ge 8), 3), (219, (.lload 8), 2), (221, (.goto 35), 3), (224, (.aload_n 0), 1), (225, (.getfield 93), 3), (228, (.iload 7), 2), (230, .iaload, 1), (231, (.iconst 2), 1), (232, (.if_icmp .ne 15), 3), (235, (.aload_n 0), 1), (236, (.iconst 4), 1), (237, (.lload 8), 2), (239, .l2i, 1), (240, (.invokevirtual 213), 3), (243, .i2l, 1), (244, (.goto 12), 3), (247, (.aload_n 0), 1), (248, (.iconst 4), 1), (249, (.lload 8), 2), (251, .l2i, 1), (252, (.invokevirtual 220), 3), (255, .i2l, 1), (256, .lastore, 1), (257, (.iinc 6 1), 3), (260, (.goto (-180)), 3), (263, (.iinc 3 1), 3), (266, (.goto (-243)), 3), (269, (.aload_n 0), 1), (270, (.getfield 81), 3), (273, (.iconst 4), 1), (274, .iaload, 1), (275, .ireturn, 1)]
theorem tbX9_saves_n41_ok : ∀ q ∈ tbX9_saves_n41, decode cX9_saves q.1 = .ok q.2 := by decide +kernel
theorem dX9_saves_190 : decode cX9_saves 190 = .ok (.iload 6, 2) := tb_at tbX9_saves_n41_ok 0 rfl
theorem dX9_saves_192 : decode cX9_saves 192 = .ok (.iadd, 1) := tb_at tbX9_saves_n41_ok 1 rfl
theorem dX9_saves_193 : decode cX9_saves 193 = .ok (.iaload, 1) := tb_at tbX9_saves_n41_ok 2 rfl
theorem dX9_saves_194 : decode cX9_saves 194 = .ok (.iastore, 1) := tb_at tbX9_saves_n41_ok 3 rfl
theorem dX9_saves_195 : decode cX9_saves 195 = .ok (.aload_n 0, 1) := tb_at tbX9_saves_n41_ok 4 rfl
theorem dX9_saves_196 : decode cX9_saves 196 = .ok (.getfield 96, 3) := tb_at tbX9_saves_n41_ok 5 rfl
theorem dX9_saves_199 : decode cX9_saves 199 = .ok (.iload 7, 2) := tb_at tbX9_saves_n41_ok 6 rfl
theorem dX9_saves_201 : decode cX9_saves 201 = .ok (.aload_n 0, 1) := tb_at tbX9_saves_n41_ok 7 rfl
theorem dX9_saves_202 : decode cX9_saves 202 = .ok (.getfield 93, 3) := tb_at tbX9_saves_n41_ok 8 rfl
theorem dX9_saves_205 : decode cX9_saves 205 = .ok (.iload 7, 2) := tb_at tbX9_saves_n41_ok 9 rfl
theorem dX9_saves_207 : decode cX9_saves 207 = .ok (.iaload, 1) := tb_at tbX9_saves_n41_ok 10 rfl
theorem dX9_saves_208 : decode cX9_saves 208 = .ok (.iconst 2, 1) := tb_at tbX9_saves_n41_ok 11 rfl
theorem dX9_saves_209 : decode cX9_saves 209 = .ok (.if_icmp .lt 10, 3) := tb_at tbX9_saves_n41_ok 12 rfl
theorem dX9_saves_212 : decode cX9_saves 212 = .ok (.lload 8, 2) := tb_at tbX9_saves_n41_ok 13 rfl
theorem dX9_saves_214 : decode cX9_saves 214 = .ok (.lconst 0, 1) := tb_at tbX9_saves_n41_ok 14 rfl
theorem dX9_saves_215 : decode cX9_saves 215 = .ok (.lcmp, 1) := tb_at tbX9_saves_n41_ok 15 rfl
theorem dX9_saves_216 : decode cX9_saves 216 = .ok (.ifCond .ge 8, 3) := tb_at tbX9_saves_n41_ok 16 rfl
theorem dX9_saves_219 : decode cX9_saves 219 = .ok (.lload 8, 2) := tb_at tbX9_saves_n41_ok 17 rfl
theorem dX9_saves_221 : decode cX9_saves 221 = .ok (.goto 35, 3) := tb_at tbX9_saves_n41_ok 18 rfl
theorem dX9_saves_224 : decode cX9_saves 224 = .ok (.aload_n 0, 1) := tb_at tbX9_saves_n41_ok 19 rfl
theorem dX9_saves_225 : decode cX9_saves 225 = .ok (.getfield 93, 3) := tb_at tbX9_saves_n41_ok 20 rfl
theorem dX9_saves_228 : decode cX9_saves 228 = .ok (.iload 7, 2) := tb_at tbX9_saves_n41_ok 21 rfl
theorem dX9_saves_230 : decode cX9_saves 230 = .ok (.iaload, 1) := tb_at tbX9_saves_n41_ok 22 rfl
theorem dX9_saves_231 : decode cX9_saves 231 = .ok (.iconst 2, 1) := tb_at tbX9_saves_n41_ok 23 rfl
theorem dX9_saves_232 : decode cX9_saves 232 = .ok (.if_icmp .ne 15, 3) := tb_at tbX9_saves_n41_ok 24 rfl
theorem dX9_saves_235 : decode cX9_saves 235 = .ok (.aload_n 0, 1) := tb_at tbX9_saves_n41_ok 25 rfl
theorem dX9_saves_236 : decode cX9_saves 236 = .ok (.iconst 4, 1) := tb_at tbX9_saves_n41_ok 26 rfl
theorem dX9_saves_237 : decode cX9_saves 237 = .ok (.lload 8, 2) := tb_at tbX9_saves_n41_ok 27 rfl
theorem dX9_saves_239 : decode cX9_saves 239 = .ok (.l2i, 1) := tb_at tbX9_saves_n41_ok 28 rfl
theorem dX9_saves_240 : decode cX9_saves 240 = .ok (.invokevirtual 213, 3) := tb_at tbX9_saves_n41_ok 29 rfl
theorem dX9_saves_243 : decode cX9_saves 243 = .ok (.i2l, 1) := tb_at tbX9_saves_n41_ok 30 rfl
theorem dX9_saves_244 : decode cX9_saves 244 = .ok (.goto 12, 3) := tb_at tbX9_saves_n41_ok 31 rfl
theorem dX9_saves_247 : decode cX9_saves 247 = .ok (.aload_n 0, 1) := tb_at tbX9_saves_n41_ok 32 rfl
theorem dX9_saves_248 : decode cX9_saves 248 = .ok (.iconst 4, 1) := tb_at tbX9_saves_n41_ok 33 rfl
theorem dX9_saves_249 : decode cX9_saves 249 = .ok (.lload 8, 2) := tb_at tbX9_saves_n41_ok 34 rfl
theorem dX9_saves_251 : decode cX9_saves 251 = .ok (.l2i, 1) := tb_at tbX9_saves_n41_ok 35 rfl
theorem dX9_saves_252 : decode cX9_saves 252 = .ok (.invokevirtual 220, 3) := tb_at tbX9_saves_n41_ok 36 rfl
theorem dX9_saves_255 : decode cX9_saves 255 = .ok (.i2l, 1) := tb_at tbX9_saves_n41_ok 37 rfl
theorem dX9_saves_256 : decode cX9_saves 256 = .ok (.lastore, 1) := tb_at tbX9_saves_n41_ok 38 rfl
theorem dX9_saves_257 : decode cX9_saves 257 = .ok (.iinc 6 1, 3) := tb_at tbX9_saves_n41_ok 39 rfl
theorem dX9_saves_260 : decode cX9_saves 260 = .ok (.goto (-180), 3) := tb_at tbX9_saves_n41_ok 40 rfl
theorem dX9_saves_263 : decode cX9_saves 263 = .ok (.iinc 3 1, 3) := tb_at tbX9_saves_n41_ok 41 rfl
theorem dX9_saves_266 : decode cX9_saves 266 = .ok (.goto (-243), 3) := tb_at tbX9_saves_n41_ok 42 rfl
theorem dX9_saves_269 : decode cX9_saves 269 = .ok (.aload_n 0, 1) := tb_at tbX9_saves_n41_ok 43 rfl
theorem dX9_saves_270 : decode cX9_saves 270 = .ok (.getfield 81, 3) := tb_at tbX9_saves_n41_ok 44 rfl
theorem dX9_saves_273 : decode cX9_saves 273 = .ok (.iconst 4, 1) := tb_at tbX9_saves_n41_ok 45 rfl
theorem dX9_saves_274 : decode cX9_saves 274 = .ok (.iaload, 1) := tb_at tbX9_saves_n41_ok 46 rfl
theorem dX9_saves_275 : decode cX9_saves 275 = .ok (.ireturn, 1) := tb_at tbX9_saves_n41_ok 47 rfl
noncomputable def tbX9_isSave_n40 : List (Nat × Instr × Nat) := [(0, (.iload_n 1), 1), (1, (.ifCond .lt 12), 3), (4, (.iload_n 1), 1), (5, (.iconst 4), 1), (6, (.if_icmp .ge 7), 3), (9, (.iconst 1), 1), (10, (.goto 4), 3), (13, (.iconst 0), 1), (14, .ireturn, 1)]
theorem tbX9_isSave_n40_ok : ∀ q ∈ tbX9_isSave_n40, decode cX9_isSave q.1 = .ok q.2 := by decide +kernel
theorem dX9_isSave_0 : decode cX9_isSave 0 = .ok (.iload_n 1, 1) := tb_at tbX9_isSave_n40_ok 0 rfl
theorem dX9_isSave_1 : decode cX9_isSave 1 = .ok (.ifCond .lt 12, 3) := tb_at tbX9_isSave_n40_ok 1 rfl
theorem dX9_isSave_4 : decode cX9_isSave 4 = .ok (.iload_n 1, 1) := tb_at tbX9_isSave_n40_ok 2 rfl
theorem dX9_isSave_5 : decode cX9_isSave 5 = .ok (.iconst 4, 1) := tb_at tbX9_isSave_n40_ok 3 rfl
theorem dX9_isSave_6 : decode cX9_isSave 6 = .ok (.if_icmp .ge 7, 3) := tb_at tbX9_isSave_n40_ok 4 rfl
theorem dX9_isSave_9 : decode cX9_isSave 9 = .ok (.iconst 1, 1) := tb_at tbX9_isSave_n40_ok 5 rfl
theorem dX9_isSave_10 : decode cX9_isSave 10 = .ok (.goto 4, 3) := tb_at tbX9_isSave_n40_ok 6 rfl
theorem dX9_isSave_13 : decode cX9_isSave 13 = .ok (.iconst 0, 1) := tb_at tbX9_isSave_n40_ok 7 rfl
theorem dX9_isSave_14 : decode cX9_isSave 14 = .ok (.ireturn, 1) := tb_at tbX9_isSave_n40_ok 8 rfl
set_option maxRecDepth 20000 in
theorem ggX9_save_X9_isSave : GoodIn wsX9_save wsX9_isSave := goodIn_r _ [16] (by decide +kernel) (by decide +kernel)
set_option maxRecDepth 20000 in
theorem gX9_save_X9_isSave : GoodIn wsX9_save (wsV RX9 223 RX9 yX9_isSave wsX9_isSave) := goodIn_app (goodIn_of _ (by decide +kernel)) ggX9_save_X9_isSave
set_option maxRecDepth 20000 in
theorem ggX9_save_X9_isThing : GoodIn wsX9_save wsX9_isThing := goodIn_r _ [20, 21, 52, 53, 54, 55, 56, 57, 58, 59, 60, 61, 62, 63, 64, 65, 66, 67, 68, 69, 70, 71, 72, 73, 74, 75, 76, 77, 78, 79, 80, 81, 82, 83, 84, 85, 86, 87, 88, 89, 90, 91, 92, 93, 94, 95, 96, 97, 98, 99, 100, 101, 102] (by decide +kernel) (by decide +kernel)
set_option maxRecDepth 20000 in
theorem gX9_save_X9_isThing : GoodIn wsX9_save (wsV RX9 154 RX9 yX9_isThing wsX9_isThing) := goodIn_app (goodIn_of _ (by decide +kernel)) ggX9_save_X9_isThing
set_option maxRecDepth 20000 in
theorem ggX9_save_X9_saves : GoodIn wsX9_save wsX9_saves := goodIn_r _ [25, 2, 3, 26, 27, 4, 5, 28, 29, 30, 31, 6, 7, 32, 8, 33, 34, 35, 15, 36, 37, 38, 39, 40, 41, 42, 43, 44, 45, 46, 47, 48, 9, 49, 10, 50, 11, 51, 52, 53, 54, 55, 56, 57, 58, 59, 60, 61, 62, 63, 64, 65, 66, 67, 68, 69, 70, 71, 72, 73, 74, 75, 76, 77, 78, 79, 80, 81, 82, 83, 84, 85, 86, 87, 88, 89, 90, 91, 92, 93, 94, 95, 96, 97, 98, 99, 100, 101, 102] (by decide +kernel) (by decide +kernel)
set_option maxRecDepth 20000 in
theorem gX9_save_X9_saves : GoodIn wsX9_save (wsV RX9 226 RX9 yX9_saves wsX9_saves) := goodIn_app (goodIn_of _ (by decide +kernel)) ggX9_save_X9_saves
noncomputable def tbX9_save_n40 : List (Nat × Instr × Nat) := [(0, (.aload_n 0), 1), (1, (.iconst 0), 1), (2, (.putfield 145), 3), (5, (.aload_n 0), 1), (6, (.iload_n 1), 1), (7, (.invokevirtual 223), 3), (10, (.ifCond .eq 11), 3), (13, (.aload_n 0), 1), (14, (.iload_n 2), 1), (15, (.invokevirtual 154), 3), (18, (.ifCond .ne 5), 3), (21, (.iconst (-1)), 1), (22, .ireturn, 1), (23, (.aload_n 0), 1), (24, (.iload_n 2), 1), (25, (.iconst 1), 1), (26, (.invokevirtual 226), 3), (29, (.istore_n 3), 1), (30, (.iload_n 3), 1), (31, (.ifCond .ge 5), 3), (34, (.iload_n 3), 1), (35, .ireturn, 1), (36, (.aload_n 0), 1), (37, (.getfield 81), 3), (40, (.iload_n 1), 1), (41, (.iload_n 3), 1), (42, .iastore, 1), (43, (.aload_n 0), 1), (44, (.getfield 99), 3), (47, (.iload_n 1), 1), (48, (.aload_n 0), 1), (49, (.getfield 99), 3), (52, (.iconst 4), 1), (53, .iaload, 1), (54, .iastore, 1), (55, (.iconst 0), 1), (56, (.istore 4), 2), (58, (.iload 4), 2), (60, (.iload_n 3), 1), (61, (.if_icmp .ge 164), 3), (64, (.aload_n 0), 1), (65, (.getfield 84), 3), (68, (.bipush 30), 2), (70, (.iload_n 1), 1), (71, .imul, 1), (72, (.iload 4), 2), (74, .iadd, 1), (75, (.aload_n 0), 1), (76, (.getfield 84), 3), (79, (.bipush 120), 2), (81, (.iload 4), 2), (83, .iadd, 1), (84, .iaload, 1), (85, .iastore, 1), (86, (.aload_n 0), 1), (87, (.getfield 87), 3), (90, (.bipush 30), 2), (92, (.iload_n 1), 1), (93, .imul, 1), (94, (.iload 4), 2), (96, .iadd, 1), (97, (.aload_n 0), 1), (98, (.getfield 87), 3), (101, (.bipush 120), 2), (103, (.iload 4), 2), (105, .iadd, 1), (106, .iaload, 1), (107, .iastore, 1), (108, (.iconst 0), 1), (109, (.istore 5), 2), (111, (.iload 5), 2), (113, (.iconst 5), 1), (114, (.if_icmp .ge 105), 3), (117, (.aload_n 0), 1), (118, (.getfield 90), 3), (121, (.iconst 5), 1), (122, (.bipush 30), 2), (124, (.iload_n 1), 1), (125, .imul, 1), (126, (.iload 4), 2), (128, .iadd, 1), (129, .imul, 1), (130, (.iload 5), 2), (132, .iadd, 1), (133, (.aload_n 0), 1), (134, (.getfield 90), 3), (137, (.iconst 5), 1), (138, (.bipush 120), 2), (140, (.iload 4), 2), (142, .iadd, 1), (143, .imul, 1), (144, (.iload 5), 2), (146, .iadd, 1), (147, .iaload, 1), (148, .iastore, 1), (149, (.aload_n 0), 1), (150, (.getfield 93), 3), (153, (.iconst 5), 1), (154, (.bipush 30), 2), (156, (.iload_n 1), 1), (157, .imul, 1), (158, (.iload 4), 2), (160, .iadd, 1), (161, .imul, 1), (162, (.iload 5), 2), (164, .iadd, 1), (165, (.aload_n 0), 1), (166, (.getfield 93), 3), (169, (.iconst 5), 1), (170, (.bipush 120), 2), (172, (.iload 4), 2), (174, .iadd, 1), (175, .imul, 1), (176, (.iload 5), 2), (178, .iadd, 1), (179, .iaload, 1), (180, .iastore, 1), (181, (.aload_n 0), 1), (182, (.getfield 96), 3), (185, (.iconst 5), 1)]
theorem tbX9_save_n40_ok : ∀ q ∈ tbX9_save_n40, decode cX9_save q.1 = .ok q.2 := by decide +kernel
theorem dX9_save_0 : decode cX9_save 0 = .ok (.aload_n 0, 1) := tb_at tbX9_save_n40_ok 0 rfl
theorem dX9_save_1 : decode cX9_save 1 = .ok (.iconst 0, 1) := tb_at tbX9_save_n40_ok 1 rfl
theorem dX9_save_2 : decode cX9_save 2 = .ok (.putfield 145, 3) := tb_at tbX9_save_n40_ok 2 rfl
theorem dX9_save_5 : decode cX9_save 5 = .ok (.aload_n 0, 1) := tb_at tbX9_save_n40_ok 3 rfl
theorem dX9_save_6 : decode cX9_save 6 = .ok (.iload_n 1, 1) := tb_at tbX9_save_n40_ok 4 rfl
theorem dX9_save_7 : decode cX9_save 7 = .ok (.invokevirtual 223, 3) := tb_at tbX9_save_n40_ok 5 rfl
theorem dX9_save_10 : decode cX9_save 10 = .ok (.ifCond .eq 11, 3) := tb_at tbX9_save_n40_ok 6 rfl
theorem dX9_save_13 : decode cX9_save 13 = .ok (.aload_n 0, 1) := tb_at tbX9_save_n40_ok 7 rfl
theorem dX9_save_14 : decode cX9_save 14 = .ok (.iload_n 2, 1) := tb_at tbX9_save_n40_ok 8 rfl
theorem dX9_save_15 : decode cX9_save 15 = .ok (.invokevirtual 154, 3) := tb_at tbX9_save_n40_ok 9 rfl
theorem dX9_save_18 : decode cX9_save 18 = .ok (.ifCond .ne 5, 3) := tb_at tbX9_save_n40_ok 10 rfl
theorem dX9_save_21 : decode cX9_save 21 = .ok (.iconst (-1), 1) := tb_at tbX9_save_n40_ok 11 rfl
theorem dX9_save_22 : decode cX9_save 22 = .ok (.ireturn, 1) := tb_at tbX9_save_n40_ok 12 rfl
theorem dX9_save_23 : decode cX9_save 23 = .ok (.aload_n 0, 1) := tb_at tbX9_save_n40_ok 13 rfl
theorem dX9_save_24 : decode cX9_save 24 = .ok (.iload_n 2, 1) := tb_at tbX9_save_n40_ok 14 rfl
theorem dX9_save_25 : decode cX9_save 25 = .ok (.iconst 1, 1) := tb_at tbX9_save_n40_ok 15 rfl
theorem dX9_save_26 : decode cX9_save 26 = .ok (.invokevirtual 226, 3) := tb_at tbX9_save_n40_ok 16 rfl
theorem dX9_save_29 : decode cX9_save 29 = .ok (.istore_n 3, 1) := tb_at tbX9_save_n40_ok 17 rfl
theorem dX9_save_30 : decode cX9_save 30 = .ok (.iload_n 3, 1) := tb_at tbX9_save_n40_ok 18 rfl
theorem dX9_save_31 : decode cX9_save 31 = .ok (.ifCond .ge 5, 3) := tb_at tbX9_save_n40_ok 19 rfl
theorem dX9_save_34 : decode cX9_save 34 = .ok (.iload_n 3, 1) := tb_at tbX9_save_n40_ok 20 rfl
theorem dX9_save_35 : decode cX9_save 35 = .ok (.ireturn, 1) := tb_at tbX9_save_n40_ok 21 rfl
theorem dX9_save_36 : decode cX9_save 36 = .ok (.aload_n 0, 1) := tb_at tbX9_save_n40_ok 22 rfl
theorem dX9_save_37 : decode cX9_save 37 = .ok (.getfield 81, 3) := tb_at tbX9_save_n40_ok 23 rfl
theorem dX9_save_40 : decode cX9_save 40 = .ok (.iload_n 1, 1) := tb_at tbX9_save_n40_ok 24 rfl
theorem dX9_save_41 : decode cX9_save 41 = .ok (.iload_n 3, 1) := tb_at tbX9_save_n40_ok 25 rfl
theorem dX9_save_42 : decode cX9_save 42 = .ok (.iastore, 1) := tb_at tbX9_save_n40_ok 26 rfl
theorem dX9_save_43 : decode cX9_save 43 = .ok (.aload_n 0, 1) := tb_at tbX9_save_n40_ok 27 rfl
theorem dX9_save_44 : decode cX9_save 44 = .ok (.getfield 99, 3) := tb_at tbX9_save_n40_ok 28 rfl
theorem dX9_save_47 : decode cX9_save 47 = .ok (.iload_n 1, 1) := tb_at tbX9_save_n40_ok 29 rfl
theorem dX9_save_48 : decode cX9_save 48 = .ok (.aload_n 0, 1) := tb_at tbX9_save_n40_ok 30 rfl
theorem dX9_save_49 : decode cX9_save 49 = .ok (.getfield 99, 3) := tb_at tbX9_save_n40_ok 31 rfl
theorem dX9_save_52 : decode cX9_save 52 = .ok (.iconst 4, 1) := tb_at tbX9_save_n40_ok 32 rfl
theorem dX9_save_53 : decode cX9_save 53 = .ok (.iaload, 1) := tb_at tbX9_save_n40_ok 33 rfl
theorem dX9_save_54 : decode cX9_save 54 = .ok (.iastore, 1) := tb_at tbX9_save_n40_ok 34 rfl
theorem dX9_save_55 : decode cX9_save 55 = .ok (.iconst 0, 1) := tb_at tbX9_save_n40_ok 35 rfl
theorem dX9_save_56 : decode cX9_save 56 = .ok (.istore 4, 2) := tb_at tbX9_save_n40_ok 36 rfl
theorem dX9_save_58 : decode cX9_save 58 = .ok (.iload 4, 2) := tb_at tbX9_save_n40_ok 37 rfl
theorem dX9_save_60 : decode cX9_save 60 = .ok (.iload_n 3, 1) := tb_at tbX9_save_n40_ok 38 rfl
theorem dX9_save_61 : decode cX9_save 61 = .ok (.if_icmp .ge 164, 3) := tb_at tbX9_save_n40_ok 39 rfl
theorem dX9_save_64 : decode cX9_save 64 = .ok (.aload_n 0, 1) := tb_at tbX9_save_n40_ok 40 rfl
theorem dX9_save_65 : decode cX9_save 65 = .ok (.getfield 84, 3) := tb_at tbX9_save_n40_ok 41 rfl
theorem dX9_save_68 : decode cX9_save 68 = .ok (.bipush 30, 2) := tb_at tbX9_save_n40_ok 42 rfl
theorem dX9_save_70 : decode cX9_save 70 = .ok (.iload_n 1, 1) := tb_at tbX9_save_n40_ok 43 rfl
theorem dX9_save_71 : decode cX9_save 71 = .ok (.imul, 1) := tb_at tbX9_save_n40_ok 44 rfl
theorem dX9_save_72 : decode cX9_save 72 = .ok (.iload 4, 2) := tb_at tbX9_save_n40_ok 45 rfl
theorem dX9_save_74 : decode cX9_save 74 = .ok (.iadd, 1) := tb_at tbX9_save_n40_ok 46 rfl
theorem dX9_save_75 : decode cX9_save 75 = .ok (.aload_n 0, 1) := tb_at tbX9_save_n40_ok 47 rfl
theorem dX9_save_76 : decode cX9_save 76 = .ok (.getfield 84, 3) := tb_at tbX9_save_n40_ok 48 rfl
theorem dX9_save_79 : decode cX9_save 79 = .ok (.bipush 120, 2) := tb_at tbX9_save_n40_ok 49 rfl
theorem dX9_save_81 : decode cX9_save 81 = .ok (.iload 4, 2) := tb_at tbX9_save_n40_ok 50 rfl
theorem dX9_save_83 : decode cX9_save 83 = .ok (.iadd, 1) := tb_at tbX9_save_n40_ok 51 rfl
theorem dX9_save_84 : decode cX9_save 84 = .ok (.iaload, 1) := tb_at tbX9_save_n40_ok 52 rfl
theorem dX9_save_85 : decode cX9_save 85 = .ok (.iastore, 1) := tb_at tbX9_save_n40_ok 53 rfl
theorem dX9_save_86 : decode cX9_save 86 = .ok (.aload_n 0, 1) := tb_at tbX9_save_n40_ok 54 rfl
theorem dX9_save_87 : decode cX9_save 87 = .ok (.getfield 87, 3) := tb_at tbX9_save_n40_ok 55 rfl
theorem dX9_save_90 : decode cX9_save 90 = .ok (.bipush 30, 2) := tb_at tbX9_save_n40_ok 56 rfl
theorem dX9_save_92 : decode cX9_save 92 = .ok (.iload_n 1, 1) := tb_at tbX9_save_n40_ok 57 rfl
theorem dX9_save_93 : decode cX9_save 93 = .ok (.imul, 1) := tb_at tbX9_save_n40_ok 58 rfl
theorem dX9_save_94 : decode cX9_save 94 = .ok (.iload 4, 2) := tb_at tbX9_save_n40_ok 59 rfl
theorem dX9_save_96 : decode cX9_save 96 = .ok (.iadd, 1) := tb_at tbX9_save_n40_ok 60 rfl
theorem dX9_save_97 : decode cX9_save 97 = .ok (.aload_n 0, 1) := tb_at tbX9_save_n40_ok 61 rfl
theorem dX9_save_98 : decode cX9_save 98 = .ok (.getfield 87, 3) := tb_at tbX9_save_n40_ok 62 rfl
theorem dX9_save_101 : decode cX9_save 101 = .ok (.bipush 120, 2) := tb_at tbX9_save_n40_ok 63 rfl
theorem dX9_save_103 : decode cX9_save 103 = .ok (.iload 4, 2) := tb_at tbX9_save_n40_ok 64 rfl
theorem dX9_save_105 : decode cX9_save 105 = .ok (.iadd, 1) := tb_at tbX9_save_n40_ok 65 rfl
theorem dX9_save_106 : decode cX9_save 106 = .ok (.iaload, 1) := tb_at tbX9_save_n40_ok 66 rfl
theorem dX9_save_107 : decode cX9_save 107 = .ok (.iastore, 1) := tb_at tbX9_save_n40_ok 67 rfl
theorem dX9_save_108 : decode cX9_save 108 = .ok (.iconst 0, 1) := tb_at tbX9_save_n40_ok 68 rfl
theorem dX9_save_109 : decode cX9_save 109 = .ok (.istore 5, 2) := tb_at tbX9_save_n40_ok 69 rfl
theorem dX9_save_111 : decode cX9_save 111 = .ok (.iload 5, 2) := tb_at tbX9_save_n40_ok 70 rfl
theorem dX9_save_113 : decode cX9_save 113 = .ok (.iconst 5, 1) := tb_at tbX9_save_n40_ok 71 rfl
theorem dX9_save_114 : decode cX9_save 114 = .ok (.if_icmp .ge 105, 3) := tb_at tbX9_save_n40_ok 72 rfl
theorem dX9_save_117 : decode cX9_save 117 = .ok (.aload_n 0, 1) := tb_at tbX9_save_n40_ok 73 rfl
theorem dX9_save_118 : decode cX9_save 118 = .ok (.getfield 90, 3) := tb_at tbX9_save_n40_ok 74 rfl
theorem dX9_save_121 : decode cX9_save 121 = .ok (.iconst 5, 1) := tb_at tbX9_save_n40_ok 75 rfl
theorem dX9_save_122 : decode cX9_save 122 = .ok (.bipush 30, 2) := tb_at tbX9_save_n40_ok 76 rfl
theorem dX9_save_124 : decode cX9_save 124 = .ok (.iload_n 1, 1) := tb_at tbX9_save_n40_ok 77 rfl
theorem dX9_save_125 : decode cX9_save 125 = .ok (.imul, 1) := tb_at tbX9_save_n40_ok 78 rfl
theorem dX9_save_126 : decode cX9_save 126 = .ok (.iload 4, 2) := tb_at tbX9_save_n40_ok 79 rfl
theorem dX9_save_128 : decode cX9_save 128 = .ok (.iadd, 1) := tb_at tbX9_save_n40_ok 80 rfl
theorem dX9_save_129 : decode cX9_save 129 = .ok (.imul, 1) := tb_at tbX9_save_n40_ok 81 rfl
theorem dX9_save_130 : decode cX9_save 130 = .ok (.iload 5, 2) := tb_at tbX9_save_n40_ok 82 rfl
theorem dX9_save_132 : decode cX9_save 132 = .ok (.iadd, 1) := tb_at tbX9_save_n40_ok 83 rfl
theorem dX9_save_133 : decode cX9_save 133 = .ok (.aload_n 0, 1) := tb_at tbX9_save_n40_ok 84 rfl
theorem dX9_save_134 : decode cX9_save 134 = .ok (.getfield 90, 3) := tb_at tbX9_save_n40_ok 85 rfl
theorem dX9_save_137 : decode cX9_save 137 = .ok (.iconst 5, 1) := tb_at tbX9_save_n40_ok 86 rfl
theorem dX9_save_138 : decode cX9_save 138 = .ok (.bipush 120, 2) := tb_at tbX9_save_n40_ok 87 rfl
theorem dX9_save_140 : decode cX9_save 140 = .ok (.iload 4, 2) := tb_at tbX9_save_n40_ok 88 rfl
theorem dX9_save_142 : decode cX9_save 142 = .ok (.iadd, 1) := tb_at tbX9_save_n40_ok 89 rfl
theorem dX9_save_143 : decode cX9_save 143 = .ok (.imul, 1) := tb_at tbX9_save_n40_ok 90 rfl
theorem dX9_save_144 : decode cX9_save 144 = .ok (.iload 5, 2) := tb_at tbX9_save_n40_ok 91 rfl
theorem dX9_save_146 : decode cX9_save 146 = .ok (.iadd, 1) := tb_at tbX9_save_n40_ok 92 rfl
theorem dX9_save_147 : decode cX9_save 147 = .ok (.iaload, 1) := tb_at tbX9_save_n40_ok 93 rfl
theorem dX9_save_148 : decode cX9_save 148 = .ok (.iastore, 1) := tb_at tbX9_save_n40_ok 94 rfl
theorem dX9_save_149 : decode cX9_save 149 = .ok (.aload_n 0, 1) := tb_at tbX9_save_n40_ok 95 rfl
theorem dX9_save_150 : decode cX9_save 150 = .ok (.getfield 93, 3) := tb_at tbX9_save_n40_ok 96 rfl
theorem dX9_save_153 : decode cX9_save 153 = .ok (.iconst 5, 1) := tb_at tbX9_save_n40_ok 97 rfl
theorem dX9_save_154 : decode cX9_save 154 = .ok (.bipush 30, 2) := tb_at tbX9_save_n40_ok 98 rfl
theorem dX9_save_156 : decode cX9_save 156 = .ok (.iload_n 1, 1) := tb_at tbX9_save_n40_ok 99 rfl
theorem dX9_save_157 : decode cX9_save 157 = .ok (.imul, 1) := tb_at tbX9_save_n40_ok 100 rfl
theorem dX9_save_158 : decode cX9_save 158 = .ok (.iload 4, 2) := tb_at tbX9_save_n40_ok 101 rfl
theorem dX9_save_160 : decode cX9_save 160 = .ok (.iadd, 1) := tb_at tbX9_save_n40_ok 102 rfl
theorem dX9_save_161 : decode cX9_save 161 = .ok (.imul, 1) := tb_at tbX9_save_n40_ok 103 rfl
theorem dX9_save_162 : decode cX9_save 162 = .ok (.iload 5, 2) := tb_at tbX9_save_n40_ok 104 rfl
theorem dX9_save_164 : decode cX9_save 164 = .ok (.iadd, 1) := tb_at tbX9_save_n40_ok 105 rfl
theorem dX9_save_165 : decode cX9_save 165 = .ok (.aload_n 0, 1) := tb_at tbX9_save_n40_ok 106 rfl
theorem dX9_save_166 : decode cX9_save 166 = .ok (.getfield 93, 3) := tb_at tbX9_save_n40_ok 107 rfl
theorem dX9_save_169 : decode cX9_save 169 = .ok (.iconst 5, 1) := tb_at tbX9_save_n40_ok 108 rfl
theorem dX9_save_170 : decode cX9_save 170 = .ok (.bipush 120, 2) := tb_at tbX9_save_n40_ok 109 rfl
theorem dX9_save_172 : decode cX9_save 172 = .ok (.iload 4, 2) := tb_at tbX9_save_n40_ok 110 rfl
theorem dX9_save_174 : decode cX9_save 174 = .ok (.iadd, 1) := tb_at tbX9_save_n40_ok 111 rfl
theorem dX9_save_175 : decode cX9_save 175 = .ok (.imul, 1) := tb_at tbX9_save_n40_ok 112 rfl
theorem dX9_save_176 : decode cX9_save 176 = .ok (.iload 5, 2) := tb_at tbX9_save_n40_ok 113 rfl
theorem dX9_save_178 : decode cX9_save 178 = .ok (.iadd, 1) := tb_at tbX9_save_n40_ok 114 rfl
theorem dX9_save_179 : decode cX9_save 179 = .ok (.iaload, 1) := tb_at tbX9_save_n40_ok 115 rfl
theorem dX9_save_180 : decode cX9_save 180 = .ok (.iastore, 1) := tb_at tbX9_save_n40_ok 116 rfl
theorem dX9_save_181 : decode cX9_save 181 = .ok (.aload_n 0, 1) := tb_at tbX9_save_n40_ok 117 rfl
theorem dX9_save_182 : decode cX9_save 182 = .ok (.getfield 96, 3) := tb_at tbX9_save_n40_ok 118 rfl
theorem dX9_save_185 : decode cX9_save 185 = .ok (.iconst 5, 1) := tb_at tbX9_save_n40_ok 119 rfl
noncomputable def tbX9_save_n41 : List (Nat × Instr × Nat) := [(186, (.bipush 30), 2), (188, (.iload_n 1), 1), (189, .imul, 1), (190, (.iload 4), 2), (192, .iadd, 1), (193, .imul, 1), (194, (.iload 5), 2), (196, .iadd, 1), (197, (.aload_n 0), 1), (198, (.getfield 96), 3), (201, (.iconst 5), 1), (202, (.bipush 120), 2), (204, (.iload 4), 2), (206, .iadd, 1), (207, .imul, 1), (208, (.iload 5), 2), (210, .iadd, 1), (211, .laload, 1), (212, .lastore, 1), (213, (.iinc 5 1), 3), (216, (.goto (-105)), 3), (219, (.iinc 4 1), 3), (222, (.goto (-164)), 3), (225, (.iconst 0), 1), (226, (.istore 4), 2), (228, (.iload 4), 2), (230, (.aload_n 0), 1), (231, (.getfield 99), 3), (234, (.iconst 4), 1), (235, .iaload, 1), (236, (.if_icmp .ge 109), 3), (239, (.aload_n 0), 1), (240, (.getfield 102), 3), (243, (.sipush 150), 3), (246, (.iload_n 1), 1), (247, .imul, 1), (248, (.iload 4), 2), (250, .iadd, 1), (251, (.aload_n 0), 1), (252, (.getfield 102), 3), (255, (.sipush 600), 3), (258, (.iload 4), 2), (260, .iadd, 1), (261, .iaload, 1), (262, .iastore, 1), (263, (.aload_n 0), 1), (264, (.getfield 105), 3), (267, (.sipush 150), 3), (270, (.iload_n 1), 1), (271, .imul, 1), (272, (.iload 4), 2), (274, .iadd, 1), (275, (.aload_n 0), 1), (276, (.getfield 105), 3), (279, (.sipush 600), 3), (282, (.iload 4), 2), (284, .iadd, 1), (285, .iaload, 1), (286, .iastore, 1), (287, (.iconst 0), 1), (288, (.istore 5), 2), (290, (.iload 5), 2), (292, (.bipush 12), 2), (294, (.if_icmp .ge 45), 3), (297, (.aload_n 0), 1), (298, (.getfield 108), 3), (301, (.bipush 12), 2), (303, (.sipush 150), 3), (306, (.iload_n 1), 1), (307, .imul, 1), (308, (.iload 4), 2), (310, .iadd, 1), (311, .imul, 1), (312, (.iload 5), 2), (314, .iadd, 1), (315, (.aload_n 0), 1), (316, (.getfield 108), 3), (319, (.bipush 12), 2), (321, (.sipush 600), 3), (324, (.iload 4), 2), (326, .iadd, 1), (327, .imul, 1), (328, (.iload 5), 2), (330, .iadd, 1), (331, .laload, 1), (332, .lastore, 1), (333, (.iinc 5 1), 3), (336, (.goto (-46)), 3), (339, (.iinc 4 1), 3), (342, (.goto (-114)), 3), (345, (.iload_n 3), 1), (346, .ireturn, 1)]
theorem tbX9_save_n41_ok : ∀ q ∈ tbX9_save_n41, decode cX9_save q.1 = .ok q.2 := by decide +kernel
theorem dX9_save_186 : decode cX9_save 186 = .ok (.bipush 30, 2) := tb_at tbX9_save_n41_ok 0 rfl
theorem dX9_save_188 : decode cX9_save 188 = .ok (.iload_n 1, 1) := tb_at tbX9_save_n41_ok 1 rfl
theorem dX9_save_189 : decode cX9_save 189 = .ok (.imul, 1) := tb_at tbX9_save_n41_ok 2 rfl
theorem dX9_save_190 : decode cX9_save 190 = .ok (.iload 4, 2) := tb_at tbX9_save_n41_ok 3 rfl
theorem dX9_save_192 : decode cX9_save 192 = .ok (.iadd, 1) := tb_at tbX9_save_n41_ok 4 rfl
theorem dX9_save_193 : decode cX9_save 193 = .ok (.imul, 1) := tb_at tbX9_save_n41_ok 5 rfl
theorem dX9_save_194 : decode cX9_save 194 = .ok (.iload 5, 2) := tb_at tbX9_save_n41_ok 6 rfl
theorem dX9_save_196 : decode cX9_save 196 = .ok (.iadd, 1) := tb_at tbX9_save_n41_ok 7 rfl
theorem dX9_save_197 : decode cX9_save 197 = .ok (.aload_n 0, 1) := tb_at tbX9_save_n41_ok 8 rfl
theorem dX9_save_198 : decode cX9_save 198 = .ok (.getfield 96, 3) := tb_at tbX9_save_n41_ok 9 rfl
theorem dX9_save_201 : decode cX9_save 201 = .ok (.iconst 5, 1) := tb_at tbX9_save_n41_ok 10 rfl
theorem dX9_save_202 : decode cX9_save 202 = .ok (.bipush 120, 2) := tb_at tbX9_save_n41_ok 11 rfl
theorem dX9_save_204 : decode cX9_save 204 = .ok (.iload 4, 2) := tb_at tbX9_save_n41_ok 12 rfl
theorem dX9_save_206 : decode cX9_save 206 = .ok (.iadd, 1) := tb_at tbX9_save_n41_ok 13 rfl
theorem dX9_save_207 : decode cX9_save 207 = .ok (.imul, 1) := tb_at tbX9_save_n41_ok 14 rfl
theorem dX9_save_208 : decode cX9_save 208 = .ok (.iload 5, 2) := tb_at tbX9_save_n41_ok 15 rfl
theorem dX9_save_210 : decode cX9_save 210 = .ok (.iadd, 1) := tb_at tbX9_save_n41_ok 16 rfl
theorem dX9_save_211 : decode cX9_save 211 = .ok (.laload, 1) := tb_at tbX9_save_n41_ok 17 rfl
theorem dX9_save_212 : decode cX9_save 212 = .ok (.lastore, 1) := tb_at tbX9_save_n41_ok 18 rfl
theorem dX9_save_213 : decode cX9_save 213 = .ok (.iinc 5 1, 3) := tb_at tbX9_save_n41_ok 19 rfl
theorem dX9_save_216 : decode cX9_save 216 = .ok (.goto (-105), 3) := tb_at tbX9_save_n41_ok 20 rfl
theorem dX9_save_219 : decode cX9_save 219 = .ok (.iinc 4 1, 3) := tb_at tbX9_save_n41_ok 21 rfl
theorem dX9_save_222 : decode cX9_save 222 = .ok (.goto (-164), 3) := tb_at tbX9_save_n41_ok 22 rfl
theorem dX9_save_225 : decode cX9_save 225 = .ok (.iconst 0, 1) := tb_at tbX9_save_n41_ok 23 rfl
theorem dX9_save_226 : decode cX9_save 226 = .ok (.istore 4, 2) := tb_at tbX9_save_n41_ok 24 rfl
theorem dX9_save_228 : decode cX9_save 228 = .ok (.iload 4, 2) := tb_at tbX9_save_n41_ok 25 rfl
theorem dX9_save_230 : decode cX9_save 230 = .ok (.aload_n 0, 1) := tb_at tbX9_save_n41_ok 26 rfl
theorem dX9_save_231 : decode cX9_save 231 = .ok (.getfield 99, 3) := tb_at tbX9_save_n41_ok 27 rfl
theorem dX9_save_234 : decode cX9_save 234 = .ok (.iconst 4, 1) := tb_at tbX9_save_n41_ok 28 rfl
theorem dX9_save_235 : decode cX9_save 235 = .ok (.iaload, 1) := tb_at tbX9_save_n41_ok 29 rfl
theorem dX9_save_236 : decode cX9_save 236 = .ok (.if_icmp .ge 109, 3) := tb_at tbX9_save_n41_ok 30 rfl
theorem dX9_save_239 : decode cX9_save 239 = .ok (.aload_n 0, 1) := tb_at tbX9_save_n41_ok 31 rfl
theorem dX9_save_240 : decode cX9_save 240 = .ok (.getfield 102, 3) := tb_at tbX9_save_n41_ok 32 rfl
theorem dX9_save_243 : decode cX9_save 243 = .ok (.sipush 150, 3) := tb_at tbX9_save_n41_ok 33 rfl
theorem dX9_save_246 : decode cX9_save 246 = .ok (.iload_n 1, 1) := tb_at tbX9_save_n41_ok 34 rfl
theorem dX9_save_247 : decode cX9_save 247 = .ok (.imul, 1) := tb_at tbX9_save_n41_ok 35 rfl
theorem dX9_save_248 : decode cX9_save 248 = .ok (.iload 4, 2) := tb_at tbX9_save_n41_ok 36 rfl
theorem dX9_save_250 : decode cX9_save 250 = .ok (.iadd, 1) := tb_at tbX9_save_n41_ok 37 rfl
theorem dX9_save_251 : decode cX9_save 251 = .ok (.aload_n 0, 1) := tb_at tbX9_save_n41_ok 38 rfl
theorem dX9_save_252 : decode cX9_save 252 = .ok (.getfield 102, 3) := tb_at tbX9_save_n41_ok 39 rfl
theorem dX9_save_255 : decode cX9_save 255 = .ok (.sipush 600, 3) := tb_at tbX9_save_n41_ok 40 rfl
theorem dX9_save_258 : decode cX9_save 258 = .ok (.iload 4, 2) := tb_at tbX9_save_n41_ok 41 rfl
theorem dX9_save_260 : decode cX9_save 260 = .ok (.iadd, 1) := tb_at tbX9_save_n41_ok 42 rfl
theorem dX9_save_261 : decode cX9_save 261 = .ok (.iaload, 1) := tb_at tbX9_save_n41_ok 43 rfl
theorem dX9_save_262 : decode cX9_save 262 = .ok (.iastore, 1) := tb_at tbX9_save_n41_ok 44 rfl
theorem dX9_save_263 : decode cX9_save 263 = .ok (.aload_n 0, 1) := tb_at tbX9_save_n41_ok 45 rfl
theorem dX9_save_264 : decode cX9_save 264 = .ok (.getfield 105, 3) := tb_at tbX9_save_n41_ok 46 rfl
theorem dX9_save_267 : decode cX9_save 267 = .ok (.sipush 150, 3) := tb_at tbX9_save_n41_ok 47 rfl
theorem dX9_save_270 : decode cX9_save 270 = .ok (.iload_n 1, 1) := tb_at tbX9_save_n41_ok 48 rfl
theorem dX9_save_271 : decode cX9_save 271 = .ok (.imul, 1) := tb_at tbX9_save_n41_ok 49 rfl
theorem dX9_save_272 : decode cX9_save 272 = .ok (.iload 4, 2) := tb_at tbX9_save_n41_ok 50 rfl
theorem dX9_save_274 : decode cX9_save 274 = .ok (.iadd, 1) := tb_at tbX9_save_n41_ok 51 rfl
theorem dX9_save_275 : decode cX9_save 275 = .ok (.aload_n 0, 1) := tb_at tbX9_save_n41_ok 52 rfl
theorem dX9_save_276 : decode cX9_save 276 = .ok (.getfield 105, 3) := tb_at tbX9_save_n41_ok 53 rfl
theorem dX9_save_279 : decode cX9_save 279 = .ok (.sipush 600, 3) := tb_at tbX9_save_n41_ok 54 rfl
theorem dX9_save_282 : decode cX9_save 282 = .ok (.iload 4, 2) := tb_at tbX9_save_n41_ok 55 rfl
theorem dX9_save_284 : decode cX9_save 284 = .ok (.iadd, 1) := tb_at tbX9_save_n41_ok 56 rfl
theorem dX9_save_285 : decode cX9_save 285 = .ok (.iaload, 1) := tb_at tbX9_save_n41_ok 57 rfl
theorem dX9_save_286 : decode cX9_save 286 = .ok (.iastore, 1) := tb_at tbX9_save_n41_ok 58 rfl
theorem dX9_save_287 : decode cX9_save 287 = .ok (.iconst 0, 1) := tb_at tbX9_save_n41_ok 59 rfl
theorem dX9_save_288 : decode cX9_save 288 = .ok (.istore 5, 2) := tb_at tbX9_save_n41_ok 60 rfl
theorem dX9_save_290 : decode cX9_save 290 = .ok (.iload 5, 2) := tb_at tbX9_save_n41_ok 61 rfl
theorem dX9_save_292 : decode cX9_save 292 = .ok (.bipush 12, 2) := tb_at tbX9_save_n41_ok 62 rfl
theorem dX9_save_294 : decode cX9_save 294 = .ok (.if_icmp .ge 45, 3) := tb_at tbX9_save_n41_ok 63 rfl
theorem dX9_save_297 : decode cX9_save 297 = .ok (.aload_n 0, 1) := tb_at tbX9_save_n41_ok 64 rfl
theorem dX9_save_298 : decode cX9_save 298 = .ok (.getfield 108, 3) := tb_at tbX9_save_n41_ok 65 rfl
theorem dX9_save_301 : decode cX9_save 301 = .ok (.bipush 12, 2) := tb_at tbX9_save_n41_ok 66 rfl
theorem dX9_save_303 : decode cX9_save 303 = .ok (.sipush 150, 3) := tb_at tbX9_save_n41_ok 67 rfl
theorem dX9_save_306 : decode cX9_save 306 = .ok (.iload_n 1, 1) := tb_at tbX9_save_n41_ok 68 rfl
theorem dX9_save_307 : decode cX9_save 307 = .ok (.imul, 1) := tb_at tbX9_save_n41_ok 69 rfl
theorem dX9_save_308 : decode cX9_save 308 = .ok (.iload 4, 2) := tb_at tbX9_save_n41_ok 70 rfl
theorem dX9_save_310 : decode cX9_save 310 = .ok (.iadd, 1) := tb_at tbX9_save_n41_ok 71 rfl
theorem dX9_save_311 : decode cX9_save 311 = .ok (.imul, 1) := tb_at tbX9_save_n41_ok 72 rfl
theorem dX9_save_312 : decode cX9_save 312 = .ok (.iload 5, 2) := tb_at tbX9_save_n41_ok 73 rfl
theorem dX9_save_314 : decode cX9_save 314 = .ok (.iadd, 1) := tb_at tbX9_save_n41_ok 74 rfl
theorem dX9_save_315 : decode cX9_save 315 = .ok (.aload_n 0, 1) := tb_at tbX9_save_n41_ok 75 rfl
theorem dX9_save_316 : decode cX9_save 316 = .ok (.getfield 108, 3) := tb_at tbX9_save_n41_ok 76 rfl
theorem dX9_save_319 : decode cX9_save 319 = .ok (.bipush 12, 2) := tb_at tbX9_save_n41_ok 77 rfl
theorem dX9_save_321 : decode cX9_save 321 = .ok (.sipush 600, 3) := tb_at tbX9_save_n41_ok 78 rfl
theorem dX9_save_324 : decode cX9_save 324 = .ok (.iload 4, 2) := tb_at tbX9_save_n41_ok 79 rfl
theorem dX9_save_326 : decode cX9_save 326 = .ok (.iadd, 1) := tb_at tbX9_save_n41_ok 80 rfl
theorem dX9_save_327 : decode cX9_save 327 = .ok (.imul, 1) := tb_at tbX9_save_n41_ok 81 rfl
theorem dX9_save_328 : decode cX9_save 328 = .ok (.iload 5, 2) := tb_at tbX9_save_n41_ok 82 rfl
theorem dX9_save_330 : decode cX9_save 330 = .ok (.iadd, 1) := tb_at tbX9_save_n41_ok 83 rfl
theorem dX9_save_331 : decode cX9_save 331 = .ok (.laload, 1) := tb_at tbX9_save_n41_ok 84 rfl
theorem dX9_save_332 : decode cX9_save 332 = .ok (.lastore, 1) := tb_at tbX9_save_n41_ok 85 rfl
theorem dX9_save_333 : decode cX9_save 333 = .ok (.iinc 5 1, 3) := tb_at tbX9_save_n41_ok 86 rfl
theorem dX9_save_336 : decode cX9_save 336 = .ok (.goto (-46), 3) := tb_at tbX9_save_n41_ok 87 rfl
theorem dX9_save_339 : decode cX9_save 339 = .ok (.iinc 4 1, 3) := tb_at tbX9_save_n41_ok 88 rfl
theorem dX9_save_342 : decode cX9_save 342 = .ok (.goto (-114), 3) := tb_at tbX9_save_n41_ok 89 rfl
theorem dX9_save_345 : decode cX9_save 345 = .ok (.iload_n 3, 1) := tb_at tbX9_save_n41_ok 90 rfl
theorem dX9_save_346 : decode cX9_save 346 = .ok (.ireturn, 1) := tb_at tbX9_save_n41_ok 91 rfl
set_option maxRecDepth 20000 in
theorem ggX9_saved_X9_isSave : GoodIn wsX9_saved wsX9_isSave := goodIn_r _ [8] (by decide +kernel) (by decide +kernel)
set_option maxRecDepth 20000 in
theorem gX9_saved_X9_isSave : GoodIn wsX9_saved (wsV RX9 223 RX9 yX9_isSave wsX9_isSave) := goodIn_app (goodIn_of _ (by decide +kernel)) ggX9_saved_X9_isSave
noncomputable def tbX9_saved_n40 : List (Nat × Instr × Nat) := [(0, (.aload_n 0), 1), (1, (.iconst 0), 1), (2, (.putfield 145), 3), (5, (.aload_n 0), 1), (6, (.iload_n 1), 1), (7, (.invokevirtual 223), 3), (10, (.ifCond .ne 5), 3), (13, (.iconst (-1)), 1), (14, .ireturn, 1), (15, (.iload_n 2), 1), (16, (.ifCond .ne 12), 3), (19, (.aload_n 0), 1), (20, (.getfield 81), 3), (23, (.iload_n 1), 1), (24, .iaload, 1), (25, (.goto 32), 3), (28, (.iload_n 2), 1), (29, (.iconst 1), 1), (30, (.if_icmp .ne 25), 3), (33, (.aload_n 0), 1), (34, (.getfield 81), 3), (37, (.iload_n 1), 1), (38, .iaload, 1), (39, (.ifCond .ne 7), 3), (42, (.iconst 0), 1), (43, (.goto 14), 3), (46, (.aload_n 0), 1), (47, (.getfield 99), 3), (50, (.iload_n 1), 1), (51, .iaload, 1), (52, (.goto 5), 3), (55, (.bipush (-2)), 2), (57, .ireturn, 1)]
theorem tbX9_saved_n40_ok : ∀ q ∈ tbX9_saved_n40, decode cX9_saved q.1 = .ok q.2 := by decide +kernel
theorem dX9_saved_0 : decode cX9_saved 0 = .ok (.aload_n 0, 1) := tb_at tbX9_saved_n40_ok 0 rfl
theorem dX9_saved_1 : decode cX9_saved 1 = .ok (.iconst 0, 1) := tb_at tbX9_saved_n40_ok 1 rfl
theorem dX9_saved_2 : decode cX9_saved 2 = .ok (.putfield 145, 3) := tb_at tbX9_saved_n40_ok 2 rfl
theorem dX9_saved_5 : decode cX9_saved 5 = .ok (.aload_n 0, 1) := tb_at tbX9_saved_n40_ok 3 rfl
theorem dX9_saved_6 : decode cX9_saved 6 = .ok (.iload_n 1, 1) := tb_at tbX9_saved_n40_ok 4 rfl
theorem dX9_saved_7 : decode cX9_saved 7 = .ok (.invokevirtual 223, 3) := tb_at tbX9_saved_n40_ok 5 rfl
theorem dX9_saved_10 : decode cX9_saved 10 = .ok (.ifCond .ne 5, 3) := tb_at tbX9_saved_n40_ok 6 rfl
theorem dX9_saved_13 : decode cX9_saved 13 = .ok (.iconst (-1), 1) := tb_at tbX9_saved_n40_ok 7 rfl
theorem dX9_saved_14 : decode cX9_saved 14 = .ok (.ireturn, 1) := tb_at tbX9_saved_n40_ok 8 rfl
theorem dX9_saved_15 : decode cX9_saved 15 = .ok (.iload_n 2, 1) := tb_at tbX9_saved_n40_ok 9 rfl
theorem dX9_saved_16 : decode cX9_saved 16 = .ok (.ifCond .ne 12, 3) := tb_at tbX9_saved_n40_ok 10 rfl
theorem dX9_saved_19 : decode cX9_saved 19 = .ok (.aload_n 0, 1) := tb_at tbX9_saved_n40_ok 11 rfl
theorem dX9_saved_20 : decode cX9_saved 20 = .ok (.getfield 81, 3) := tb_at tbX9_saved_n40_ok 12 rfl
theorem dX9_saved_23 : decode cX9_saved 23 = .ok (.iload_n 1, 1) := tb_at tbX9_saved_n40_ok 13 rfl
theorem dX9_saved_24 : decode cX9_saved 24 = .ok (.iaload, 1) := tb_at tbX9_saved_n40_ok 14 rfl
theorem dX9_saved_25 : decode cX9_saved 25 = .ok (.goto 32, 3) := tb_at tbX9_saved_n40_ok 15 rfl
theorem dX9_saved_28 : decode cX9_saved 28 = .ok (.iload_n 2, 1) := tb_at tbX9_saved_n40_ok 16 rfl
theorem dX9_saved_29 : decode cX9_saved 29 = .ok (.iconst 1, 1) := tb_at tbX9_saved_n40_ok 17 rfl
theorem dX9_saved_30 : decode cX9_saved 30 = .ok (.if_icmp .ne 25, 3) := tb_at tbX9_saved_n40_ok 18 rfl
theorem dX9_saved_33 : decode cX9_saved 33 = .ok (.aload_n 0, 1) := tb_at tbX9_saved_n40_ok 19 rfl
theorem dX9_saved_34 : decode cX9_saved 34 = .ok (.getfield 81, 3) := tb_at tbX9_saved_n40_ok 20 rfl
theorem dX9_saved_37 : decode cX9_saved 37 = .ok (.iload_n 1, 1) := tb_at tbX9_saved_n40_ok 21 rfl
theorem dX9_saved_38 : decode cX9_saved 38 = .ok (.iaload, 1) := tb_at tbX9_saved_n40_ok 22 rfl
theorem dX9_saved_39 : decode cX9_saved 39 = .ok (.ifCond .ne 7, 3) := tb_at tbX9_saved_n40_ok 23 rfl
theorem dX9_saved_42 : decode cX9_saved 42 = .ok (.iconst 0, 1) := tb_at tbX9_saved_n40_ok 24 rfl
theorem dX9_saved_43 : decode cX9_saved 43 = .ok (.goto 14, 3) := tb_at tbX9_saved_n40_ok 25 rfl
theorem dX9_saved_46 : decode cX9_saved 46 = .ok (.aload_n 0, 1) := tb_at tbX9_saved_n40_ok 26 rfl
theorem dX9_saved_47 : decode cX9_saved 47 = .ok (.getfield 99, 3) := tb_at tbX9_saved_n40_ok 27 rfl
theorem dX9_saved_50 : decode cX9_saved 50 = .ok (.iload_n 1, 1) := tb_at tbX9_saved_n40_ok 28 rfl
theorem dX9_saved_51 : decode cX9_saved 51 = .ok (.iaload, 1) := tb_at tbX9_saved_n40_ok 29 rfl
theorem dX9_saved_52 : decode cX9_saved 52 = .ok (.goto 5, 3) := tb_at tbX9_saved_n40_ok 30 rfl
theorem dX9_saved_55 : decode cX9_saved 55 = .ok (.bipush (-2), 2) := tb_at tbX9_saved_n40_ok 31 rfl
theorem dX9_saved_57 : decode cX9_saved 57 = .ok (.ireturn, 1) := tb_at tbX9_saved_n40_ok 32 rfl
noncomputable def tbX9_goes_n40 : List (Nat × Instr × Nat) := [(0, (.iload_n 0), 1), (1, (.iload_n 1), 1), (2, (.if_icmp .eq 32), 3), (5, (.iload_n 0), 1), (6, (.iconst 1), 1), (7, (.if_icmp .ne 7), 3), (10, (.iload_n 1), 1), (11, (.ifCond .eq 23), 3), (14, (.iload_n 0), 1), (15, (.iconst 3), 1), (16, (.if_icmp .ne 8), 3), (19, (.iload_n 1), 1), (20, (.iconst 3), 1), (21, (.if_icmp .gt 13), 3), (24, (.iload_n 0), 1), (25, (.iconst 4), 1), (26, (.if_icmp .ne 12), 3), (29, (.iload_n 1), 1), (30, (.iconst 5), 1), (31, (.if_icmp .ne 7), 3), (34, (.iconst 1), 1), (35, (.goto 4), 3), (38, (.iconst 0), 1), (39, .ireturn, 1)]
theorem tbX9_goes_n40_ok : ∀ q ∈ tbX9_goes_n40, decode cX9_goes q.1 = .ok q.2 := by decide +kernel
theorem dX9_goes_0 : decode cX9_goes 0 = .ok (.iload_n 0, 1) := tb_at tbX9_goes_n40_ok 0 rfl
theorem dX9_goes_1 : decode cX9_goes 1 = .ok (.iload_n 1, 1) := tb_at tbX9_goes_n40_ok 1 rfl
theorem dX9_goes_2 : decode cX9_goes 2 = .ok (.if_icmp .eq 32, 3) := tb_at tbX9_goes_n40_ok 2 rfl
theorem dX9_goes_5 : decode cX9_goes 5 = .ok (.iload_n 0, 1) := tb_at tbX9_goes_n40_ok 3 rfl
theorem dX9_goes_6 : decode cX9_goes 6 = .ok (.iconst 1, 1) := tb_at tbX9_goes_n40_ok 4 rfl
theorem dX9_goes_7 : decode cX9_goes 7 = .ok (.if_icmp .ne 7, 3) := tb_at tbX9_goes_n40_ok 5 rfl
theorem dX9_goes_10 : decode cX9_goes 10 = .ok (.iload_n 1, 1) := tb_at tbX9_goes_n40_ok 6 rfl
theorem dX9_goes_11 : decode cX9_goes 11 = .ok (.ifCond .eq 23, 3) := tb_at tbX9_goes_n40_ok 7 rfl
theorem dX9_goes_14 : decode cX9_goes 14 = .ok (.iload_n 0, 1) := tb_at tbX9_goes_n40_ok 8 rfl
theorem dX9_goes_15 : decode cX9_goes 15 = .ok (.iconst 3, 1) := tb_at tbX9_goes_n40_ok 9 rfl
theorem dX9_goes_16 : decode cX9_goes 16 = .ok (.if_icmp .ne 8, 3) := tb_at tbX9_goes_n40_ok 10 rfl
theorem dX9_goes_19 : decode cX9_goes 19 = .ok (.iload_n 1, 1) := tb_at tbX9_goes_n40_ok 11 rfl
theorem dX9_goes_20 : decode cX9_goes 20 = .ok (.iconst 3, 1) := tb_at tbX9_goes_n40_ok 12 rfl
theorem dX9_goes_21 : decode cX9_goes 21 = .ok (.if_icmp .gt 13, 3) := tb_at tbX9_goes_n40_ok 13 rfl
theorem dX9_goes_24 : decode cX9_goes 24 = .ok (.iload_n 0, 1) := tb_at tbX9_goes_n40_ok 14 rfl
theorem dX9_goes_25 : decode cX9_goes 25 = .ok (.iconst 4, 1) := tb_at tbX9_goes_n40_ok 15 rfl
theorem dX9_goes_26 : decode cX9_goes 26 = .ok (.if_icmp .ne 12, 3) := tb_at tbX9_goes_n40_ok 16 rfl
theorem dX9_goes_29 : decode cX9_goes 29 = .ok (.iload_n 1, 1) := tb_at tbX9_goes_n40_ok 17 rfl
theorem dX9_goes_30 : decode cX9_goes 30 = .ok (.iconst 5, 1) := tb_at tbX9_goes_n40_ok 18 rfl
theorem dX9_goes_31 : decode cX9_goes 31 = .ok (.if_icmp .ne 7, 3) := tb_at tbX9_goes_n40_ok 19 rfl
theorem dX9_goes_34 : decode cX9_goes 34 = .ok (.iconst 1, 1) := tb_at tbX9_goes_n40_ok 20 rfl
theorem dX9_goes_35 : decode cX9_goes 35 = .ok (.goto 4, 3) := tb_at tbX9_goes_n40_ok 21 rfl
theorem dX9_goes_38 : decode cX9_goes 38 = .ok (.iconst 0, 1) := tb_at tbX9_goes_n40_ok 22 rfl
theorem dX9_goes_39 : decode cX9_goes 39 = .ok (.ireturn, 1) := tb_at tbX9_goes_n40_ok 23 rfl
set_option maxRecDepth 20000 in
theorem ggX9_rowBack_X9_newRow : GoodIn wsX9_rowBack wsX9_newRow := goodIn_r _ [9, 10, 11, 12, 13, 14, 15, 16, 17, 18, 3, 19, 20, 21, 8, 22, 23, 24, 25, 26, 27, 28, 29, 30, 31, 32, 33, 34, 35, 36, 37, 38, 39, 40, 41, 42, 43, 44, 45, 46, 47, 48, 49, 50, 51, 52, 53, 54, 55, 56, 57, 58, 59, 60, 61, 62, 63, 64, 65, 66, 67, 68, 69, 70, 71, 72, 73, 74] (by decide +kernel) (by decide +kernel)
set_option maxRecDepth 20000 in
theorem gX9_rowBack_X9_newRow : GoodIn wsX9_rowBack (wsV RX9 190 RX9 yX9_newRow wsX9_newRow) := goodIn_app (goodIn_of _ (by decide +kernel)) ggX9_rowBack_X9_newRow
noncomputable def tbX9_rowBack_n40 : List (Nat × Instr × Nat) := [(0, (.iconst 3), 1), (1, (.iload_n 2), 1), (2, .imul, 1), (3, (.iload_n 3), 1), (4, .iadd, 1), (5, (.iconst 3), 1), (6, .isub, 1), (7, (.istore 4), 2), (9, (.aload_n 0), 1), (10, (.getfield 127), 3), (13, (.iload 4), 2), (15, .iaload, 1), (16, (.ifCond .ge 82), 3), (19, (.aload_n 0), 1), (20, (.getfield 105), 3), (23, (.sipush 150), 3), (26, (.iload_n 1), 1), (27, .imul, 1), (28, (.iload_n 2), 1), (29, .iadd, 1), (30, .iaload, 1), (31, (.istore 5), 2), (33, (.aload_n 0), 1), (34, (.iload_n 3), 1), (35, (.iload 5), 2), (37, (.invokevirtual 190), 3), (40, (.istore 6), 2), (42, (.iconst 0), 1), (43, (.istore 7), 2), (45, (.iload 7), 2), (47, (.iload 5), 2), (49, (.if_icmp .ge 40), 3), (52, (.aload_n 0), 1), (53, (.getfield 57), 3), (56, (.bipush 12), 2), (58, (.iload 6), 2), (60, .imul, 1), (61, (.iload 7), 2), (63, .iadd, 1), (64, (.aload_n 0), 1), (65, (.getfield 108), 3), (68, (.bipush 12), 2), (70, (.sipush 150), 3), (73, (.iload_n 1), 1), (74, .imul, 1), (75, (.iload_n 2), 1), (76, .iadd, 1), (77, .imul, 1), (78, (.iload 7), 2), (80, .iadd, 1), (81, .laload, 1), (82, .lastore, 1), (83, (.iinc 7 1), 3), (86, (.goto (-41)), 3), (89, (.aload_n 0), 1), (90, (.getfield 127), 3), (93, (.iload 4), 2), (95, (.iload 6), 2), (97, .iastore, 1), (98, (.aload_n 0), 1), (99, (.getfield 127), 3), (102, (.iload 4), 2), (104, .iaload, 1), (105, .ireturn, 1)]
theorem tbX9_rowBack_n40_ok : ∀ q ∈ tbX9_rowBack_n40, decode cX9_rowBack q.1 = .ok q.2 := by decide +kernel
theorem dX9_rowBack_0 : decode cX9_rowBack 0 = .ok (.iconst 3, 1) := tb_at tbX9_rowBack_n40_ok 0 rfl
theorem dX9_rowBack_1 : decode cX9_rowBack 1 = .ok (.iload_n 2, 1) := tb_at tbX9_rowBack_n40_ok 1 rfl
theorem dX9_rowBack_2 : decode cX9_rowBack 2 = .ok (.imul, 1) := tb_at tbX9_rowBack_n40_ok 2 rfl
theorem dX9_rowBack_3 : decode cX9_rowBack 3 = .ok (.iload_n 3, 1) := tb_at tbX9_rowBack_n40_ok 3 rfl
theorem dX9_rowBack_4 : decode cX9_rowBack 4 = .ok (.iadd, 1) := tb_at tbX9_rowBack_n40_ok 4 rfl
theorem dX9_rowBack_5 : decode cX9_rowBack 5 = .ok (.iconst 3, 1) := tb_at tbX9_rowBack_n40_ok 5 rfl
theorem dX9_rowBack_6 : decode cX9_rowBack 6 = .ok (.isub, 1) := tb_at tbX9_rowBack_n40_ok 6 rfl
theorem dX9_rowBack_7 : decode cX9_rowBack 7 = .ok (.istore 4, 2) := tb_at tbX9_rowBack_n40_ok 7 rfl
theorem dX9_rowBack_9 : decode cX9_rowBack 9 = .ok (.aload_n 0, 1) := tb_at tbX9_rowBack_n40_ok 8 rfl
theorem dX9_rowBack_10 : decode cX9_rowBack 10 = .ok (.getfield 127, 3) := tb_at tbX9_rowBack_n40_ok 9 rfl
theorem dX9_rowBack_13 : decode cX9_rowBack 13 = .ok (.iload 4, 2) := tb_at tbX9_rowBack_n40_ok 10 rfl
theorem dX9_rowBack_15 : decode cX9_rowBack 15 = .ok (.iaload, 1) := tb_at tbX9_rowBack_n40_ok 11 rfl
theorem dX9_rowBack_16 : decode cX9_rowBack 16 = .ok (.ifCond .ge 82, 3) := tb_at tbX9_rowBack_n40_ok 12 rfl
theorem dX9_rowBack_19 : decode cX9_rowBack 19 = .ok (.aload_n 0, 1) := tb_at tbX9_rowBack_n40_ok 13 rfl
theorem dX9_rowBack_20 : decode cX9_rowBack 20 = .ok (.getfield 105, 3) := tb_at tbX9_rowBack_n40_ok 14 rfl
theorem dX9_rowBack_23 : decode cX9_rowBack 23 = .ok (.sipush 150, 3) := tb_at tbX9_rowBack_n40_ok 15 rfl
theorem dX9_rowBack_26 : decode cX9_rowBack 26 = .ok (.iload_n 1, 1) := tb_at tbX9_rowBack_n40_ok 16 rfl
theorem dX9_rowBack_27 : decode cX9_rowBack 27 = .ok (.imul, 1) := tb_at tbX9_rowBack_n40_ok 17 rfl
theorem dX9_rowBack_28 : decode cX9_rowBack 28 = .ok (.iload_n 2, 1) := tb_at tbX9_rowBack_n40_ok 18 rfl
theorem dX9_rowBack_29 : decode cX9_rowBack 29 = .ok (.iadd, 1) := tb_at tbX9_rowBack_n40_ok 19 rfl
theorem dX9_rowBack_30 : decode cX9_rowBack 30 = .ok (.iaload, 1) := tb_at tbX9_rowBack_n40_ok 20 rfl
theorem dX9_rowBack_31 : decode cX9_rowBack 31 = .ok (.istore 5, 2) := tb_at tbX9_rowBack_n40_ok 21 rfl
theorem dX9_rowBack_33 : decode cX9_rowBack 33 = .ok (.aload_n 0, 1) := tb_at tbX9_rowBack_n40_ok 22 rfl
theorem dX9_rowBack_34 : decode cX9_rowBack 34 = .ok (.iload_n 3, 1) := tb_at tbX9_rowBack_n40_ok 23 rfl
theorem dX9_rowBack_35 : decode cX9_rowBack 35 = .ok (.iload 5, 2) := tb_at tbX9_rowBack_n40_ok 24 rfl
theorem dX9_rowBack_37 : decode cX9_rowBack 37 = .ok (.invokevirtual 190, 3) := tb_at tbX9_rowBack_n40_ok 25 rfl
theorem dX9_rowBack_40 : decode cX9_rowBack 40 = .ok (.istore 6, 2) := tb_at tbX9_rowBack_n40_ok 26 rfl
theorem dX9_rowBack_42 : decode cX9_rowBack 42 = .ok (.iconst 0, 1) := tb_at tbX9_rowBack_n40_ok 27 rfl
theorem dX9_rowBack_43 : decode cX9_rowBack 43 = .ok (.istore 7, 2) := tb_at tbX9_rowBack_n40_ok 28 rfl
theorem dX9_rowBack_45 : decode cX9_rowBack 45 = .ok (.iload 7, 2) := tb_at tbX9_rowBack_n40_ok 29 rfl
theorem dX9_rowBack_47 : decode cX9_rowBack 47 = .ok (.iload 5, 2) := tb_at tbX9_rowBack_n40_ok 30 rfl
theorem dX9_rowBack_49 : decode cX9_rowBack 49 = .ok (.if_icmp .ge 40, 3) := tb_at tbX9_rowBack_n40_ok 31 rfl
theorem dX9_rowBack_52 : decode cX9_rowBack 52 = .ok (.aload_n 0, 1) := tb_at tbX9_rowBack_n40_ok 32 rfl
theorem dX9_rowBack_53 : decode cX9_rowBack 53 = .ok (.getfield 57, 3) := tb_at tbX9_rowBack_n40_ok 33 rfl
theorem dX9_rowBack_56 : decode cX9_rowBack 56 = .ok (.bipush 12, 2) := tb_at tbX9_rowBack_n40_ok 34 rfl
theorem dX9_rowBack_58 : decode cX9_rowBack 58 = .ok (.iload 6, 2) := tb_at tbX9_rowBack_n40_ok 35 rfl
theorem dX9_rowBack_60 : decode cX9_rowBack 60 = .ok (.imul, 1) := tb_at tbX9_rowBack_n40_ok 36 rfl
theorem dX9_rowBack_61 : decode cX9_rowBack 61 = .ok (.iload 7, 2) := tb_at tbX9_rowBack_n40_ok 37 rfl
theorem dX9_rowBack_63 : decode cX9_rowBack 63 = .ok (.iadd, 1) := tb_at tbX9_rowBack_n40_ok 38 rfl
theorem dX9_rowBack_64 : decode cX9_rowBack 64 = .ok (.aload_n 0, 1) := tb_at tbX9_rowBack_n40_ok 39 rfl
theorem dX9_rowBack_65 : decode cX9_rowBack 65 = .ok (.getfield 108, 3) := tb_at tbX9_rowBack_n40_ok 40 rfl
theorem dX9_rowBack_68 : decode cX9_rowBack 68 = .ok (.bipush 12, 2) := tb_at tbX9_rowBack_n40_ok 41 rfl
theorem dX9_rowBack_70 : decode cX9_rowBack 70 = .ok (.sipush 150, 3) := tb_at tbX9_rowBack_n40_ok 42 rfl
theorem dX9_rowBack_73 : decode cX9_rowBack 73 = .ok (.iload_n 1, 1) := tb_at tbX9_rowBack_n40_ok 43 rfl
theorem dX9_rowBack_74 : decode cX9_rowBack 74 = .ok (.imul, 1) := tb_at tbX9_rowBack_n40_ok 44 rfl
theorem dX9_rowBack_75 : decode cX9_rowBack 75 = .ok (.iload_n 2, 1) := tb_at tbX9_rowBack_n40_ok 45 rfl
theorem dX9_rowBack_76 : decode cX9_rowBack 76 = .ok (.iadd, 1) := tb_at tbX9_rowBack_n40_ok 46 rfl
theorem dX9_rowBack_77 : decode cX9_rowBack 77 = .ok (.imul, 1) := tb_at tbX9_rowBack_n40_ok 47 rfl
theorem dX9_rowBack_78 : decode cX9_rowBack 78 = .ok (.iload 7, 2) := tb_at tbX9_rowBack_n40_ok 48 rfl
theorem dX9_rowBack_80 : decode cX9_rowBack 80 = .ok (.iadd, 1) := tb_at tbX9_rowBack_n40_ok 49 rfl
theorem dX9_rowBack_81 : decode cX9_rowBack 81 = .ok (.laload, 1) := tb_at tbX9_rowBack_n40_ok 50 rfl
theorem dX9_rowBack_82 : decode cX9_rowBack 82 = .ok (.lastore, 1) := tb_at tbX9_rowBack_n40_ok 51 rfl
theorem dX9_rowBack_83 : decode cX9_rowBack 83 = .ok (.iinc 7 1, 3) := tb_at tbX9_rowBack_n40_ok 52 rfl
theorem dX9_rowBack_86 : decode cX9_rowBack 86 = .ok (.goto (-41), 3) := tb_at tbX9_rowBack_n40_ok 53 rfl
theorem dX9_rowBack_89 : decode cX9_rowBack 89 = .ok (.aload_n 0, 1) := tb_at tbX9_rowBack_n40_ok 54 rfl
theorem dX9_rowBack_90 : decode cX9_rowBack 90 = .ok (.getfield 127, 3) := tb_at tbX9_rowBack_n40_ok 55 rfl
theorem dX9_rowBack_93 : decode cX9_rowBack 93 = .ok (.iload 4, 2) := tb_at tbX9_rowBack_n40_ok 56 rfl
theorem dX9_rowBack_95 : decode cX9_rowBack 95 = .ok (.iload 6, 2) := tb_at tbX9_rowBack_n40_ok 57 rfl
theorem dX9_rowBack_97 : decode cX9_rowBack 97 = .ok (.iastore, 1) := tb_at tbX9_rowBack_n40_ok 58 rfl
theorem dX9_rowBack_98 : decode cX9_rowBack 98 = .ok (.aload_n 0, 1) := tb_at tbX9_rowBack_n40_ok 59 rfl
theorem dX9_rowBack_99 : decode cX9_rowBack 99 = .ok (.getfield 127, 3) := tb_at tbX9_rowBack_n40_ok 60 rfl
theorem dX9_rowBack_102 : decode cX9_rowBack 102 = .ok (.iload 4, 2) := tb_at tbX9_rowBack_n40_ok 61 rfl
theorem dX9_rowBack_104 : decode cX9_rowBack 104 = .ok (.iaload, 1) := tb_at tbX9_rowBack_n40_ok 62 rfl
theorem dX9_rowBack_105 : decode cX9_rowBack 105 = .ok (.ireturn, 1) := tb_at tbX9_rowBack_n40_ok 63 rfl
set_option maxRecDepth 20000 in
theorem ggX9_fieldsBack_X9_named : GoodIn wsX9_fieldsBack wsX9_named := goodIn_r _ [14, 15, 16, 49, 50, 51, 52, 53, 54, 55, 56, 57, 58, 59, 60, 61, 62, 63, 64, 65, 66, 67, 68, 69, 70, 71, 72, 73, 74, 75, 76, 77, 78, 79, 80, 81, 82, 83, 84, 85, 86, 87, 88, 89, 90, 91, 92, 93, 94, 95, 96, 97, 98, 99] (by decide +kernel) (by decide +kernel)
set_option maxRecDepth 20000 in
theorem gX9_fieldsBack_X9_named : GoodIn wsX9_fieldsBack (wsV RX9 161 RX9 yX9_named wsX9_named) := goodIn_app (goodIn_of _ (by decide +kernel)) ggX9_fieldsBack_X9_named
set_option maxRecDepth 20000 in
theorem ggX9_fieldsBack_X9_faulty : GoodIn wsX9_fieldsBack wsX9_faulty := goodIn_r _ [20, 21, 22, 23, 49, 50, 51, 52, 53, 54, 55, 56, 57, 58, 59, 60, 61, 62, 63, 64, 65, 66, 67, 68, 69, 70, 71, 72, 73, 74, 75, 76, 77, 78, 79, 80, 81, 82, 83, 84, 85, 86, 87, 88, 89, 90, 91, 92, 93, 94, 95, 96, 97, 98, 99] (by decide +kernel) (by decide +kernel)
set_option maxRecDepth 20000 in
theorem gX9_fieldsBack_X9_faulty : GoodIn wsX9_fieldsBack (wsV RX9 216 RX9 yX9_faulty wsX9_faulty) := goodIn_app (goodIn_of _ (by decide +kernel)) ggX9_fieldsBack_X9_faulty
set_option maxRecDepth 20000 in
theorem ggX9_fieldsBack_X9_goes : GoodIn wsX9_fieldsBack wsX9_goes := goodIn_r _ [26] (by decide +kernel) (by decide +kernel)
set_option maxRecDepth 20000 in
theorem gX9_fieldsBack_X9_goes : GoodIn wsX9_fieldsBack (va_wsS RX9 230 yX9_goes wsX9_goes) := goodIn_app (goodIn_of _ (by decide +kernel)) ggX9_fieldsBack_X9_goes
set_option maxRecDepth 20000 in
theorem ggX9_fieldsBack_X9_rowBack : GoodIn wsX9_fieldsBack wsX9_rowBack := goodIn_r _ [30, 31, 32, 33, 34, 35, 36, 37, 13, 38, 39, 40, 15, 1, 9, 41, 42, 43, 44, 45, 46, 47, 48, 4, 49, 50, 51, 52, 53, 54, 55, 56, 57, 58, 59, 60, 61, 62, 63, 64, 65, 66, 67, 68, 69, 70, 71, 72, 73, 74, 75, 76, 77, 78, 79, 80, 81, 82, 83, 84, 85, 86, 87, 88, 89, 90, 91, 92, 93, 94, 95, 96, 97, 98, 99] (by decide +kernel) (by decide +kernel)
set_option maxRecDepth 20000 in
theorem gX9_fieldsBack_X9_rowBack : GoodIn wsX9_fieldsBack (wsV RX9 233 RX9 yX9_rowBack wsX9_rowBack) := goodIn_app (goodIn_of _ (by decide +kernel)) ggX9_fieldsBack_X9_rowBack
noncomputable def tbX9_fieldsBack_n40 : List (Nat × Instr × Nat) := [(0, (.iload 4), 2), (2, (.iload_n 2), 1), (3, .iadd, 1), (4, (.istore 5), 2), (6, (.aload_n 0), 1), (7, (.getfield 45), 3), (10, (.iload 5), 2), (12, .iaload, 1), (13, (.istore 6), 2), (15, (.iconst 0), 1), (16, (.istore 7), 2), (18, (.iload 7), 2), (20, (.aload_n 0), 1), (21, (.getfield 87), 3), (24, (.bipush 30), 2), (26, (.iload_n 1), 1), (27, .imul, 1), (28, (.iload_n 2), 1), (29, .iadd, 1), (30, .iaload, 1), (31, (.if_icmp .ge 225), 3), (34, (.iconst 5), 1), (35, (.bipush 30), 2), (37, (.iload_n 1), 1), (38, .imul, 1), (39, (.iload_n 2), 1), (40, .iadd, 1), (41, .imul, 1), (42, (.iload 7), 2), (44, .iadd, 1), (45, (.istore 8), 2), (47, (.aload_n 0), 1), (48, (.iload 6), 2), (50, (.aload_n 0), 1), (51, (.getfield 90), 3), (54, (.iload 8), 2), (56, .iaload, 1), (57, (.invokevirtual 161), 3), (60, (.istore 9), 2), (62, (.iload 9), 2), (64, (.ifCond .ge 25), 3), (67, (.iload_n 3), 1), (68, (.iconst 1), 1), (69, .iand, 1), (70, (.ifCond .ne 180), 3), (73, (.aload_n 0), 1), (74, (.bipush 8), 2), (76, (.iload_n 2), 1), (77, (.aload_n 0), 1), (78, (.getfield 90), 3), (81, (.iload 8), 2), (83, .iaload, 1), (84, (.iconst (-1)), 1), (85, (.invokevirtual 216), 3), (88, .ireturn, 1), (89, (.aload_n 0), 1), (90, (.getfield 20), 3), (93, (.iconst 5), 1), (94, (.iload 6), 2), (96, .imul, 1), (97, (.iload 9), 2), (99, .iadd, 1), (100, .iaload, 1), (101, (.istore 10), 2), (103, (.aload_n 0), 1), (104, (.getfield 93), 3), (107, (.iload 8), 2), (109, .iaload, 1), (110, (.iload 10), 2), (112, (.invokestatic 230), 3), (115, (.ifCond .ne 19), 3), (118, (.aload_n 0), 1), (119, (.bipush 9), 2), (121, (.iload_n 2), 1), (122, (.aload_n 0), 1), (123, (.getfield 90), 3), (126, (.iload 8), 2), (128, .iaload, 1), (129, (.iconst (-1)), 1), (130, (.invokevirtual 216), 3), (133, .ireturn, 1), (134, (.aload_n 0), 1), (135, (.getfield 96), 3), (138, (.iload 8), 2), (140, .laload, 1), (141, (.lstore 11), 2), (143, (.iload 10), 2), (145, (.iconst 1), 1), (146, (.if_icmp .ne 48), 3), (149, (.lload 11), 2), (151, (.lconst 0), 1), (152, .lcmp, 1), (153, (.ifCond .lt 41), 3), (156, (.aload_n 0), 1), (157, (.getfield 7), 3), (160, (.lload 11), 2), (162, .l2i, 1), (163, .baload, 1), (164, (.ifCond .eq 30), 3), (167, (.iload_n 3), 1), (168, (.iconst 2), 1), (169, .iand, 1), (170, (.ifCond .ne 19), 3), (173, (.aload_n 0), 1), (174, (.bipush 7), 2), (176, (.iload_n 2), 1), (177, (.aload_n 0), 1), (178, (.getfield 90), 3), (181, (.iload 8), 2), (183, .iaload, 1), (184, (.iconst (-1)), 1), (185, (.invokevirtual 216), 3), (188, .ireturn, 1), (189, (.ldc2_w 168), 3), (192, (.lstore 11), 2), (194, (.aload_n 0), 1), (195, (.getfield 48), 3), (198, (.iconst 5), 1), (199, (.iload 5), 2), (201, .imul, 1)]
theorem tbX9_fieldsBack_n40_ok : ∀ q ∈ tbX9_fieldsBack_n40, decode cX9_fieldsBack q.1 = .ok q.2 := by decide +kernel
theorem dX9_fieldsBack_0 : decode cX9_fieldsBack 0 = .ok (.iload 4, 2) := tb_at tbX9_fieldsBack_n40_ok 0 rfl
theorem dX9_fieldsBack_2 : decode cX9_fieldsBack 2 = .ok (.iload_n 2, 1) := tb_at tbX9_fieldsBack_n40_ok 1 rfl
theorem dX9_fieldsBack_3 : decode cX9_fieldsBack 3 = .ok (.iadd, 1) := tb_at tbX9_fieldsBack_n40_ok 2 rfl
theorem dX9_fieldsBack_4 : decode cX9_fieldsBack 4 = .ok (.istore 5, 2) := tb_at tbX9_fieldsBack_n40_ok 3 rfl
theorem dX9_fieldsBack_6 : decode cX9_fieldsBack 6 = .ok (.aload_n 0, 1) := tb_at tbX9_fieldsBack_n40_ok 4 rfl
theorem dX9_fieldsBack_7 : decode cX9_fieldsBack 7 = .ok (.getfield 45, 3) := tb_at tbX9_fieldsBack_n40_ok 5 rfl
theorem dX9_fieldsBack_10 : decode cX9_fieldsBack 10 = .ok (.iload 5, 2) := tb_at tbX9_fieldsBack_n40_ok 6 rfl
theorem dX9_fieldsBack_12 : decode cX9_fieldsBack 12 = .ok (.iaload, 1) := tb_at tbX9_fieldsBack_n40_ok 7 rfl
theorem dX9_fieldsBack_13 : decode cX9_fieldsBack 13 = .ok (.istore 6, 2) := tb_at tbX9_fieldsBack_n40_ok 8 rfl
theorem dX9_fieldsBack_15 : decode cX9_fieldsBack 15 = .ok (.iconst 0, 1) := tb_at tbX9_fieldsBack_n40_ok 9 rfl
theorem dX9_fieldsBack_16 : decode cX9_fieldsBack 16 = .ok (.istore 7, 2) := tb_at tbX9_fieldsBack_n40_ok 10 rfl
theorem dX9_fieldsBack_18 : decode cX9_fieldsBack 18 = .ok (.iload 7, 2) := tb_at tbX9_fieldsBack_n40_ok 11 rfl
theorem dX9_fieldsBack_20 : decode cX9_fieldsBack 20 = .ok (.aload_n 0, 1) := tb_at tbX9_fieldsBack_n40_ok 12 rfl
theorem dX9_fieldsBack_21 : decode cX9_fieldsBack 21 = .ok (.getfield 87, 3) := tb_at tbX9_fieldsBack_n40_ok 13 rfl
theorem dX9_fieldsBack_24 : decode cX9_fieldsBack 24 = .ok (.bipush 30, 2) := tb_at tbX9_fieldsBack_n40_ok 14 rfl
theorem dX9_fieldsBack_26 : decode cX9_fieldsBack 26 = .ok (.iload_n 1, 1) := tb_at tbX9_fieldsBack_n40_ok 15 rfl
theorem dX9_fieldsBack_27 : decode cX9_fieldsBack 27 = .ok (.imul, 1) := tb_at tbX9_fieldsBack_n40_ok 16 rfl
theorem dX9_fieldsBack_28 : decode cX9_fieldsBack 28 = .ok (.iload_n 2, 1) := tb_at tbX9_fieldsBack_n40_ok 17 rfl
theorem dX9_fieldsBack_29 : decode cX9_fieldsBack 29 = .ok (.iadd, 1) := tb_at tbX9_fieldsBack_n40_ok 18 rfl
theorem dX9_fieldsBack_30 : decode cX9_fieldsBack 30 = .ok (.iaload, 1) := tb_at tbX9_fieldsBack_n40_ok 19 rfl
theorem dX9_fieldsBack_31 : decode cX9_fieldsBack 31 = .ok (.if_icmp .ge 225, 3) := tb_at tbX9_fieldsBack_n40_ok 20 rfl
theorem dX9_fieldsBack_34 : decode cX9_fieldsBack 34 = .ok (.iconst 5, 1) := tb_at tbX9_fieldsBack_n40_ok 21 rfl
theorem dX9_fieldsBack_35 : decode cX9_fieldsBack 35 = .ok (.bipush 30, 2) := tb_at tbX9_fieldsBack_n40_ok 22 rfl
theorem dX9_fieldsBack_37 : decode cX9_fieldsBack 37 = .ok (.iload_n 1, 1) := tb_at tbX9_fieldsBack_n40_ok 23 rfl
theorem dX9_fieldsBack_38 : decode cX9_fieldsBack 38 = .ok (.imul, 1) := tb_at tbX9_fieldsBack_n40_ok 24 rfl
theorem dX9_fieldsBack_39 : decode cX9_fieldsBack 39 = .ok (.iload_n 2, 1) := tb_at tbX9_fieldsBack_n40_ok 25 rfl
theorem dX9_fieldsBack_40 : decode cX9_fieldsBack 40 = .ok (.iadd, 1) := tb_at tbX9_fieldsBack_n40_ok 26 rfl
theorem dX9_fieldsBack_41 : decode cX9_fieldsBack 41 = .ok (.imul, 1) := tb_at tbX9_fieldsBack_n40_ok 27 rfl
theorem dX9_fieldsBack_42 : decode cX9_fieldsBack 42 = .ok (.iload 7, 2) := tb_at tbX9_fieldsBack_n40_ok 28 rfl
theorem dX9_fieldsBack_44 : decode cX9_fieldsBack 44 = .ok (.iadd, 1) := tb_at tbX9_fieldsBack_n40_ok 29 rfl
theorem dX9_fieldsBack_45 : decode cX9_fieldsBack 45 = .ok (.istore 8, 2) := tb_at tbX9_fieldsBack_n40_ok 30 rfl
theorem dX9_fieldsBack_47 : decode cX9_fieldsBack 47 = .ok (.aload_n 0, 1) := tb_at tbX9_fieldsBack_n40_ok 31 rfl
theorem dX9_fieldsBack_48 : decode cX9_fieldsBack 48 = .ok (.iload 6, 2) := tb_at tbX9_fieldsBack_n40_ok 32 rfl
theorem dX9_fieldsBack_50 : decode cX9_fieldsBack 50 = .ok (.aload_n 0, 1) := tb_at tbX9_fieldsBack_n40_ok 33 rfl
theorem dX9_fieldsBack_51 : decode cX9_fieldsBack 51 = .ok (.getfield 90, 3) := tb_at tbX9_fieldsBack_n40_ok 34 rfl
theorem dX9_fieldsBack_54 : decode cX9_fieldsBack 54 = .ok (.iload 8, 2) := tb_at tbX9_fieldsBack_n40_ok 35 rfl
theorem dX9_fieldsBack_56 : decode cX9_fieldsBack 56 = .ok (.iaload, 1) := tb_at tbX9_fieldsBack_n40_ok 36 rfl
theorem dX9_fieldsBack_57 : decode cX9_fieldsBack 57 = .ok (.invokevirtual 161, 3) := tb_at tbX9_fieldsBack_n40_ok 37 rfl
theorem dX9_fieldsBack_60 : decode cX9_fieldsBack 60 = .ok (.istore 9, 2) := tb_at tbX9_fieldsBack_n40_ok 38 rfl
theorem dX9_fieldsBack_62 : decode cX9_fieldsBack 62 = .ok (.iload 9, 2) := tb_at tbX9_fieldsBack_n40_ok 39 rfl
theorem dX9_fieldsBack_64 : decode cX9_fieldsBack 64 = .ok (.ifCond .ge 25, 3) := tb_at tbX9_fieldsBack_n40_ok 40 rfl
theorem dX9_fieldsBack_67 : decode cX9_fieldsBack 67 = .ok (.iload_n 3, 1) := tb_at tbX9_fieldsBack_n40_ok 41 rfl
theorem dX9_fieldsBack_68 : decode cX9_fieldsBack 68 = .ok (.iconst 1, 1) := tb_at tbX9_fieldsBack_n40_ok 42 rfl
theorem dX9_fieldsBack_69 : decode cX9_fieldsBack 69 = .ok (.iand, 1) := tb_at tbX9_fieldsBack_n40_ok 43 rfl
theorem dX9_fieldsBack_70 : decode cX9_fieldsBack 70 = .ok (.ifCond .ne 180, 3) := tb_at tbX9_fieldsBack_n40_ok 44 rfl
theorem dX9_fieldsBack_73 : decode cX9_fieldsBack 73 = .ok (.aload_n 0, 1) := tb_at tbX9_fieldsBack_n40_ok 45 rfl
theorem dX9_fieldsBack_74 : decode cX9_fieldsBack 74 = .ok (.bipush 8, 2) := tb_at tbX9_fieldsBack_n40_ok 46 rfl
theorem dX9_fieldsBack_76 : decode cX9_fieldsBack 76 = .ok (.iload_n 2, 1) := tb_at tbX9_fieldsBack_n40_ok 47 rfl
theorem dX9_fieldsBack_77 : decode cX9_fieldsBack 77 = .ok (.aload_n 0, 1) := tb_at tbX9_fieldsBack_n40_ok 48 rfl
theorem dX9_fieldsBack_78 : decode cX9_fieldsBack 78 = .ok (.getfield 90, 3) := tb_at tbX9_fieldsBack_n40_ok 49 rfl
theorem dX9_fieldsBack_81 : decode cX9_fieldsBack 81 = .ok (.iload 8, 2) := tb_at tbX9_fieldsBack_n40_ok 50 rfl
theorem dX9_fieldsBack_83 : decode cX9_fieldsBack 83 = .ok (.iaload, 1) := tb_at tbX9_fieldsBack_n40_ok 51 rfl
theorem dX9_fieldsBack_84 : decode cX9_fieldsBack 84 = .ok (.iconst (-1), 1) := tb_at tbX9_fieldsBack_n40_ok 52 rfl
theorem dX9_fieldsBack_85 : decode cX9_fieldsBack 85 = .ok (.invokevirtual 216, 3) := tb_at tbX9_fieldsBack_n40_ok 53 rfl
theorem dX9_fieldsBack_88 : decode cX9_fieldsBack 88 = .ok (.ireturn, 1) := tb_at tbX9_fieldsBack_n40_ok 54 rfl
theorem dX9_fieldsBack_89 : decode cX9_fieldsBack 89 = .ok (.aload_n 0, 1) := tb_at tbX9_fieldsBack_n40_ok 55 rfl
theorem dX9_fieldsBack_90 : decode cX9_fieldsBack 90 = .ok (.getfield 20, 3) := tb_at tbX9_fieldsBack_n40_ok 56 rfl
theorem dX9_fieldsBack_93 : decode cX9_fieldsBack 93 = .ok (.iconst 5, 1) := tb_at tbX9_fieldsBack_n40_ok 57 rfl
theorem dX9_fieldsBack_94 : decode cX9_fieldsBack 94 = .ok (.iload 6, 2) := tb_at tbX9_fieldsBack_n40_ok 58 rfl
theorem dX9_fieldsBack_96 : decode cX9_fieldsBack 96 = .ok (.imul, 1) := tb_at tbX9_fieldsBack_n40_ok 59 rfl
theorem dX9_fieldsBack_97 : decode cX9_fieldsBack 97 = .ok (.iload 9, 2) := tb_at tbX9_fieldsBack_n40_ok 60 rfl
theorem dX9_fieldsBack_99 : decode cX9_fieldsBack 99 = .ok (.iadd, 1) := tb_at tbX9_fieldsBack_n40_ok 61 rfl
theorem dX9_fieldsBack_100 : decode cX9_fieldsBack 100 = .ok (.iaload, 1) := tb_at tbX9_fieldsBack_n40_ok 62 rfl
theorem dX9_fieldsBack_101 : decode cX9_fieldsBack 101 = .ok (.istore 10, 2) := tb_at tbX9_fieldsBack_n40_ok 63 rfl
theorem dX9_fieldsBack_103 : decode cX9_fieldsBack 103 = .ok (.aload_n 0, 1) := tb_at tbX9_fieldsBack_n40_ok 64 rfl
theorem dX9_fieldsBack_104 : decode cX9_fieldsBack 104 = .ok (.getfield 93, 3) := tb_at tbX9_fieldsBack_n40_ok 65 rfl
theorem dX9_fieldsBack_107 : decode cX9_fieldsBack 107 = .ok (.iload 8, 2) := tb_at tbX9_fieldsBack_n40_ok 66 rfl
theorem dX9_fieldsBack_109 : decode cX9_fieldsBack 109 = .ok (.iaload, 1) := tb_at tbX9_fieldsBack_n40_ok 67 rfl
theorem dX9_fieldsBack_110 : decode cX9_fieldsBack 110 = .ok (.iload 10, 2) := tb_at tbX9_fieldsBack_n40_ok 68 rfl
theorem dX9_fieldsBack_112 : decode cX9_fieldsBack 112 = .ok (.invokestatic 230, 3) := tb_at tbX9_fieldsBack_n40_ok 69 rfl
theorem dX9_fieldsBack_115 : decode cX9_fieldsBack 115 = .ok (.ifCond .ne 19, 3) := tb_at tbX9_fieldsBack_n40_ok 70 rfl
theorem dX9_fieldsBack_118 : decode cX9_fieldsBack 118 = .ok (.aload_n 0, 1) := tb_at tbX9_fieldsBack_n40_ok 71 rfl
theorem dX9_fieldsBack_119 : decode cX9_fieldsBack 119 = .ok (.bipush 9, 2) := tb_at tbX9_fieldsBack_n40_ok 72 rfl
theorem dX9_fieldsBack_121 : decode cX9_fieldsBack 121 = .ok (.iload_n 2, 1) := tb_at tbX9_fieldsBack_n40_ok 73 rfl
theorem dX9_fieldsBack_122 : decode cX9_fieldsBack 122 = .ok (.aload_n 0, 1) := tb_at tbX9_fieldsBack_n40_ok 74 rfl
theorem dX9_fieldsBack_123 : decode cX9_fieldsBack 123 = .ok (.getfield 90, 3) := tb_at tbX9_fieldsBack_n40_ok 75 rfl
theorem dX9_fieldsBack_126 : decode cX9_fieldsBack 126 = .ok (.iload 8, 2) := tb_at tbX9_fieldsBack_n40_ok 76 rfl
theorem dX9_fieldsBack_128 : decode cX9_fieldsBack 128 = .ok (.iaload, 1) := tb_at tbX9_fieldsBack_n40_ok 77 rfl
theorem dX9_fieldsBack_129 : decode cX9_fieldsBack 129 = .ok (.iconst (-1), 1) := tb_at tbX9_fieldsBack_n40_ok 78 rfl
theorem dX9_fieldsBack_130 : decode cX9_fieldsBack 130 = .ok (.invokevirtual 216, 3) := tb_at tbX9_fieldsBack_n40_ok 79 rfl
theorem dX9_fieldsBack_133 : decode cX9_fieldsBack 133 = .ok (.ireturn, 1) := tb_at tbX9_fieldsBack_n40_ok 80 rfl
theorem dX9_fieldsBack_134 : decode cX9_fieldsBack 134 = .ok (.aload_n 0, 1) := tb_at tbX9_fieldsBack_n40_ok 81 rfl
theorem dX9_fieldsBack_135 : decode cX9_fieldsBack 135 = .ok (.getfield 96, 3) := tb_at tbX9_fieldsBack_n40_ok 82 rfl
theorem dX9_fieldsBack_138 : decode cX9_fieldsBack 138 = .ok (.iload 8, 2) := tb_at tbX9_fieldsBack_n40_ok 83 rfl
theorem dX9_fieldsBack_140 : decode cX9_fieldsBack 140 = .ok (.laload, 1) := tb_at tbX9_fieldsBack_n40_ok 84 rfl
theorem dX9_fieldsBack_141 : decode cX9_fieldsBack 141 = .ok (.lstore 11, 2) := tb_at tbX9_fieldsBack_n40_ok 85 rfl
theorem dX9_fieldsBack_143 : decode cX9_fieldsBack 143 = .ok (.iload 10, 2) := tb_at tbX9_fieldsBack_n40_ok 86 rfl
theorem dX9_fieldsBack_145 : decode cX9_fieldsBack 145 = .ok (.iconst 1, 1) := tb_at tbX9_fieldsBack_n40_ok 87 rfl
theorem dX9_fieldsBack_146 : decode cX9_fieldsBack 146 = .ok (.if_icmp .ne 48, 3) := tb_at tbX9_fieldsBack_n40_ok 88 rfl
theorem dX9_fieldsBack_149 : decode cX9_fieldsBack 149 = .ok (.lload 11, 2) := tb_at tbX9_fieldsBack_n40_ok 89 rfl
theorem dX9_fieldsBack_151 : decode cX9_fieldsBack 151 = .ok (.lconst 0, 1) := tb_at tbX9_fieldsBack_n40_ok 90 rfl
theorem dX9_fieldsBack_152 : decode cX9_fieldsBack 152 = .ok (.lcmp, 1) := tb_at tbX9_fieldsBack_n40_ok 91 rfl
theorem dX9_fieldsBack_153 : decode cX9_fieldsBack 153 = .ok (.ifCond .lt 41, 3) := tb_at tbX9_fieldsBack_n40_ok 92 rfl
theorem dX9_fieldsBack_156 : decode cX9_fieldsBack 156 = .ok (.aload_n 0, 1) := tb_at tbX9_fieldsBack_n40_ok 93 rfl
theorem dX9_fieldsBack_157 : decode cX9_fieldsBack 157 = .ok (.getfield 7, 3) := tb_at tbX9_fieldsBack_n40_ok 94 rfl
theorem dX9_fieldsBack_160 : decode cX9_fieldsBack 160 = .ok (.lload 11, 2) := tb_at tbX9_fieldsBack_n40_ok 95 rfl
theorem dX9_fieldsBack_162 : decode cX9_fieldsBack 162 = .ok (.l2i, 1) := tb_at tbX9_fieldsBack_n40_ok 96 rfl
theorem dX9_fieldsBack_163 : decode cX9_fieldsBack 163 = .ok (.baload, 1) := tb_at tbX9_fieldsBack_n40_ok 97 rfl
theorem dX9_fieldsBack_164 : decode cX9_fieldsBack 164 = .ok (.ifCond .eq 30, 3) := tb_at tbX9_fieldsBack_n40_ok 98 rfl
theorem dX9_fieldsBack_167 : decode cX9_fieldsBack 167 = .ok (.iload_n 3, 1) := tb_at tbX9_fieldsBack_n40_ok 99 rfl
theorem dX9_fieldsBack_168 : decode cX9_fieldsBack 168 = .ok (.iconst 2, 1) := tb_at tbX9_fieldsBack_n40_ok 100 rfl
theorem dX9_fieldsBack_169 : decode cX9_fieldsBack 169 = .ok (.iand, 1) := tb_at tbX9_fieldsBack_n40_ok 101 rfl
theorem dX9_fieldsBack_170 : decode cX9_fieldsBack 170 = .ok (.ifCond .ne 19, 3) := tb_at tbX9_fieldsBack_n40_ok 102 rfl
theorem dX9_fieldsBack_173 : decode cX9_fieldsBack 173 = .ok (.aload_n 0, 1) := tb_at tbX9_fieldsBack_n40_ok 103 rfl
theorem dX9_fieldsBack_174 : decode cX9_fieldsBack 174 = .ok (.bipush 7, 2) := tb_at tbX9_fieldsBack_n40_ok 104 rfl
theorem dX9_fieldsBack_176 : decode cX9_fieldsBack 176 = .ok (.iload_n 2, 1) := tb_at tbX9_fieldsBack_n40_ok 105 rfl
theorem dX9_fieldsBack_177 : decode cX9_fieldsBack 177 = .ok (.aload_n 0, 1) := tb_at tbX9_fieldsBack_n40_ok 106 rfl
theorem dX9_fieldsBack_178 : decode cX9_fieldsBack 178 = .ok (.getfield 90, 3) := tb_at tbX9_fieldsBack_n40_ok 107 rfl
theorem dX9_fieldsBack_181 : decode cX9_fieldsBack 181 = .ok (.iload 8, 2) := tb_at tbX9_fieldsBack_n40_ok 108 rfl
theorem dX9_fieldsBack_183 : decode cX9_fieldsBack 183 = .ok (.iaload, 1) := tb_at tbX9_fieldsBack_n40_ok 109 rfl
theorem dX9_fieldsBack_184 : decode cX9_fieldsBack 184 = .ok (.iconst (-1), 1) := tb_at tbX9_fieldsBack_n40_ok 110 rfl
theorem dX9_fieldsBack_185 : decode cX9_fieldsBack 185 = .ok (.invokevirtual 216, 3) := tb_at tbX9_fieldsBack_n40_ok 111 rfl
theorem dX9_fieldsBack_188 : decode cX9_fieldsBack 188 = .ok (.ireturn, 1) := tb_at tbX9_fieldsBack_n40_ok 112 rfl
theorem dX9_fieldsBack_189 : decode cX9_fieldsBack 189 = .ok (.ldc2_w 168, 3) := tb_at tbX9_fieldsBack_n40_ok 113 rfl
theorem dX9_fieldsBack_192 : decode cX9_fieldsBack 192 = .ok (.lstore 11, 2) := tb_at tbX9_fieldsBack_n40_ok 114 rfl
theorem dX9_fieldsBack_194 : decode cX9_fieldsBack 194 = .ok (.aload_n 0, 1) := tb_at tbX9_fieldsBack_n40_ok 115 rfl
theorem dX9_fieldsBack_195 : decode cX9_fieldsBack 195 = .ok (.getfield 48, 3) := tb_at tbX9_fieldsBack_n40_ok 116 rfl
theorem dX9_fieldsBack_198 : decode cX9_fieldsBack 198 = .ok (.iconst 5, 1) := tb_at tbX9_fieldsBack_n40_ok 117 rfl
theorem dX9_fieldsBack_199 : decode cX9_fieldsBack 199 = .ok (.iload 5, 2) := tb_at tbX9_fieldsBack_n40_ok 118 rfl
theorem dX9_fieldsBack_201 : decode cX9_fieldsBack 201 = .ok (.imul, 1) := tb_at tbX9_fieldsBack_n40_ok 119 rfl
noncomputable def tbX9_fieldsBack_n41 : List (Nat × Instr × Nat) := [(202, (.iload 9), 2), (204, .iadd, 1), (205, (.iload 10), 2), (207, (.iconst 2), 1), (208, (.if_icmp .lt 10), 3), (211, (.lload 11), 2), (213, (.lconst 0), 1), (214, .lcmp, 1), (215, (.ifCond .ge 8), 3), (218, (.lload 11), 2), (220, (.goto 29), 3), (223, (.iload 10), 2), (225, (.iconst 2), 1), (226, (.if_icmp .ne 12), 3), (229, (.iload 4), 2), (231, .i2l, 1), (232, (.lload 11), 2), (234, .ladd, 1), (235, (.goto 14), 3), (238, (.aload_n 0), 1), (239, (.iload_n 1), 1), (240, (.lload 11), 2), (242, .l2i, 1), (243, (.iload 10), 2), (245, (.invokevirtual 233), 3), (248, .i2l, 1), (249, .lastore, 1), (250, (.iinc 7 1), 3), (253, (.goto (-235)), 3), (256, (.iconst 0), 1), (257, .ireturn, 1)]
theorem tbX9_fieldsBack_n41_ok : ∀ q ∈ tbX9_fieldsBack_n41, decode cX9_fieldsBack q.1 = .ok q.2 := by decide +kernel
theorem dX9_fieldsBack_202 : decode cX9_fieldsBack 202 = .ok (.iload 9, 2) := tb_at tbX9_fieldsBack_n41_ok 0 rfl
theorem dX9_fieldsBack_204 : decode cX9_fieldsBack 204 = .ok (.iadd, 1) := tb_at tbX9_fieldsBack_n41_ok 1 rfl
theorem dX9_fieldsBack_205 : decode cX9_fieldsBack 205 = .ok (.iload 10, 2) := tb_at tbX9_fieldsBack_n41_ok 2 rfl
theorem dX9_fieldsBack_207 : decode cX9_fieldsBack 207 = .ok (.iconst 2, 1) := tb_at tbX9_fieldsBack_n41_ok 3 rfl
theorem dX9_fieldsBack_208 : decode cX9_fieldsBack 208 = .ok (.if_icmp .lt 10, 3) := tb_at tbX9_fieldsBack_n41_ok 4 rfl
theorem dX9_fieldsBack_211 : decode cX9_fieldsBack 211 = .ok (.lload 11, 2) := tb_at tbX9_fieldsBack_n41_ok 5 rfl
theorem dX9_fieldsBack_213 : decode cX9_fieldsBack 213 = .ok (.lconst 0, 1) := tb_at tbX9_fieldsBack_n41_ok 6 rfl
theorem dX9_fieldsBack_214 : decode cX9_fieldsBack 214 = .ok (.lcmp, 1) := tb_at tbX9_fieldsBack_n41_ok 7 rfl
theorem dX9_fieldsBack_215 : decode cX9_fieldsBack 215 = .ok (.ifCond .ge 8, 3) := tb_at tbX9_fieldsBack_n41_ok 8 rfl
theorem dX9_fieldsBack_218 : decode cX9_fieldsBack 218 = .ok (.lload 11, 2) := tb_at tbX9_fieldsBack_n41_ok 9 rfl
theorem dX9_fieldsBack_220 : decode cX9_fieldsBack 220 = .ok (.goto 29, 3) := tb_at tbX9_fieldsBack_n41_ok 10 rfl
theorem dX9_fieldsBack_223 : decode cX9_fieldsBack 223 = .ok (.iload 10, 2) := tb_at tbX9_fieldsBack_n41_ok 11 rfl
theorem dX9_fieldsBack_225 : decode cX9_fieldsBack 225 = .ok (.iconst 2, 1) := tb_at tbX9_fieldsBack_n41_ok 12 rfl
theorem dX9_fieldsBack_226 : decode cX9_fieldsBack 226 = .ok (.if_icmp .ne 12, 3) := tb_at tbX9_fieldsBack_n41_ok 13 rfl
theorem dX9_fieldsBack_229 : decode cX9_fieldsBack 229 = .ok (.iload 4, 2) := tb_at tbX9_fieldsBack_n41_ok 14 rfl
theorem dX9_fieldsBack_231 : decode cX9_fieldsBack 231 = .ok (.i2l, 1) := tb_at tbX9_fieldsBack_n41_ok 15 rfl
theorem dX9_fieldsBack_232 : decode cX9_fieldsBack 232 = .ok (.lload 11, 2) := tb_at tbX9_fieldsBack_n41_ok 16 rfl
theorem dX9_fieldsBack_234 : decode cX9_fieldsBack 234 = .ok (.ladd, 1) := tb_at tbX9_fieldsBack_n41_ok 17 rfl
theorem dX9_fieldsBack_235 : decode cX9_fieldsBack 235 = .ok (.goto 14, 3) := tb_at tbX9_fieldsBack_n41_ok 18 rfl
theorem dX9_fieldsBack_238 : decode cX9_fieldsBack 238 = .ok (.aload_n 0, 1) := tb_at tbX9_fieldsBack_n41_ok 19 rfl
theorem dX9_fieldsBack_239 : decode cX9_fieldsBack 239 = .ok (.iload_n 1, 1) := tb_at tbX9_fieldsBack_n41_ok 20 rfl
theorem dX9_fieldsBack_240 : decode cX9_fieldsBack 240 = .ok (.lload 11, 2) := tb_at tbX9_fieldsBack_n41_ok 21 rfl
theorem dX9_fieldsBack_242 : decode cX9_fieldsBack 242 = .ok (.l2i, 1) := tb_at tbX9_fieldsBack_n41_ok 22 rfl
theorem dX9_fieldsBack_243 : decode cX9_fieldsBack 243 = .ok (.iload 10, 2) := tb_at tbX9_fieldsBack_n41_ok 23 rfl
theorem dX9_fieldsBack_245 : decode cX9_fieldsBack 245 = .ok (.invokevirtual 233, 3) := tb_at tbX9_fieldsBack_n41_ok 24 rfl
theorem dX9_fieldsBack_248 : decode cX9_fieldsBack 248 = .ok (.i2l, 1) := tb_at tbX9_fieldsBack_n41_ok 25 rfl
theorem dX9_fieldsBack_249 : decode cX9_fieldsBack 249 = .ok (.lastore, 1) := tb_at tbX9_fieldsBack_n41_ok 26 rfl
theorem dX9_fieldsBack_250 : decode cX9_fieldsBack 250 = .ok (.iinc 7 1, 3) := tb_at tbX9_fieldsBack_n41_ok 27 rfl
theorem dX9_fieldsBack_253 : decode cX9_fieldsBack 253 = .ok (.goto (-235), 3) := tb_at tbX9_fieldsBack_n41_ok 28 rfl
theorem dX9_fieldsBack_256 : decode cX9_fieldsBack 256 = .ok (.iconst 0, 1) := tb_at tbX9_fieldsBack_n41_ok 29 rfl
theorem dX9_fieldsBack_257 : decode cX9_fieldsBack 257 = .ok (.ireturn, 1) := tb_at tbX9_fieldsBack_n41_ok 30 rfl
set_option maxRecDepth 20000 in
theorem ggX9_restore_X9_isSave : GoodIn wsX9_restore wsX9_isSave := goodIn_r _ [15] (by decide +kernel) (by decide +kernel)
set_option maxRecDepth 20000 in
theorem gX9_restore_X9_isSave : GoodIn wsX9_restore (wsV RX9 223 RX9 yX9_isSave wsX9_isSave) := goodIn_app (goodIn_of _ (by decide +kernel)) ggX9_restore_X9_isSave
set_option maxRecDepth 20000 in
theorem ggX9_restore_X9_fieldsBack : GoodIn wsX9_restore wsX9_fieldsBack := goodIn_r _ [19, 6, 20, 21, 22, 23, 24, 25, 26, 8, 27, 28, 29, 14, 30, 7, 31, 32, 33, 34, 35, 36, 37, 38, 39, 40, 41, 42, 43, 44, 45, 4, 46, 47, 48, 49, 50, 51, 52, 53, 3, 54, 55, 56, 57, 58, 59, 60, 61, 80, 81, 82, 83, 84, 85, 86, 87, 88, 89, 90, 91, 92, 93, 94, 95, 96, 97, 98, 99, 100, 101, 102, 103, 104, 105, 106, 107, 108, 109, 110, 111, 112, 113, 114, 115, 116, 117, 118, 119, 120, 121, 122, 123, 124, 125, 126, 127, 128, 129, 130] (by decide +kernel) (by decide +kernel)
set_option maxRecDepth 20000 in
theorem gX9_restore_X9_fieldsBack : GoodIn wsX9_restore (wsV RX9 237 RX9 yX9_fieldsBack wsX9_fieldsBack) := goodIn_app (goodIn_of _ (by decide +kernel)) ggX9_restore_X9_fieldsBack
set_option maxRecDepth 20000 in
theorem ggX9_restore_X9_judged : GoodIn wsX9_restore wsX9_judged := goodIn_r _ [65, 6, 66, 10, 67, 68, 69, 14, 70, 71, 72, 73, 8, 7, 74, 57, 47, 75, 31, 76, 77, 78, 79, 58, 59, 60, 61, 22, 27, 28, 29, 30, 80, 81, 82, 83, 84, 85, 86, 87, 88, 89, 90, 91, 92, 93, 94, 95, 96, 97, 98, 99, 100, 101, 102, 103, 104, 105, 106, 107, 108, 109, 110, 111, 112, 113, 114, 115, 116, 117, 118, 119, 120, 121, 122, 123, 124, 125, 126, 127, 128, 129, 130] (by decide +kernel) (by decide +kernel)
set_option maxRecDepth 20000 in
theorem gX9_restore_X9_judged : GoodIn wsX9_restore (wsV RX9 209 RX9 yX9_judged wsX9_judged) := goodIn_app (goodIn_of _ (by decide +kernel)) ggX9_restore_X9_judged
set_option maxRecDepth 20000 in
theorem ggX9_restore_X9_faulty : GoodIn wsX9_restore wsX9_faulty := goodIn_r _ [35, 36, 37, 38, 80, 81, 82, 83, 84, 85, 86, 87, 88, 89, 90, 91, 92, 93, 94, 95, 96, 97, 98, 99, 100, 101, 102, 103, 104, 105, 106, 107, 108, 109, 110, 111, 112, 113, 114, 115, 116, 117, 118, 119, 120, 121, 122, 123, 124, 125, 126, 127, 128, 129, 130] (by decide +kernel) (by decide +kernel)
set_option maxRecDepth 20000 in
theorem gX9_restore_X9_faulty : GoodIn wsX9_restore (wsV RX9 216 RX9 yX9_faulty wsX9_faulty) := goodIn_app (goodIn_of _ (by decide +kernel)) ggX9_restore_X9_faulty
noncomputable def tbX9_restore_n40 : List (Nat × Instr × Nat) := [(0, (.aload_n 0), 1), (1, (.iconst 0), 1), (2, (.putfield 145), 3), (5, (.aload_n 0), 1), (6, (.iload_n 1), 1), (7, (.invokevirtual 223), 3), (10, (.ifCond .eq 12), 3), (13, (.aload_n 0), 1), (14, (.getfield 81), 3), (17, (.iload_n 1), 1), (18, .iaload, 1), (19, (.ifCond .ne 5), 3), (22, (.iconst (-1)), 1), (23, .ireturn, 1), (24, (.iload_n 2), 1), (25, (.ifCond .lt 8), 3), (28, (.iload_n 2), 1), (29, (.iconst 3), 1), (30, (.if_icmp .le 6), 3), (33, (.bipush (-2)), 2), (35, .ireturn, 1), (36, (.aload_n 0), 1), (37, (.getfield 151), 3), (40, (.istore_n 3), 1), (41, (.aload_n 0), 1), (42, (.getfield 81), 3), (45, (.iload_n 1), 1), (46, .iaload, 1), (47, (.istore 4), 2), (49, (.iload_n 3), 1), (50, (.iload 4), 2), (52, .iadd, 1), (53, (.bipush 30), 2), (55, (.if_icmp .le 6), 3), (58, (.bipush (-4)), 2), (60, .ireturn, 1), (61, (.iconst 0), 1), (62, (.istore 5), 2), (64, (.iload 5), 2), (66, (.sipush 450), 3), (69, (.if_icmp .ge 17), 3), (72, (.aload_n 0), 1), (73, (.getfield 127), 3), (76, (.iload 5), 2), (78, (.iconst (-1)), 1), (79, .iastore, 1), (80, (.iinc 5 1), 3), (83, (.goto (-19)), 3), (86, (.iconst 0), 1), (87, (.istore 5), 2), (89, (.iload 5), 2), (91, (.iload 4), 2), (93, (.if_icmp .ge 81), 3), (96, (.aload_n 0), 1), (97, (.getfield 84), 3), (100, (.bipush 30), 2), (102, (.iload_n 1), 1), (103, .imul, 1), (104, (.iload 5), 2), (106, .iadd, 1), (107, .iaload, 1), (108, (.istore 6), 2), (110, (.aload_n 0), 1), (111, (.getfield 45), 3), (114, (.iload_n 3), 1), (115, (.iload 5), 2), (117, .iadd, 1), (118, (.iload 6), 2), (120, .iastore, 1), (121, (.iconst 0), 1), (122, (.istore 7), 2), (124, (.iload 7), 2), (126, (.aload_n 0), 1), (127, (.getfield 13), 3), (130, (.iload 6), 2), (132, .iaload, 1), (133, (.if_icmp .ge 35), 3), (136, (.aload_n 0), 1), (137, (.getfield 48), 3), (140, (.iconst 5), 1), (141, (.iload_n 3), 1), (142, (.iload 5), 2), (144, .iadd, 1), (145, .imul, 1), (146, (.iload 7), 2), (148, .iadd, 1), (149, (.aload_n 0), 1), (150, (.getfield 23), 3), (153, (.iconst 5), 1), (154, (.iload 6), 2), (156, .imul, 1), (157, (.iload 7), 2), (159, .iadd, 1), (160, .laload, 1), (161, .lastore, 1), (162, (.iinc 7 1), 3), (165, (.goto (-41)), 3), (168, (.iinc 5 1), 3), (171, (.goto (-82)), 3), (174, (.aload_n 0), 1), (175, .dup, 1), (176, (.getfield 151), 3), (179, (.iload 4), 2), (181, .iadd, 1), (182, (.putfield 151), 3), (185, (.iconst 0), 1), (186, (.istore 5), 2), (188, (.iload 5), 2), (190, (.iload 4), 2), (192, (.if_icmp .ge 33), 3), (195, (.aload_n 0), 1), (196, (.iload_n 1), 1), (197, (.iload 5), 2), (199, (.iload_n 2), 1), (200, (.iload_n 3), 1), (201, (.invokevirtual 237), 3), (204, (.istore 6), 2), (206, (.iload 6), 2), (208, (.ifCond .eq 11), 3), (211, (.aload_n 0), 1)]
theorem tbX9_restore_n40_ok : ∀ q ∈ tbX9_restore_n40, decode cX9_restore q.1 = .ok q.2 := by decide +kernel
theorem dX9_restore_0 : decode cX9_restore 0 = .ok (.aload_n 0, 1) := tb_at tbX9_restore_n40_ok 0 rfl
theorem dX9_restore_1 : decode cX9_restore 1 = .ok (.iconst 0, 1) := tb_at tbX9_restore_n40_ok 1 rfl
theorem dX9_restore_2 : decode cX9_restore 2 = .ok (.putfield 145, 3) := tb_at tbX9_restore_n40_ok 2 rfl
theorem dX9_restore_5 : decode cX9_restore 5 = .ok (.aload_n 0, 1) := tb_at tbX9_restore_n40_ok 3 rfl
theorem dX9_restore_6 : decode cX9_restore 6 = .ok (.iload_n 1, 1) := tb_at tbX9_restore_n40_ok 4 rfl
theorem dX9_restore_7 : decode cX9_restore 7 = .ok (.invokevirtual 223, 3) := tb_at tbX9_restore_n40_ok 5 rfl
theorem dX9_restore_10 : decode cX9_restore 10 = .ok (.ifCond .eq 12, 3) := tb_at tbX9_restore_n40_ok 6 rfl
theorem dX9_restore_13 : decode cX9_restore 13 = .ok (.aload_n 0, 1) := tb_at tbX9_restore_n40_ok 7 rfl
theorem dX9_restore_14 : decode cX9_restore 14 = .ok (.getfield 81, 3) := tb_at tbX9_restore_n40_ok 8 rfl
theorem dX9_restore_17 : decode cX9_restore 17 = .ok (.iload_n 1, 1) := tb_at tbX9_restore_n40_ok 9 rfl
theorem dX9_restore_18 : decode cX9_restore 18 = .ok (.iaload, 1) := tb_at tbX9_restore_n40_ok 10 rfl
theorem dX9_restore_19 : decode cX9_restore 19 = .ok (.ifCond .ne 5, 3) := tb_at tbX9_restore_n40_ok 11 rfl
theorem dX9_restore_22 : decode cX9_restore 22 = .ok (.iconst (-1), 1) := tb_at tbX9_restore_n40_ok 12 rfl
theorem dX9_restore_23 : decode cX9_restore 23 = .ok (.ireturn, 1) := tb_at tbX9_restore_n40_ok 13 rfl
theorem dX9_restore_24 : decode cX9_restore 24 = .ok (.iload_n 2, 1) := tb_at tbX9_restore_n40_ok 14 rfl
theorem dX9_restore_25 : decode cX9_restore 25 = .ok (.ifCond .lt 8, 3) := tb_at tbX9_restore_n40_ok 15 rfl
theorem dX9_restore_28 : decode cX9_restore 28 = .ok (.iload_n 2, 1) := tb_at tbX9_restore_n40_ok 16 rfl
theorem dX9_restore_29 : decode cX9_restore 29 = .ok (.iconst 3, 1) := tb_at tbX9_restore_n40_ok 17 rfl
theorem dX9_restore_30 : decode cX9_restore 30 = .ok (.if_icmp .le 6, 3) := tb_at tbX9_restore_n40_ok 18 rfl
theorem dX9_restore_33 : decode cX9_restore 33 = .ok (.bipush (-2), 2) := tb_at tbX9_restore_n40_ok 19 rfl
theorem dX9_restore_35 : decode cX9_restore 35 = .ok (.ireturn, 1) := tb_at tbX9_restore_n40_ok 20 rfl
theorem dX9_restore_36 : decode cX9_restore 36 = .ok (.aload_n 0, 1) := tb_at tbX9_restore_n40_ok 21 rfl
theorem dX9_restore_37 : decode cX9_restore 37 = .ok (.getfield 151, 3) := tb_at tbX9_restore_n40_ok 22 rfl
theorem dX9_restore_40 : decode cX9_restore 40 = .ok (.istore_n 3, 1) := tb_at tbX9_restore_n40_ok 23 rfl
theorem dX9_restore_41 : decode cX9_restore 41 = .ok (.aload_n 0, 1) := tb_at tbX9_restore_n40_ok 24 rfl
theorem dX9_restore_42 : decode cX9_restore 42 = .ok (.getfield 81, 3) := tb_at tbX9_restore_n40_ok 25 rfl
theorem dX9_restore_45 : decode cX9_restore 45 = .ok (.iload_n 1, 1) := tb_at tbX9_restore_n40_ok 26 rfl
theorem dX9_restore_46 : decode cX9_restore 46 = .ok (.iaload, 1) := tb_at tbX9_restore_n40_ok 27 rfl
theorem dX9_restore_47 : decode cX9_restore 47 = .ok (.istore 4, 2) := tb_at tbX9_restore_n40_ok 28 rfl
theorem dX9_restore_49 : decode cX9_restore 49 = .ok (.iload_n 3, 1) := tb_at tbX9_restore_n40_ok 29 rfl
theorem dX9_restore_50 : decode cX9_restore 50 = .ok (.iload 4, 2) := tb_at tbX9_restore_n40_ok 30 rfl
theorem dX9_restore_52 : decode cX9_restore 52 = .ok (.iadd, 1) := tb_at tbX9_restore_n40_ok 31 rfl
theorem dX9_restore_53 : decode cX9_restore 53 = .ok (.bipush 30, 2) := tb_at tbX9_restore_n40_ok 32 rfl
theorem dX9_restore_55 : decode cX9_restore 55 = .ok (.if_icmp .le 6, 3) := tb_at tbX9_restore_n40_ok 33 rfl
theorem dX9_restore_58 : decode cX9_restore 58 = .ok (.bipush (-4), 2) := tb_at tbX9_restore_n40_ok 34 rfl
theorem dX9_restore_60 : decode cX9_restore 60 = .ok (.ireturn, 1) := tb_at tbX9_restore_n40_ok 35 rfl
theorem dX9_restore_61 : decode cX9_restore 61 = .ok (.iconst 0, 1) := tb_at tbX9_restore_n40_ok 36 rfl
theorem dX9_restore_62 : decode cX9_restore 62 = .ok (.istore 5, 2) := tb_at tbX9_restore_n40_ok 37 rfl
theorem dX9_restore_64 : decode cX9_restore 64 = .ok (.iload 5, 2) := tb_at tbX9_restore_n40_ok 38 rfl
theorem dX9_restore_66 : decode cX9_restore 66 = .ok (.sipush 450, 3) := tb_at tbX9_restore_n40_ok 39 rfl
theorem dX9_restore_69 : decode cX9_restore 69 = .ok (.if_icmp .ge 17, 3) := tb_at tbX9_restore_n40_ok 40 rfl
theorem dX9_restore_72 : decode cX9_restore 72 = .ok (.aload_n 0, 1) := tb_at tbX9_restore_n40_ok 41 rfl
theorem dX9_restore_73 : decode cX9_restore 73 = .ok (.getfield 127, 3) := tb_at tbX9_restore_n40_ok 42 rfl
theorem dX9_restore_76 : decode cX9_restore 76 = .ok (.iload 5, 2) := tb_at tbX9_restore_n40_ok 43 rfl
theorem dX9_restore_78 : decode cX9_restore 78 = .ok (.iconst (-1), 1) := tb_at tbX9_restore_n40_ok 44 rfl
theorem dX9_restore_79 : decode cX9_restore 79 = .ok (.iastore, 1) := tb_at tbX9_restore_n40_ok 45 rfl
theorem dX9_restore_80 : decode cX9_restore 80 = .ok (.iinc 5 1, 3) := tb_at tbX9_restore_n40_ok 46 rfl
theorem dX9_restore_83 : decode cX9_restore 83 = .ok (.goto (-19), 3) := tb_at tbX9_restore_n40_ok 47 rfl
theorem dX9_restore_86 : decode cX9_restore 86 = .ok (.iconst 0, 1) := tb_at tbX9_restore_n40_ok 48 rfl
theorem dX9_restore_87 : decode cX9_restore 87 = .ok (.istore 5, 2) := tb_at tbX9_restore_n40_ok 49 rfl
theorem dX9_restore_89 : decode cX9_restore 89 = .ok (.iload 5, 2) := tb_at tbX9_restore_n40_ok 50 rfl
theorem dX9_restore_91 : decode cX9_restore 91 = .ok (.iload 4, 2) := tb_at tbX9_restore_n40_ok 51 rfl
theorem dX9_restore_93 : decode cX9_restore 93 = .ok (.if_icmp .ge 81, 3) := tb_at tbX9_restore_n40_ok 52 rfl
theorem dX9_restore_96 : decode cX9_restore 96 = .ok (.aload_n 0, 1) := tb_at tbX9_restore_n40_ok 53 rfl
theorem dX9_restore_97 : decode cX9_restore 97 = .ok (.getfield 84, 3) := tb_at tbX9_restore_n40_ok 54 rfl
theorem dX9_restore_100 : decode cX9_restore 100 = .ok (.bipush 30, 2) := tb_at tbX9_restore_n40_ok 55 rfl
theorem dX9_restore_102 : decode cX9_restore 102 = .ok (.iload_n 1, 1) := tb_at tbX9_restore_n40_ok 56 rfl
theorem dX9_restore_103 : decode cX9_restore 103 = .ok (.imul, 1) := tb_at tbX9_restore_n40_ok 57 rfl
theorem dX9_restore_104 : decode cX9_restore 104 = .ok (.iload 5, 2) := tb_at tbX9_restore_n40_ok 58 rfl
theorem dX9_restore_106 : decode cX9_restore 106 = .ok (.iadd, 1) := tb_at tbX9_restore_n40_ok 59 rfl
theorem dX9_restore_107 : decode cX9_restore 107 = .ok (.iaload, 1) := tb_at tbX9_restore_n40_ok 60 rfl
theorem dX9_restore_108 : decode cX9_restore 108 = .ok (.istore 6, 2) := tb_at tbX9_restore_n40_ok 61 rfl
theorem dX9_restore_110 : decode cX9_restore 110 = .ok (.aload_n 0, 1) := tb_at tbX9_restore_n40_ok 62 rfl
theorem dX9_restore_111 : decode cX9_restore 111 = .ok (.getfield 45, 3) := tb_at tbX9_restore_n40_ok 63 rfl
theorem dX9_restore_114 : decode cX9_restore 114 = .ok (.iload_n 3, 1) := tb_at tbX9_restore_n40_ok 64 rfl
theorem dX9_restore_115 : decode cX9_restore 115 = .ok (.iload 5, 2) := tb_at tbX9_restore_n40_ok 65 rfl
theorem dX9_restore_117 : decode cX9_restore 117 = .ok (.iadd, 1) := tb_at tbX9_restore_n40_ok 66 rfl
theorem dX9_restore_118 : decode cX9_restore 118 = .ok (.iload 6, 2) := tb_at tbX9_restore_n40_ok 67 rfl
theorem dX9_restore_120 : decode cX9_restore 120 = .ok (.iastore, 1) := tb_at tbX9_restore_n40_ok 68 rfl
theorem dX9_restore_121 : decode cX9_restore 121 = .ok (.iconst 0, 1) := tb_at tbX9_restore_n40_ok 69 rfl
theorem dX9_restore_122 : decode cX9_restore 122 = .ok (.istore 7, 2) := tb_at tbX9_restore_n40_ok 70 rfl
theorem dX9_restore_124 : decode cX9_restore 124 = .ok (.iload 7, 2) := tb_at tbX9_restore_n40_ok 71 rfl
theorem dX9_restore_126 : decode cX9_restore 126 = .ok (.aload_n 0, 1) := tb_at tbX9_restore_n40_ok 72 rfl
theorem dX9_restore_127 : decode cX9_restore 127 = .ok (.getfield 13, 3) := tb_at tbX9_restore_n40_ok 73 rfl
theorem dX9_restore_130 : decode cX9_restore 130 = .ok (.iload 6, 2) := tb_at tbX9_restore_n40_ok 74 rfl
theorem dX9_restore_132 : decode cX9_restore 132 = .ok (.iaload, 1) := tb_at tbX9_restore_n40_ok 75 rfl
theorem dX9_restore_133 : decode cX9_restore 133 = .ok (.if_icmp .ge 35, 3) := tb_at tbX9_restore_n40_ok 76 rfl
theorem dX9_restore_136 : decode cX9_restore 136 = .ok (.aload_n 0, 1) := tb_at tbX9_restore_n40_ok 77 rfl
theorem dX9_restore_137 : decode cX9_restore 137 = .ok (.getfield 48, 3) := tb_at tbX9_restore_n40_ok 78 rfl
theorem dX9_restore_140 : decode cX9_restore 140 = .ok (.iconst 5, 1) := tb_at tbX9_restore_n40_ok 79 rfl
theorem dX9_restore_141 : decode cX9_restore 141 = .ok (.iload_n 3, 1) := tb_at tbX9_restore_n40_ok 80 rfl
theorem dX9_restore_142 : decode cX9_restore 142 = .ok (.iload 5, 2) := tb_at tbX9_restore_n40_ok 81 rfl
theorem dX9_restore_144 : decode cX9_restore 144 = .ok (.iadd, 1) := tb_at tbX9_restore_n40_ok 82 rfl
theorem dX9_restore_145 : decode cX9_restore 145 = .ok (.imul, 1) := tb_at tbX9_restore_n40_ok 83 rfl
theorem dX9_restore_146 : decode cX9_restore 146 = .ok (.iload 7, 2) := tb_at tbX9_restore_n40_ok 84 rfl
theorem dX9_restore_148 : decode cX9_restore 148 = .ok (.iadd, 1) := tb_at tbX9_restore_n40_ok 85 rfl
theorem dX9_restore_149 : decode cX9_restore 149 = .ok (.aload_n 0, 1) := tb_at tbX9_restore_n40_ok 86 rfl
theorem dX9_restore_150 : decode cX9_restore 150 = .ok (.getfield 23, 3) := tb_at tbX9_restore_n40_ok 87 rfl
theorem dX9_restore_153 : decode cX9_restore 153 = .ok (.iconst 5, 1) := tb_at tbX9_restore_n40_ok 88 rfl
theorem dX9_restore_154 : decode cX9_restore 154 = .ok (.iload 6, 2) := tb_at tbX9_restore_n40_ok 89 rfl
theorem dX9_restore_156 : decode cX9_restore 156 = .ok (.imul, 1) := tb_at tbX9_restore_n40_ok 90 rfl
theorem dX9_restore_157 : decode cX9_restore 157 = .ok (.iload 7, 2) := tb_at tbX9_restore_n40_ok 91 rfl
theorem dX9_restore_159 : decode cX9_restore 159 = .ok (.iadd, 1) := tb_at tbX9_restore_n40_ok 92 rfl
theorem dX9_restore_160 : decode cX9_restore 160 = .ok (.laload, 1) := tb_at tbX9_restore_n40_ok 93 rfl
theorem dX9_restore_161 : decode cX9_restore 161 = .ok (.lastore, 1) := tb_at tbX9_restore_n40_ok 94 rfl
theorem dX9_restore_162 : decode cX9_restore 162 = .ok (.iinc 7 1, 3) := tb_at tbX9_restore_n40_ok 95 rfl
theorem dX9_restore_165 : decode cX9_restore 165 = .ok (.goto (-41), 3) := tb_at tbX9_restore_n40_ok 96 rfl
theorem dX9_restore_168 : decode cX9_restore 168 = .ok (.iinc 5 1, 3) := tb_at tbX9_restore_n40_ok 97 rfl
theorem dX9_restore_171 : decode cX9_restore 171 = .ok (.goto (-82), 3) := tb_at tbX9_restore_n40_ok 98 rfl
theorem dX9_restore_174 : decode cX9_restore 174 = .ok (.aload_n 0, 1) := tb_at tbX9_restore_n40_ok 99 rfl
theorem dX9_restore_175 : decode cX9_restore 175 = .ok (.dup, 1) := tb_at tbX9_restore_n40_ok 100 rfl
theorem dX9_restore_176 : decode cX9_restore 176 = .ok (.getfield 151, 3) := tb_at tbX9_restore_n40_ok 101 rfl
theorem dX9_restore_179 : decode cX9_restore 179 = .ok (.iload 4, 2) := tb_at tbX9_restore_n40_ok 102 rfl
theorem dX9_restore_181 : decode cX9_restore 181 = .ok (.iadd, 1) := tb_at tbX9_restore_n40_ok 103 rfl
theorem dX9_restore_182 : decode cX9_restore 182 = .ok (.putfield 151, 3) := tb_at tbX9_restore_n40_ok 104 rfl
theorem dX9_restore_185 : decode cX9_restore 185 = .ok (.iconst 0, 1) := tb_at tbX9_restore_n40_ok 105 rfl
theorem dX9_restore_186 : decode cX9_restore 186 = .ok (.istore 5, 2) := tb_at tbX9_restore_n40_ok 106 rfl
theorem dX9_restore_188 : decode cX9_restore 188 = .ok (.iload 5, 2) := tb_at tbX9_restore_n40_ok 107 rfl
theorem dX9_restore_190 : decode cX9_restore 190 = .ok (.iload 4, 2) := tb_at tbX9_restore_n40_ok 108 rfl
theorem dX9_restore_192 : decode cX9_restore 192 = .ok (.if_icmp .ge 33, 3) := tb_at tbX9_restore_n40_ok 109 rfl
theorem dX9_restore_195 : decode cX9_restore 195 = .ok (.aload_n 0, 1) := tb_at tbX9_restore_n40_ok 110 rfl
theorem dX9_restore_196 : decode cX9_restore 196 = .ok (.iload_n 1, 1) := tb_at tbX9_restore_n40_ok 111 rfl
theorem dX9_restore_197 : decode cX9_restore 197 = .ok (.iload 5, 2) := tb_at tbX9_restore_n40_ok 112 rfl
theorem dX9_restore_199 : decode cX9_restore 199 = .ok (.iload_n 2, 1) := tb_at tbX9_restore_n40_ok 113 rfl
theorem dX9_restore_200 : decode cX9_restore 200 = .ok (.iload_n 3, 1) := tb_at tbX9_restore_n40_ok 114 rfl
theorem dX9_restore_201 : decode cX9_restore 201 = .ok (.invokevirtual 237, 3) := tb_at tbX9_restore_n40_ok 115 rfl
theorem dX9_restore_204 : decode cX9_restore 204 = .ok (.istore 6, 2) := tb_at tbX9_restore_n40_ok 116 rfl
theorem dX9_restore_206 : decode cX9_restore 206 = .ok (.iload 6, 2) := tb_at tbX9_restore_n40_ok 117 rfl
theorem dX9_restore_208 : decode cX9_restore 208 = .ok (.ifCond .eq 11, 3) := tb_at tbX9_restore_n40_ok 118 rfl
theorem dX9_restore_211 : decode cX9_restore 211 = .ok (.aload_n 0, 1) := tb_at tbX9_restore_n40_ok 119 rfl
noncomputable def tbX9_restore_n41 : List (Nat × Instr × Nat) := [(212, (.iload_n 3), 1), (213, (.putfield 151), 3), (216, (.iload 6), 2), (218, .ireturn, 1), (219, (.iinc 5 1), 3), (222, (.goto (-34)), 3), (225, (.iconst 0), 1), (226, (.istore 5), 2), (228, (.iload 5), 2), (230, (.iload 4), 2), (232, (.if_icmp .ge 43), 3), (235, (.aload_n 0), 1), (236, (.iload_n 3), 1), (237, (.iload 5), 2), (239, .iadd, 1), (240, (.invokevirtual 209), 3), (243, (.istore 6), 2), (245, (.iload 6), 2), (247, (.ifCond .eq 22), 3), (250, (.aload_n 0), 1), (251, (.iload_n 3), 1), (252, (.putfield 151), 3), (255, (.aload_n 0), 1), (256, (.iload 6), 2), (258, (.iload 5), 2), (260, (.iconst (-1)), 1), (261, (.aload_n 0), 1), (262, (.getfield 206), 3), (265, (.invokevirtual 216), 3), (268, .ireturn, 1), (269, (.iinc 5 1), 3), (272, (.goto (-44)), 3), (275, (.iload_n 3), 1), (276, .ireturn, 1)]
theorem tbX9_restore_n41_ok : ∀ q ∈ tbX9_restore_n41, decode cX9_restore q.1 = .ok q.2 := by decide +kernel
theorem dX9_restore_212 : decode cX9_restore 212 = .ok (.iload_n 3, 1) := tb_at tbX9_restore_n41_ok 0 rfl
theorem dX9_restore_213 : decode cX9_restore 213 = .ok (.putfield 151, 3) := tb_at tbX9_restore_n41_ok 1 rfl
theorem dX9_restore_216 : decode cX9_restore 216 = .ok (.iload 6, 2) := tb_at tbX9_restore_n41_ok 2 rfl
theorem dX9_restore_218 : decode cX9_restore 218 = .ok (.ireturn, 1) := tb_at tbX9_restore_n41_ok 3 rfl
theorem dX9_restore_219 : decode cX9_restore 219 = .ok (.iinc 5 1, 3) := tb_at tbX9_restore_n41_ok 4 rfl
theorem dX9_restore_222 : decode cX9_restore 222 = .ok (.goto (-34), 3) := tb_at tbX9_restore_n41_ok 5 rfl
theorem dX9_restore_225 : decode cX9_restore 225 = .ok (.iconst 0, 1) := tb_at tbX9_restore_n41_ok 6 rfl
theorem dX9_restore_226 : decode cX9_restore 226 = .ok (.istore 5, 2) := tb_at tbX9_restore_n41_ok 7 rfl
theorem dX9_restore_228 : decode cX9_restore 228 = .ok (.iload 5, 2) := tb_at tbX9_restore_n41_ok 8 rfl
theorem dX9_restore_230 : decode cX9_restore 230 = .ok (.iload 4, 2) := tb_at tbX9_restore_n41_ok 9 rfl
theorem dX9_restore_232 : decode cX9_restore 232 = .ok (.if_icmp .ge 43, 3) := tb_at tbX9_restore_n41_ok 10 rfl
theorem dX9_restore_235 : decode cX9_restore 235 = .ok (.aload_n 0, 1) := tb_at tbX9_restore_n41_ok 11 rfl
theorem dX9_restore_236 : decode cX9_restore 236 = .ok (.iload_n 3, 1) := tb_at tbX9_restore_n41_ok 12 rfl
theorem dX9_restore_237 : decode cX9_restore 237 = .ok (.iload 5, 2) := tb_at tbX9_restore_n41_ok 13 rfl
theorem dX9_restore_239 : decode cX9_restore 239 = .ok (.iadd, 1) := tb_at tbX9_restore_n41_ok 14 rfl
theorem dX9_restore_240 : decode cX9_restore 240 = .ok (.invokevirtual 209, 3) := tb_at tbX9_restore_n41_ok 15 rfl
theorem dX9_restore_243 : decode cX9_restore 243 = .ok (.istore 6, 2) := tb_at tbX9_restore_n41_ok 16 rfl
theorem dX9_restore_245 : decode cX9_restore 245 = .ok (.iload 6, 2) := tb_at tbX9_restore_n41_ok 17 rfl
theorem dX9_restore_247 : decode cX9_restore 247 = .ok (.ifCond .eq 22, 3) := tb_at tbX9_restore_n41_ok 18 rfl
theorem dX9_restore_250 : decode cX9_restore 250 = .ok (.aload_n 0, 1) := tb_at tbX9_restore_n41_ok 19 rfl
theorem dX9_restore_251 : decode cX9_restore 251 = .ok (.iload_n 3, 1) := tb_at tbX9_restore_n41_ok 20 rfl
theorem dX9_restore_252 : decode cX9_restore 252 = .ok (.putfield 151, 3) := tb_at tbX9_restore_n41_ok 21 rfl
theorem dX9_restore_255 : decode cX9_restore 255 = .ok (.aload_n 0, 1) := tb_at tbX9_restore_n41_ok 22 rfl
theorem dX9_restore_256 : decode cX9_restore 256 = .ok (.iload 6, 2) := tb_at tbX9_restore_n41_ok 23 rfl
theorem dX9_restore_258 : decode cX9_restore 258 = .ok (.iload 5, 2) := tb_at tbX9_restore_n41_ok 24 rfl
theorem dX9_restore_260 : decode cX9_restore 260 = .ok (.iconst (-1), 1) := tb_at tbX9_restore_n41_ok 25 rfl
theorem dX9_restore_261 : decode cX9_restore 261 = .ok (.aload_n 0, 1) := tb_at tbX9_restore_n41_ok 26 rfl
theorem dX9_restore_262 : decode cX9_restore 262 = .ok (.getfield 206, 3) := tb_at tbX9_restore_n41_ok 27 rfl
theorem dX9_restore_265 : decode cX9_restore 265 = .ok (.invokevirtual 216, 3) := tb_at tbX9_restore_n41_ok 28 rfl
theorem dX9_restore_268 : decode cX9_restore 268 = .ok (.ireturn, 1) := tb_at tbX9_restore_n41_ok 29 rfl
theorem dX9_restore_269 : decode cX9_restore 269 = .ok (.iinc 5 1, 3) := tb_at tbX9_restore_n41_ok 30 rfl
theorem dX9_restore_272 : decode cX9_restore 272 = .ok (.goto (-44), 3) := tb_at tbX9_restore_n41_ok 31 rfl
theorem dX9_restore_275 : decode cX9_restore 275 = .ok (.iload_n 3, 1) := tb_at tbX9_restore_n41_ok 32 rfl
theorem dX9_restore_276 : decode cX9_restore 276 = .ok (.ireturn, 1) := tb_at tbX9_restore_n41_ok 33 rfl
noncomputable def tbX9_fault_n40 : List (Nat × Instr × Nat) := [(0, (.aload_n 0), 1), (1, (.iconst 0), 1), (2, (.putfield 145), 3), (5, (.iload_n 1), 1), (6, (.ifCond .ne 10), 3), (9, (.aload_n 0), 1), (10, (.getfield 117), 3), (13, (.goto 29), 3), (16, (.iload_n 1), 1), (17, (.iconst 1), 1), (18, (.if_icmp .ne 10), 3), (21, (.aload_n 0), 1), (22, (.getfield 121), 3), (25, (.goto 17), 3), (28, (.iload_n 1), 1), (29, (.iconst 2), 1), (30, (.if_icmp .ne 10), 3), (33, (.aload_n 0), 1), (34, (.getfield 124), 3), (37, (.goto 5), 3), (40, (.bipush (-2)), 2), (42, .ireturn, 1)]
theorem tbX9_fault_n40_ok : ∀ q ∈ tbX9_fault_n40, decode cX9_fault q.1 = .ok q.2 := by decide +kernel
theorem dX9_fault_0 : decode cX9_fault 0 = .ok (.aload_n 0, 1) := tb_at tbX9_fault_n40_ok 0 rfl
theorem dX9_fault_1 : decode cX9_fault 1 = .ok (.iconst 0, 1) := tb_at tbX9_fault_n40_ok 1 rfl
theorem dX9_fault_2 : decode cX9_fault 2 = .ok (.putfield 145, 3) := tb_at tbX9_fault_n40_ok 2 rfl
theorem dX9_fault_5 : decode cX9_fault 5 = .ok (.iload_n 1, 1) := tb_at tbX9_fault_n40_ok 3 rfl
theorem dX9_fault_6 : decode cX9_fault 6 = .ok (.ifCond .ne 10, 3) := tb_at tbX9_fault_n40_ok 4 rfl
theorem dX9_fault_9 : decode cX9_fault 9 = .ok (.aload_n 0, 1) := tb_at tbX9_fault_n40_ok 5 rfl
theorem dX9_fault_10 : decode cX9_fault 10 = .ok (.getfield 117, 3) := tb_at tbX9_fault_n40_ok 6 rfl
theorem dX9_fault_13 : decode cX9_fault 13 = .ok (.goto 29, 3) := tb_at tbX9_fault_n40_ok 7 rfl
theorem dX9_fault_16 : decode cX9_fault 16 = .ok (.iload_n 1, 1) := tb_at tbX9_fault_n40_ok 8 rfl
theorem dX9_fault_17 : decode cX9_fault 17 = .ok (.iconst 1, 1) := tb_at tbX9_fault_n40_ok 9 rfl
theorem dX9_fault_18 : decode cX9_fault 18 = .ok (.if_icmp .ne 10, 3) := tb_at tbX9_fault_n40_ok 10 rfl
theorem dX9_fault_21 : decode cX9_fault 21 = .ok (.aload_n 0, 1) := tb_at tbX9_fault_n40_ok 11 rfl
theorem dX9_fault_22 : decode cX9_fault 22 = .ok (.getfield 121, 3) := tb_at tbX9_fault_n40_ok 12 rfl
theorem dX9_fault_25 : decode cX9_fault 25 = .ok (.goto 17, 3) := tb_at tbX9_fault_n40_ok 13 rfl
theorem dX9_fault_28 : decode cX9_fault 28 = .ok (.iload_n 1, 1) := tb_at tbX9_fault_n40_ok 14 rfl
theorem dX9_fault_29 : decode cX9_fault 29 = .ok (.iconst 2, 1) := tb_at tbX9_fault_n40_ok 15 rfl
theorem dX9_fault_30 : decode cX9_fault 30 = .ok (.if_icmp .ne 10, 3) := tb_at tbX9_fault_n40_ok 16 rfl
theorem dX9_fault_33 : decode cX9_fault 33 = .ok (.aload_n 0, 1) := tb_at tbX9_fault_n40_ok 17 rfl
theorem dX9_fault_34 : decode cX9_fault 34 = .ok (.getfield 124, 3) := tb_at tbX9_fault_n40_ok 18 rfl
theorem dX9_fault_37 : decode cX9_fault 37 = .ok (.goto 5, 3) := tb_at tbX9_fault_n40_ok 19 rfl
theorem dX9_fault_40 : decode cX9_fault 40 = .ok (.bipush (-2), 2) := tb_at tbX9_fault_n40_ok 20 rfl
theorem dX9_fault_42 : decode cX9_fault 42 = .ok (.ireturn, 1) := tb_at tbX9_fault_n40_ok 21 rfl
noncomputable def tbX9_meets_n40 : List (Nat × Instr × Nat) := [(0, (.aload_n 0), 1), (1, (.getfield 130), 3), (4, (.iload_n 1), 1), (5, .iaload, 1), (6, (.ifCond .ge 12), 3), (9, (.aload_n 0), 1), (10, (.getfield 133), 3), (13, (.iload_n 2), 1), (14, .iaload, 1), (15, (.ifCond .lt 29), 3), (18, (.aload_n 0), 1), (19, (.getfield 130), 3), (22, (.iload_n 1), 1), (23, .iaload, 1), (24, (.iload_n 2), 1), (25, (.if_icmp .ne 17), 3), (28, (.aload_n 0), 1), (29, (.getfield 133), 3), (32, (.iload_n 2), 1), (33, .iaload, 1), (34, (.iload_n 1), 1), (35, (.if_icmp .ne 7), 3), (38, (.iconst 1), 1), (39, (.goto 4), 3), (42, (.iconst 0), 1), (43, .ireturn, 1), (44, (.aload_n 0), 1), (45, (.getfield 130), 3), (48, (.iload_n 1), 1), (49, (.iload_n 2), 1), (50, .iastore, 1), (51, (.aload_n 0), 1), (52, (.getfield 133), 3), (55, (.iload_n 2), 1), (56, (.iload_n 1), 1), (57, .iastore, 1), (58, (.aload_n 0), 1), (59, (.getfield 142), 3), (62, (.aload_n 0), 1), (63, (.getfield 240), 3), (66, (.iload_n 1), 1), (67, .iastore, 1), (68, (.aload_n 0), 1), (69, .dup, 1), (70, (.getfield 240), 3), (73, (.iconst 1), 1), (74, .iadd, 1), (75, (.putfield 240), 3), (78, (.iconst 1), 1), (79, .ireturn, 1)]
theorem tbX9_meets_n40_ok : ∀ q ∈ tbX9_meets_n40, decode cX9_meets q.1 = .ok q.2 := by decide +kernel
theorem dX9_meets_0 : decode cX9_meets 0 = .ok (.aload_n 0, 1) := tb_at tbX9_meets_n40_ok 0 rfl
theorem dX9_meets_1 : decode cX9_meets 1 = .ok (.getfield 130, 3) := tb_at tbX9_meets_n40_ok 1 rfl
theorem dX9_meets_4 : decode cX9_meets 4 = .ok (.iload_n 1, 1) := tb_at tbX9_meets_n40_ok 2 rfl
theorem dX9_meets_5 : decode cX9_meets 5 = .ok (.iaload, 1) := tb_at tbX9_meets_n40_ok 3 rfl
theorem dX9_meets_6 : decode cX9_meets 6 = .ok (.ifCond .ge 12, 3) := tb_at tbX9_meets_n40_ok 4 rfl
theorem dX9_meets_9 : decode cX9_meets 9 = .ok (.aload_n 0, 1) := tb_at tbX9_meets_n40_ok 5 rfl
theorem dX9_meets_10 : decode cX9_meets 10 = .ok (.getfield 133, 3) := tb_at tbX9_meets_n40_ok 6 rfl
theorem dX9_meets_13 : decode cX9_meets 13 = .ok (.iload_n 2, 1) := tb_at tbX9_meets_n40_ok 7 rfl
theorem dX9_meets_14 : decode cX9_meets 14 = .ok (.iaload, 1) := tb_at tbX9_meets_n40_ok 8 rfl
theorem dX9_meets_15 : decode cX9_meets 15 = .ok (.ifCond .lt 29, 3) := tb_at tbX9_meets_n40_ok 9 rfl
theorem dX9_meets_18 : decode cX9_meets 18 = .ok (.aload_n 0, 1) := tb_at tbX9_meets_n40_ok 10 rfl
theorem dX9_meets_19 : decode cX9_meets 19 = .ok (.getfield 130, 3) := tb_at tbX9_meets_n40_ok 11 rfl
theorem dX9_meets_22 : decode cX9_meets 22 = .ok (.iload_n 1, 1) := tb_at tbX9_meets_n40_ok 12 rfl
theorem dX9_meets_23 : decode cX9_meets 23 = .ok (.iaload, 1) := tb_at tbX9_meets_n40_ok 13 rfl
theorem dX9_meets_24 : decode cX9_meets 24 = .ok (.iload_n 2, 1) := tb_at tbX9_meets_n40_ok 14 rfl
theorem dX9_meets_25 : decode cX9_meets 25 = .ok (.if_icmp .ne 17, 3) := tb_at tbX9_meets_n40_ok 15 rfl
theorem dX9_meets_28 : decode cX9_meets 28 = .ok (.aload_n 0, 1) := tb_at tbX9_meets_n40_ok 16 rfl
theorem dX9_meets_29 : decode cX9_meets 29 = .ok (.getfield 133, 3) := tb_at tbX9_meets_n40_ok 17 rfl
theorem dX9_meets_32 : decode cX9_meets 32 = .ok (.iload_n 2, 1) := tb_at tbX9_meets_n40_ok 18 rfl
theorem dX9_meets_33 : decode cX9_meets 33 = .ok (.iaload, 1) := tb_at tbX9_meets_n40_ok 19 rfl
theorem dX9_meets_34 : decode cX9_meets 34 = .ok (.iload_n 1, 1) := tb_at tbX9_meets_n40_ok 20 rfl
theorem dX9_meets_35 : decode cX9_meets 35 = .ok (.if_icmp .ne 7, 3) := tb_at tbX9_meets_n40_ok 21 rfl
theorem dX9_meets_38 : decode cX9_meets 38 = .ok (.iconst 1, 1) := tb_at tbX9_meets_n40_ok 22 rfl
theorem dX9_meets_39 : decode cX9_meets 39 = .ok (.goto 4, 3) := tb_at tbX9_meets_n40_ok 23 rfl
theorem dX9_meets_42 : decode cX9_meets 42 = .ok (.iconst 0, 1) := tb_at tbX9_meets_n40_ok 24 rfl
theorem dX9_meets_43 : decode cX9_meets 43 = .ok (.ireturn, 1) := tb_at tbX9_meets_n40_ok 25 rfl
theorem dX9_meets_44 : decode cX9_meets 44 = .ok (.aload_n 0, 1) := tb_at tbX9_meets_n40_ok 26 rfl
theorem dX9_meets_45 : decode cX9_meets 45 = .ok (.getfield 130, 3) := tb_at tbX9_meets_n40_ok 27 rfl
theorem dX9_meets_48 : decode cX9_meets 48 = .ok (.iload_n 1, 1) := tb_at tbX9_meets_n40_ok 28 rfl
theorem dX9_meets_49 : decode cX9_meets 49 = .ok (.iload_n 2, 1) := tb_at tbX9_meets_n40_ok 29 rfl
theorem dX9_meets_50 : decode cX9_meets 50 = .ok (.iastore, 1) := tb_at tbX9_meets_n40_ok 30 rfl
theorem dX9_meets_51 : decode cX9_meets 51 = .ok (.aload_n 0, 1) := tb_at tbX9_meets_n40_ok 31 rfl
theorem dX9_meets_52 : decode cX9_meets 52 = .ok (.getfield 133, 3) := tb_at tbX9_meets_n40_ok 32 rfl
theorem dX9_meets_55 : decode cX9_meets 55 = .ok (.iload_n 2, 1) := tb_at tbX9_meets_n40_ok 33 rfl
theorem dX9_meets_56 : decode cX9_meets 56 = .ok (.iload_n 1, 1) := tb_at tbX9_meets_n40_ok 34 rfl
theorem dX9_meets_57 : decode cX9_meets 57 = .ok (.iastore, 1) := tb_at tbX9_meets_n40_ok 35 rfl
theorem dX9_meets_58 : decode cX9_meets 58 = .ok (.aload_n 0, 1) := tb_at tbX9_meets_n40_ok 36 rfl
theorem dX9_meets_59 : decode cX9_meets 59 = .ok (.getfield 142, 3) := tb_at tbX9_meets_n40_ok 37 rfl
theorem dX9_meets_62 : decode cX9_meets 62 = .ok (.aload_n 0, 1) := tb_at tbX9_meets_n40_ok 38 rfl
theorem dX9_meets_63 : decode cX9_meets 63 = .ok (.getfield 240, 3) := tb_at tbX9_meets_n40_ok 39 rfl
theorem dX9_meets_66 : decode cX9_meets 66 = .ok (.iload_n 1, 1) := tb_at tbX9_meets_n40_ok 40 rfl
theorem dX9_meets_67 : decode cX9_meets 67 = .ok (.iastore, 1) := tb_at tbX9_meets_n40_ok 41 rfl
theorem dX9_meets_68 : decode cX9_meets 68 = .ok (.aload_n 0, 1) := tb_at tbX9_meets_n40_ok 42 rfl
theorem dX9_meets_69 : decode cX9_meets 69 = .ok (.dup, 1) := tb_at tbX9_meets_n40_ok 43 rfl
theorem dX9_meets_70 : decode cX9_meets 70 = .ok (.getfield 240, 3) := tb_at tbX9_meets_n40_ok 44 rfl
theorem dX9_meets_73 : decode cX9_meets 73 = .ok (.iconst 1, 1) := tb_at tbX9_meets_n40_ok 45 rfl
theorem dX9_meets_74 : decode cX9_meets 74 = .ok (.iadd, 1) := tb_at tbX9_meets_n40_ok 46 rfl
theorem dX9_meets_75 : decode cX9_meets 75 = .ok (.putfield 240, 3) := tb_at tbX9_meets_n40_ok 47 rfl
theorem dX9_meets_78 : decode cX9_meets 78 = .ok (.iconst 1, 1) := tb_at tbX9_meets_n40_ok 48 rfl
theorem dX9_meets_79 : decode cX9_meets 79 = .ok (.ireturn, 1) := tb_at tbX9_meets_n40_ok 49 rfl
noncomputable def tbX9_rowsMeet_n40 : List (Nat × Instr × Nat) := [(0, (.aload_n 0), 1), (1, (.getfield 136), 3), (4, (.iload_n 1), 1), (5, .iaload, 1), (6, (.ifCond .ge 12), 3), (9, (.aload_n 0), 1), (10, (.getfield 139), 3), (13, (.iload_n 2), 1), (14, .iaload, 1), (15, (.ifCond .lt 29), 3), (18, (.aload_n 0), 1), (19, (.getfield 136), 3), (22, (.iload_n 1), 1), (23, .iaload, 1), (24, (.iload_n 2), 1), (25, (.if_icmp .ne 17), 3), (28, (.aload_n 0), 1), (29, (.getfield 139), 3), (32, (.iload_n 2), 1), (33, .iaload, 1), (34, (.iload_n 1), 1), (35, (.if_icmp .ne 7), 3), (38, (.iconst 1), 1), (39, (.goto 4), 3), (42, (.iconst 0), 1), (43, .ireturn, 1), (44, (.aload_n 0), 1), (45, (.getfield 136), 3), (48, (.iload_n 1), 1), (49, (.iload_n 2), 1), (50, .iastore, 1), (51, (.aload_n 0), 1), (52, (.getfield 139), 3), (55, (.iload_n 2), 1), (56, (.iload_n 1), 1), (57, .iastore, 1), (58, (.aload_n 0), 1), (59, (.getfield 54), 3), (62, (.iload_n 1), 1), (63, .iaload, 1), (64, (.aload_n 0), 1), (65, (.getfield 54), 3), (68, (.iload_n 2), 1), (69, .iaload, 1), (70, (.if_icmp .ne 7), 3), (73, (.iconst 1), 1), (74, (.goto 4), 3), (77, (.iconst 0), 1), (78, (.istore_n 3), 1), (79, (.iconst 0), 1), (80, (.istore 4), 2), (82, (.iload_n 3), 1), (83, (.ifCond .eq 54), 3), (86, (.iload 4), 2), (88, (.aload_n 0), 1), (89, (.getfield 54), 3), (92, (.iload_n 1), 1), (93, .iaload, 1), (94, (.if_icmp .ge 43), 3), (97, (.aload_n 0), 1), (98, (.getfield 57), 3), (101, (.bipush 12), 2), (103, (.iload_n 1), 1), (104, .imul, 1), (105, (.iload 4), 2), (107, .iadd, 1), (108, .laload, 1), (109, (.aload_n 0), 1), (110, (.getfield 57), 3), (113, (.bipush 12), 2), (115, (.iload_n 2), 1), (116, .imul, 1), (117, (.iload 4), 2), (119, .iadd, 1), (120, .laload, 1), (121, .lcmp, 1), (122, (.ifCond .ne 7), 3), (125, (.iconst 1), 1), (126, (.goto 4), 3), (129, (.iconst 0), 1), (130, (.istore_n 3), 1), (131, (.iinc 4 1), 3), (134, (.goto (-52)), 3), (137, (.iload_n 3), 1), (138, .ireturn, 1)]
theorem tbX9_rowsMeet_n40_ok : ∀ q ∈ tbX9_rowsMeet_n40, decode cX9_rowsMeet q.1 = .ok q.2 := by decide +kernel
theorem dX9_rowsMeet_0 : decode cX9_rowsMeet 0 = .ok (.aload_n 0, 1) := tb_at tbX9_rowsMeet_n40_ok 0 rfl
theorem dX9_rowsMeet_1 : decode cX9_rowsMeet 1 = .ok (.getfield 136, 3) := tb_at tbX9_rowsMeet_n40_ok 1 rfl
theorem dX9_rowsMeet_4 : decode cX9_rowsMeet 4 = .ok (.iload_n 1, 1) := tb_at tbX9_rowsMeet_n40_ok 2 rfl
theorem dX9_rowsMeet_5 : decode cX9_rowsMeet 5 = .ok (.iaload, 1) := tb_at tbX9_rowsMeet_n40_ok 3 rfl
theorem dX9_rowsMeet_6 : decode cX9_rowsMeet 6 = .ok (.ifCond .ge 12, 3) := tb_at tbX9_rowsMeet_n40_ok 4 rfl
theorem dX9_rowsMeet_9 : decode cX9_rowsMeet 9 = .ok (.aload_n 0, 1) := tb_at tbX9_rowsMeet_n40_ok 5 rfl
theorem dX9_rowsMeet_10 : decode cX9_rowsMeet 10 = .ok (.getfield 139, 3) := tb_at tbX9_rowsMeet_n40_ok 6 rfl
theorem dX9_rowsMeet_13 : decode cX9_rowsMeet 13 = .ok (.iload_n 2, 1) := tb_at tbX9_rowsMeet_n40_ok 7 rfl
theorem dX9_rowsMeet_14 : decode cX9_rowsMeet 14 = .ok (.iaload, 1) := tb_at tbX9_rowsMeet_n40_ok 8 rfl
theorem dX9_rowsMeet_15 : decode cX9_rowsMeet 15 = .ok (.ifCond .lt 29, 3) := tb_at tbX9_rowsMeet_n40_ok 9 rfl
theorem dX9_rowsMeet_18 : decode cX9_rowsMeet 18 = .ok (.aload_n 0, 1) := tb_at tbX9_rowsMeet_n40_ok 10 rfl
theorem dX9_rowsMeet_19 : decode cX9_rowsMeet 19 = .ok (.getfield 136, 3) := tb_at tbX9_rowsMeet_n40_ok 11 rfl
theorem dX9_rowsMeet_22 : decode cX9_rowsMeet 22 = .ok (.iload_n 1, 1) := tb_at tbX9_rowsMeet_n40_ok 12 rfl
theorem dX9_rowsMeet_23 : decode cX9_rowsMeet 23 = .ok (.iaload, 1) := tb_at tbX9_rowsMeet_n40_ok 13 rfl
theorem dX9_rowsMeet_24 : decode cX9_rowsMeet 24 = .ok (.iload_n 2, 1) := tb_at tbX9_rowsMeet_n40_ok 14 rfl
theorem dX9_rowsMeet_25 : decode cX9_rowsMeet 25 = .ok (.if_icmp .ne 17, 3) := tb_at tbX9_rowsMeet_n40_ok 15 rfl
theorem dX9_rowsMeet_28 : decode cX9_rowsMeet 28 = .ok (.aload_n 0, 1) := tb_at tbX9_rowsMeet_n40_ok 16 rfl
theorem dX9_rowsMeet_29 : decode cX9_rowsMeet 29 = .ok (.getfield 139, 3) := tb_at tbX9_rowsMeet_n40_ok 17 rfl
theorem dX9_rowsMeet_32 : decode cX9_rowsMeet 32 = .ok (.iload_n 2, 1) := tb_at tbX9_rowsMeet_n40_ok 18 rfl
theorem dX9_rowsMeet_33 : decode cX9_rowsMeet 33 = .ok (.iaload, 1) := tb_at tbX9_rowsMeet_n40_ok 19 rfl
theorem dX9_rowsMeet_34 : decode cX9_rowsMeet 34 = .ok (.iload_n 1, 1) := tb_at tbX9_rowsMeet_n40_ok 20 rfl
theorem dX9_rowsMeet_35 : decode cX9_rowsMeet 35 = .ok (.if_icmp .ne 7, 3) := tb_at tbX9_rowsMeet_n40_ok 21 rfl
theorem dX9_rowsMeet_38 : decode cX9_rowsMeet 38 = .ok (.iconst 1, 1) := tb_at tbX9_rowsMeet_n40_ok 22 rfl
theorem dX9_rowsMeet_39 : decode cX9_rowsMeet 39 = .ok (.goto 4, 3) := tb_at tbX9_rowsMeet_n40_ok 23 rfl
theorem dX9_rowsMeet_42 : decode cX9_rowsMeet 42 = .ok (.iconst 0, 1) := tb_at tbX9_rowsMeet_n40_ok 24 rfl
theorem dX9_rowsMeet_43 : decode cX9_rowsMeet 43 = .ok (.ireturn, 1) := tb_at tbX9_rowsMeet_n40_ok 25 rfl
theorem dX9_rowsMeet_44 : decode cX9_rowsMeet 44 = .ok (.aload_n 0, 1) := tb_at tbX9_rowsMeet_n40_ok 26 rfl
theorem dX9_rowsMeet_45 : decode cX9_rowsMeet 45 = .ok (.getfield 136, 3) := tb_at tbX9_rowsMeet_n40_ok 27 rfl
theorem dX9_rowsMeet_48 : decode cX9_rowsMeet 48 = .ok (.iload_n 1, 1) := tb_at tbX9_rowsMeet_n40_ok 28 rfl
theorem dX9_rowsMeet_49 : decode cX9_rowsMeet 49 = .ok (.iload_n 2, 1) := tb_at tbX9_rowsMeet_n40_ok 29 rfl
theorem dX9_rowsMeet_50 : decode cX9_rowsMeet 50 = .ok (.iastore, 1) := tb_at tbX9_rowsMeet_n40_ok 30 rfl
theorem dX9_rowsMeet_51 : decode cX9_rowsMeet 51 = .ok (.aload_n 0, 1) := tb_at tbX9_rowsMeet_n40_ok 31 rfl
theorem dX9_rowsMeet_52 : decode cX9_rowsMeet 52 = .ok (.getfield 139, 3) := tb_at tbX9_rowsMeet_n40_ok 32 rfl
theorem dX9_rowsMeet_55 : decode cX9_rowsMeet 55 = .ok (.iload_n 2, 1) := tb_at tbX9_rowsMeet_n40_ok 33 rfl
theorem dX9_rowsMeet_56 : decode cX9_rowsMeet 56 = .ok (.iload_n 1, 1) := tb_at tbX9_rowsMeet_n40_ok 34 rfl
theorem dX9_rowsMeet_57 : decode cX9_rowsMeet 57 = .ok (.iastore, 1) := tb_at tbX9_rowsMeet_n40_ok 35 rfl
theorem dX9_rowsMeet_58 : decode cX9_rowsMeet 58 = .ok (.aload_n 0, 1) := tb_at tbX9_rowsMeet_n40_ok 36 rfl
theorem dX9_rowsMeet_59 : decode cX9_rowsMeet 59 = .ok (.getfield 54, 3) := tb_at tbX9_rowsMeet_n40_ok 37 rfl
theorem dX9_rowsMeet_62 : decode cX9_rowsMeet 62 = .ok (.iload_n 1, 1) := tb_at tbX9_rowsMeet_n40_ok 38 rfl
theorem dX9_rowsMeet_63 : decode cX9_rowsMeet 63 = .ok (.iaload, 1) := tb_at tbX9_rowsMeet_n40_ok 39 rfl
theorem dX9_rowsMeet_64 : decode cX9_rowsMeet 64 = .ok (.aload_n 0, 1) := tb_at tbX9_rowsMeet_n40_ok 40 rfl
theorem dX9_rowsMeet_65 : decode cX9_rowsMeet 65 = .ok (.getfield 54, 3) := tb_at tbX9_rowsMeet_n40_ok 41 rfl
theorem dX9_rowsMeet_68 : decode cX9_rowsMeet 68 = .ok (.iload_n 2, 1) := tb_at tbX9_rowsMeet_n40_ok 42 rfl
theorem dX9_rowsMeet_69 : decode cX9_rowsMeet 69 = .ok (.iaload, 1) := tb_at tbX9_rowsMeet_n40_ok 43 rfl
theorem dX9_rowsMeet_70 : decode cX9_rowsMeet 70 = .ok (.if_icmp .ne 7, 3) := tb_at tbX9_rowsMeet_n40_ok 44 rfl
theorem dX9_rowsMeet_73 : decode cX9_rowsMeet 73 = .ok (.iconst 1, 1) := tb_at tbX9_rowsMeet_n40_ok 45 rfl
theorem dX9_rowsMeet_74 : decode cX9_rowsMeet 74 = .ok (.goto 4, 3) := tb_at tbX9_rowsMeet_n40_ok 46 rfl
theorem dX9_rowsMeet_77 : decode cX9_rowsMeet 77 = .ok (.iconst 0, 1) := tb_at tbX9_rowsMeet_n40_ok 47 rfl
theorem dX9_rowsMeet_78 : decode cX9_rowsMeet 78 = .ok (.istore_n 3, 1) := tb_at tbX9_rowsMeet_n40_ok 48 rfl
theorem dX9_rowsMeet_79 : decode cX9_rowsMeet 79 = .ok (.iconst 0, 1) := tb_at tbX9_rowsMeet_n40_ok 49 rfl
theorem dX9_rowsMeet_80 : decode cX9_rowsMeet 80 = .ok (.istore 4, 2) := tb_at tbX9_rowsMeet_n40_ok 50 rfl
theorem dX9_rowsMeet_82 : decode cX9_rowsMeet 82 = .ok (.iload_n 3, 1) := tb_at tbX9_rowsMeet_n40_ok 51 rfl
theorem dX9_rowsMeet_83 : decode cX9_rowsMeet 83 = .ok (.ifCond .eq 54, 3) := tb_at tbX9_rowsMeet_n40_ok 52 rfl
theorem dX9_rowsMeet_86 : decode cX9_rowsMeet 86 = .ok (.iload 4, 2) := tb_at tbX9_rowsMeet_n40_ok 53 rfl
theorem dX9_rowsMeet_88 : decode cX9_rowsMeet 88 = .ok (.aload_n 0, 1) := tb_at tbX9_rowsMeet_n40_ok 54 rfl
theorem dX9_rowsMeet_89 : decode cX9_rowsMeet 89 = .ok (.getfield 54, 3) := tb_at tbX9_rowsMeet_n40_ok 55 rfl
theorem dX9_rowsMeet_92 : decode cX9_rowsMeet 92 = .ok (.iload_n 1, 1) := tb_at tbX9_rowsMeet_n40_ok 56 rfl
theorem dX9_rowsMeet_93 : decode cX9_rowsMeet 93 = .ok (.iaload, 1) := tb_at tbX9_rowsMeet_n40_ok 57 rfl
theorem dX9_rowsMeet_94 : decode cX9_rowsMeet 94 = .ok (.if_icmp .ge 43, 3) := tb_at tbX9_rowsMeet_n40_ok 58 rfl
theorem dX9_rowsMeet_97 : decode cX9_rowsMeet 97 = .ok (.aload_n 0, 1) := tb_at tbX9_rowsMeet_n40_ok 59 rfl
theorem dX9_rowsMeet_98 : decode cX9_rowsMeet 98 = .ok (.getfield 57, 3) := tb_at tbX9_rowsMeet_n40_ok 60 rfl
theorem dX9_rowsMeet_101 : decode cX9_rowsMeet 101 = .ok (.bipush 12, 2) := tb_at tbX9_rowsMeet_n40_ok 61 rfl
theorem dX9_rowsMeet_103 : decode cX9_rowsMeet 103 = .ok (.iload_n 1, 1) := tb_at tbX9_rowsMeet_n40_ok 62 rfl
theorem dX9_rowsMeet_104 : decode cX9_rowsMeet 104 = .ok (.imul, 1) := tb_at tbX9_rowsMeet_n40_ok 63 rfl
theorem dX9_rowsMeet_105 : decode cX9_rowsMeet 105 = .ok (.iload 4, 2) := tb_at tbX9_rowsMeet_n40_ok 64 rfl
theorem dX9_rowsMeet_107 : decode cX9_rowsMeet 107 = .ok (.iadd, 1) := tb_at tbX9_rowsMeet_n40_ok 65 rfl
theorem dX9_rowsMeet_108 : decode cX9_rowsMeet 108 = .ok (.laload, 1) := tb_at tbX9_rowsMeet_n40_ok 66 rfl
theorem dX9_rowsMeet_109 : decode cX9_rowsMeet 109 = .ok (.aload_n 0, 1) := tb_at tbX9_rowsMeet_n40_ok 67 rfl
theorem dX9_rowsMeet_110 : decode cX9_rowsMeet 110 = .ok (.getfield 57, 3) := tb_at tbX9_rowsMeet_n40_ok 68 rfl
theorem dX9_rowsMeet_113 : decode cX9_rowsMeet 113 = .ok (.bipush 12, 2) := tb_at tbX9_rowsMeet_n40_ok 69 rfl
theorem dX9_rowsMeet_115 : decode cX9_rowsMeet 115 = .ok (.iload_n 2, 1) := tb_at tbX9_rowsMeet_n40_ok 70 rfl
theorem dX9_rowsMeet_116 : decode cX9_rowsMeet 116 = .ok (.imul, 1) := tb_at tbX9_rowsMeet_n40_ok 71 rfl
theorem dX9_rowsMeet_117 : decode cX9_rowsMeet 117 = .ok (.iload 4, 2) := tb_at tbX9_rowsMeet_n40_ok 72 rfl
theorem dX9_rowsMeet_119 : decode cX9_rowsMeet 119 = .ok (.iadd, 1) := tb_at tbX9_rowsMeet_n40_ok 73 rfl
theorem dX9_rowsMeet_120 : decode cX9_rowsMeet 120 = .ok (.laload, 1) := tb_at tbX9_rowsMeet_n40_ok 74 rfl
theorem dX9_rowsMeet_121 : decode cX9_rowsMeet 121 = .ok (.lcmp, 1) := tb_at tbX9_rowsMeet_n40_ok 75 rfl
theorem dX9_rowsMeet_122 : decode cX9_rowsMeet 122 = .ok (.ifCond .ne 7, 3) := tb_at tbX9_rowsMeet_n40_ok 76 rfl
theorem dX9_rowsMeet_125 : decode cX9_rowsMeet 125 = .ok (.iconst 1, 1) := tb_at tbX9_rowsMeet_n40_ok 77 rfl
theorem dX9_rowsMeet_126 : decode cX9_rowsMeet 126 = .ok (.goto 4, 3) := tb_at tbX9_rowsMeet_n40_ok 78 rfl
theorem dX9_rowsMeet_129 : decode cX9_rowsMeet 129 = .ok (.iconst 0, 1) := tb_at tbX9_rowsMeet_n40_ok 79 rfl
theorem dX9_rowsMeet_130 : decode cX9_rowsMeet 130 = .ok (.istore_n 3, 1) := tb_at tbX9_rowsMeet_n40_ok 80 rfl
theorem dX9_rowsMeet_131 : decode cX9_rowsMeet 131 = .ok (.iinc 4 1, 3) := tb_at tbX9_rowsMeet_n40_ok 81 rfl
theorem dX9_rowsMeet_134 : decode cX9_rowsMeet 134 = .ok (.goto (-52), 3) := tb_at tbX9_rowsMeet_n40_ok 82 rfl
theorem dX9_rowsMeet_137 : decode cX9_rowsMeet 137 = .ok (.iload_n 3, 1) := tb_at tbX9_rowsMeet_n40_ok 83 rfl
theorem dX9_rowsMeet_138 : decode cX9_rowsMeet 138 = .ok (.ireturn, 1) := tb_at tbX9_rowsMeet_n40_ok 84 rfl
set_option maxRecDepth 20000 in
theorem ggX9_like_X9_isThing : GoodIn wsX9_like wsX9_isThing := goodIn_r _ [15, 16, 32, 33, 34, 35, 36, 37, 38, 39, 40, 41, 42, 43, 44, 45, 46, 47, 48, 49, 50, 51, 52, 53, 54, 55, 56, 57, 58, 59, 60, 61, 62, 63, 64, 65, 66, 67, 68, 69, 70, 71, 72, 73, 74, 75, 76, 77, 78, 79, 80, 81, 82] (by decide +kernel) (by decide +kernel)
set_option maxRecDepth 20000 in
theorem gX9_like_X9_isThing : GoodIn wsX9_like (wsV RX9 154 RX9 yX9_isThing wsX9_isThing) := goodIn_app (goodIn_of _ (by decide +kernel)) ggX9_like_X9_isThing
set_option maxRecDepth 20000 in
theorem ggX9_like_X9_meets : GoodIn wsX9_like wsX9_meets := goodIn_r _ [20, 2, 3, 7, 6, 32, 33, 34, 35, 36, 37, 38, 39, 40, 41, 42, 43, 44, 45, 46, 47, 48, 49, 50, 51, 52, 53, 54, 55, 56, 57, 58, 59, 60, 61, 62, 63, 64, 65, 66, 67, 68, 69, 70, 71, 72, 73, 74, 75, 76, 77, 78, 79, 80, 81, 82] (by decide +kernel) (by decide +kernel)
set_option maxRecDepth 20000 in
theorem gX9_like_X9_meets : GoodIn wsX9_like (wsV RX9 243 RX9 yX9_meets wsX9_meets) := goodIn_app (goodIn_of _ (by decide +kernel)) ggX9_like_X9_meets
set_option maxRecDepth 20000 in
theorem ggX9_like_X9_lane : GoodIn wsX9_like wsX9_lane := goodIn_r _ [24, 25, 8, 32, 33, 34, 35, 36, 37, 38, 39, 40, 41, 42, 43, 44, 45, 46, 47, 48, 49, 50, 51, 52, 53, 54, 55, 56, 57, 58, 59, 60, 61, 62, 63, 64, 65, 66, 67, 68, 69, 70, 71, 72, 73, 74, 75, 76, 77, 78, 79, 80, 81, 82] (by decide +kernel) (by decide +kernel)
set_option maxRecDepth 20000 in
theorem gX9_like_X9_lane : GoodIn wsX9_like (wsV RX9 170 RX9 yX9_lane wsX9_lane) := goodIn_app (goodIn_of _ (by decide +kernel)) ggX9_like_X9_lane
set_option maxRecDepth 20000 in
theorem ggX9_like_X9_rowsMeet : GoodIn wsX9_like wsX9_rowsMeet := goodIn_r _ [29, 4, 5, 30, 31, 32, 33, 34, 35, 36, 37, 38, 39, 40, 41, 42, 43, 44, 45, 46, 47, 48, 49, 50, 51, 52, 53, 54, 55, 56, 57, 58, 59, 60, 61, 62, 63, 64, 65, 66, 67, 68, 69, 70, 71, 72, 73, 74, 75, 76, 77, 78, 79, 80, 81, 82] (by decide +kernel) (by decide +kernel)
set_option maxRecDepth 20000 in
theorem gX9_like_X9_rowsMeet : GoodIn wsX9_like (wsV RX9 246 RX9 yX9_rowsMeet wsX9_rowsMeet) := goodIn_app (goodIn_of _ (by decide +kernel)) ggX9_like_X9_rowsMeet
noncomputable def tbX9_like_n40 : List (Nat × Instr × Nat) := [(0, (.aload_n 0), 1), (1, (.iconst 0), 1), (2, (.putfield 145), 3), (5, (.aload_n 0), 1), (6, (.iload_n 1), 1), (7, (.invokevirtual 154), 3), (10, (.ifCond .eq 11), 3), (13, (.aload_n 0), 1), (14, (.iload_n 2), 1), (15, (.invokevirtual 154), 3), (18, (.ifCond .ne 5), 3), (21, (.iconst (-1)), 1), (22, .ireturn, 1), (23, (.iconst 0), 1), (24, (.istore_n 3), 1), (25, (.iload_n 3), 1), (26, (.bipush 30), 2), (28, (.if_icmp .ge 23), 3), (31, (.aload_n 0), 1), (32, (.getfield 130), 3), (35, (.iload_n 3), 1), (36, (.iconst (-1)), 1), (37, .iastore, 1), (38, (.aload_n 0), 1), (39, (.getfield 133), 3), (42, (.iload_n 3), 1), (43, (.iconst (-1)), 1), (44, .iastore, 1), (45, (.iinc 3 1), 3), (48, (.goto (-23)), 3), (51, (.iconst 0), 1), (52, (.istore_n 3), 1), (53, (.iload_n 3), 1), (54, (.sipush 400), 3), (57, (.if_icmp .ge 23), 3), (60, (.aload_n 0), 1), (61, (.getfield 136), 3), (64, (.iload_n 3), 1), (65, (.iconst (-1)), 1), (66, .iastore, 1), (67, (.aload_n 0), 1), (68, (.getfield 139), 3), (71, (.iload_n 3), 1), (72, (.iconst (-1)), 1), (73, .iastore, 1), (74, (.iinc 3 1), 3), (77, (.goto (-24)), 3), (80, (.aload_n 0), 1), (81, (.iconst 0), 1), (82, (.putfield 240), 3), (85, (.aload_n 0), 1), (86, (.iload_n 1), 1), (87, (.iload_n 2), 1), (88, (.invokevirtual 243), 3), (91, .pop, 1), (92, (.iconst 0), 1), (93, (.istore_n 3), 1), (94, (.iload_n 3), 1), (95, (.aload_n 0), 1), (96, (.getfield 240), 3), (99, (.if_icmp .ge 187), 3), (102, (.aload_n 0), 1), (103, (.getfield 142), 3), (106, (.iload_n 3), 1), (107, .iaload, 1), (108, (.istore 4), 2), (110, (.aload_n 0), 1), (111, (.getfield 130), 3), (114, (.iload 4), 2), (116, .iaload, 1), (117, (.istore 5), 2), (119, (.aload_n 0), 1), (120, (.getfield 45), 3), (123, (.iload 4), 2), (125, .iaload, 1), (126, (.aload_n 0), 1), (127, (.getfield 45), 3), (130, (.iload 5), 2), (132, .iaload, 1), (133, (.if_icmp .eq 5), 3), (136, (.iconst 0), 1), (137, .ireturn, 1), (138, (.iconst 0), 1), (139, (.istore 6), 2), (141, (.iload 6), 2), (143, (.aload_n 0), 1), (144, (.getfield 13), 3), (147, (.aload_n 0), 1), (148, (.getfield 45), 3), (151, (.iload 4), 2), (153, .iaload, 1), (154, .iaload, 1), (155, (.if_icmp .ge 125), 3), (158, (.aload_n 0), 1), (159, (.getfield 48), 3), (162, (.iconst 5), 1), (163, (.iload 4), 2), (165, .imul, 1), (166, (.iload 6), 2), (168, .iadd, 1), (169, .laload, 1), (170, (.lstore 7), 2), (172, (.aload_n 0), 1), (173, (.getfield 48), 3), (176, (.iconst 5), 1), (177, (.iload 5), 2), (179, .imul, 1), (180, (.iload 6), 2), (182, .iadd, 1), (183, .laload, 1), (184, (.lstore 9), 2), (186, (.aload_n 0), 1), (187, (.iload 4), 2), (189, (.iload 6), 2), (191, (.invokevirtual 170), 3), (194, (.iconst 2), 1), (195, (.if_icmp .lt 17), 3), (198, (.lload 7), 2), (200, (.lconst 0), 1), (201, .lcmp, 1)]
theorem tbX9_like_n40_ok : ∀ q ∈ tbX9_like_n40, decode cX9_like q.1 = .ok q.2 := by decide +kernel
theorem dX9_like_0 : decode cX9_like 0 = .ok (.aload_n 0, 1) := tb_at tbX9_like_n40_ok 0 rfl
theorem dX9_like_1 : decode cX9_like 1 = .ok (.iconst 0, 1) := tb_at tbX9_like_n40_ok 1 rfl
theorem dX9_like_2 : decode cX9_like 2 = .ok (.putfield 145, 3) := tb_at tbX9_like_n40_ok 2 rfl
theorem dX9_like_5 : decode cX9_like 5 = .ok (.aload_n 0, 1) := tb_at tbX9_like_n40_ok 3 rfl
theorem dX9_like_6 : decode cX9_like 6 = .ok (.iload_n 1, 1) := tb_at tbX9_like_n40_ok 4 rfl
theorem dX9_like_7 : decode cX9_like 7 = .ok (.invokevirtual 154, 3) := tb_at tbX9_like_n40_ok 5 rfl
theorem dX9_like_10 : decode cX9_like 10 = .ok (.ifCond .eq 11, 3) := tb_at tbX9_like_n40_ok 6 rfl
theorem dX9_like_13 : decode cX9_like 13 = .ok (.aload_n 0, 1) := tb_at tbX9_like_n40_ok 7 rfl
theorem dX9_like_14 : decode cX9_like 14 = .ok (.iload_n 2, 1) := tb_at tbX9_like_n40_ok 8 rfl
theorem dX9_like_15 : decode cX9_like 15 = .ok (.invokevirtual 154, 3) := tb_at tbX9_like_n40_ok 9 rfl
theorem dX9_like_18 : decode cX9_like 18 = .ok (.ifCond .ne 5, 3) := tb_at tbX9_like_n40_ok 10 rfl
theorem dX9_like_21 : decode cX9_like 21 = .ok (.iconst (-1), 1) := tb_at tbX9_like_n40_ok 11 rfl
theorem dX9_like_22 : decode cX9_like 22 = .ok (.ireturn, 1) := tb_at tbX9_like_n40_ok 12 rfl
theorem dX9_like_23 : decode cX9_like 23 = .ok (.iconst 0, 1) := tb_at tbX9_like_n40_ok 13 rfl
theorem dX9_like_24 : decode cX9_like 24 = .ok (.istore_n 3, 1) := tb_at tbX9_like_n40_ok 14 rfl
theorem dX9_like_25 : decode cX9_like 25 = .ok (.iload_n 3, 1) := tb_at tbX9_like_n40_ok 15 rfl
theorem dX9_like_26 : decode cX9_like 26 = .ok (.bipush 30, 2) := tb_at tbX9_like_n40_ok 16 rfl
theorem dX9_like_28 : decode cX9_like 28 = .ok (.if_icmp .ge 23, 3) := tb_at tbX9_like_n40_ok 17 rfl
theorem dX9_like_31 : decode cX9_like 31 = .ok (.aload_n 0, 1) := tb_at tbX9_like_n40_ok 18 rfl
theorem dX9_like_32 : decode cX9_like 32 = .ok (.getfield 130, 3) := tb_at tbX9_like_n40_ok 19 rfl
theorem dX9_like_35 : decode cX9_like 35 = .ok (.iload_n 3, 1) := tb_at tbX9_like_n40_ok 20 rfl
theorem dX9_like_36 : decode cX9_like 36 = .ok (.iconst (-1), 1) := tb_at tbX9_like_n40_ok 21 rfl
theorem dX9_like_37 : decode cX9_like 37 = .ok (.iastore, 1) := tb_at tbX9_like_n40_ok 22 rfl
theorem dX9_like_38 : decode cX9_like 38 = .ok (.aload_n 0, 1) := tb_at tbX9_like_n40_ok 23 rfl
theorem dX9_like_39 : decode cX9_like 39 = .ok (.getfield 133, 3) := tb_at tbX9_like_n40_ok 24 rfl
theorem dX9_like_42 : decode cX9_like 42 = .ok (.iload_n 3, 1) := tb_at tbX9_like_n40_ok 25 rfl
theorem dX9_like_43 : decode cX9_like 43 = .ok (.iconst (-1), 1) := tb_at tbX9_like_n40_ok 26 rfl
theorem dX9_like_44 : decode cX9_like 44 = .ok (.iastore, 1) := tb_at tbX9_like_n40_ok 27 rfl
theorem dX9_like_45 : decode cX9_like 45 = .ok (.iinc 3 1, 3) := tb_at tbX9_like_n40_ok 28 rfl
theorem dX9_like_48 : decode cX9_like 48 = .ok (.goto (-23), 3) := tb_at tbX9_like_n40_ok 29 rfl
theorem dX9_like_51 : decode cX9_like 51 = .ok (.iconst 0, 1) := tb_at tbX9_like_n40_ok 30 rfl
theorem dX9_like_52 : decode cX9_like 52 = .ok (.istore_n 3, 1) := tb_at tbX9_like_n40_ok 31 rfl
theorem dX9_like_53 : decode cX9_like 53 = .ok (.iload_n 3, 1) := tb_at tbX9_like_n40_ok 32 rfl
theorem dX9_like_54 : decode cX9_like 54 = .ok (.sipush 400, 3) := tb_at tbX9_like_n40_ok 33 rfl
theorem dX9_like_57 : decode cX9_like 57 = .ok (.if_icmp .ge 23, 3) := tb_at tbX9_like_n40_ok 34 rfl
theorem dX9_like_60 : decode cX9_like 60 = .ok (.aload_n 0, 1) := tb_at tbX9_like_n40_ok 35 rfl
theorem dX9_like_61 : decode cX9_like 61 = .ok (.getfield 136, 3) := tb_at tbX9_like_n40_ok 36 rfl
theorem dX9_like_64 : decode cX9_like 64 = .ok (.iload_n 3, 1) := tb_at tbX9_like_n40_ok 37 rfl
theorem dX9_like_65 : decode cX9_like 65 = .ok (.iconst (-1), 1) := tb_at tbX9_like_n40_ok 38 rfl
theorem dX9_like_66 : decode cX9_like 66 = .ok (.iastore, 1) := tb_at tbX9_like_n40_ok 39 rfl
theorem dX9_like_67 : decode cX9_like 67 = .ok (.aload_n 0, 1) := tb_at tbX9_like_n40_ok 40 rfl
theorem dX9_like_68 : decode cX9_like 68 = .ok (.getfield 139, 3) := tb_at tbX9_like_n40_ok 41 rfl
theorem dX9_like_71 : decode cX9_like 71 = .ok (.iload_n 3, 1) := tb_at tbX9_like_n40_ok 42 rfl
theorem dX9_like_72 : decode cX9_like 72 = .ok (.iconst (-1), 1) := tb_at tbX9_like_n40_ok 43 rfl
theorem dX9_like_73 : decode cX9_like 73 = .ok (.iastore, 1) := tb_at tbX9_like_n40_ok 44 rfl
theorem dX9_like_74 : decode cX9_like 74 = .ok (.iinc 3 1, 3) := tb_at tbX9_like_n40_ok 45 rfl
theorem dX9_like_77 : decode cX9_like 77 = .ok (.goto (-24), 3) := tb_at tbX9_like_n40_ok 46 rfl
theorem dX9_like_80 : decode cX9_like 80 = .ok (.aload_n 0, 1) := tb_at tbX9_like_n40_ok 47 rfl
theorem dX9_like_81 : decode cX9_like 81 = .ok (.iconst 0, 1) := tb_at tbX9_like_n40_ok 48 rfl
theorem dX9_like_82 : decode cX9_like 82 = .ok (.putfield 240, 3) := tb_at tbX9_like_n40_ok 49 rfl
theorem dX9_like_85 : decode cX9_like 85 = .ok (.aload_n 0, 1) := tb_at tbX9_like_n40_ok 50 rfl
theorem dX9_like_86 : decode cX9_like 86 = .ok (.iload_n 1, 1) := tb_at tbX9_like_n40_ok 51 rfl
theorem dX9_like_87 : decode cX9_like 87 = .ok (.iload_n 2, 1) := tb_at tbX9_like_n40_ok 52 rfl
theorem dX9_like_88 : decode cX9_like 88 = .ok (.invokevirtual 243, 3) := tb_at tbX9_like_n40_ok 53 rfl
theorem dX9_like_91 : decode cX9_like 91 = .ok (.pop, 1) := tb_at tbX9_like_n40_ok 54 rfl
theorem dX9_like_92 : decode cX9_like 92 = .ok (.iconst 0, 1) := tb_at tbX9_like_n40_ok 55 rfl
theorem dX9_like_93 : decode cX9_like 93 = .ok (.istore_n 3, 1) := tb_at tbX9_like_n40_ok 56 rfl
theorem dX9_like_94 : decode cX9_like 94 = .ok (.iload_n 3, 1) := tb_at tbX9_like_n40_ok 57 rfl
theorem dX9_like_95 : decode cX9_like 95 = .ok (.aload_n 0, 1) := tb_at tbX9_like_n40_ok 58 rfl
theorem dX9_like_96 : decode cX9_like 96 = .ok (.getfield 240, 3) := tb_at tbX9_like_n40_ok 59 rfl
theorem dX9_like_99 : decode cX9_like 99 = .ok (.if_icmp .ge 187, 3) := tb_at tbX9_like_n40_ok 60 rfl
theorem dX9_like_102 : decode cX9_like 102 = .ok (.aload_n 0, 1) := tb_at tbX9_like_n40_ok 61 rfl
theorem dX9_like_103 : decode cX9_like 103 = .ok (.getfield 142, 3) := tb_at tbX9_like_n40_ok 62 rfl
theorem dX9_like_106 : decode cX9_like 106 = .ok (.iload_n 3, 1) := tb_at tbX9_like_n40_ok 63 rfl
theorem dX9_like_107 : decode cX9_like 107 = .ok (.iaload, 1) := tb_at tbX9_like_n40_ok 64 rfl
theorem dX9_like_108 : decode cX9_like 108 = .ok (.istore 4, 2) := tb_at tbX9_like_n40_ok 65 rfl
theorem dX9_like_110 : decode cX9_like 110 = .ok (.aload_n 0, 1) := tb_at tbX9_like_n40_ok 66 rfl
theorem dX9_like_111 : decode cX9_like 111 = .ok (.getfield 130, 3) := tb_at tbX9_like_n40_ok 67 rfl
theorem dX9_like_114 : decode cX9_like 114 = .ok (.iload 4, 2) := tb_at tbX9_like_n40_ok 68 rfl
theorem dX9_like_116 : decode cX9_like 116 = .ok (.iaload, 1) := tb_at tbX9_like_n40_ok 69 rfl
theorem dX9_like_117 : decode cX9_like 117 = .ok (.istore 5, 2) := tb_at tbX9_like_n40_ok 70 rfl
theorem dX9_like_119 : decode cX9_like 119 = .ok (.aload_n 0, 1) := tb_at tbX9_like_n40_ok 71 rfl
theorem dX9_like_120 : decode cX9_like 120 = .ok (.getfield 45, 3) := tb_at tbX9_like_n40_ok 72 rfl
theorem dX9_like_123 : decode cX9_like 123 = .ok (.iload 4, 2) := tb_at tbX9_like_n40_ok 73 rfl
theorem dX9_like_125 : decode cX9_like 125 = .ok (.iaload, 1) := tb_at tbX9_like_n40_ok 74 rfl
theorem dX9_like_126 : decode cX9_like 126 = .ok (.aload_n 0, 1) := tb_at tbX9_like_n40_ok 75 rfl
theorem dX9_like_127 : decode cX9_like 127 = .ok (.getfield 45, 3) := tb_at tbX9_like_n40_ok 76 rfl
theorem dX9_like_130 : decode cX9_like 130 = .ok (.iload 5, 2) := tb_at tbX9_like_n40_ok 77 rfl
theorem dX9_like_132 : decode cX9_like 132 = .ok (.iaload, 1) := tb_at tbX9_like_n40_ok 78 rfl
theorem dX9_like_133 : decode cX9_like 133 = .ok (.if_icmp .eq 5, 3) := tb_at tbX9_like_n40_ok 79 rfl
theorem dX9_like_136 : decode cX9_like 136 = .ok (.iconst 0, 1) := tb_at tbX9_like_n40_ok 80 rfl
theorem dX9_like_137 : decode cX9_like 137 = .ok (.ireturn, 1) := tb_at tbX9_like_n40_ok 81 rfl
theorem dX9_like_138 : decode cX9_like 138 = .ok (.iconst 0, 1) := tb_at tbX9_like_n40_ok 82 rfl
theorem dX9_like_139 : decode cX9_like 139 = .ok (.istore 6, 2) := tb_at tbX9_like_n40_ok 83 rfl
theorem dX9_like_141 : decode cX9_like 141 = .ok (.iload 6, 2) := tb_at tbX9_like_n40_ok 84 rfl
theorem dX9_like_143 : decode cX9_like 143 = .ok (.aload_n 0, 1) := tb_at tbX9_like_n40_ok 85 rfl
theorem dX9_like_144 : decode cX9_like 144 = .ok (.getfield 13, 3) := tb_at tbX9_like_n40_ok 86 rfl
theorem dX9_like_147 : decode cX9_like 147 = .ok (.aload_n 0, 1) := tb_at tbX9_like_n40_ok 87 rfl
theorem dX9_like_148 : decode cX9_like 148 = .ok (.getfield 45, 3) := tb_at tbX9_like_n40_ok 88 rfl
theorem dX9_like_151 : decode cX9_like 151 = .ok (.iload 4, 2) := tb_at tbX9_like_n40_ok 89 rfl
theorem dX9_like_153 : decode cX9_like 153 = .ok (.iaload, 1) := tb_at tbX9_like_n40_ok 90 rfl
theorem dX9_like_154 : decode cX9_like 154 = .ok (.iaload, 1) := tb_at tbX9_like_n40_ok 91 rfl
theorem dX9_like_155 : decode cX9_like 155 = .ok (.if_icmp .ge 125, 3) := tb_at tbX9_like_n40_ok 92 rfl
theorem dX9_like_158 : decode cX9_like 158 = .ok (.aload_n 0, 1) := tb_at tbX9_like_n40_ok 93 rfl
theorem dX9_like_159 : decode cX9_like 159 = .ok (.getfield 48, 3) := tb_at tbX9_like_n40_ok 94 rfl
theorem dX9_like_162 : decode cX9_like 162 = .ok (.iconst 5, 1) := tb_at tbX9_like_n40_ok 95 rfl
theorem dX9_like_163 : decode cX9_like 163 = .ok (.iload 4, 2) := tb_at tbX9_like_n40_ok 96 rfl
theorem dX9_like_165 : decode cX9_like 165 = .ok (.imul, 1) := tb_at tbX9_like_n40_ok 97 rfl
theorem dX9_like_166 : decode cX9_like 166 = .ok (.iload 6, 2) := tb_at tbX9_like_n40_ok 98 rfl
theorem dX9_like_168 : decode cX9_like 168 = .ok (.iadd, 1) := tb_at tbX9_like_n40_ok 99 rfl
theorem dX9_like_169 : decode cX9_like 169 = .ok (.laload, 1) := tb_at tbX9_like_n40_ok 100 rfl
theorem dX9_like_170 : decode cX9_like 170 = .ok (.lstore 7, 2) := tb_at tbX9_like_n40_ok 101 rfl
theorem dX9_like_172 : decode cX9_like 172 = .ok (.aload_n 0, 1) := tb_at tbX9_like_n40_ok 102 rfl
theorem dX9_like_173 : decode cX9_like 173 = .ok (.getfield 48, 3) := tb_at tbX9_like_n40_ok 103 rfl
theorem dX9_like_176 : decode cX9_like 176 = .ok (.iconst 5, 1) := tb_at tbX9_like_n40_ok 104 rfl
theorem dX9_like_177 : decode cX9_like 177 = .ok (.iload 5, 2) := tb_at tbX9_like_n40_ok 105 rfl
theorem dX9_like_179 : decode cX9_like 179 = .ok (.imul, 1) := tb_at tbX9_like_n40_ok 106 rfl
theorem dX9_like_180 : decode cX9_like 180 = .ok (.iload 6, 2) := tb_at tbX9_like_n40_ok 107 rfl
theorem dX9_like_182 : decode cX9_like 182 = .ok (.iadd, 1) := tb_at tbX9_like_n40_ok 108 rfl
theorem dX9_like_183 : decode cX9_like 183 = .ok (.laload, 1) := tb_at tbX9_like_n40_ok 109 rfl
theorem dX9_like_184 : decode cX9_like 184 = .ok (.lstore 9, 2) := tb_at tbX9_like_n40_ok 110 rfl
theorem dX9_like_186 : decode cX9_like 186 = .ok (.aload_n 0, 1) := tb_at tbX9_like_n40_ok 111 rfl
theorem dX9_like_187 : decode cX9_like 187 = .ok (.iload 4, 2) := tb_at tbX9_like_n40_ok 112 rfl
theorem dX9_like_189 : decode cX9_like 189 = .ok (.iload 6, 2) := tb_at tbX9_like_n40_ok 113 rfl
theorem dX9_like_191 : decode cX9_like 191 = .ok (.invokevirtual 170, 3) := tb_at tbX9_like_n40_ok 114 rfl
theorem dX9_like_194 : decode cX9_like 194 = .ok (.iconst 2, 1) := tb_at tbX9_like_n40_ok 115 rfl
theorem dX9_like_195 : decode cX9_like 195 = .ok (.if_icmp .lt 17, 3) := tb_at tbX9_like_n40_ok 116 rfl
theorem dX9_like_198 : decode cX9_like 198 = .ok (.lload 7, 2) := tb_at tbX9_like_n40_ok 117 rfl
theorem dX9_like_200 : decode cX9_like 200 = .ok (.lconst 0, 1) := tb_at tbX9_like_n40_ok 118 rfl
theorem dX9_like_201 : decode cX9_like 201 = .ok (.lcmp, 1) := tb_at tbX9_like_n40_ok 119 rfl
noncomputable def tbX9_like_n41 : List (Nat × Instr × Nat) := [(202, (.ifCond .lt 10), 3), (205, (.lload 9), 2), (207, (.lconst 0), 1), (208, .lcmp, 1), (209, (.ifCond .ge 21), 3), (212, (.lload 7), 2), (214, (.lload 9), 2), (216, .lcmp, 1), (217, (.ifCond .ne 7), 3), (220, (.iconst 1), 1), (221, (.goto 4), 3), (224, (.iconst 0), 1), (225, (.istore 11), 2), (227, (.goto 40), 3), (230, (.aload_n 0), 1), (231, (.iload 4), 2), (233, (.iload 6), 2), (235, (.invokevirtual 170), 3), (238, (.iconst 2), 1), (239, (.if_icmp .ne 16), 3), (242, (.aload_n 0), 1), (243, (.lload 7), 2), (245, .l2i, 1), (246, (.lload 9), 2), (248, .l2i, 1), (249, (.invokevirtual 243), 3), (252, (.goto 13), 3), (255, (.aload_n 0), 1), (256, (.lload 7), 2), (258, .l2i, 1), (259, (.lload 9), 2), (261, .l2i, 1), (262, (.invokevirtual 246), 3), (265, (.istore 11), 2), (267, (.iload 11), 2), (269, (.ifCond .ne 5), 3), (272, (.iconst 0), 1), (273, .ireturn, 1), (274, (.iinc 6 1), 3), (277, (.goto (-136)), 3), (280, (.iinc 3 1), 3), (283, (.goto (-189)), 3), (286, (.iconst 1), 1), (287, .ireturn, 1)]
theorem tbX9_like_n41_ok : ∀ q ∈ tbX9_like_n41, decode cX9_like q.1 = .ok q.2 := by decide +kernel
theorem dX9_like_202 : decode cX9_like 202 = .ok (.ifCond .lt 10, 3) := tb_at tbX9_like_n41_ok 0 rfl
theorem dX9_like_205 : decode cX9_like 205 = .ok (.lload 9, 2) := tb_at tbX9_like_n41_ok 1 rfl
theorem dX9_like_207 : decode cX9_like 207 = .ok (.lconst 0, 1) := tb_at tbX9_like_n41_ok 2 rfl
theorem dX9_like_208 : decode cX9_like 208 = .ok (.lcmp, 1) := tb_at tbX9_like_n41_ok 3 rfl
theorem dX9_like_209 : decode cX9_like 209 = .ok (.ifCond .ge 21, 3) := tb_at tbX9_like_n41_ok 4 rfl
theorem dX9_like_212 : decode cX9_like 212 = .ok (.lload 7, 2) := tb_at tbX9_like_n41_ok 5 rfl
theorem dX9_like_214 : decode cX9_like 214 = .ok (.lload 9, 2) := tb_at tbX9_like_n41_ok 6 rfl
theorem dX9_like_216 : decode cX9_like 216 = .ok (.lcmp, 1) := tb_at tbX9_like_n41_ok 7 rfl
theorem dX9_like_217 : decode cX9_like 217 = .ok (.ifCond .ne 7, 3) := tb_at tbX9_like_n41_ok 8 rfl
theorem dX9_like_220 : decode cX9_like 220 = .ok (.iconst 1, 1) := tb_at tbX9_like_n41_ok 9 rfl
theorem dX9_like_221 : decode cX9_like 221 = .ok (.goto 4, 3) := tb_at tbX9_like_n41_ok 10 rfl
theorem dX9_like_224 : decode cX9_like 224 = .ok (.iconst 0, 1) := tb_at tbX9_like_n41_ok 11 rfl
theorem dX9_like_225 : decode cX9_like 225 = .ok (.istore 11, 2) := tb_at tbX9_like_n41_ok 12 rfl
theorem dX9_like_227 : decode cX9_like 227 = .ok (.goto 40, 3) := tb_at tbX9_like_n41_ok 13 rfl
theorem dX9_like_230 : decode cX9_like 230 = .ok (.aload_n 0, 1) := tb_at tbX9_like_n41_ok 14 rfl
theorem dX9_like_231 : decode cX9_like 231 = .ok (.iload 4, 2) := tb_at tbX9_like_n41_ok 15 rfl
theorem dX9_like_233 : decode cX9_like 233 = .ok (.iload 6, 2) := tb_at tbX9_like_n41_ok 16 rfl
theorem dX9_like_235 : decode cX9_like 235 = .ok (.invokevirtual 170, 3) := tb_at tbX9_like_n41_ok 17 rfl
theorem dX9_like_238 : decode cX9_like 238 = .ok (.iconst 2, 1) := tb_at tbX9_like_n41_ok 18 rfl
theorem dX9_like_239 : decode cX9_like 239 = .ok (.if_icmp .ne 16, 3) := tb_at tbX9_like_n41_ok 19 rfl
theorem dX9_like_242 : decode cX9_like 242 = .ok (.aload_n 0, 1) := tb_at tbX9_like_n41_ok 20 rfl
theorem dX9_like_243 : decode cX9_like 243 = .ok (.lload 7, 2) := tb_at tbX9_like_n41_ok 21 rfl
theorem dX9_like_245 : decode cX9_like 245 = .ok (.l2i, 1) := tb_at tbX9_like_n41_ok 22 rfl
theorem dX9_like_246 : decode cX9_like 246 = .ok (.lload 9, 2) := tb_at tbX9_like_n41_ok 23 rfl
theorem dX9_like_248 : decode cX9_like 248 = .ok (.l2i, 1) := tb_at tbX9_like_n41_ok 24 rfl
theorem dX9_like_249 : decode cX9_like 249 = .ok (.invokevirtual 243, 3) := tb_at tbX9_like_n41_ok 25 rfl
theorem dX9_like_252 : decode cX9_like 252 = .ok (.goto 13, 3) := tb_at tbX9_like_n41_ok 26 rfl
theorem dX9_like_255 : decode cX9_like 255 = .ok (.aload_n 0, 1) := tb_at tbX9_like_n41_ok 27 rfl
theorem dX9_like_256 : decode cX9_like 256 = .ok (.lload 7, 2) := tb_at tbX9_like_n41_ok 28 rfl
theorem dX9_like_258 : decode cX9_like 258 = .ok (.l2i, 1) := tb_at tbX9_like_n41_ok 29 rfl
theorem dX9_like_259 : decode cX9_like 259 = .ok (.lload 9, 2) := tb_at tbX9_like_n41_ok 30 rfl
theorem dX9_like_261 : decode cX9_like 261 = .ok (.l2i, 1) := tb_at tbX9_like_n41_ok 31 rfl
theorem dX9_like_262 : decode cX9_like 262 = .ok (.invokevirtual 246, 3) := tb_at tbX9_like_n41_ok 32 rfl
theorem dX9_like_265 : decode cX9_like 265 = .ok (.istore 11, 2) := tb_at tbX9_like_n41_ok 33 rfl
theorem dX9_like_267 : decode cX9_like 267 = .ok (.iload 11, 2) := tb_at tbX9_like_n41_ok 34 rfl
theorem dX9_like_269 : decode cX9_like 269 = .ok (.ifCond .ne 5, 3) := tb_at tbX9_like_n41_ok 35 rfl
theorem dX9_like_272 : decode cX9_like 272 = .ok (.iconst 0, 1) := tb_at tbX9_like_n41_ok 36 rfl
theorem dX9_like_273 : decode cX9_like 273 = .ok (.ireturn, 1) := tb_at tbX9_like_n41_ok 37 rfl
theorem dX9_like_274 : decode cX9_like 274 = .ok (.iinc 6 1, 3) := tb_at tbX9_like_n41_ok 38 rfl
theorem dX9_like_277 : decode cX9_like 277 = .ok (.goto (-136), 3) := tb_at tbX9_like_n41_ok 39 rfl
theorem dX9_like_280 : decode cX9_like 280 = .ok (.iinc 3 1, 3) := tb_at tbX9_like_n41_ok 40 rfl
theorem dX9_like_283 : decode cX9_like 283 = .ok (.goto (-189), 3) := tb_at tbX9_like_n41_ok 41 rfl
theorem dX9_like_286 : decode cX9_like 286 = .ok (.iconst 1, 1) := tb_at tbX9_like_n41_ok 42 rfl
theorem dX9_like_287 : decode cX9_like 287 = .ok (.ireturn, 1) := tb_at tbX9_like_n41_ok 43 rfl
noncomputable def tbX9_rowsDiffer_n40 : List (Nat × Instr × Nat) := [(0, (.aload_n 0), 1), (1, (.getfield 102), 3), (4, (.iload_n 1), 1), (5, .iaload, 1), (6, (.aload_n 0), 1), (7, (.getfield 102), 3), (10, (.iload_n 2), 1), (11, .iaload, 1), (12, (.if_icmp .ne 22), 3), (15, (.aload_n 0), 1), (16, (.getfield 105), 3), (19, (.iload_n 1), 1), (20, .iaload, 1), (21, (.aload_n 0), 1), (22, (.getfield 105), 3), (25, (.iload_n 2), 1), (26, .iaload, 1), (27, (.if_icmp .ne 7), 3), (30, (.iconst 1), 1), (31, (.goto 4), 3), (34, (.iconst 0), 1), (35, (.istore_n 3), 1), (36, (.iconst 0), 1), (37, (.istore 4), 2), (39, (.iload_n 3), 1), (40, (.ifCond .eq 54), 3), (43, (.iload 4), 2), (45, (.aload_n 0), 1), (46, (.getfield 105), 3), (49, (.iload_n 1), 1), (50, .iaload, 1), (51, (.if_icmp .ge 43), 3), (54, (.aload_n 0), 1), (55, (.getfield 108), 3), (58, (.bipush 12), 2), (60, (.iload_n 1), 1), (61, .imul, 1), (62, (.iload 4), 2), (64, .iadd, 1), (65, .laload, 1), (66, (.aload_n 0), 1), (67, (.getfield 108), 3), (70, (.bipush 12), 2), (72, (.iload_n 2), 1), (73, .imul, 1), (74, (.iload 4), 2), (76, .iadd, 1), (77, .laload, 1), (78, .lcmp, 1), (79, (.ifCond .ne 7), 3), (82, (.iconst 1), 1), (83, (.goto 4), 3), (86, (.iconst 0), 1), (87, (.istore_n 3), 1), (88, (.iinc 4 1), 3), (91, (.goto (-52)), 3), (94, (.iload_n 3), 1), (95, (.ifCond .ne 7), 3), (98, (.iconst 1), 1), (99, (.goto 4), 3), (102, (.iconst 0), 1), (103, .ireturn, 1)]
theorem tbX9_rowsDiffer_n40_ok : ∀ q ∈ tbX9_rowsDiffer_n40, decode cX9_rowsDiffer q.1 = .ok q.2 := by decide +kernel
theorem dX9_rowsDiffer_0 : decode cX9_rowsDiffer 0 = .ok (.aload_n 0, 1) := tb_at tbX9_rowsDiffer_n40_ok 0 rfl
theorem dX9_rowsDiffer_1 : decode cX9_rowsDiffer 1 = .ok (.getfield 102, 3) := tb_at tbX9_rowsDiffer_n40_ok 1 rfl
theorem dX9_rowsDiffer_4 : decode cX9_rowsDiffer 4 = .ok (.iload_n 1, 1) := tb_at tbX9_rowsDiffer_n40_ok 2 rfl
theorem dX9_rowsDiffer_5 : decode cX9_rowsDiffer 5 = .ok (.iaload, 1) := tb_at tbX9_rowsDiffer_n40_ok 3 rfl
theorem dX9_rowsDiffer_6 : decode cX9_rowsDiffer 6 = .ok (.aload_n 0, 1) := tb_at tbX9_rowsDiffer_n40_ok 4 rfl
theorem dX9_rowsDiffer_7 : decode cX9_rowsDiffer 7 = .ok (.getfield 102, 3) := tb_at tbX9_rowsDiffer_n40_ok 5 rfl
theorem dX9_rowsDiffer_10 : decode cX9_rowsDiffer 10 = .ok (.iload_n 2, 1) := tb_at tbX9_rowsDiffer_n40_ok 6 rfl
theorem dX9_rowsDiffer_11 : decode cX9_rowsDiffer 11 = .ok (.iaload, 1) := tb_at tbX9_rowsDiffer_n40_ok 7 rfl
theorem dX9_rowsDiffer_12 : decode cX9_rowsDiffer 12 = .ok (.if_icmp .ne 22, 3) := tb_at tbX9_rowsDiffer_n40_ok 8 rfl
theorem dX9_rowsDiffer_15 : decode cX9_rowsDiffer 15 = .ok (.aload_n 0, 1) := tb_at tbX9_rowsDiffer_n40_ok 9 rfl
theorem dX9_rowsDiffer_16 : decode cX9_rowsDiffer 16 = .ok (.getfield 105, 3) := tb_at tbX9_rowsDiffer_n40_ok 10 rfl
theorem dX9_rowsDiffer_19 : decode cX9_rowsDiffer 19 = .ok (.iload_n 1, 1) := tb_at tbX9_rowsDiffer_n40_ok 11 rfl
theorem dX9_rowsDiffer_20 : decode cX9_rowsDiffer 20 = .ok (.iaload, 1) := tb_at tbX9_rowsDiffer_n40_ok 12 rfl
theorem dX9_rowsDiffer_21 : decode cX9_rowsDiffer 21 = .ok (.aload_n 0, 1) := tb_at tbX9_rowsDiffer_n40_ok 13 rfl
theorem dX9_rowsDiffer_22 : decode cX9_rowsDiffer 22 = .ok (.getfield 105, 3) := tb_at tbX9_rowsDiffer_n40_ok 14 rfl
theorem dX9_rowsDiffer_25 : decode cX9_rowsDiffer 25 = .ok (.iload_n 2, 1) := tb_at tbX9_rowsDiffer_n40_ok 15 rfl
theorem dX9_rowsDiffer_26 : decode cX9_rowsDiffer 26 = .ok (.iaload, 1) := tb_at tbX9_rowsDiffer_n40_ok 16 rfl
theorem dX9_rowsDiffer_27 : decode cX9_rowsDiffer 27 = .ok (.if_icmp .ne 7, 3) := tb_at tbX9_rowsDiffer_n40_ok 17 rfl
theorem dX9_rowsDiffer_30 : decode cX9_rowsDiffer 30 = .ok (.iconst 1, 1) := tb_at tbX9_rowsDiffer_n40_ok 18 rfl
theorem dX9_rowsDiffer_31 : decode cX9_rowsDiffer 31 = .ok (.goto 4, 3) := tb_at tbX9_rowsDiffer_n40_ok 19 rfl
theorem dX9_rowsDiffer_34 : decode cX9_rowsDiffer 34 = .ok (.iconst 0, 1) := tb_at tbX9_rowsDiffer_n40_ok 20 rfl
theorem dX9_rowsDiffer_35 : decode cX9_rowsDiffer 35 = .ok (.istore_n 3, 1) := tb_at tbX9_rowsDiffer_n40_ok 21 rfl
theorem dX9_rowsDiffer_36 : decode cX9_rowsDiffer 36 = .ok (.iconst 0, 1) := tb_at tbX9_rowsDiffer_n40_ok 22 rfl
theorem dX9_rowsDiffer_37 : decode cX9_rowsDiffer 37 = .ok (.istore 4, 2) := tb_at tbX9_rowsDiffer_n40_ok 23 rfl
theorem dX9_rowsDiffer_39 : decode cX9_rowsDiffer 39 = .ok (.iload_n 3, 1) := tb_at tbX9_rowsDiffer_n40_ok 24 rfl
theorem dX9_rowsDiffer_40 : decode cX9_rowsDiffer 40 = .ok (.ifCond .eq 54, 3) := tb_at tbX9_rowsDiffer_n40_ok 25 rfl
theorem dX9_rowsDiffer_43 : decode cX9_rowsDiffer 43 = .ok (.iload 4, 2) := tb_at tbX9_rowsDiffer_n40_ok 26 rfl
theorem dX9_rowsDiffer_45 : decode cX9_rowsDiffer 45 = .ok (.aload_n 0, 1) := tb_at tbX9_rowsDiffer_n40_ok 27 rfl
theorem dX9_rowsDiffer_46 : decode cX9_rowsDiffer 46 = .ok (.getfield 105, 3) := tb_at tbX9_rowsDiffer_n40_ok 28 rfl
theorem dX9_rowsDiffer_49 : decode cX9_rowsDiffer 49 = .ok (.iload_n 1, 1) := tb_at tbX9_rowsDiffer_n40_ok 29 rfl
theorem dX9_rowsDiffer_50 : decode cX9_rowsDiffer 50 = .ok (.iaload, 1) := tb_at tbX9_rowsDiffer_n40_ok 30 rfl
theorem dX9_rowsDiffer_51 : decode cX9_rowsDiffer 51 = .ok (.if_icmp .ge 43, 3) := tb_at tbX9_rowsDiffer_n40_ok 31 rfl
theorem dX9_rowsDiffer_54 : decode cX9_rowsDiffer 54 = .ok (.aload_n 0, 1) := tb_at tbX9_rowsDiffer_n40_ok 32 rfl
theorem dX9_rowsDiffer_55 : decode cX9_rowsDiffer 55 = .ok (.getfield 108, 3) := tb_at tbX9_rowsDiffer_n40_ok 33 rfl
theorem dX9_rowsDiffer_58 : decode cX9_rowsDiffer 58 = .ok (.bipush 12, 2) := tb_at tbX9_rowsDiffer_n40_ok 34 rfl
theorem dX9_rowsDiffer_60 : decode cX9_rowsDiffer 60 = .ok (.iload_n 1, 1) := tb_at tbX9_rowsDiffer_n40_ok 35 rfl
theorem dX9_rowsDiffer_61 : decode cX9_rowsDiffer 61 = .ok (.imul, 1) := tb_at tbX9_rowsDiffer_n40_ok 36 rfl
theorem dX9_rowsDiffer_62 : decode cX9_rowsDiffer 62 = .ok (.iload 4, 2) := tb_at tbX9_rowsDiffer_n40_ok 37 rfl
theorem dX9_rowsDiffer_64 : decode cX9_rowsDiffer 64 = .ok (.iadd, 1) := tb_at tbX9_rowsDiffer_n40_ok 38 rfl
theorem dX9_rowsDiffer_65 : decode cX9_rowsDiffer 65 = .ok (.laload, 1) := tb_at tbX9_rowsDiffer_n40_ok 39 rfl
theorem dX9_rowsDiffer_66 : decode cX9_rowsDiffer 66 = .ok (.aload_n 0, 1) := tb_at tbX9_rowsDiffer_n40_ok 40 rfl
theorem dX9_rowsDiffer_67 : decode cX9_rowsDiffer 67 = .ok (.getfield 108, 3) := tb_at tbX9_rowsDiffer_n40_ok 41 rfl
theorem dX9_rowsDiffer_70 : decode cX9_rowsDiffer 70 = .ok (.bipush 12, 2) := tb_at tbX9_rowsDiffer_n40_ok 42 rfl
theorem dX9_rowsDiffer_72 : decode cX9_rowsDiffer 72 = .ok (.iload_n 2, 1) := tb_at tbX9_rowsDiffer_n40_ok 43 rfl
theorem dX9_rowsDiffer_73 : decode cX9_rowsDiffer 73 = .ok (.imul, 1) := tb_at tbX9_rowsDiffer_n40_ok 44 rfl
theorem dX9_rowsDiffer_74 : decode cX9_rowsDiffer 74 = .ok (.iload 4, 2) := tb_at tbX9_rowsDiffer_n40_ok 45 rfl
theorem dX9_rowsDiffer_76 : decode cX9_rowsDiffer 76 = .ok (.iadd, 1) := tb_at tbX9_rowsDiffer_n40_ok 46 rfl
theorem dX9_rowsDiffer_77 : decode cX9_rowsDiffer 77 = .ok (.laload, 1) := tb_at tbX9_rowsDiffer_n40_ok 47 rfl
theorem dX9_rowsDiffer_78 : decode cX9_rowsDiffer 78 = .ok (.lcmp, 1) := tb_at tbX9_rowsDiffer_n40_ok 48 rfl
theorem dX9_rowsDiffer_79 : decode cX9_rowsDiffer 79 = .ok (.ifCond .ne 7, 3) := tb_at tbX9_rowsDiffer_n40_ok 49 rfl
theorem dX9_rowsDiffer_82 : decode cX9_rowsDiffer 82 = .ok (.iconst 1, 1) := tb_at tbX9_rowsDiffer_n40_ok 50 rfl
theorem dX9_rowsDiffer_83 : decode cX9_rowsDiffer 83 = .ok (.goto 4, 3) := tb_at tbX9_rowsDiffer_n40_ok 51 rfl
theorem dX9_rowsDiffer_86 : decode cX9_rowsDiffer 86 = .ok (.iconst 0, 1) := tb_at tbX9_rowsDiffer_n40_ok 52 rfl
theorem dX9_rowsDiffer_87 : decode cX9_rowsDiffer 87 = .ok (.istore_n 3, 1) := tb_at tbX9_rowsDiffer_n40_ok 53 rfl
theorem dX9_rowsDiffer_88 : decode cX9_rowsDiffer 88 = .ok (.iinc 4 1, 3) := tb_at tbX9_rowsDiffer_n40_ok 54 rfl
theorem dX9_rowsDiffer_91 : decode cX9_rowsDiffer 91 = .ok (.goto (-52), 3) := tb_at tbX9_rowsDiffer_n40_ok 55 rfl
theorem dX9_rowsDiffer_94 : decode cX9_rowsDiffer 94 = .ok (.iload_n 3, 1) := tb_at tbX9_rowsDiffer_n40_ok 56 rfl
theorem dX9_rowsDiffer_95 : decode cX9_rowsDiffer 95 = .ok (.ifCond .ne 7, 3) := tb_at tbX9_rowsDiffer_n40_ok 57 rfl
theorem dX9_rowsDiffer_98 : decode cX9_rowsDiffer 98 = .ok (.iconst 1, 1) := tb_at tbX9_rowsDiffer_n40_ok 58 rfl
theorem dX9_rowsDiffer_99 : decode cX9_rowsDiffer 99 = .ok (.goto 4, 3) := tb_at tbX9_rowsDiffer_n40_ok 59 rfl
theorem dX9_rowsDiffer_102 : decode cX9_rowsDiffer 102 = .ok (.iconst 0, 1) := tb_at tbX9_rowsDiffer_n40_ok 60 rfl
theorem dX9_rowsDiffer_103 : decode cX9_rowsDiffer 103 = .ok (.ireturn, 1) := tb_at tbX9_rowsDiffer_n40_ok 61 rfl
set_option maxRecDepth 20000 in
theorem ggX9_differs_X9_isSave : GoodIn wsX9_differs wsX9_isSave := goodIn_r _ [12] (by decide +kernel) (by decide +kernel)
set_option maxRecDepth 20000 in
theorem gX9_differs_X9_isSave : GoodIn wsX9_differs (wsV RX9 223 RX9 yX9_isSave wsX9_isSave) := goodIn_app (goodIn_of _ (by decide +kernel)) ggX9_differs_X9_isSave
set_option maxRecDepth 20000 in
theorem ggX9_differs_X9_isThing : GoodIn wsX9_differs wsX9_isThing := goodIn_r _ [16, 17, 56, 57, 58, 59, 60, 61, 62, 63, 64, 65, 66, 67, 68, 69, 70, 71, 72, 73, 74, 75, 76, 77, 78, 79, 80, 81, 82, 83, 84, 85, 86, 87, 88, 89, 90, 91, 92, 93, 94, 95, 96, 97, 98, 99, 100, 101, 102, 103, 104, 105, 106] (by decide +kernel) (by decide +kernel)
set_option maxRecDepth 20000 in
theorem gX9_differs_X9_isThing : GoodIn wsX9_differs (wsV RX9 154 RX9 yX9_isThing wsX9_isThing) := goodIn_app (goodIn_of _ (by decide +kernel)) ggX9_differs_X9_isThing
set_option maxRecDepth 20000 in
theorem ggX9_differs_X9_saves : GoodIn wsX9_differs wsX9_saves := goodIn_r _ [21, 2, 22, 23, 24, 3, 4, 25, 26, 27, 28, 5, 6, 29, 7, 30, 31, 32, 11, 33, 34, 35, 36, 37, 38, 39, 40, 41, 42, 43, 44, 45, 46, 47, 48, 49, 50, 51, 56, 57, 58, 59, 60, 61, 62, 63, 64, 65, 66, 67, 68, 69, 70, 71, 72, 73, 74, 75, 76, 77, 78, 79, 80, 81, 82, 83, 84, 85, 86, 87, 88, 89, 90, 91, 92, 93, 94, 95, 96, 97, 98, 99, 100, 101, 102, 103, 104, 105, 106] (by decide +kernel) (by decide +kernel)
set_option maxRecDepth 20000 in
theorem gX9_differs_X9_saves : GoodIn wsX9_differs (wsV RX9 226 RX9 yX9_saves wsX9_saves) := goodIn_app (goodIn_of _ (by decide +kernel)) ggX9_differs_X9_saves
set_option maxRecDepth 20000 in
theorem ggX9_differs_X9_rowsDiffer : GoodIn wsX9_differs wsX9_rowsDiffer := goodIn_r _ [55, 46, 48, 50, 56, 57, 58, 59, 60, 61, 62, 63, 64, 65, 66, 67, 68, 69, 70, 71, 72, 73, 74, 75, 76, 77, 78, 79, 80, 81, 82, 83, 84, 85, 86, 87, 88, 89, 90, 91, 92, 93, 94, 95, 96, 97, 98, 99, 100, 101, 102, 103, 104, 105, 106] (by decide +kernel) (by decide +kernel)
set_option maxRecDepth 20000 in
theorem gX9_differs_X9_rowsDiffer : GoodIn wsX9_differs (wsV RX9 249 RX9 yX9_rowsDiffer wsX9_rowsDiffer) := goodIn_app (goodIn_of _ (by decide +kernel)) ggX9_differs_X9_rowsDiffer
noncomputable def tbX9_differs_n40 : List (Nat × Instr × Nat) := [(0, (.aload_n 0), 1), (1, (.iconst 0), 1), (2, (.putfield 145), 3), (5, (.aload_n 0), 1), (6, (.iload_n 1), 1), (7, (.invokevirtual 223), 3), (10, (.ifCond .eq 20), 3), (13, (.aload_n 0), 1), (14, (.getfield 81), 3), (17, (.iload_n 1), 1), (18, .iaload, 1), (19, (.ifCond .eq 11), 3), (22, (.aload_n 0), 1), (23, (.iload_n 2), 1), (24, (.invokevirtual 154), 3), (27, (.ifCond .ne 6), 3), (30, (.bipush (-2)), 2), (32, .ireturn, 1), (33, (.aload_n 0), 1), (34, (.iload_n 2), 1), (35, (.iconst 0), 1), (36, (.invokevirtual 226), 3), (39, .pop, 1), (40, (.aload_n 0), 1), (41, (.getfield 81), 3), (44, (.iload_n 1), 1), (45, .iaload, 1), (46, (.aload_n 0), 1), (47, (.getfield 81), 3), (50, (.iconst 4), 1), (51, .iaload, 1), (52, (.if_icmp .le 12), 3), (55, (.aload_n 0), 1), (56, (.getfield 81), 3), (59, (.iload_n 1), 1), (60, .iaload, 1), (61, (.goto 9), 3), (64, (.aload_n 0), 1), (65, (.getfield 81), 3), (68, (.iconst 4), 1), (69, .iaload, 1), (70, (.istore_n 3), 1), (71, (.iconst 0), 1), (72, (.istore 4), 2), (74, (.iload 4), 2), (76, (.iload_n 3), 1), (77, (.if_icmp .ge 340), 3), (80, (.iload 4), 2), (82, (.aload_n 0), 1), (83, (.getfield 81), 3), (86, (.iload_n 1), 1), (87, .iaload, 1), (88, (.if_icmp .ge 14), 3), (91, (.iload 4), 2), (93, (.aload_n 0), 1), (94, (.getfield 81), 3), (97, (.iconst 4), 1), (98, .iaload, 1), (99, (.if_icmp .lt 12), 3), (102, (.bipush 100), 2), (104, (.iload 4), 2), (106, .imul, 1), (107, (.bipush 99), 2), (109, .iadd, 1), (110, .ireturn, 1), (111, (.bipush 30), 2), (113, (.iload_n 1), 1), (114, .imul, 1), (115, (.iload 4), 2), (117, .iadd, 1), (118, (.istore 5), 2), (120, (.bipush 120), 2), (122, (.iload 4), 2), (124, .iadd, 1), (125, (.istore 6), 2), (127, (.aload_n 0), 1), (128, (.getfield 84), 3), (131, (.iload 5), 2), (133, .iaload, 1), (134, (.aload_n 0), 1), (135, (.getfield 84), 3), (138, (.iload 6), 2), (140, .iaload, 1), (141, (.if_icmp .ne 24), 3), (144, (.aload_n 0), 1), (145, (.getfield 87), 3), (148, (.iload 5), 2), (150, .iaload, 1), (151, (.aload_n 0), 1), (152, (.getfield 87), 3), (155, (.iload 6), 2), (157, .iaload, 1), (158, (.if_icmp .ne 7), 3), (161, (.iconst 1), 1), (162, (.goto 4), 3), (165, (.iconst 0), 1), (166, (.istore 7), 2), (168, (.iconst 0), 1), (169, (.istore 8), 2), (171, (.iload 7), 2), (173, (.ifCond .eq 82), 3), (176, (.iload 8), 2), (178, (.aload_n 0), 1), (179, (.getfield 87), 3), (182, (.iload 5), 2), (184, .iaload, 1), (185, (.if_icmp .ge 70), 3), (188, (.aload_n 0), 1), (189, (.getfield 90), 3), (192, (.iconst 5), 1), (193, (.iload 5), 2), (195, .imul, 1), (196, (.iload 8), 2), (198, .iadd, 1), (199, .iaload, 1), (200, (.aload_n 0), 1), (201, (.getfield 90), 3), (204, (.iconst 5), 1), (205, (.iload 6), 2), (207, .imul, 1)]
theorem tbX9_differs_n40_ok : ∀ q ∈ tbX9_differs_n40, decode cX9_differs q.1 = .ok q.2 := by decide +kernel
theorem dX9_differs_0 : decode cX9_differs 0 = .ok (.aload_n 0, 1) := tb_at tbX9_differs_n40_ok 0 rfl
theorem dX9_differs_1 : decode cX9_differs 1 = .ok (.iconst 0, 1) := tb_at tbX9_differs_n40_ok 1 rfl
theorem dX9_differs_2 : decode cX9_differs 2 = .ok (.putfield 145, 3) := tb_at tbX9_differs_n40_ok 2 rfl
theorem dX9_differs_5 : decode cX9_differs 5 = .ok (.aload_n 0, 1) := tb_at tbX9_differs_n40_ok 3 rfl
theorem dX9_differs_6 : decode cX9_differs 6 = .ok (.iload_n 1, 1) := tb_at tbX9_differs_n40_ok 4 rfl
theorem dX9_differs_7 : decode cX9_differs 7 = .ok (.invokevirtual 223, 3) := tb_at tbX9_differs_n40_ok 5 rfl
theorem dX9_differs_10 : decode cX9_differs 10 = .ok (.ifCond .eq 20, 3) := tb_at tbX9_differs_n40_ok 6 rfl
theorem dX9_differs_13 : decode cX9_differs 13 = .ok (.aload_n 0, 1) := tb_at tbX9_differs_n40_ok 7 rfl
theorem dX9_differs_14 : decode cX9_differs 14 = .ok (.getfield 81, 3) := tb_at tbX9_differs_n40_ok 8 rfl
theorem dX9_differs_17 : decode cX9_differs 17 = .ok (.iload_n 1, 1) := tb_at tbX9_differs_n40_ok 9 rfl
theorem dX9_differs_18 : decode cX9_differs 18 = .ok (.iaload, 1) := tb_at tbX9_differs_n40_ok 10 rfl
theorem dX9_differs_19 : decode cX9_differs 19 = .ok (.ifCond .eq 11, 3) := tb_at tbX9_differs_n40_ok 11 rfl
theorem dX9_differs_22 : decode cX9_differs 22 = .ok (.aload_n 0, 1) := tb_at tbX9_differs_n40_ok 12 rfl
theorem dX9_differs_23 : decode cX9_differs 23 = .ok (.iload_n 2, 1) := tb_at tbX9_differs_n40_ok 13 rfl
theorem dX9_differs_24 : decode cX9_differs 24 = .ok (.invokevirtual 154, 3) := tb_at tbX9_differs_n40_ok 14 rfl
theorem dX9_differs_27 : decode cX9_differs 27 = .ok (.ifCond .ne 6, 3) := tb_at tbX9_differs_n40_ok 15 rfl
theorem dX9_differs_30 : decode cX9_differs 30 = .ok (.bipush (-2), 2) := tb_at tbX9_differs_n40_ok 16 rfl
theorem dX9_differs_32 : decode cX9_differs 32 = .ok (.ireturn, 1) := tb_at tbX9_differs_n40_ok 17 rfl
theorem dX9_differs_33 : decode cX9_differs 33 = .ok (.aload_n 0, 1) := tb_at tbX9_differs_n40_ok 18 rfl
theorem dX9_differs_34 : decode cX9_differs 34 = .ok (.iload_n 2, 1) := tb_at tbX9_differs_n40_ok 19 rfl
theorem dX9_differs_35 : decode cX9_differs 35 = .ok (.iconst 0, 1) := tb_at tbX9_differs_n40_ok 20 rfl
theorem dX9_differs_36 : decode cX9_differs 36 = .ok (.invokevirtual 226, 3) := tb_at tbX9_differs_n40_ok 21 rfl
theorem dX9_differs_39 : decode cX9_differs 39 = .ok (.pop, 1) := tb_at tbX9_differs_n40_ok 22 rfl
theorem dX9_differs_40 : decode cX9_differs 40 = .ok (.aload_n 0, 1) := tb_at tbX9_differs_n40_ok 23 rfl
theorem dX9_differs_41 : decode cX9_differs 41 = .ok (.getfield 81, 3) := tb_at tbX9_differs_n40_ok 24 rfl
theorem dX9_differs_44 : decode cX9_differs 44 = .ok (.iload_n 1, 1) := tb_at tbX9_differs_n40_ok 25 rfl
theorem dX9_differs_45 : decode cX9_differs 45 = .ok (.iaload, 1) := tb_at tbX9_differs_n40_ok 26 rfl
theorem dX9_differs_46 : decode cX9_differs 46 = .ok (.aload_n 0, 1) := tb_at tbX9_differs_n40_ok 27 rfl
theorem dX9_differs_47 : decode cX9_differs 47 = .ok (.getfield 81, 3) := tb_at tbX9_differs_n40_ok 28 rfl
theorem dX9_differs_50 : decode cX9_differs 50 = .ok (.iconst 4, 1) := tb_at tbX9_differs_n40_ok 29 rfl
theorem dX9_differs_51 : decode cX9_differs 51 = .ok (.iaload, 1) := tb_at tbX9_differs_n40_ok 30 rfl
theorem dX9_differs_52 : decode cX9_differs 52 = .ok (.if_icmp .le 12, 3) := tb_at tbX9_differs_n40_ok 31 rfl
theorem dX9_differs_55 : decode cX9_differs 55 = .ok (.aload_n 0, 1) := tb_at tbX9_differs_n40_ok 32 rfl
theorem dX9_differs_56 : decode cX9_differs 56 = .ok (.getfield 81, 3) := tb_at tbX9_differs_n40_ok 33 rfl
theorem dX9_differs_59 : decode cX9_differs 59 = .ok (.iload_n 1, 1) := tb_at tbX9_differs_n40_ok 34 rfl
theorem dX9_differs_60 : decode cX9_differs 60 = .ok (.iaload, 1) := tb_at tbX9_differs_n40_ok 35 rfl
theorem dX9_differs_61 : decode cX9_differs 61 = .ok (.goto 9, 3) := tb_at tbX9_differs_n40_ok 36 rfl
theorem dX9_differs_64 : decode cX9_differs 64 = .ok (.aload_n 0, 1) := tb_at tbX9_differs_n40_ok 37 rfl
theorem dX9_differs_65 : decode cX9_differs 65 = .ok (.getfield 81, 3) := tb_at tbX9_differs_n40_ok 38 rfl
theorem dX9_differs_68 : decode cX9_differs 68 = .ok (.iconst 4, 1) := tb_at tbX9_differs_n40_ok 39 rfl
theorem dX9_differs_69 : decode cX9_differs 69 = .ok (.iaload, 1) := tb_at tbX9_differs_n40_ok 40 rfl
theorem dX9_differs_70 : decode cX9_differs 70 = .ok (.istore_n 3, 1) := tb_at tbX9_differs_n40_ok 41 rfl
theorem dX9_differs_71 : decode cX9_differs 71 = .ok (.iconst 0, 1) := tb_at tbX9_differs_n40_ok 42 rfl
theorem dX9_differs_72 : decode cX9_differs 72 = .ok (.istore 4, 2) := tb_at tbX9_differs_n40_ok 43 rfl
theorem dX9_differs_74 : decode cX9_differs 74 = .ok (.iload 4, 2) := tb_at tbX9_differs_n40_ok 44 rfl
theorem dX9_differs_76 : decode cX9_differs 76 = .ok (.iload_n 3, 1) := tb_at tbX9_differs_n40_ok 45 rfl
theorem dX9_differs_77 : decode cX9_differs 77 = .ok (.if_icmp .ge 340, 3) := tb_at tbX9_differs_n40_ok 46 rfl
theorem dX9_differs_80 : decode cX9_differs 80 = .ok (.iload 4, 2) := tb_at tbX9_differs_n40_ok 47 rfl
theorem dX9_differs_82 : decode cX9_differs 82 = .ok (.aload_n 0, 1) := tb_at tbX9_differs_n40_ok 48 rfl
theorem dX9_differs_83 : decode cX9_differs 83 = .ok (.getfield 81, 3) := tb_at tbX9_differs_n40_ok 49 rfl
theorem dX9_differs_86 : decode cX9_differs 86 = .ok (.iload_n 1, 1) := tb_at tbX9_differs_n40_ok 50 rfl
theorem dX9_differs_87 : decode cX9_differs 87 = .ok (.iaload, 1) := tb_at tbX9_differs_n40_ok 51 rfl
theorem dX9_differs_88 : decode cX9_differs 88 = .ok (.if_icmp .ge 14, 3) := tb_at tbX9_differs_n40_ok 52 rfl
theorem dX9_differs_91 : decode cX9_differs 91 = .ok (.iload 4, 2) := tb_at tbX9_differs_n40_ok 53 rfl
theorem dX9_differs_93 : decode cX9_differs 93 = .ok (.aload_n 0, 1) := tb_at tbX9_differs_n40_ok 54 rfl
theorem dX9_differs_94 : decode cX9_differs 94 = .ok (.getfield 81, 3) := tb_at tbX9_differs_n40_ok 55 rfl
theorem dX9_differs_97 : decode cX9_differs 97 = .ok (.iconst 4, 1) := tb_at tbX9_differs_n40_ok 56 rfl
theorem dX9_differs_98 : decode cX9_differs 98 = .ok (.iaload, 1) := tb_at tbX9_differs_n40_ok 57 rfl
theorem dX9_differs_99 : decode cX9_differs 99 = .ok (.if_icmp .lt 12, 3) := tb_at tbX9_differs_n40_ok 58 rfl
theorem dX9_differs_102 : decode cX9_differs 102 = .ok (.bipush 100, 2) := tb_at tbX9_differs_n40_ok 59 rfl
theorem dX9_differs_104 : decode cX9_differs 104 = .ok (.iload 4, 2) := tb_at tbX9_differs_n40_ok 60 rfl
theorem dX9_differs_106 : decode cX9_differs 106 = .ok (.imul, 1) := tb_at tbX9_differs_n40_ok 61 rfl
theorem dX9_differs_107 : decode cX9_differs 107 = .ok (.bipush 99, 2) := tb_at tbX9_differs_n40_ok 62 rfl
theorem dX9_differs_109 : decode cX9_differs 109 = .ok (.iadd, 1) := tb_at tbX9_differs_n40_ok 63 rfl
theorem dX9_differs_110 : decode cX9_differs 110 = .ok (.ireturn, 1) := tb_at tbX9_differs_n40_ok 64 rfl
theorem dX9_differs_111 : decode cX9_differs 111 = .ok (.bipush 30, 2) := tb_at tbX9_differs_n40_ok 65 rfl
theorem dX9_differs_113 : decode cX9_differs 113 = .ok (.iload_n 1, 1) := tb_at tbX9_differs_n40_ok 66 rfl
theorem dX9_differs_114 : decode cX9_differs 114 = .ok (.imul, 1) := tb_at tbX9_differs_n40_ok 67 rfl
theorem dX9_differs_115 : decode cX9_differs 115 = .ok (.iload 4, 2) := tb_at tbX9_differs_n40_ok 68 rfl
theorem dX9_differs_117 : decode cX9_differs 117 = .ok (.iadd, 1) := tb_at tbX9_differs_n40_ok 69 rfl
theorem dX9_differs_118 : decode cX9_differs 118 = .ok (.istore 5, 2) := tb_at tbX9_differs_n40_ok 70 rfl
theorem dX9_differs_120 : decode cX9_differs 120 = .ok (.bipush 120, 2) := tb_at tbX9_differs_n40_ok 71 rfl
theorem dX9_differs_122 : decode cX9_differs 122 = .ok (.iload 4, 2) := tb_at tbX9_differs_n40_ok 72 rfl
theorem dX9_differs_124 : decode cX9_differs 124 = .ok (.iadd, 1) := tb_at tbX9_differs_n40_ok 73 rfl
theorem dX9_differs_125 : decode cX9_differs 125 = .ok (.istore 6, 2) := tb_at tbX9_differs_n40_ok 74 rfl
theorem dX9_differs_127 : decode cX9_differs 127 = .ok (.aload_n 0, 1) := tb_at tbX9_differs_n40_ok 75 rfl
theorem dX9_differs_128 : decode cX9_differs 128 = .ok (.getfield 84, 3) := tb_at tbX9_differs_n40_ok 76 rfl
theorem dX9_differs_131 : decode cX9_differs 131 = .ok (.iload 5, 2) := tb_at tbX9_differs_n40_ok 77 rfl
theorem dX9_differs_133 : decode cX9_differs 133 = .ok (.iaload, 1) := tb_at tbX9_differs_n40_ok 78 rfl
theorem dX9_differs_134 : decode cX9_differs 134 = .ok (.aload_n 0, 1) := tb_at tbX9_differs_n40_ok 79 rfl
theorem dX9_differs_135 : decode cX9_differs 135 = .ok (.getfield 84, 3) := tb_at tbX9_differs_n40_ok 80 rfl
theorem dX9_differs_138 : decode cX9_differs 138 = .ok (.iload 6, 2) := tb_at tbX9_differs_n40_ok 81 rfl
theorem dX9_differs_140 : decode cX9_differs 140 = .ok (.iaload, 1) := tb_at tbX9_differs_n40_ok 82 rfl
theorem dX9_differs_141 : decode cX9_differs 141 = .ok (.if_icmp .ne 24, 3) := tb_at tbX9_differs_n40_ok 83 rfl
theorem dX9_differs_144 : decode cX9_differs 144 = .ok (.aload_n 0, 1) := tb_at tbX9_differs_n40_ok 84 rfl
theorem dX9_differs_145 : decode cX9_differs 145 = .ok (.getfield 87, 3) := tb_at tbX9_differs_n40_ok 85 rfl
theorem dX9_differs_148 : decode cX9_differs 148 = .ok (.iload 5, 2) := tb_at tbX9_differs_n40_ok 86 rfl
theorem dX9_differs_150 : decode cX9_differs 150 = .ok (.iaload, 1) := tb_at tbX9_differs_n40_ok 87 rfl
theorem dX9_differs_151 : decode cX9_differs 151 = .ok (.aload_n 0, 1) := tb_at tbX9_differs_n40_ok 88 rfl
theorem dX9_differs_152 : decode cX9_differs 152 = .ok (.getfield 87, 3) := tb_at tbX9_differs_n40_ok 89 rfl
theorem dX9_differs_155 : decode cX9_differs 155 = .ok (.iload 6, 2) := tb_at tbX9_differs_n40_ok 90 rfl
theorem dX9_differs_157 : decode cX9_differs 157 = .ok (.iaload, 1) := tb_at tbX9_differs_n40_ok 91 rfl
theorem dX9_differs_158 : decode cX9_differs 158 = .ok (.if_icmp .ne 7, 3) := tb_at tbX9_differs_n40_ok 92 rfl
theorem dX9_differs_161 : decode cX9_differs 161 = .ok (.iconst 1, 1) := tb_at tbX9_differs_n40_ok 93 rfl
theorem dX9_differs_162 : decode cX9_differs 162 = .ok (.goto 4, 3) := tb_at tbX9_differs_n40_ok 94 rfl
theorem dX9_differs_165 : decode cX9_differs 165 = .ok (.iconst 0, 1) := tb_at tbX9_differs_n40_ok 95 rfl
theorem dX9_differs_166 : decode cX9_differs 166 = .ok (.istore 7, 2) := tb_at tbX9_differs_n40_ok 96 rfl
theorem dX9_differs_168 : decode cX9_differs 168 = .ok (.iconst 0, 1) := tb_at tbX9_differs_n40_ok 97 rfl
theorem dX9_differs_169 : decode cX9_differs 169 = .ok (.istore 8, 2) := tb_at tbX9_differs_n40_ok 98 rfl
theorem dX9_differs_171 : decode cX9_differs 171 = .ok (.iload 7, 2) := tb_at tbX9_differs_n40_ok 99 rfl
theorem dX9_differs_173 : decode cX9_differs 173 = .ok (.ifCond .eq 82, 3) := tb_at tbX9_differs_n40_ok 100 rfl
theorem dX9_differs_176 : decode cX9_differs 176 = .ok (.iload 8, 2) := tb_at tbX9_differs_n40_ok 101 rfl
theorem dX9_differs_178 : decode cX9_differs 178 = .ok (.aload_n 0, 1) := tb_at tbX9_differs_n40_ok 102 rfl
theorem dX9_differs_179 : decode cX9_differs 179 = .ok (.getfield 87, 3) := tb_at tbX9_differs_n40_ok 103 rfl
theorem dX9_differs_182 : decode cX9_differs 182 = .ok (.iload 5, 2) := tb_at tbX9_differs_n40_ok 104 rfl
theorem dX9_differs_184 : decode cX9_differs 184 = .ok (.iaload, 1) := tb_at tbX9_differs_n40_ok 105 rfl
theorem dX9_differs_185 : decode cX9_differs 185 = .ok (.if_icmp .ge 70, 3) := tb_at tbX9_differs_n40_ok 106 rfl
theorem dX9_differs_188 : decode cX9_differs 188 = .ok (.aload_n 0, 1) := tb_at tbX9_differs_n40_ok 107 rfl
theorem dX9_differs_189 : decode cX9_differs 189 = .ok (.getfield 90, 3) := tb_at tbX9_differs_n40_ok 108 rfl
theorem dX9_differs_192 : decode cX9_differs 192 = .ok (.iconst 5, 1) := tb_at tbX9_differs_n40_ok 109 rfl
theorem dX9_differs_193 : decode cX9_differs 193 = .ok (.iload 5, 2) := tb_at tbX9_differs_n40_ok 110 rfl
theorem dX9_differs_195 : decode cX9_differs 195 = .ok (.imul, 1) := tb_at tbX9_differs_n40_ok 111 rfl
theorem dX9_differs_196 : decode cX9_differs 196 = .ok (.iload 8, 2) := tb_at tbX9_differs_n40_ok 112 rfl
theorem dX9_differs_198 : decode cX9_differs 198 = .ok (.iadd, 1) := tb_at tbX9_differs_n40_ok 113 rfl
theorem dX9_differs_199 : decode cX9_differs 199 = .ok (.iaload, 1) := tb_at tbX9_differs_n40_ok 114 rfl
theorem dX9_differs_200 : decode cX9_differs 200 = .ok (.aload_n 0, 1) := tb_at tbX9_differs_n40_ok 115 rfl
theorem dX9_differs_201 : decode cX9_differs 201 = .ok (.getfield 90, 3) := tb_at tbX9_differs_n40_ok 116 rfl
theorem dX9_differs_204 : decode cX9_differs 204 = .ok (.iconst 5, 1) := tb_at tbX9_differs_n40_ok 117 rfl
theorem dX9_differs_205 : decode cX9_differs 205 = .ok (.iload 6, 2) := tb_at tbX9_differs_n40_ok 118 rfl
theorem dX9_differs_207 : decode cX9_differs 207 = .ok (.imul, 1) := tb_at tbX9_differs_n40_ok 119 rfl
noncomputable def tbX9_differs_n41 : List (Nat × Instr × Nat) := [(208, (.iload 8), 2), (210, .iadd, 1), (211, .iaload, 1), (212, (.if_icmp .ne 34), 3), (215, (.aload_n 0), 1), (216, (.getfield 93), 3), (219, (.iconst 5), 1), (220, (.iload 5), 2), (222, .imul, 1), (223, (.iload 8), 2), (225, .iadd, 1), (226, .iaload, 1), (227, (.aload_n 0), 1), (228, (.getfield 93), 3), (231, (.iconst 5), 1), (232, (.iload 6), 2), (234, .imul, 1), (235, (.iload 8), 2), (237, .iadd, 1), (238, .iaload, 1), (239, (.if_icmp .ne 7), 3), (242, (.iconst 1), 1), (243, (.goto 4), 3), (246, (.iconst 0), 1), (247, (.istore 7), 2), (249, (.iinc 8 1), 3), (252, (.goto (-81)), 3), (255, (.iload 7), 2), (257, (.ifCond .ne 12), 3), (260, (.bipush 100), 2), (262, (.iload 4), 2), (264, .imul, 1), (265, (.bipush 99), 2), (267, .iadd, 1), (268, .ireturn, 1), (269, (.iconst 0), 1), (270, (.istore 8), 2), (272, (.iload 8), 2), (274, (.aload_n 0), 1), (275, (.getfield 87), 3), (278, (.iload 5), 2), (280, .iaload, 1), (281, (.if_icmp .ge 130), 3), (284, (.aload_n 0), 1), (285, (.getfield 96), 3), (288, (.iconst 5), 1), (289, (.iload 5), 2), (291, .imul, 1), (292, (.iload 8), 2), (294, .iadd, 1), (295, .laload, 1), (296, (.lstore 9), 2), (298, (.lload 9), 2), (300, (.aload_n 0), 1), (301, (.getfield 96), 3), (304, (.iconst 5), 1), (305, (.iload 6), 2), (307, .imul, 1), (308, (.iload 8), 2), (310, .iadd, 1), (311, .laload, 1), (312, .lcmp, 1), (313, (.ifCond .eq 7), 3), (316, (.iconst 1), 1), (317, (.goto 4), 3), (320, (.iconst 0), 1), (321, (.istore 11), 2), (323, (.iload 11), 2), (325, (.ifCond .ne 49), 3), (328, (.aload_n 0), 1), (329, (.getfield 93), 3), (332, (.iconst 5), 1), (333, (.iload 5), 2), (335, .imul, 1), (336, (.iload 8), 2), (338, .iadd, 1), (339, .iaload, 1), (340, (.iconst 2), 1), (341, (.if_icmp .le 37), 3), (344, (.lload 9), 2), (346, (.lconst 0), 1), (347, .lcmp, 1), (348, (.ifCond .lt 30), 3), (351, (.aload_n 0), 1), (352, (.sipush 150), 3), (355, (.iload_n 1), 1), (356, .imul, 1), (357, (.lload 9), 2), (359, .l2i, 1), (360, .iadd, 1), (361, (.sipush 600), 3), (364, (.lload 9), 2), (366, .l2i, 1), (367, .iadd, 1), (368, (.invokevirtual 249), 3), (371, (.ifCond .eq 7), 3), (374, (.iconst 1), 1), (375, (.goto 4), 3), (378, (.iconst 0), 1), (379, (.istore 11), 2), (381, (.iload 11), 2), (383, (.ifCond .eq 22), 3), (386, (.bipush 100), 2), (388, (.iload 4), 2), (390, .imul, 1), (391, (.aload_n 0), 1), (392, (.getfield 90), 3), (395, (.iconst 5), 1), (396, (.iload 5), 2), (398, .imul, 1), (399, (.iload 8), 2), (401, .iadd, 1), (402, .iaload, 1), (403, .iadd, 1), (404, .ireturn, 1), (405, (.iinc 8 1), 3), (408, (.goto (-136)), 3), (411, (.iinc 4 1), 3), (414, (.goto (-340)), 3), (417, (.iconst (-1)), 1)]
theorem tbX9_differs_n41_ok : ∀ q ∈ tbX9_differs_n41, decode cX9_differs q.1 = .ok q.2 := by decide +kernel
theorem dX9_differs_208 : decode cX9_differs 208 = .ok (.iload 8, 2) := tb_at tbX9_differs_n41_ok 0 rfl
theorem dX9_differs_210 : decode cX9_differs 210 = .ok (.iadd, 1) := tb_at tbX9_differs_n41_ok 1 rfl
theorem dX9_differs_211 : decode cX9_differs 211 = .ok (.iaload, 1) := tb_at tbX9_differs_n41_ok 2 rfl
theorem dX9_differs_212 : decode cX9_differs 212 = .ok (.if_icmp .ne 34, 3) := tb_at tbX9_differs_n41_ok 3 rfl
theorem dX9_differs_215 : decode cX9_differs 215 = .ok (.aload_n 0, 1) := tb_at tbX9_differs_n41_ok 4 rfl
theorem dX9_differs_216 : decode cX9_differs 216 = .ok (.getfield 93, 3) := tb_at tbX9_differs_n41_ok 5 rfl
theorem dX9_differs_219 : decode cX9_differs 219 = .ok (.iconst 5, 1) := tb_at tbX9_differs_n41_ok 6 rfl
theorem dX9_differs_220 : decode cX9_differs 220 = .ok (.iload 5, 2) := tb_at tbX9_differs_n41_ok 7 rfl
theorem dX9_differs_222 : decode cX9_differs 222 = .ok (.imul, 1) := tb_at tbX9_differs_n41_ok 8 rfl
theorem dX9_differs_223 : decode cX9_differs 223 = .ok (.iload 8, 2) := tb_at tbX9_differs_n41_ok 9 rfl
theorem dX9_differs_225 : decode cX9_differs 225 = .ok (.iadd, 1) := tb_at tbX9_differs_n41_ok 10 rfl
theorem dX9_differs_226 : decode cX9_differs 226 = .ok (.iaload, 1) := tb_at tbX9_differs_n41_ok 11 rfl
theorem dX9_differs_227 : decode cX9_differs 227 = .ok (.aload_n 0, 1) := tb_at tbX9_differs_n41_ok 12 rfl
theorem dX9_differs_228 : decode cX9_differs 228 = .ok (.getfield 93, 3) := tb_at tbX9_differs_n41_ok 13 rfl
theorem dX9_differs_231 : decode cX9_differs 231 = .ok (.iconst 5, 1) := tb_at tbX9_differs_n41_ok 14 rfl
theorem dX9_differs_232 : decode cX9_differs 232 = .ok (.iload 6, 2) := tb_at tbX9_differs_n41_ok 15 rfl
theorem dX9_differs_234 : decode cX9_differs 234 = .ok (.imul, 1) := tb_at tbX9_differs_n41_ok 16 rfl
theorem dX9_differs_235 : decode cX9_differs 235 = .ok (.iload 8, 2) := tb_at tbX9_differs_n41_ok 17 rfl
theorem dX9_differs_237 : decode cX9_differs 237 = .ok (.iadd, 1) := tb_at tbX9_differs_n41_ok 18 rfl
theorem dX9_differs_238 : decode cX9_differs 238 = .ok (.iaload, 1) := tb_at tbX9_differs_n41_ok 19 rfl
theorem dX9_differs_239 : decode cX9_differs 239 = .ok (.if_icmp .ne 7, 3) := tb_at tbX9_differs_n41_ok 20 rfl
theorem dX9_differs_242 : decode cX9_differs 242 = .ok (.iconst 1, 1) := tb_at tbX9_differs_n41_ok 21 rfl
theorem dX9_differs_243 : decode cX9_differs 243 = .ok (.goto 4, 3) := tb_at tbX9_differs_n41_ok 22 rfl
theorem dX9_differs_246 : decode cX9_differs 246 = .ok (.iconst 0, 1) := tb_at tbX9_differs_n41_ok 23 rfl
theorem dX9_differs_247 : decode cX9_differs 247 = .ok (.istore 7, 2) := tb_at tbX9_differs_n41_ok 24 rfl
theorem dX9_differs_249 : decode cX9_differs 249 = .ok (.iinc 8 1, 3) := tb_at tbX9_differs_n41_ok 25 rfl
theorem dX9_differs_252 : decode cX9_differs 252 = .ok (.goto (-81), 3) := tb_at tbX9_differs_n41_ok 26 rfl
theorem dX9_differs_255 : decode cX9_differs 255 = .ok (.iload 7, 2) := tb_at tbX9_differs_n41_ok 27 rfl
theorem dX9_differs_257 : decode cX9_differs 257 = .ok (.ifCond .ne 12, 3) := tb_at tbX9_differs_n41_ok 28 rfl
theorem dX9_differs_260 : decode cX9_differs 260 = .ok (.bipush 100, 2) := tb_at tbX9_differs_n41_ok 29 rfl
theorem dX9_differs_262 : decode cX9_differs 262 = .ok (.iload 4, 2) := tb_at tbX9_differs_n41_ok 30 rfl
theorem dX9_differs_264 : decode cX9_differs 264 = .ok (.imul, 1) := tb_at tbX9_differs_n41_ok 31 rfl
theorem dX9_differs_265 : decode cX9_differs 265 = .ok (.bipush 99, 2) := tb_at tbX9_differs_n41_ok 32 rfl
theorem dX9_differs_267 : decode cX9_differs 267 = .ok (.iadd, 1) := tb_at tbX9_differs_n41_ok 33 rfl
theorem dX9_differs_268 : decode cX9_differs 268 = .ok (.ireturn, 1) := tb_at tbX9_differs_n41_ok 34 rfl
theorem dX9_differs_269 : decode cX9_differs 269 = .ok (.iconst 0, 1) := tb_at tbX9_differs_n41_ok 35 rfl
theorem dX9_differs_270 : decode cX9_differs 270 = .ok (.istore 8, 2) := tb_at tbX9_differs_n41_ok 36 rfl
theorem dX9_differs_272 : decode cX9_differs 272 = .ok (.iload 8, 2) := tb_at tbX9_differs_n41_ok 37 rfl
theorem dX9_differs_274 : decode cX9_differs 274 = .ok (.aload_n 0, 1) := tb_at tbX9_differs_n41_ok 38 rfl
theorem dX9_differs_275 : decode cX9_differs 275 = .ok (.getfield 87, 3) := tb_at tbX9_differs_n41_ok 39 rfl
theorem dX9_differs_278 : decode cX9_differs 278 = .ok (.iload 5, 2) := tb_at tbX9_differs_n41_ok 40 rfl
theorem dX9_differs_280 : decode cX9_differs 280 = .ok (.iaload, 1) := tb_at tbX9_differs_n41_ok 41 rfl
theorem dX9_differs_281 : decode cX9_differs 281 = .ok (.if_icmp .ge 130, 3) := tb_at tbX9_differs_n41_ok 42 rfl
theorem dX9_differs_284 : decode cX9_differs 284 = .ok (.aload_n 0, 1) := tb_at tbX9_differs_n41_ok 43 rfl
theorem dX9_differs_285 : decode cX9_differs 285 = .ok (.getfield 96, 3) := tb_at tbX9_differs_n41_ok 44 rfl
theorem dX9_differs_288 : decode cX9_differs 288 = .ok (.iconst 5, 1) := tb_at tbX9_differs_n41_ok 45 rfl
theorem dX9_differs_289 : decode cX9_differs 289 = .ok (.iload 5, 2) := tb_at tbX9_differs_n41_ok 46 rfl
theorem dX9_differs_291 : decode cX9_differs 291 = .ok (.imul, 1) := tb_at tbX9_differs_n41_ok 47 rfl
theorem dX9_differs_292 : decode cX9_differs 292 = .ok (.iload 8, 2) := tb_at tbX9_differs_n41_ok 48 rfl
theorem dX9_differs_294 : decode cX9_differs 294 = .ok (.iadd, 1) := tb_at tbX9_differs_n41_ok 49 rfl
theorem dX9_differs_295 : decode cX9_differs 295 = .ok (.laload, 1) := tb_at tbX9_differs_n41_ok 50 rfl
theorem dX9_differs_296 : decode cX9_differs 296 = .ok (.lstore 9, 2) := tb_at tbX9_differs_n41_ok 51 rfl
theorem dX9_differs_298 : decode cX9_differs 298 = .ok (.lload 9, 2) := tb_at tbX9_differs_n41_ok 52 rfl
theorem dX9_differs_300 : decode cX9_differs 300 = .ok (.aload_n 0, 1) := tb_at tbX9_differs_n41_ok 53 rfl
theorem dX9_differs_301 : decode cX9_differs 301 = .ok (.getfield 96, 3) := tb_at tbX9_differs_n41_ok 54 rfl
theorem dX9_differs_304 : decode cX9_differs 304 = .ok (.iconst 5, 1) := tb_at tbX9_differs_n41_ok 55 rfl
theorem dX9_differs_305 : decode cX9_differs 305 = .ok (.iload 6, 2) := tb_at tbX9_differs_n41_ok 56 rfl
theorem dX9_differs_307 : decode cX9_differs 307 = .ok (.imul, 1) := tb_at tbX9_differs_n41_ok 57 rfl
theorem dX9_differs_308 : decode cX9_differs 308 = .ok (.iload 8, 2) := tb_at tbX9_differs_n41_ok 58 rfl
theorem dX9_differs_310 : decode cX9_differs 310 = .ok (.iadd, 1) := tb_at tbX9_differs_n41_ok 59 rfl
theorem dX9_differs_311 : decode cX9_differs 311 = .ok (.laload, 1) := tb_at tbX9_differs_n41_ok 60 rfl
theorem dX9_differs_312 : decode cX9_differs 312 = .ok (.lcmp, 1) := tb_at tbX9_differs_n41_ok 61 rfl
theorem dX9_differs_313 : decode cX9_differs 313 = .ok (.ifCond .eq 7, 3) := tb_at tbX9_differs_n41_ok 62 rfl
theorem dX9_differs_316 : decode cX9_differs 316 = .ok (.iconst 1, 1) := tb_at tbX9_differs_n41_ok 63 rfl
theorem dX9_differs_317 : decode cX9_differs 317 = .ok (.goto 4, 3) := tb_at tbX9_differs_n41_ok 64 rfl
theorem dX9_differs_320 : decode cX9_differs 320 = .ok (.iconst 0, 1) := tb_at tbX9_differs_n41_ok 65 rfl
theorem dX9_differs_321 : decode cX9_differs 321 = .ok (.istore 11, 2) := tb_at tbX9_differs_n41_ok 66 rfl
theorem dX9_differs_323 : decode cX9_differs 323 = .ok (.iload 11, 2) := tb_at tbX9_differs_n41_ok 67 rfl
theorem dX9_differs_325 : decode cX9_differs 325 = .ok (.ifCond .ne 49, 3) := tb_at tbX9_differs_n41_ok 68 rfl
theorem dX9_differs_328 : decode cX9_differs 328 = .ok (.aload_n 0, 1) := tb_at tbX9_differs_n41_ok 69 rfl
theorem dX9_differs_329 : decode cX9_differs 329 = .ok (.getfield 93, 3) := tb_at tbX9_differs_n41_ok 70 rfl
theorem dX9_differs_332 : decode cX9_differs 332 = .ok (.iconst 5, 1) := tb_at tbX9_differs_n41_ok 71 rfl
theorem dX9_differs_333 : decode cX9_differs 333 = .ok (.iload 5, 2) := tb_at tbX9_differs_n41_ok 72 rfl
theorem dX9_differs_335 : decode cX9_differs 335 = .ok (.imul, 1) := tb_at tbX9_differs_n41_ok 73 rfl
theorem dX9_differs_336 : decode cX9_differs 336 = .ok (.iload 8, 2) := tb_at tbX9_differs_n41_ok 74 rfl
theorem dX9_differs_338 : decode cX9_differs 338 = .ok (.iadd, 1) := tb_at tbX9_differs_n41_ok 75 rfl
theorem dX9_differs_339 : decode cX9_differs 339 = .ok (.iaload, 1) := tb_at tbX9_differs_n41_ok 76 rfl
theorem dX9_differs_340 : decode cX9_differs 340 = .ok (.iconst 2, 1) := tb_at tbX9_differs_n41_ok 77 rfl
theorem dX9_differs_341 : decode cX9_differs 341 = .ok (.if_icmp .le 37, 3) := tb_at tbX9_differs_n41_ok 78 rfl
theorem dX9_differs_344 : decode cX9_differs 344 = .ok (.lload 9, 2) := tb_at tbX9_differs_n41_ok 79 rfl
theorem dX9_differs_346 : decode cX9_differs 346 = .ok (.lconst 0, 1) := tb_at tbX9_differs_n41_ok 80 rfl
theorem dX9_differs_347 : decode cX9_differs 347 = .ok (.lcmp, 1) := tb_at tbX9_differs_n41_ok 81 rfl
theorem dX9_differs_348 : decode cX9_differs 348 = .ok (.ifCond .lt 30, 3) := tb_at tbX9_differs_n41_ok 82 rfl
theorem dX9_differs_351 : decode cX9_differs 351 = .ok (.aload_n 0, 1) := tb_at tbX9_differs_n41_ok 83 rfl
theorem dX9_differs_352 : decode cX9_differs 352 = .ok (.sipush 150, 3) := tb_at tbX9_differs_n41_ok 84 rfl
theorem dX9_differs_355 : decode cX9_differs 355 = .ok (.iload_n 1, 1) := tb_at tbX9_differs_n41_ok 85 rfl
theorem dX9_differs_356 : decode cX9_differs 356 = .ok (.imul, 1) := tb_at tbX9_differs_n41_ok 86 rfl
theorem dX9_differs_357 : decode cX9_differs 357 = .ok (.lload 9, 2) := tb_at tbX9_differs_n41_ok 87 rfl
theorem dX9_differs_359 : decode cX9_differs 359 = .ok (.l2i, 1) := tb_at tbX9_differs_n41_ok 88 rfl
theorem dX9_differs_360 : decode cX9_differs 360 = .ok (.iadd, 1) := tb_at tbX9_differs_n41_ok 89 rfl
theorem dX9_differs_361 : decode cX9_differs 361 = .ok (.sipush 600, 3) := tb_at tbX9_differs_n41_ok 90 rfl
theorem dX9_differs_364 : decode cX9_differs 364 = .ok (.lload 9, 2) := tb_at tbX9_differs_n41_ok 91 rfl
theorem dX9_differs_366 : decode cX9_differs 366 = .ok (.l2i, 1) := tb_at tbX9_differs_n41_ok 92 rfl
theorem dX9_differs_367 : decode cX9_differs 367 = .ok (.iadd, 1) := tb_at tbX9_differs_n41_ok 93 rfl
theorem dX9_differs_368 : decode cX9_differs 368 = .ok (.invokevirtual 249, 3) := tb_at tbX9_differs_n41_ok 94 rfl
theorem dX9_differs_371 : decode cX9_differs 371 = .ok (.ifCond .eq 7, 3) := tb_at tbX9_differs_n41_ok 95 rfl
theorem dX9_differs_374 : decode cX9_differs 374 = .ok (.iconst 1, 1) := tb_at tbX9_differs_n41_ok 96 rfl
theorem dX9_differs_375 : decode cX9_differs 375 = .ok (.goto 4, 3) := tb_at tbX9_differs_n41_ok 97 rfl
theorem dX9_differs_378 : decode cX9_differs 378 = .ok (.iconst 0, 1) := tb_at tbX9_differs_n41_ok 98 rfl
theorem dX9_differs_379 : decode cX9_differs 379 = .ok (.istore 11, 2) := tb_at tbX9_differs_n41_ok 99 rfl
theorem dX9_differs_381 : decode cX9_differs 381 = .ok (.iload 11, 2) := tb_at tbX9_differs_n41_ok 100 rfl
theorem dX9_differs_383 : decode cX9_differs 383 = .ok (.ifCond .eq 22, 3) := tb_at tbX9_differs_n41_ok 101 rfl
theorem dX9_differs_386 : decode cX9_differs 386 = .ok (.bipush 100, 2) := tb_at tbX9_differs_n41_ok 102 rfl
theorem dX9_differs_388 : decode cX9_differs 388 = .ok (.iload 4, 2) := tb_at tbX9_differs_n41_ok 103 rfl
theorem dX9_differs_390 : decode cX9_differs 390 = .ok (.imul, 1) := tb_at tbX9_differs_n41_ok 104 rfl
theorem dX9_differs_391 : decode cX9_differs 391 = .ok (.aload_n 0, 1) := tb_at tbX9_differs_n41_ok 105 rfl
theorem dX9_differs_392 : decode cX9_differs 392 = .ok (.getfield 90, 3) := tb_at tbX9_differs_n41_ok 106 rfl
theorem dX9_differs_395 : decode cX9_differs 395 = .ok (.iconst 5, 1) := tb_at tbX9_differs_n41_ok 107 rfl
theorem dX9_differs_396 : decode cX9_differs 396 = .ok (.iload 5, 2) := tb_at tbX9_differs_n41_ok 108 rfl
theorem dX9_differs_398 : decode cX9_differs 398 = .ok (.imul, 1) := tb_at tbX9_differs_n41_ok 109 rfl
theorem dX9_differs_399 : decode cX9_differs 399 = .ok (.iload 8, 2) := tb_at tbX9_differs_n41_ok 110 rfl
theorem dX9_differs_401 : decode cX9_differs 401 = .ok (.iadd, 1) := tb_at tbX9_differs_n41_ok 111 rfl
theorem dX9_differs_402 : decode cX9_differs 402 = .ok (.iaload, 1) := tb_at tbX9_differs_n41_ok 112 rfl
theorem dX9_differs_403 : decode cX9_differs 403 = .ok (.iadd, 1) := tb_at tbX9_differs_n41_ok 113 rfl
theorem dX9_differs_404 : decode cX9_differs 404 = .ok (.ireturn, 1) := tb_at tbX9_differs_n41_ok 114 rfl
theorem dX9_differs_405 : decode cX9_differs 405 = .ok (.iinc 8 1, 3) := tb_at tbX9_differs_n41_ok 115 rfl
theorem dX9_differs_408 : decode cX9_differs 408 = .ok (.goto (-136), 3) := tb_at tbX9_differs_n41_ok 116 rfl
theorem dX9_differs_411 : decode cX9_differs 411 = .ok (.iinc 4 1, 3) := tb_at tbX9_differs_n41_ok 117 rfl
theorem dX9_differs_414 : decode cX9_differs 414 = .ok (.goto (-340), 3) := tb_at tbX9_differs_n41_ok 118 rfl
theorem dX9_differs_417 : decode cX9_differs 417 = .ok (.iconst (-1), 1) := tb_at tbX9_differs_n41_ok 119 rfl
noncomputable def tbX9_differs_n42 : List (Nat × Instr × Nat) := [(418, .ireturn, 1)]
theorem tbX9_differs_n42_ok : ∀ q ∈ tbX9_differs_n42, decode cX9_differs q.1 = .ok q.2 := by decide +kernel
theorem dX9_differs_418 : decode cX9_differs 418 = .ok (.ireturn, 1) := tb_at tbX9_differs_n42_ok 0 rfl
noncomputable def tbX9_mark_n40 : List (Nat × Instr × Nat) := [(0, (.aload_n 0), 1), (1, (.iconst 0), 1), (2, (.putfield 145), 3), (5, (.aload_n 0), 1), (6, (.getfield 165), 3), (9, (.iconst 4), 1), (10, (.if_icmp .ne 6), 3), (13, (.bipush (-4)), 2), (15, .ireturn, 1), (16, (.aload_n 0), 1), (17, (.getfield 63), 3), (20, (.aload_n 0), 1), (21, (.getfield 165), 3), (24, (.aload_n 0), 1), (25, (.getfield 173), 3), (28, .iastore, 1), (29, (.aload_n 0), 1), (30, .dup, 1), (31, (.getfield 165), 3), (34, (.iconst 1), 1), (35, .iadd, 1), (36, (.putfield 165), 3), (39, (.aload_n 0), 1), (40, (.getfield 165), 3), (43, .ireturn, 1)]
theorem tbX9_mark_n40_ok : ∀ q ∈ tbX9_mark_n40, decode cX9_mark q.1 = .ok q.2 := by decide +kernel
theorem dX9_mark_0 : decode cX9_mark 0 = .ok (.aload_n 0, 1) := tb_at tbX9_mark_n40_ok 0 rfl
theorem dX9_mark_1 : decode cX9_mark 1 = .ok (.iconst 0, 1) := tb_at tbX9_mark_n40_ok 1 rfl
theorem dX9_mark_2 : decode cX9_mark 2 = .ok (.putfield 145, 3) := tb_at tbX9_mark_n40_ok 2 rfl
theorem dX9_mark_5 : decode cX9_mark 5 = .ok (.aload_n 0, 1) := tb_at tbX9_mark_n40_ok 3 rfl
theorem dX9_mark_6 : decode cX9_mark 6 = .ok (.getfield 165, 3) := tb_at tbX9_mark_n40_ok 4 rfl
theorem dX9_mark_9 : decode cX9_mark 9 = .ok (.iconst 4, 1) := tb_at tbX9_mark_n40_ok 5 rfl
theorem dX9_mark_10 : decode cX9_mark 10 = .ok (.if_icmp .ne 6, 3) := tb_at tbX9_mark_n40_ok 6 rfl
theorem dX9_mark_13 : decode cX9_mark 13 = .ok (.bipush (-4), 2) := tb_at tbX9_mark_n40_ok 7 rfl
theorem dX9_mark_15 : decode cX9_mark 15 = .ok (.ireturn, 1) := tb_at tbX9_mark_n40_ok 8 rfl
theorem dX9_mark_16 : decode cX9_mark 16 = .ok (.aload_n 0, 1) := tb_at tbX9_mark_n40_ok 9 rfl
theorem dX9_mark_17 : decode cX9_mark 17 = .ok (.getfield 63, 3) := tb_at tbX9_mark_n40_ok 10 rfl
theorem dX9_mark_20 : decode cX9_mark 20 = .ok (.aload_n 0, 1) := tb_at tbX9_mark_n40_ok 11 rfl
theorem dX9_mark_21 : decode cX9_mark 21 = .ok (.getfield 165, 3) := tb_at tbX9_mark_n40_ok 12 rfl
theorem dX9_mark_24 : decode cX9_mark 24 = .ok (.aload_n 0, 1) := tb_at tbX9_mark_n40_ok 13 rfl
theorem dX9_mark_25 : decode cX9_mark 25 = .ok (.getfield 173, 3) := tb_at tbX9_mark_n40_ok 14 rfl
theorem dX9_mark_28 : decode cX9_mark 28 = .ok (.iastore, 1) := tb_at tbX9_mark_n40_ok 15 rfl
theorem dX9_mark_29 : decode cX9_mark 29 = .ok (.aload_n 0, 1) := tb_at tbX9_mark_n40_ok 16 rfl
theorem dX9_mark_30 : decode cX9_mark 30 = .ok (.dup, 1) := tb_at tbX9_mark_n40_ok 17 rfl
theorem dX9_mark_31 : decode cX9_mark 31 = .ok (.getfield 165, 3) := tb_at tbX9_mark_n40_ok 18 rfl
theorem dX9_mark_34 : decode cX9_mark 34 = .ok (.iconst 1, 1) := tb_at tbX9_mark_n40_ok 19 rfl
theorem dX9_mark_35 : decode cX9_mark 35 = .ok (.iadd, 1) := tb_at tbX9_mark_n40_ok 20 rfl
theorem dX9_mark_36 : decode cX9_mark 36 = .ok (.putfield 165, 3) := tb_at tbX9_mark_n40_ok 21 rfl
theorem dX9_mark_39 : decode cX9_mark 39 = .ok (.aload_n 0, 1) := tb_at tbX9_mark_n40_ok 22 rfl
theorem dX9_mark_40 : decode cX9_mark 40 = .ok (.getfield 165, 3) := tb_at tbX9_mark_n40_ok 23 rfl
theorem dX9_mark_43 : decode cX9_mark 43 = .ok (.ireturn, 1) := tb_at tbX9_mark_n40_ok 24 rfl
noncomputable def tbX9_undo_n40 : List (Nat × Instr × Nat) := [(0, (.aload_n 0), 1), (1, (.iconst 0), 1), (2, (.putfield 145), 3), (5, (.aload_n 0), 1), (6, (.getfield 165), 3), (9, (.ifCond .ne 6), 3), (12, (.bipush (-3)), 2), (14, .ireturn, 1), (15, (.aload_n 0), 1), (16, .dup, 1), (17, (.getfield 165), 3), (20, (.iconst 1), 1), (21, .isub, 1), (22, (.putfield 165), 3), (25, (.aload_n 0), 1), (26, (.getfield 173), 3), (29, (.aload_n 0), 1), (30, (.getfield 63), 3), (33, (.aload_n 0), 1), (34, (.getfield 165), 3), (37, .iaload, 1), (38, .isub, 1), (39, (.istore_n 1), 1), (40, (.aload_n 0), 1), (41, (.getfield 173), 3), (44, (.aload_n 0), 1), (45, (.getfield 63), 3), (48, (.aload_n 0), 1), (49, (.getfield 165), 3), (52, .iaload, 1), (53, (.if_icmp .le 102), 3), (56, (.aload_n 0), 1), (57, .dup, 1), (58, (.getfield 173), 3), (61, (.iconst 1), 1), (62, .isub, 1), (63, (.putfield 173), 3), (66, (.aload_n 0), 1), (67, (.getfield 75), 3), (70, (.aload_n 0), 1), (71, (.getfield 173), 3), (74, .iaload, 1), (75, (.ifCond .ge 41), 3), (78, (.aload_n 0), 1), (79, (.getfield 48), 3), (82, (.iconst 5), 1), (83, (.aload_n 0), 1), (84, (.getfield 66), 3), (87, (.aload_n 0), 1), (88, (.getfield 173), 3), (91, .iaload, 1), (92, .imul, 1), (93, (.aload_n 0), 1), (94, (.getfield 69), 3), (97, (.aload_n 0), 1), (98, (.getfield 173), 3), (101, .iaload, 1), (102, .iadd, 1), (103, (.aload_n 0), 1), (104, (.getfield 78), 3), (107, (.aload_n 0), 1), (108, (.getfield 173), 3), (111, .laload, 1), (112, .lastore, 1), (113, (.goto (-73)), 3), (116, (.aload_n 0), 1), (117, (.getfield 57), 3), (120, (.bipush 12), 2), (122, (.aload_n 0), 1), (123, (.getfield 72), 3), (126, (.aload_n 0), 1), (127, (.getfield 173), 3), (130, .iaload, 1), (131, .imul, 1), (132, (.aload_n 0), 1), (133, (.getfield 75), 3), (136, (.aload_n 0), 1), (137, (.getfield 173), 3), (140, .iaload, 1), (141, .iadd, 1), (142, (.aload_n 0), 1), (143, (.getfield 78), 3), (146, (.aload_n 0), 1), (147, (.getfield 173), 3), (150, .laload, 1), (151, .lastore, 1), (152, (.goto (-112)), 3), (155, (.iload_n 1), 1), (156, .ireturn, 1)]
theorem tbX9_undo_n40_ok : ∀ q ∈ tbX9_undo_n40, decode cX9_undo q.1 = .ok q.2 := by decide +kernel
theorem dX9_undo_0 : decode cX9_undo 0 = .ok (.aload_n 0, 1) := tb_at tbX9_undo_n40_ok 0 rfl
theorem dX9_undo_1 : decode cX9_undo 1 = .ok (.iconst 0, 1) := tb_at tbX9_undo_n40_ok 1 rfl
theorem dX9_undo_2 : decode cX9_undo 2 = .ok (.putfield 145, 3) := tb_at tbX9_undo_n40_ok 2 rfl
theorem dX9_undo_5 : decode cX9_undo 5 = .ok (.aload_n 0, 1) := tb_at tbX9_undo_n40_ok 3 rfl
theorem dX9_undo_6 : decode cX9_undo 6 = .ok (.getfield 165, 3) := tb_at tbX9_undo_n40_ok 4 rfl
theorem dX9_undo_9 : decode cX9_undo 9 = .ok (.ifCond .ne 6, 3) := tb_at tbX9_undo_n40_ok 5 rfl
theorem dX9_undo_12 : decode cX9_undo 12 = .ok (.bipush (-3), 2) := tb_at tbX9_undo_n40_ok 6 rfl
theorem dX9_undo_14 : decode cX9_undo 14 = .ok (.ireturn, 1) := tb_at tbX9_undo_n40_ok 7 rfl
theorem dX9_undo_15 : decode cX9_undo 15 = .ok (.aload_n 0, 1) := tb_at tbX9_undo_n40_ok 8 rfl
theorem dX9_undo_16 : decode cX9_undo 16 = .ok (.dup, 1) := tb_at tbX9_undo_n40_ok 9 rfl
theorem dX9_undo_17 : decode cX9_undo 17 = .ok (.getfield 165, 3) := tb_at tbX9_undo_n40_ok 10 rfl
theorem dX9_undo_20 : decode cX9_undo 20 = .ok (.iconst 1, 1) := tb_at tbX9_undo_n40_ok 11 rfl
theorem dX9_undo_21 : decode cX9_undo 21 = .ok (.isub, 1) := tb_at tbX9_undo_n40_ok 12 rfl
theorem dX9_undo_22 : decode cX9_undo 22 = .ok (.putfield 165, 3) := tb_at tbX9_undo_n40_ok 13 rfl
theorem dX9_undo_25 : decode cX9_undo 25 = .ok (.aload_n 0, 1) := tb_at tbX9_undo_n40_ok 14 rfl
theorem dX9_undo_26 : decode cX9_undo 26 = .ok (.getfield 173, 3) := tb_at tbX9_undo_n40_ok 15 rfl
theorem dX9_undo_29 : decode cX9_undo 29 = .ok (.aload_n 0, 1) := tb_at tbX9_undo_n40_ok 16 rfl
theorem dX9_undo_30 : decode cX9_undo 30 = .ok (.getfield 63, 3) := tb_at tbX9_undo_n40_ok 17 rfl
theorem dX9_undo_33 : decode cX9_undo 33 = .ok (.aload_n 0, 1) := tb_at tbX9_undo_n40_ok 18 rfl
theorem dX9_undo_34 : decode cX9_undo 34 = .ok (.getfield 165, 3) := tb_at tbX9_undo_n40_ok 19 rfl
theorem dX9_undo_37 : decode cX9_undo 37 = .ok (.iaload, 1) := tb_at tbX9_undo_n40_ok 20 rfl
theorem dX9_undo_38 : decode cX9_undo 38 = .ok (.isub, 1) := tb_at tbX9_undo_n40_ok 21 rfl
theorem dX9_undo_39 : decode cX9_undo 39 = .ok (.istore_n 1, 1) := tb_at tbX9_undo_n40_ok 22 rfl
theorem dX9_undo_40 : decode cX9_undo 40 = .ok (.aload_n 0, 1) := tb_at tbX9_undo_n40_ok 23 rfl
theorem dX9_undo_41 : decode cX9_undo 41 = .ok (.getfield 173, 3) := tb_at tbX9_undo_n40_ok 24 rfl
theorem dX9_undo_44 : decode cX9_undo 44 = .ok (.aload_n 0, 1) := tb_at tbX9_undo_n40_ok 25 rfl
theorem dX9_undo_45 : decode cX9_undo 45 = .ok (.getfield 63, 3) := tb_at tbX9_undo_n40_ok 26 rfl
theorem dX9_undo_48 : decode cX9_undo 48 = .ok (.aload_n 0, 1) := tb_at tbX9_undo_n40_ok 27 rfl
theorem dX9_undo_49 : decode cX9_undo 49 = .ok (.getfield 165, 3) := tb_at tbX9_undo_n40_ok 28 rfl
theorem dX9_undo_52 : decode cX9_undo 52 = .ok (.iaload, 1) := tb_at tbX9_undo_n40_ok 29 rfl
theorem dX9_undo_53 : decode cX9_undo 53 = .ok (.if_icmp .le 102, 3) := tb_at tbX9_undo_n40_ok 30 rfl
theorem dX9_undo_56 : decode cX9_undo 56 = .ok (.aload_n 0, 1) := tb_at tbX9_undo_n40_ok 31 rfl
theorem dX9_undo_57 : decode cX9_undo 57 = .ok (.dup, 1) := tb_at tbX9_undo_n40_ok 32 rfl
theorem dX9_undo_58 : decode cX9_undo 58 = .ok (.getfield 173, 3) := tb_at tbX9_undo_n40_ok 33 rfl
theorem dX9_undo_61 : decode cX9_undo 61 = .ok (.iconst 1, 1) := tb_at tbX9_undo_n40_ok 34 rfl
theorem dX9_undo_62 : decode cX9_undo 62 = .ok (.isub, 1) := tb_at tbX9_undo_n40_ok 35 rfl
theorem dX9_undo_63 : decode cX9_undo 63 = .ok (.putfield 173, 3) := tb_at tbX9_undo_n40_ok 36 rfl
theorem dX9_undo_66 : decode cX9_undo 66 = .ok (.aload_n 0, 1) := tb_at tbX9_undo_n40_ok 37 rfl
theorem dX9_undo_67 : decode cX9_undo 67 = .ok (.getfield 75, 3) := tb_at tbX9_undo_n40_ok 38 rfl
theorem dX9_undo_70 : decode cX9_undo 70 = .ok (.aload_n 0, 1) := tb_at tbX9_undo_n40_ok 39 rfl
theorem dX9_undo_71 : decode cX9_undo 71 = .ok (.getfield 173, 3) := tb_at tbX9_undo_n40_ok 40 rfl
theorem dX9_undo_74 : decode cX9_undo 74 = .ok (.iaload, 1) := tb_at tbX9_undo_n40_ok 41 rfl
theorem dX9_undo_75 : decode cX9_undo 75 = .ok (.ifCond .ge 41, 3) := tb_at tbX9_undo_n40_ok 42 rfl
theorem dX9_undo_78 : decode cX9_undo 78 = .ok (.aload_n 0, 1) := tb_at tbX9_undo_n40_ok 43 rfl
theorem dX9_undo_79 : decode cX9_undo 79 = .ok (.getfield 48, 3) := tb_at tbX9_undo_n40_ok 44 rfl
theorem dX9_undo_82 : decode cX9_undo 82 = .ok (.iconst 5, 1) := tb_at tbX9_undo_n40_ok 45 rfl
theorem dX9_undo_83 : decode cX9_undo 83 = .ok (.aload_n 0, 1) := tb_at tbX9_undo_n40_ok 46 rfl
theorem dX9_undo_84 : decode cX9_undo 84 = .ok (.getfield 66, 3) := tb_at tbX9_undo_n40_ok 47 rfl
theorem dX9_undo_87 : decode cX9_undo 87 = .ok (.aload_n 0, 1) := tb_at tbX9_undo_n40_ok 48 rfl
theorem dX9_undo_88 : decode cX9_undo 88 = .ok (.getfield 173, 3) := tb_at tbX9_undo_n40_ok 49 rfl
theorem dX9_undo_91 : decode cX9_undo 91 = .ok (.iaload, 1) := tb_at tbX9_undo_n40_ok 50 rfl
theorem dX9_undo_92 : decode cX9_undo 92 = .ok (.imul, 1) := tb_at tbX9_undo_n40_ok 51 rfl
theorem dX9_undo_93 : decode cX9_undo 93 = .ok (.aload_n 0, 1) := tb_at tbX9_undo_n40_ok 52 rfl
theorem dX9_undo_94 : decode cX9_undo 94 = .ok (.getfield 69, 3) := tb_at tbX9_undo_n40_ok 53 rfl
theorem dX9_undo_97 : decode cX9_undo 97 = .ok (.aload_n 0, 1) := tb_at tbX9_undo_n40_ok 54 rfl
theorem dX9_undo_98 : decode cX9_undo 98 = .ok (.getfield 173, 3) := tb_at tbX9_undo_n40_ok 55 rfl
theorem dX9_undo_101 : decode cX9_undo 101 = .ok (.iaload, 1) := tb_at tbX9_undo_n40_ok 56 rfl
theorem dX9_undo_102 : decode cX9_undo 102 = .ok (.iadd, 1) := tb_at tbX9_undo_n40_ok 57 rfl
theorem dX9_undo_103 : decode cX9_undo 103 = .ok (.aload_n 0, 1) := tb_at tbX9_undo_n40_ok 58 rfl
theorem dX9_undo_104 : decode cX9_undo 104 = .ok (.getfield 78, 3) := tb_at tbX9_undo_n40_ok 59 rfl
theorem dX9_undo_107 : decode cX9_undo 107 = .ok (.aload_n 0, 1) := tb_at tbX9_undo_n40_ok 60 rfl
theorem dX9_undo_108 : decode cX9_undo 108 = .ok (.getfield 173, 3) := tb_at tbX9_undo_n40_ok 61 rfl
theorem dX9_undo_111 : decode cX9_undo 111 = .ok (.laload, 1) := tb_at tbX9_undo_n40_ok 62 rfl
theorem dX9_undo_112 : decode cX9_undo 112 = .ok (.lastore, 1) := tb_at tbX9_undo_n40_ok 63 rfl
theorem dX9_undo_113 : decode cX9_undo 113 = .ok (.goto (-73), 3) := tb_at tbX9_undo_n40_ok 64 rfl
theorem dX9_undo_116 : decode cX9_undo 116 = .ok (.aload_n 0, 1) := tb_at tbX9_undo_n40_ok 65 rfl
theorem dX9_undo_117 : decode cX9_undo 117 = .ok (.getfield 57, 3) := tb_at tbX9_undo_n40_ok 66 rfl
theorem dX9_undo_120 : decode cX9_undo 120 = .ok (.bipush 12, 2) := tb_at tbX9_undo_n40_ok 67 rfl
theorem dX9_undo_122 : decode cX9_undo 122 = .ok (.aload_n 0, 1) := tb_at tbX9_undo_n40_ok 68 rfl
theorem dX9_undo_123 : decode cX9_undo 123 = .ok (.getfield 72, 3) := tb_at tbX9_undo_n40_ok 69 rfl
theorem dX9_undo_126 : decode cX9_undo 126 = .ok (.aload_n 0, 1) := tb_at tbX9_undo_n40_ok 70 rfl
theorem dX9_undo_127 : decode cX9_undo 127 = .ok (.getfield 173, 3) := tb_at tbX9_undo_n40_ok 71 rfl
theorem dX9_undo_130 : decode cX9_undo 130 = .ok (.iaload, 1) := tb_at tbX9_undo_n40_ok 72 rfl
theorem dX9_undo_131 : decode cX9_undo 131 = .ok (.imul, 1) := tb_at tbX9_undo_n40_ok 73 rfl
theorem dX9_undo_132 : decode cX9_undo 132 = .ok (.aload_n 0, 1) := tb_at tbX9_undo_n40_ok 74 rfl
theorem dX9_undo_133 : decode cX9_undo 133 = .ok (.getfield 75, 3) := tb_at tbX9_undo_n40_ok 75 rfl
theorem dX9_undo_136 : decode cX9_undo 136 = .ok (.aload_n 0, 1) := tb_at tbX9_undo_n40_ok 76 rfl
theorem dX9_undo_137 : decode cX9_undo 137 = .ok (.getfield 173, 3) := tb_at tbX9_undo_n40_ok 77 rfl
theorem dX9_undo_140 : decode cX9_undo 140 = .ok (.iaload, 1) := tb_at tbX9_undo_n40_ok 78 rfl
theorem dX9_undo_141 : decode cX9_undo 141 = .ok (.iadd, 1) := tb_at tbX9_undo_n40_ok 79 rfl
theorem dX9_undo_142 : decode cX9_undo 142 = .ok (.aload_n 0, 1) := tb_at tbX9_undo_n40_ok 80 rfl
theorem dX9_undo_143 : decode cX9_undo 143 = .ok (.getfield 78, 3) := tb_at tbX9_undo_n40_ok 81 rfl
theorem dX9_undo_146 : decode cX9_undo 146 = .ok (.aload_n 0, 1) := tb_at tbX9_undo_n40_ok 82 rfl
theorem dX9_undo_147 : decode cX9_undo 147 = .ok (.getfield 173, 3) := tb_at tbX9_undo_n40_ok 83 rfl
theorem dX9_undo_150 : decode cX9_undo 150 = .ok (.laload, 1) := tb_at tbX9_undo_n40_ok 84 rfl
theorem dX9_undo_151 : decode cX9_undo 151 = .ok (.lastore, 1) := tb_at tbX9_undo_n40_ok 85 rfl
theorem dX9_undo_152 : decode cX9_undo 152 = .ok (.goto (-112), 3) := tb_at tbX9_undo_n40_ok 86 rfl
theorem dX9_undo_155 : decode cX9_undo 155 = .ok (.iload_n 1, 1) := tb_at tbX9_undo_n40_ok 87 rfl
theorem dX9_undo_156 : decode cX9_undo 156 = .ok (.ireturn, 1) := tb_at tbX9_undo_n40_ok 88 rfl
noncomputable def tbX9_count_n40 : List (Nat × Instr × Nat) := [(0, (.aload_n 0), 1), (1, (.iconst 0), 1), (2, (.putfield 145), 3), (5, (.iload_n 1), 1), (6, (.ifCond .ne 10), 3), (9, (.aload_n 0), 1), (10, (.getfield 148), 3), (13, (.goto 41), 3), (16, (.iload_n 1), 1), (17, (.iconst 1), 1), (18, (.if_icmp .ne 10), 3), (21, (.aload_n 0), 1), (22, (.getfield 151), 3), (25, (.goto 29), 3), (28, (.iload_n 1), 1), (29, (.iconst 2), 1), (30, (.if_icmp .ne 10), 3), (33, (.aload_n 0), 1), (34, (.getfield 165), 3), (37, (.goto 17), 3), (40, (.iload_n 1), 1), (41, (.iconst 3), 1), (42, (.if_icmp .ne 10), 3), (45, (.aload_n 0), 1), (46, (.getfield 173), 3), (49, (.goto 5), 3), (52, (.bipush (-2)), 2), (54, .ireturn, 1)]
theorem tbX9_count_n40_ok : ∀ q ∈ tbX9_count_n40, decode cX9_count q.1 = .ok q.2 := by decide +kernel
theorem dX9_count_0 : decode cX9_count 0 = .ok (.aload_n 0, 1) := tb_at tbX9_count_n40_ok 0 rfl
theorem dX9_count_1 : decode cX9_count 1 = .ok (.iconst 0, 1) := tb_at tbX9_count_n40_ok 1 rfl
theorem dX9_count_2 : decode cX9_count 2 = .ok (.putfield 145, 3) := tb_at tbX9_count_n40_ok 2 rfl
theorem dX9_count_5 : decode cX9_count 5 = .ok (.iload_n 1, 1) := tb_at tbX9_count_n40_ok 3 rfl
theorem dX9_count_6 : decode cX9_count 6 = .ok (.ifCond .ne 10, 3) := tb_at tbX9_count_n40_ok 4 rfl
theorem dX9_count_9 : decode cX9_count 9 = .ok (.aload_n 0, 1) := tb_at tbX9_count_n40_ok 5 rfl
theorem dX9_count_10 : decode cX9_count 10 = .ok (.getfield 148, 3) := tb_at tbX9_count_n40_ok 6 rfl
theorem dX9_count_13 : decode cX9_count 13 = .ok (.goto 41, 3) := tb_at tbX9_count_n40_ok 7 rfl
theorem dX9_count_16 : decode cX9_count 16 = .ok (.iload_n 1, 1) := tb_at tbX9_count_n40_ok 8 rfl
theorem dX9_count_17 : decode cX9_count 17 = .ok (.iconst 1, 1) := tb_at tbX9_count_n40_ok 9 rfl
theorem dX9_count_18 : decode cX9_count 18 = .ok (.if_icmp .ne 10, 3) := tb_at tbX9_count_n40_ok 10 rfl
theorem dX9_count_21 : decode cX9_count 21 = .ok (.aload_n 0, 1) := tb_at tbX9_count_n40_ok 11 rfl
theorem dX9_count_22 : decode cX9_count 22 = .ok (.getfield 151, 3) := tb_at tbX9_count_n40_ok 12 rfl
theorem dX9_count_25 : decode cX9_count 25 = .ok (.goto 29, 3) := tb_at tbX9_count_n40_ok 13 rfl
theorem dX9_count_28 : decode cX9_count 28 = .ok (.iload_n 1, 1) := tb_at tbX9_count_n40_ok 14 rfl
theorem dX9_count_29 : decode cX9_count 29 = .ok (.iconst 2, 1) := tb_at tbX9_count_n40_ok 15 rfl
theorem dX9_count_30 : decode cX9_count 30 = .ok (.if_icmp .ne 10, 3) := tb_at tbX9_count_n40_ok 16 rfl
theorem dX9_count_33 : decode cX9_count 33 = .ok (.aload_n 0, 1) := tb_at tbX9_count_n40_ok 17 rfl
theorem dX9_count_34 : decode cX9_count 34 = .ok (.getfield 165, 3) := tb_at tbX9_count_n40_ok 18 rfl
theorem dX9_count_37 : decode cX9_count 37 = .ok (.goto 17, 3) := tb_at tbX9_count_n40_ok 19 rfl
theorem dX9_count_40 : decode cX9_count 40 = .ok (.iload_n 1, 1) := tb_at tbX9_count_n40_ok 20 rfl
theorem dX9_count_41 : decode cX9_count 41 = .ok (.iconst 3, 1) := tb_at tbX9_count_n40_ok 21 rfl
theorem dX9_count_42 : decode cX9_count 42 = .ok (.if_icmp .ne 10, 3) := tb_at tbX9_count_n40_ok 22 rfl
theorem dX9_count_45 : decode cX9_count 45 = .ok (.aload_n 0, 1) := tb_at tbX9_count_n40_ok 23 rfl
theorem dX9_count_46 : decode cX9_count 46 = .ok (.getfield 173, 3) := tb_at tbX9_count_n40_ok 24 rfl
theorem dX9_count_49 : decode cX9_count 49 = .ok (.goto 5, 3) := tb_at tbX9_count_n40_ok 25 rfl
theorem dX9_count_52 : decode cX9_count 52 = .ok (.bipush (-2), 2) := tb_at tbX9_count_n40_ok 26 rfl
theorem dX9_count_54 : decode cX9_count 54 = .ok (.ireturn, 1) := tb_at tbX9_count_n40_ok 27 rfl
noncomputable def tbJ9_max_7cf53_n40 : List (Nat × Instr × Nat) := [(0, (.iload_n 0), 1), (1, (.iload_n 1), 1), (2, (.if_icmp .lt 7), 3), (5, (.iload_n 0), 1), (6, (.goto 4), 3), (9, (.iload_n 1), 1), (10, .ireturn, 1)]
theorem tbJ9_max_7cf53_n40_ok : ∀ q ∈ tbJ9_max_7cf53_n40, decode cJ9_max_7cf53 q.1 = .ok q.2 := by decide +kernel
theorem dJ9_max_7cf53_0 : decode cJ9_max_7cf53 0 = .ok (.iload_n 0, 1) := tb_at tbJ9_max_7cf53_n40_ok 0 rfl
theorem dJ9_max_7cf53_1 : decode cJ9_max_7cf53 1 = .ok (.iload_n 1, 1) := tb_at tbJ9_max_7cf53_n40_ok 1 rfl
theorem dJ9_max_7cf53_2 : decode cJ9_max_7cf53 2 = .ok (.if_icmp .lt 7, 3) := tb_at tbJ9_max_7cf53_n40_ok 2 rfl
theorem dJ9_max_7cf53_5 : decode cJ9_max_7cf53 5 = .ok (.iload_n 0, 1) := tb_at tbJ9_max_7cf53_n40_ok 3 rfl
theorem dJ9_max_7cf53_6 : decode cJ9_max_7cf53 6 = .ok (.goto 4, 3) := tb_at tbJ9_max_7cf53_n40_ok 4 rfl
theorem dJ9_max_7cf53_9 : decode cJ9_max_7cf53 9 = .ok (.iload_n 1, 1) := tb_at tbJ9_max_7cf53_n40_ok 5 rfl
theorem dJ9_max_7cf53_10 : decode cJ9_max_7cf53 10 = .ok (.ireturn, 1) := tb_at tbJ9_max_7cf53_n40_ok 6 rfl
noncomputable def tbL_at_n40 : List (Nat × Instr × Nat) := [(0, (.aload_n 3), 1), (1, (.iconst 0), 1), (2, (.aload_n 0), 1), (3, (.iload_n 1), 1), (4, (.iload_n 2), 1), (5, (.invokevirtual 7), 3), (8, .lastore, 1), (9, (.goto 11), 3), (12, (.astore 4), 2), (14, (.iconst 1), 1), (15, .ireturn, 1), (16, (.astore 4), 2), (18, (.iconst 2), 1), (19, .ireturn, 1), (20, (.iconst 0), 1), (21, .ireturn, 1)]
theorem tbL_at_n40_ok : ∀ q ∈ tbL_at_n40, decode cL_at q.1 = .ok q.2 := by decide +kernel
theorem dL_at_0 : decode cL_at 0 = .ok (.aload_n 3, 1) := tb_at tbL_at_n40_ok 0 rfl
theorem dL_at_1 : decode cL_at 1 = .ok (.iconst 0, 1) := tb_at tbL_at_n40_ok 1 rfl
theorem dL_at_2 : decode cL_at 2 = .ok (.aload_n 0, 1) := tb_at tbL_at_n40_ok 2 rfl
theorem dL_at_3 : decode cL_at 3 = .ok (.iload_n 1, 1) := tb_at tbL_at_n40_ok 3 rfl
theorem dL_at_4 : decode cL_at 4 = .ok (.iload_n 2, 1) := tb_at tbL_at_n40_ok 4 rfl
theorem dL_at_5 : decode cL_at 5 = .ok (.invokevirtual 7, 3) := tb_at tbL_at_n40_ok 5 rfl
theorem dL_at_8 : decode cL_at 8 = .ok (.lastore, 1) := tb_at tbL_at_n40_ok 6 rfl
theorem dL_at_9 : decode cL_at 9 = .ok (.goto 11, 3) := tb_at tbL_at_n40_ok 7 rfl
theorem dL_at_12 : decode cL_at 12 = .ok (.astore 4, 2) := tb_at tbL_at_n40_ok 8 rfl
theorem dL_at_14 : decode cL_at 14 = .ok (.iconst 1, 1) := tb_at tbL_at_n40_ok 9 rfl
theorem dL_at_15 : decode cL_at 15 = .ok (.ireturn, 1) := tb_at tbL_at_n40_ok 10 rfl
theorem dL_at_16 : decode cL_at 16 = .ok (.astore 4, 2) := tb_at tbL_at_n40_ok 11 rfl
theorem dL_at_18 : decode cL_at 18 = .ok (.iconst 2, 1) := tb_at tbL_at_n40_ok 12 rfl
theorem dL_at_19 : decode cL_at 19 = .ok (.ireturn, 1) := tb_at tbL_at_n40_ok 13 rfl
theorem dL_at_20 : decode cL_at 20 = .ok (.iconst 0, 1) := tb_at tbL_at_n40_ok 14 rfl
theorem dL_at_21 : decode cL_at 21 = .ok (.ireturn, 1) := tb_at tbL_at_n40_ok 15 rfl
noncomputable def tbL_itemAt_n40 : List (Nat × Instr × Nat) := [(0, (.aload 4), 2), (2, (.iconst 0), 1), (3, (.aload_n 0), 1), (4, (.iload_n 1), 1), (5, (.iload_n 2), 1), (6, (.iload_n 3), 1), (7, (.invokevirtual 17), 3), (10, .lastore, 1), (11, (.goto 15), 3), (14, (.astore 5), 2), (16, (.iconst 1), 1), (17, .ireturn, 1), (18, (.astore 5), 2), (20, (.iconst 2), 1), (21, .ireturn, 1), (22, (.astore 5), 2), (24, (.iconst 3), 1), (25, .ireturn, 1), (26, (.iconst 0), 1), (27, .ireturn, 1)]
theorem tbL_itemAt_n40_ok : ∀ q ∈ tbL_itemAt_n40, decode cL_itemAt q.1 = .ok q.2 := by decide +kernel
theorem dL_itemAt_0 : decode cL_itemAt 0 = .ok (.aload 4, 2) := tb_at tbL_itemAt_n40_ok 0 rfl
theorem dL_itemAt_2 : decode cL_itemAt 2 = .ok (.iconst 0, 1) := tb_at tbL_itemAt_n40_ok 1 rfl
theorem dL_itemAt_3 : decode cL_itemAt 3 = .ok (.aload_n 0, 1) := tb_at tbL_itemAt_n40_ok 2 rfl
theorem dL_itemAt_4 : decode cL_itemAt 4 = .ok (.iload_n 1, 1) := tb_at tbL_itemAt_n40_ok 3 rfl
theorem dL_itemAt_5 : decode cL_itemAt 5 = .ok (.iload_n 2, 1) := tb_at tbL_itemAt_n40_ok 4 rfl
theorem dL_itemAt_6 : decode cL_itemAt 6 = .ok (.iload_n 3, 1) := tb_at tbL_itemAt_n40_ok 5 rfl
theorem dL_itemAt_7 : decode cL_itemAt 7 = .ok (.invokevirtual 17, 3) := tb_at tbL_itemAt_n40_ok 6 rfl
theorem dL_itemAt_10 : decode cL_itemAt 10 = .ok (.lastore, 1) := tb_at tbL_itemAt_n40_ok 7 rfl
theorem dL_itemAt_11 : decode cL_itemAt 11 = .ok (.goto 15, 3) := tb_at tbL_itemAt_n40_ok 8 rfl
theorem dL_itemAt_14 : decode cL_itemAt 14 = .ok (.astore 5, 2) := tb_at tbL_itemAt_n40_ok 9 rfl
theorem dL_itemAt_16 : decode cL_itemAt 16 = .ok (.iconst 1, 1) := tb_at tbL_itemAt_n40_ok 10 rfl
theorem dL_itemAt_17 : decode cL_itemAt 17 = .ok (.ireturn, 1) := tb_at tbL_itemAt_n40_ok 11 rfl
theorem dL_itemAt_18 : decode cL_itemAt 18 = .ok (.astore 5, 2) := tb_at tbL_itemAt_n40_ok 12 rfl
theorem dL_itemAt_20 : decode cL_itemAt 20 = .ok (.iconst 2, 1) := tb_at tbL_itemAt_n40_ok 13 rfl
theorem dL_itemAt_21 : decode cL_itemAt 21 = .ok (.ireturn, 1) := tb_at tbL_itemAt_n40_ok 14 rfl
theorem dL_itemAt_22 : decode cL_itemAt 22 = .ok (.astore 5, 2) := tb_at tbL_itemAt_n40_ok 15 rfl
theorem dL_itemAt_24 : decode cL_itemAt 24 = .ok (.iconst 3, 1) := tb_at tbL_itemAt_n40_ok 16 rfl
theorem dL_itemAt_25 : decode cL_itemAt 25 = .ok (.ireturn, 1) := tb_at tbL_itemAt_n40_ok 17 rfl
theorem dL_itemAt_26 : decode cL_itemAt 26 = .ok (.iconst 0, 1) := tb_at tbL_itemAt_n40_ok 18 rfl
theorem dL_itemAt_27 : decode cL_itemAt 27 = .ok (.ireturn, 1) := tb_at tbL_itemAt_n40_ok 19 rfl
noncomputable def tbL_law_n40 : List (Nat × Instr × Nat) := [(0, (.new 8), 3), (3, .dup, 1), (4, (.invokespecial 23), 3), (7, (.astore_n 1), 1), (8, (.new 24), 3), (11, .dup, 1), (12, (.invokespecial 26), 3), (15, (.astore_n 2), 1), (16, (.iconst 1), 1), (17, (.newarray .long), 2), (19, (.astore_n 3), 1), (20, (.iconst 0), 1)]
theorem tbL_law_n40_ok : ∀ q ∈ tbL_law_n40, decode cL_law q.1 = .ok q.2 := by decide +kernel
theorem dL_law_0 : decode cL_law 0 = .ok (.new 8, 3) := tb_at tbL_law_n40_ok 0 rfl
theorem dL_law_3 : decode cL_law 3 = .ok (.dup, 1) := tb_at tbL_law_n40_ok 1 rfl
theorem dL_law_4 : decode cL_law 4 = .ok (.invokespecial 23, 3) := tb_at tbL_law_n40_ok 2 rfl
theorem dL_law_7 : decode cL_law 7 = .ok (.astore_n 1, 1) := tb_at tbL_law_n40_ok 3 rfl
theorem dL_law_8 : decode cL_law 8 = .ok (.new 24, 3) := tb_at tbL_law_n40_ok 4 rfl
theorem dL_law_11 : decode cL_law 11 = .ok (.dup, 1) := tb_at tbL_law_n40_ok 5 rfl
theorem dL_law_12 : decode cL_law 12 = .ok (.invokespecial 26, 3) := tb_at tbL_law_n40_ok 6 rfl
theorem dL_law_15 : decode cL_law 15 = .ok (.astore_n 2, 1) := tb_at tbL_law_n40_ok 7 rfl
theorem dL_law_16 : decode cL_law 16 = .ok (.iconst 1, 1) := tb_at tbL_law_n40_ok 8 rfl
theorem dL_law_17 : decode cL_law 17 = .ok (.newarray .long, 2) := tb_at tbL_law_n40_ok 9 rfl
theorem dL_law_19 : decode cL_law 19 = .ok (.astore_n 3, 1) := tb_at tbL_law_n40_ok 10 rfl
theorem dL_law_20 : decode cL_law 20 = .ok (.iconst 0, 1) := tb_at tbL_law_n40_ok 11 rfl
