theorem d_Md_merge_70 : decode b_Md_merge 70 = .ok (.aload_n 0, 1) := by decide +kernel
theorem d_Md_merge_71 : decode b_Md_merge 71 = .ok (.getfield 37, 3) := by decide +kernel
theorem d_Md_merge_74 : decode b_Md_merge 74 = .ok (.getfield 318, 3) := by decide +kernel
theorem d_Md_merge_77 : decode b_Md_merge 77 = .ok (.iload 4, 2) := by decide +kernel
theorem d_Md_merge_79 : decode b_Md_merge 79 = .ok (.iaload, 1) := by decide +kernel
theorem d_Md_merge_80 : decode b_Md_merge 80 = .ok (.iload_n 2, 1) := by decide +kernel
theorem d_Md_merge_81 : decode b_Md_merge 81 = .ok (.if_icmp .ne 7, 3) := by decide +kernel
theorem d_Md_merge_88 : decode b_Md_merge 88 = .ok (.aload_n 0, 1) := by decide +kernel
theorem d_Md_merge_89 : decode b_Md_merge 89 = .ok (.getfield 37, 3) := by decide +kernel
theorem d_Md_merge_92 : decode b_Md_merge 92 = .ok (.getfield 318, 3) := by decide +kernel
theorem d_Md_merge_95 : decode b_Md_merge 95 = .ok (.iload 4, 2) := by decide +kernel
theorem d_Md_merge_97 : decode b_Md_merge 97 = .ok (.iaload, 1) := by decide +kernel
theorem d_Md_merge_29 : decode b_Md_merge 29 = .ok (.istore_n 3, 1) := by decide +kernel
theorem d_Md_merge_30 : decode b_Md_merge 30 = .ok (.iconst 0, 1) := by decide +kernel
theorem d_Md_merge_31 : decode b_Md_merge 31 = .ok (.istore 4, 2) := by decide +kernel
theorem d_Md_merge_0 : decode b_Md_merge 0 = .ok (.iload_n 1, 1) := by decide +kernel
theorem d_Md_merge_1 : decode b_Md_merge 1 = .ok (.iload_n 2, 1) := by decide +kernel
theorem d_Md_merge_2 : decode b_Md_merge 2 = .ok (.if_icmp .ne 17, 3) := by decide +kernel
theorem d_Md_merge_19 : decode b_Md_merge 19 = .ok (.iload_n 1, 1) := by decide +kernel
theorem d_Md_merge_20 : decode b_Md_merge 20 = .ok (.iload_n 2, 1) := by decide +kernel
theorem d_Md_merge_21 : decode b_Md_merge 21 = .ok (.if_icmp .ge 7, 3) := by decide +kernel
theorem d_Md_merge_28 : decode b_Md_merge 28 = .ok (.iload_n 2, 1) := by decide +kernel
theorem d_Md_merge_24 : decode b_Md_merge 24 = .ok (.iload_n 1, 1) := by decide +kernel
theorem d_Md_merge_25 : decode b_Md_merge 25 = .ok (.goto 4, 3) := by decide +kernel
theorem d_Md_merge_5 : decode b_Md_merge 5 = .ok (.aload_n 0, 1) := by decide +kernel
theorem d_Md_merge_6 : decode b_Md_merge 6 = .ok (.getfield 37, 3) := by decide +kernel
theorem d_Md_merge_9 : decode b_Md_merge 9 = .ok (.dup, 1) := by decide +kernel
theorem d_Md_merge_10 : decode b_Md_merge 10 = .ok (.getfield 354, 3) := by decide +kernel
theorem d_Md_merge_13 : decode b_Md_merge 13 = .ok (.iconst 1, 1) := by decide +kernel
theorem d_Md_merge_14 : decode b_Md_merge 14 = .ok (.iadd, 1) := by decide +kernel
theorem d_Md_merge_15 : decode b_Md_merge 15 = .ok (.putfield 354, 3) := by decide +kernel
theorem d_Md_merge_18 : decode b_Md_merge 18 = .ok (.return_, 1) := by decide +kernel
theorem d_Md_upperIn_0 : decode b_Md_upperIn 0 = .ok (.iconst 4, 1) := by decide +kernel
theorem d_Md_upperIn_1 : decode b_Md_upperIn 1 = .ok (.iload_n 1, 1) := by decide +kernel
theorem d_Md_upperIn_2 : decode b_Md_upperIn 2 = .ok (.imul, 1) := by decide +kernel
theorem d_Md_upperIn_3 : decode b_Md_upperIn 3 = .ok (.aload_n 0, 1) := by decide +kernel
theorem d_Md_upperIn_4 : decode b_Md_upperIn 4 = .ok (.getfield 37, 3) := by decide +kernel
theorem d_Md_upperIn_7 : decode b_Md_upperIn 7 = .ok (.getfield 306, 3) := by decide +kernel
theorem d_Md_upperIn_10 : decode b_Md_upperIn 10 = .ok (.iload_n 1, 1) := by decide +kernel
theorem d_Md_upperIn_11 : decode b_Md_upperIn 11 = .ok (.iaload, 1) := by decide +kernel
theorem d_Md_upperIn_12 : decode b_Md_upperIn 12 = .ok (.iconst 1, 1) := by decide +kernel
theorem d_Md_upperIn_13 : decode b_Md_upperIn 13 = .ok (.if_icmp .ne 7, 3) := by decide +kernel
theorem d_Md_upperIn_20 : decode b_Md_upperIn 20 = .ok (.iconst 1, 1) := by decide +kernel
theorem d_Md_upperIn_21 : decode b_Md_upperIn 21 = .ok (.iadd, 1) := by decide +kernel
theorem d_Md_upperIn_22 : decode b_Md_upperIn 22 = .ok (.ireturn, 1) := by decide +kernel
theorem d_Md_upperIn_16 : decode b_Md_upperIn 16 = .ok (.iconst 3, 1) := by decide +kernel
theorem d_Md_upperIn_17 : decode b_Md_upperIn 17 = .ok (.goto 4, 3) := by decide +kernel
theorem d_Md_drop_48 : decode b_Md_drop 48 = .ok (.iload_n 3, 1) := by decide +kernel
theorem d_Md_drop_49 : decode b_Md_drop 49 = .ok (.iconst 4, 1) := by decide +kernel
theorem d_Md_drop_50 : decode b_Md_drop 50 = .ok (.if_icmp .ge 37, 3) := by decide +kernel
theorem d_Md_drop_87 : decode b_Md_drop 87 = .ok (.iinc 2 1, 3) := by decide +kernel
theorem d_Md_drop_90 : decode b_Md_drop 90 = .ok (.goto (-75), 3) := by decide +kernel
theorem d_Md_drop_53 : decode b_Md_drop 53 = .ok (.aload_n 0, 1) := by decide +kernel
theorem d_Md_drop_54 : decode b_Md_drop 54 = .ok (.getfield 37, 3) := by decide +kernel
theorem d_Md_drop_57 : decode b_Md_drop 57 = .ok (.getfield 318, 3) := by decide +kernel
theorem d_Md_drop_60 : decode b_Md_drop 60 = .ok (.iconst 4, 1) := by decide +kernel
theorem d_Md_drop_61 : decode b_Md_drop 61 = .ok (.iload_n 2, 1) := by decide +kernel
theorem d_Md_drop_62 : decode b_Md_drop 62 = .ok (.imul, 1) := by decide +kernel
theorem d_Md_drop_63 : decode b_Md_drop 63 = .ok (.iload_n 3, 1) := by decide +kernel
theorem d_Md_drop_64 : decode b_Md_drop 64 = .ok (.iadd, 1) := by decide +kernel
theorem d_Md_drop_65 : decode b_Md_drop 65 = .ok (.aload_n 0, 1) := by decide +kernel
theorem d_Md_drop_66 : decode b_Md_drop 66 = .ok (.getfield 37, 3) := by decide +kernel
theorem d_Md_drop_69 : decode b_Md_drop 69 = .ok (.getfield 318, 3) := by decide +kernel
theorem d_Md_drop_72 : decode b_Md_drop 72 = .ok (.iconst 4, 1) := by decide +kernel
theorem d_Md_drop_73 : decode b_Md_drop 73 = .ok (.iload_n 2, 1) := by decide +kernel
theorem d_Md_drop_74 : decode b_Md_drop 74 = .ok (.imul, 1) := by decide +kernel
theorem d_Md_drop_75 : decode b_Md_drop 75 = .ok (.iconst 4, 1) := by decide +kernel
theorem d_Md_drop_76 : decode b_Md_drop 76 = .ok (.iadd, 1) := by decide +kernel
theorem d_Md_drop_77 : decode b_Md_drop 77 = .ok (.iload_n 3, 1) := by decide +kernel
theorem d_Md_drop_78 : decode b_Md_drop 78 = .ok (.iadd, 1) := by decide +kernel
theorem d_Md_drop_79 : decode b_Md_drop 79 = .ok (.iaload, 1) := by decide +kernel
theorem d_Md_drop_80 : decode b_Md_drop 80 = .ok (.iastore, 1) := by decide +kernel
theorem d_Md_drop_81 : decode b_Md_drop 81 = .ok (.iinc 3 1, 3) := by decide +kernel
theorem d_Md_drop_84 : decode b_Md_drop 84 = .ok (.goto (-36), 3) := by decide +kernel
theorem d_Md_drop_15 : decode b_Md_drop 15 = .ok (.iload_n 2, 1) := by decide +kernel
theorem d_Md_drop_16 : decode b_Md_drop 16 = .ok (.aload_n 0, 1) := by decide +kernel
theorem d_Md_drop_17 : decode b_Md_drop 17 = .ok (.getfield 37, 3) := by decide +kernel
theorem d_Md_drop_20 : decode b_Md_drop 20 = .ok (.getfield 312, 3) := by decide +kernel
theorem d_Md_drop_23 : decode b_Md_drop 23 = .ok (.if_icmp .ge 70, 3) := by decide +kernel
theorem d_Md_drop_93 : decode b_Md_drop 93 = .ok (.return_, 1) := by decide +kernel
theorem d_Md_drop_26 : decode b_Md_drop 26 = .ok (.aload_n 0, 1) := by decide +kernel
theorem d_Md_drop_27 : decode b_Md_drop 27 = .ok (.getfield 37, 3) := by decide +kernel
theorem d_Md_drop_30 : decode b_Md_drop 30 = .ok (.getfield 306, 3) := by decide +kernel
theorem d_Md_drop_33 : decode b_Md_drop 33 = .ok (.iload_n 2, 1) := by decide +kernel
theorem d_Md_drop_34 : decode b_Md_drop 34 = .ok (.aload_n 0, 1) := by decide +kernel
theorem d_Md_drop_35 : decode b_Md_drop 35 = .ok (.getfield 37, 3) := by decide +kernel
theorem d_Md_drop_38 : decode b_Md_drop 38 = .ok (.getfield 306, 3) := by decide +kernel
theorem d_Md_drop_41 : decode b_Md_drop 41 = .ok (.iload_n 2, 1) := by decide +kernel
theorem d_Md_drop_42 : decode b_Md_drop 42 = .ok (.iconst 1, 1) := by decide +kernel
theorem d_Md_drop_43 : decode b_Md_drop 43 = .ok (.iadd, 1) := by decide +kernel
theorem d_Md_drop_44 : decode b_Md_drop 44 = .ok (.iaload, 1) := by decide +kernel
theorem d_Md_drop_45 : decode b_Md_drop 45 = .ok (.iastore, 1) := by decide +kernel
theorem d_Md_drop_46 : decode b_Md_drop 46 = .ok (.iconst 0, 1) := by decide +kernel
theorem d_Md_drop_47 : decode b_Md_drop 47 = .ok (.istore_n 3, 1) := by decide +kernel
theorem d_Md_drop_0 : decode b_Md_drop 0 = .ok (.aload_n 0, 1) := by decide +kernel
theorem d_Md_drop_1 : decode b_Md_drop 1 = .ok (.getfield 37, 3) := by decide +kernel
theorem d_Md_drop_4 : decode b_Md_drop 4 = .ok (.dup, 1) := by decide +kernel
theorem d_Md_drop_5 : decode b_Md_drop 5 = .ok (.getfield 312, 3) := by decide +kernel
theorem d_Md_drop_8 : decode b_Md_drop 8 = .ok (.iconst 1, 1) := by decide +kernel
theorem d_Md_drop_9 : decode b_Md_drop 9 = .ok (.isub, 1) := by decide +kernel
theorem d_Md_drop_10 : decode b_Md_drop 10 = .ok (.putfield 312, 3) := by decide +kernel
theorem d_Md_drop_13 : decode b_Md_drop 13 = .ok (.iload_n 1, 1) := by decide +kernel
theorem d_Md_drop_14 : decode b_Md_drop 14 = .ok (.istore_n 2, 1) := by decide +kernel
theorem d_Md_stands_0 : decode b_Md_stands 0 = .ok (.aload_n 0, 1) := by decide +kernel
theorem d_Md_stands_1 : decode b_Md_stands 1 = .ok (.getfield 37, 3) := by decide +kernel
theorem d_Md_stands_4 : decode b_Md_stands 4 = .ok (.getfield 354, 3) := by decide +kernel
theorem d_Md_stands_7 : decode b_Md_stands 7 = .ok (.bipush 20, 2) := by decide +kernel
theorem d_Md_stands_9 : decode b_Md_stands 9 = .ok (.if_icmp .gt 5, 3) := by decide +kernel
theorem d_Md_stands_14 : decode b_Md_stands 14 = .ok (.aload_n 0, 1) := by decide +kernel
theorem d_Md_stands_15 : decode b_Md_stands 15 = .ok (.getfield 37, 3) := by decide +kernel
theorem d_Md_stands_18 : decode b_Md_stands 18 = .ok (.aload_n 0, 1) := by decide +kernel
theorem d_Md_stands_19 : decode b_Md_stands 19 = .ok (.getfield 41, 3) := by decide +kernel
theorem d_Md_stands_22 : decode b_Md_stands 22 = .ok (.invokevirtual 366, 3) := by decide +kernel
theorem d_Md_stands_25 : decode b_Md_stands 25 = .ok (.iconst 0, 1) := by decide +kernel
theorem d_Md_stands_26 : decode b_Md_stands 26 = .ok (.ireturn, 1) := by decide +kernel
theorem d_Md_stands_12 : decode b_Md_stands 12 = .ok (.iconst 1, 1) := by decide +kernel
theorem d_Md_stands_13 : decode b_Md_stands 13 = .ok (.ireturn, 1) := by decide +kernel
theorem d_Md_free_4 : decode b_Md_free 4 = .ok (.aload_n 0, 1) := by decide +kernel
theorem d_Md_free_5 : decode b_Md_free 5 = .ok (.iload_n 2, 1) := by decide +kernel
theorem d_Md_free_6 : decode b_Md_free 6 = .ok (.invokevirtual 348, 3) := by decide +kernel
theorem d_Md_free_9 : decode b_Md_free 9 = .ok (.ifCond .le 9, 3) := by decide +kernel
theorem d_Md_free_18 : decode b_Md_free 18 = .ok (.iload_n 2, 1) := by decide +kernel
theorem d_Md_free_19 : decode b_Md_free 19 = .ok (.ireturn, 1) := by decide +kernel
theorem d_Md_free_12 : decode b_Md_free 12 = .ok (.iinc 2 1, 3) := by decide +kernel
theorem d_Md_free_15 : decode b_Md_free 15 = .ok (.goto (-11), 3) := by decide +kernel
theorem d_Md_free_0 : decode b_Md_free 0 = .ok (.iload_n 1, 1) := by decide +kernel
theorem d_Md_free_1 : decode b_Md_free 1 = .ok (.iconst 1, 1) := by decide +kernel
theorem d_Md_free_2 : decode b_Md_free 2 = .ok (.iadd, 1) := by decide +kernel
theorem d_Md_free_3 : decode b_Md_free 3 = .ok (.istore_n 2, 1) := by decide +kernel
theorem d_Md_push_375 : decode b_Md_push 375 = .ok (.istore 19, 2) := by decide +kernel
theorem d_Md_push_377 : decode b_Md_push 377 = .ok (.iload_n 2, 1) := by decide +kernel
theorem d_Md_push_378 : decode b_Md_push 378 = .ok (.ifCond .eq 35, 3) := by decide +kernel
theorem d_Md_push_413 : decode b_Md_push 413 = .ok (.aload_n 0, 1) := by decide +kernel
theorem d_Md_push_414 : decode b_Md_push 414 = .ok (.iload 19, 2) := by decide +kernel
theorem d_Md_push_416 : decode b_Md_push 416 = .ok (.iload 11, 2) := by decide +kernel
theorem d_Md_push_418 : decode b_Md_push 418 = .ok (.iload 12, 2) := by decide +kernel
theorem d_Md_push_420 : decode b_Md_push 420 = .ok (.iload 15, 2) := by decide +kernel
theorem d_Md_push_422 : decode b_Md_push 422 = .ok (.iload 16, 2) := by decide +kernel
theorem d_Md_push_424 : decode b_Md_push 424 = .ok (.invokevirtual 388, 3) := by decide +kernel
theorem d_Md_push_427 : decode b_Md_push 427 = .ok (.aload_n 0, 1) := by decide +kernel
theorem d_Md_push_428 : decode b_Md_push 428 = .ok (.iload 19, 2) := by decide +kernel
theorem d_Md_push_430 : decode b_Md_push 430 = .ok (.ineg, 1) := by decide +kernel
theorem d_Md_push_431 : decode b_Md_push 431 = .ok (.iload 13, 2) := by decide +kernel
theorem d_Md_push_433 : decode b_Md_push 433 = .ok (.iload 14, 2) := by decide +kernel
theorem d_Md_push_435 : decode b_Md_push 435 = .ok (.iload 17, 2) := by decide +kernel
theorem d_Md_push_437 : decode b_Md_push 437 = .ok (.iload 18, 2) := by decide +kernel
theorem d_Md_push_439 : decode b_Md_push 439 = .ok (.invokevirtual 388, 3) := by decide +kernel
theorem d_Md_push_442 : decode b_Md_push 442 = .ok (.iconst 1, 1) := by decide +kernel
theorem d_Md_push_443 : decode b_Md_push 443 = .ok (.ireturn, 1) := by decide +kernel
theorem d_Md_push_381 : decode b_Md_push 381 = .ok (.aload_n 0, 1) := by decide +kernel
theorem d_Md_push_382 : decode b_Md_push 382 = .ok (.iload 19, 2) := by decide +kernel
theorem d_Md_push_384 : decode b_Md_push 384 = .ok (.iload 15, 2) := by decide +kernel
theorem d_Md_push_386 : decode b_Md_push 386 = .ok (.iload 16, 2) := by decide +kernel
theorem d_Md_push_388 : decode b_Md_push 388 = .ok (.iload 11, 2) := by decide +kernel
theorem d_Md_push_390 : decode b_Md_push 390 = .ok (.iload 12, 2) := by decide +kernel
theorem d_Md_push_392 : decode b_Md_push 392 = .ok (.invokevirtual 388, 3) := by decide +kernel
theorem d_Md_push_395 : decode b_Md_push 395 = .ok (.aload_n 0, 1) := by decide +kernel
theorem d_Md_push_396 : decode b_Md_push 396 = .ok (.iload 19, 2) := by decide +kernel
theorem d_Md_push_398 : decode b_Md_push 398 = .ok (.ineg, 1) := by decide +kernel
theorem d_Md_push_399 : decode b_Md_push 399 = .ok (.iload 17, 2) := by decide +kernel
theorem d_Md_push_401 : decode b_Md_push 401 = .ok (.iload 18, 2) := by decide +kernel
theorem d_Md_push_403 : decode b_Md_push 403 = .ok (.iload 13, 2) := by decide +kernel
theorem d_Md_push_405 : decode b_Md_push 405 = .ok (.iload 14, 2) := by decide +kernel
theorem d_Md_push_407 : decode b_Md_push 407 = .ok (.invokevirtual 388, 3) := by decide +kernel
theorem d_Md_push_410 : decode b_Md_push 410 = .ok (.goto 32, 3) := by decide +kernel
theorem d_Md_push_367 : decode b_Md_push 367 = .ok (.if_icmp .eq 7, 3) := by decide +kernel
theorem d_Md_push_374 : decode b_Md_push 374 = .ok (.iconst (-1), 1) := by decide +kernel
theorem d_Md_push_370 : decode b_Md_push 370 = .ok (.iconst 1, 1) := by decide +kernel
theorem d_Md_push_371 : decode b_Md_push 371 = .ok (.goto 4, 3) := by decide +kernel
theorem d_Md_push_359 : decode b_Md_push 359 = .ok (.if_icmp .eq 7, 3) := by decide +kernel
theorem d_Md_push_366 : decode b_Md_push 366 = .ok (.iconst 0, 1) := by decide +kernel
theorem d_Md_push_362 : decode b_Md_push 362 = .ok (.iconst 1, 1) := by decide +kernel
theorem d_Md_push_363 : decode b_Md_push 363 = .ok (.goto 4, 3) := by decide +kernel
theorem d_Md_push_350 : decode b_Md_push 350 = .ok (.iload_n 3, 1) := by decide +kernel
theorem d_Md_push_351 : decode b_Md_push 351 = .ok (.ifCond .ge 7, 3) := by decide +kernel
theorem d_Md_push_358 : decode b_Md_push 358 = .ok (.iconst 0, 1) := by decide +kernel
theorem d_Md_push_354 : decode b_Md_push 354 = .ok (.iconst 1, 1) := by decide +kernel
theorem d_Md_push_355 : decode b_Md_push 355 = .ok (.goto 4, 3) := by decide +kernel
theorem d_Md_push_338 : decode b_Md_push 338 = .ok (.istore 18, 2) := by decide +kernel
theorem d_Md_push_340 : decode b_Md_push 340 = .ok (.iload_n 2, 1) := by decide +kernel
theorem d_Md_push_341 : decode b_Md_push 341 = .ok (.iload_n 1, 1) := by decide +kernel
theorem d_Md_push_342 : decode b_Md_push 342 = .ok (.ifCond .ge 7, 3) := by decide +kernel
theorem d_Md_push_349 : decode b_Md_push 349 = .ok (.iconst 0, 1) := by decide +kernel
theorem d_Md_push_345 : decode b_Md_push 345 = .ok (.iconst 1, 1) := by decide +kernel
theorem d_Md_push_346 : decode b_Md_push 346 = .ok (.goto 4, 3) := by decide +kernel
theorem d_Md_push_325 : decode b_Md_push 325 = .ok (.istore 17, 2) := by decide +kernel
theorem d_Md_push_327 : decode b_Md_push 327 = .ok (.iload_n 3, 1) := by decide +kernel
theorem d_Md_push_328 : decode b_Md_push 328 = .ok (.ifCond .ge 8, 3) := by decide +kernel
theorem d_Md_push_336 : decode b_Md_push 336 = .ok (.iload 9, 2) := by decide +kernel
theorem d_Md_push_331 : decode b_Md_push 331 = .ok (.iload 10, 2) := by decide +kernel
theorem d_Md_push_333 : decode b_Md_push 333 = .ok (.goto 5, 3) := by decide +kernel
theorem d_Md_push_307 : decode b_Md_push 307 = .ok (.istore 16, 2) := by decide +kernel
theorem d_Md_push_309 : decode b_Md_push 309 = .ok (.iload_n 3, 1) := by decide +kernel
theorem d_Md_push_310 : decode b_Md_push 310 = .ok (.ifCond .ge 8, 3) := by decide +kernel
theorem d_Md_push_318 : decode b_Md_push 318 = .ok (.aload_n 0, 1) := by decide +kernel
theorem d_Md_push_319 : decode b_Md_push 319 = .ok (.getfield 66, 3) := by decide +kernel
theorem d_Md_push_322 : decode b_Md_push 322 = .ok (.iload 5, 2) := by decide +kernel
theorem d_Md_push_324 : decode b_Md_push 324 = .ok (.iaload, 1) := by decide +kernel
theorem d_Md_push_313 : decode b_Md_push 313 = .ok (.iload 9, 2) := by decide +kernel
theorem d_Md_push_315 : decode b_Md_push 315 = .ok (.goto 10, 3) := by decide +kernel
