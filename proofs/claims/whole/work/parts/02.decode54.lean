theorem d_Md_push_349 : decode b_Md_push 349 = .ok (.iconst 0, 1) := by decide +kernel
theorem d_Md_push_350 : decode b_Md_push 350 = .ok (.iload_n 3, 1) := by decide +kernel
theorem d_Md_push_351 : decode b_Md_push 351 = .ok (.ifCond .ge 7, 3) := by decide +kernel
theorem d_Md_push_354 : decode b_Md_push 354 = .ok (.iconst 1, 1) := by decide +kernel
theorem d_Md_push_355 : decode b_Md_push 355 = .ok (.goto 4, 3) := by decide +kernel
theorem d_Md_push_358 : decode b_Md_push 358 = .ok (.iconst 0, 1) := by decide +kernel
theorem d_Md_push_359 : decode b_Md_push 359 = .ok (.if_icmp .eq 7, 3) := by decide +kernel
theorem d_Md_push_362 : decode b_Md_push 362 = .ok (.iconst 1, 1) := by decide +kernel
theorem d_Md_push_363 : decode b_Md_push 363 = .ok (.goto 4, 3) := by decide +kernel
theorem d_Md_push_366 : decode b_Md_push 366 = .ok (.iconst 0, 1) := by decide +kernel
theorem d_Md_push_367 : decode b_Md_push 367 = .ok (.if_icmp .eq 7, 3) := by decide +kernel
theorem d_Md_push_370 : decode b_Md_push 370 = .ok (.iconst 1, 1) := by decide +kernel
theorem d_Md_push_371 : decode b_Md_push 371 = .ok (.goto 4, 3) := by decide +kernel
theorem d_Md_push_374 : decode b_Md_push 374 = .ok (.iconst (-1), 1) := by decide +kernel
theorem d_Md_push_375 : decode b_Md_push 375 = .ok (.istore 19, 2) := by decide +kernel
theorem d_Md_push_377 : decode b_Md_push 377 = .ok (.iload_n 2, 1) := by decide +kernel
theorem d_Md_push_378 : decode b_Md_push 378 = .ok (.ifCond .eq 35, 3) := by decide +kernel
theorem d_Md_push_381 : decode b_Md_push 381 = .ok (.aload_n 0, 1) := by decide +kernel
theorem d_Md_push_382 : decode b_Md_push 382 = .ok (.iload 19, 2) := by decide +kernel
theorem d_Md_push_384 : decode b_Md_push 384 = .ok (.iload 15, 2) := by decide +kernel
theorem d_Md_push_386 : decode b_Md_push 386 = .ok (.iload 16, 2) := by decide +kernel
theorem d_Md_push_388 : decode b_Md_push 388 = .ok (.iload 11, 2) := by decide +kernel
theorem d_Md_push_390 : decode b_Md_push 390 = .ok (.iload 12, 2) := by decide +kernel
theorem d_Md_push_392 : decode b_Md_push 392 = .ok (.invokevirtual 388, 3) := by decide +kernel
theorem d_Md_push_395 : decode b_Md_push 395 = .ok (.aload_n 0, 1) := by decide +kernel
theorem d_Md_push_396 : decode b_Md_push 396 = .ok (.iload 19, 2) := by decide +kernel
theorem d_Md_push_398 : decode b_Md_push 398 = .ok (.ineg, 1) := by decide +kernel
theorem d_Md_push_399 : decode b_Md_push 399 = .ok (.iload 17, 2) := by decide +kernel
theorem d_Md_push_401 : decode b_Md_push 401 = .ok (.iload 18, 2) := by decide +kernel
theorem d_Md_push_403 : decode b_Md_push 403 = .ok (.iload 13, 2) := by decide +kernel
theorem d_Md_push_405 : decode b_Md_push 405 = .ok (.iload 14, 2) := by decide +kernel
theorem d_Md_push_407 : decode b_Md_push 407 = .ok (.invokevirtual 388, 3) := by decide +kernel
theorem d_Md_push_410 : decode b_Md_push 410 = .ok (.goto 32, 3) := by decide +kernel
theorem d_Md_push_413 : decode b_Md_push 413 = .ok (.aload_n 0, 1) := by decide +kernel
theorem d_Md_push_414 : decode b_Md_push 414 = .ok (.iload 19, 2) := by decide +kernel
theorem d_Md_push_416 : decode b_Md_push 416 = .ok (.iload 11, 2) := by decide +kernel
theorem d_Md_push_418 : decode b_Md_push 418 = .ok (.iload 12, 2) := by decide +kernel
theorem d_Md_push_420 : decode b_Md_push 420 = .ok (.iload 15, 2) := by decide +kernel
theorem d_Md_push_422 : decode b_Md_push 422 = .ok (.iload 16, 2) := by decide +kernel
theorem d_Md_push_424 : decode b_Md_push 424 = .ok (.invokevirtual 388, 3) := by decide +kernel
theorem d_Md_push_427 : decode b_Md_push 427 = .ok (.aload_n 0, 1) := by decide +kernel
theorem d_Md_push_428 : decode b_Md_push 428 = .ok (.iload 19, 2) := by decide +kernel
theorem d_Md_push_430 : decode b_Md_push 430 = .ok (.ineg, 1) := by decide +kernel
theorem d_Md_push_431 : decode b_Md_push 431 = .ok (.iload 13, 2) := by decide +kernel
theorem d_Md_push_433 : decode b_Md_push 433 = .ok (.iload 14, 2) := by decide +kernel
theorem d_Md_push_435 : decode b_Md_push 435 = .ok (.iload 17, 2) := by decide +kernel
theorem d_Md_push_437 : decode b_Md_push 437 = .ok (.iload 18, 2) := by decide +kernel
theorem d_Md_push_439 : decode b_Md_push 439 = .ok (.invokevirtual 388, 3) := by decide +kernel
theorem d_Md_push_442 : decode b_Md_push 442 = .ok (.iconst 1, 1) := by decide +kernel
theorem d_Md_push_443 : decode b_Md_push 443 = .ok (.ireturn, 1) := by decide +kernel
theorem d_Md_put_0 : decode b_Md_put 0 = .ok (.aload_n 0, 1) := by decide +kernel
theorem d_Md_put_1 : decode b_Md_put 1 = .ok (.getfield 30, 3) := by decide +kernel
theorem d_Md_put_4 : decode b_Md_put 4 = .ok (.aload_n 0, 1) := by decide +kernel
theorem d_Md_put_5 : decode b_Md_put 5 = .ok (.getfield 189, 3) := by decide +kernel
theorem d_Md_put_8 : decode b_Md_put 8 = .ok (.lload_n 1, 1) := by decide +kernel
theorem d_Md_put_9 : decode b_Md_put 9 = .ok (.lastore, 1) := by decide +kernel
theorem d_Md_put_10 : decode b_Md_put 10 = .ok (.aload_n 0, 1) := by decide +kernel
theorem d_Md_put_11 : decode b_Md_put 11 = .ok (.dup, 1) := by decide +kernel
theorem d_Md_put_12 : decode b_Md_put 12 = .ok (.getfield 189, 3) := by decide +kernel
theorem d_Md_put_15 : decode b_Md_put 15 = .ok (.iconst 1, 1) := by decide +kernel
theorem d_Md_put_16 : decode b_Md_put 16 = .ok (.iadd, 1) := by decide +kernel
theorem d_Md_put_17 : decode b_Md_put 17 = .ok (.putfield 189, 3) := by decide +kernel
theorem d_Md_put_20 : decode b_Md_put 20 = .ok (.return_, 1) := by decide +kernel
theorem d_Md_putOver_0 : decode b_Md_putOver 0 = .ok (.aload_n 0, 1) := by decide +kernel
theorem d_Md_putOver_1 : decode b_Md_putOver 1 = .ok (.ldc 202, 2) := by decide +kernel
theorem d_Md_putOver_3 : decode b_Md_putOver 3 = .ok (.invokevirtual 204, 3) := by decide +kernel
theorem d_Md_putOver_6 : decode b_Md_putOver 6 = .ok (.ifCond .ne 17, 3) := by decide +kernel
theorem d_Md_putOver_9 : decode b_Md_putOver 9 = .ok (.aload_n 0, 1) := by decide +kernel
theorem d_Md_putOver_10 : decode b_Md_putOver 10 = .ok (.ldc 208, 2) := by decide +kernel
theorem d_Md_putOver_12 : decode b_Md_putOver 12 = .ok (.invokevirtual 204, 3) := by decide +kernel
theorem d_Md_putOver_15 : decode b_Md_putOver 15 = .ok (.ifCond .ne 8, 3) := by decide +kernel
theorem d_Md_putOver_18 : decode b_Md_putOver 18 = .ok (.aload_n 0, 1) := by decide +kernel
theorem d_Md_putOver_19 : decode b_Md_putOver 19 = .ok (.invokevirtual 182, 3) := by decide +kernel
theorem d_Md_putOver_22 : decode b_Md_putOver 22 = .ok (.return_, 1) := by decide +kernel
theorem d_Md_putOver_23 : decode b_Md_putOver 23 = .ok (.aload_n 0, 1) := by decide +kernel
theorem d_Md_putOver_24 : decode b_Md_putOver 24 = .ok (.aload_n 0, 1) := by decide +kernel
theorem d_Md_putOver_25 : decode b_Md_putOver 25 = .ok (.ldc 202, 2) := by decide +kernel
theorem d_Md_putOver_27 : decode b_Md_putOver 27 = .ok (.invokevirtual 204, 3) := by decide +kernel
theorem d_Md_putOver_30 : decode b_Md_putOver 30 = .ok (.ifCond .eq 7, 3) := by decide +kernel
theorem d_Md_putOver_33 : decode b_Md_putOver 33 = .ok (.lconst 1, 1) := by decide +kernel
theorem d_Md_putOver_34 : decode b_Md_putOver 34 = .ok (.goto 4, 3) := by decide +kernel
theorem d_Md_putOver_37 : decode b_Md_putOver 37 = .ok (.lconst 0, 1) := by decide +kernel
theorem d_Md_putOver_38 : decode b_Md_putOver 38 = .ok (.invokevirtual 198, 3) := by decide +kernel
theorem d_Md_putOver_41 : decode b_Md_putOver 41 = .ok (.aload_n 0, 1) := by decide +kernel
theorem d_Md_putOver_42 : decode b_Md_putOver 42 = .ok (.invokevirtual 179, 3) := by decide +kernel
theorem d_Md_putOver_45 : decode b_Md_putOver 45 = .ok (.return_, 1) := by decide +kernel
theorem d_Md_putSign_0 : decode b_Md_putSign 0 = .ok (.aload_n 0, 1) := by decide +kernel
theorem d_Md_putSign_1 : decode b_Md_putSign 1 = .ok (.invokevirtual 192, 3) := by decide +kernel
theorem d_Md_putSign_4 : decode b_Md_putSign 4 = .ok (.ifCond .ne 8, 3) := by decide +kernel
theorem d_Md_putSign_7 : decode b_Md_putSign 7 = .ok (.aload_n 0, 1) := by decide +kernel
theorem d_Md_putSign_8 : decode b_Md_putSign 8 = .ok (.invokevirtual 182, 3) := by decide +kernel
theorem d_Md_putSign_11 : decode b_Md_putSign 11 = .ok (.return_, 1) := by decide +kernel
theorem d_Md_putSign_12 : decode b_Md_putSign 12 = .ok (.aload_n 0, 1) := by decide +kernel
theorem d_Md_putSign_13 : decode b_Md_putSign 13 = .ok (.aload_n 0, 1) := by decide +kernel
theorem d_Md_putSign_14 : decode b_Md_putSign 14 = .ok (.bipush 43, 2) := by decide +kernel
theorem d_Md_putSign_16 : decode b_Md_putSign 16 = .ok (.invokevirtual 176, 3) := by decide +kernel
theorem d_Md_putSign_19 : decode b_Md_putSign 19 = .ok (.ifCond .eq 7, 3) := by decide +kernel
theorem d_Md_putSign_22 : decode b_Md_putSign 22 = .ok (.lconst 1, 1) := by decide +kernel
theorem d_Md_putSign_23 : decode b_Md_putSign 23 = .ok (.goto 6, 3) := by decide +kernel
theorem d_Md_putSign_26 : decode b_Md_putSign 26 = .ok (.ldc2_w 196, 3) := by decide +kernel
theorem d_Md_putSign_29 : decode b_Md_putSign 29 = .ok (.invokevirtual 198, 3) := by decide +kernel
theorem d_Md_putSign_32 : decode b_Md_putSign 32 = .ok (.aload_n 0, 1) := by decide +kernel
theorem d_Md_putSign_33 : decode b_Md_putSign 33 = .ok (.invokevirtual 179, 3) := by decide +kernel
theorem d_Md_putSign_36 : decode b_Md_putSign 36 = .ok (.return_, 1) := by decide +kernel
theorem d_Md_read_0 : decode b_Md_read 0 = .ok (.iload_n 1, 1) := by decide +kernel
theorem d_Md_read_1 : decode b_Md_read 1 = .ok (.ifCond .lt 11, 3) := by decide +kernel
theorem d_Md_read_4 : decode b_Md_read 4 = .ok (.iload_n 1, 1) := by decide +kernel
theorem d_Md_read_5 : decode b_Md_read 5 = .ok (.aload_n 0, 1) := by decide +kernel
theorem d_Md_read_6 : decode b_Md_read 6 = .ok (.getfield 296, 3) := by decide +kernel
theorem d_Md_read_9 : decode b_Md_read 9 = .ok (.if_icmp .le 6, 3) := by decide +kernel
theorem d_Md_read_12 : decode b_Md_read 12 = .ok (.bipush (-2), 2) := by decide +kernel
theorem d_Md_read_14 : decode b_Md_read 14 = .ok (.ireturn, 1) := by decide +kernel
theorem d_Md_read_15 : decode b_Md_read 15 = .ok (.iconst 0, 1) := by decide +kernel
theorem d_Md_read_16 : decode b_Md_read 16 = .ok (.istore_n 2, 1) := by decide +kernel
theorem d_Md_read_17 : decode b_Md_read 17 = .ok (.iload_n 2, 1) := by decide +kernel
theorem d_Md_read_18 : decode b_Md_read 18 = .ok (.iload_n 1, 1) := by decide +kernel
theorem d_Md_read_19 : decode b_Md_read 19 = .ok (.if_icmp .ge 21, 3) := by decide +kernel
theorem d_Md_read_22 : decode b_Md_read 22 = .ok (.aload_n 0, 1) := by decide +kernel
theorem d_Md_read_23 : decode b_Md_read 23 = .ok (.getfield 16, 3) := by decide +kernel
theorem d_Md_read_26 : decode b_Md_read 26 = .ok (.iload_n 2, 1) := by decide +kernel
theorem d_Md_read_27 : decode b_Md_read 27 = .ok (.aload_n 0, 1) := by decide +kernel
theorem d_Md_read_28 : decode b_Md_read 28 = .ok (.getfield 9, 3) := by decide +kernel
theorem d_Md_read_31 : decode b_Md_read 31 = .ok (.iload_n 2, 1) := by decide +kernel
theorem d_Md_read_32 : decode b_Md_read 32 = .ok (.baload, 1) := by decide +kernel
theorem d_Md_read_33 : decode b_Md_read 33 = .ok (.bastore, 1) := by decide +kernel
theorem d_Md_read_34 : decode b_Md_read 34 = .ok (.iinc 2 1, 3) := by decide +kernel
theorem d_Md_read_37 : decode b_Md_read 37 = .ok (.goto (-20), 3) := by decide +kernel
theorem d_Md_read_40 : decode b_Md_read 40 = .ok (.aload_n 0, 1) := by decide +kernel
theorem d_Md_read_41 : decode b_Md_read 41 = .ok (.iload_n 1, 1) := by decide +kernel
theorem d_Md_read_42 : decode b_Md_read 42 = .ok (.putfield 135, 3) := by decide +kernel
theorem d_Md_read_45 : decode b_Md_read 45 = .ok (.aload_n 0, 1) := by decide +kernel
theorem d_Md_read_46 : decode b_Md_read 46 = .ok (.iconst 0, 1) := by decide +kernel
theorem d_Md_read_47 : decode b_Md_read 47 = .ok (.putfield 296, 3) := by decide +kernel
theorem d_Md_read_50 : decode b_Md_read 50 = .ok (.aload_n 0, 1) := by decide +kernel
theorem d_Md_read_51 : decode b_Md_read 51 = .ok (.iconst 1, 1) := by decide +kernel
theorem d_Md_read_52 : decode b_Md_read 52 = .ok (.putfield 299, 3) := by decide +kernel
theorem d_Md_read_55 : decode b_Md_read 55 = .ok (.aload_n 0, 1) := by decide +kernel
theorem d_Md_read_56 : decode b_Md_read 56 = .ok (.invokevirtual 303, 3) := by decide +kernel
theorem d_Md_read_59 : decode b_Md_read 59 = .ok (.aload_n 0, 1) := by decide +kernel
theorem d_Md_read_60 : decode b_Md_read 60 = .ok (.getfield 126, 3) := by decide +kernel
theorem d_Md_read_63 : decode b_Md_read 63 = .ok (.ifCond .eq 7, 3) := by decide +kernel
theorem d_Md_read_66 : decode b_Md_read 66 = .ok (.iconst (-1), 1) := by decide +kernel
theorem d_Md_read_67 : decode b_Md_read 67 = .ok (.goto 7, 3) := by decide +kernel
theorem d_Md_read_70 : decode b_Md_read 70 = .ok (.aload_n 0, 1) := by decide +kernel
theorem d_Md_read_71 : decode b_Md_read 71 = .ok (.getfield 284, 3) := by decide +kernel
theorem d_Md_read_74 : decode b_Md_read 74 = .ok (.ireturn, 1) := by decide +kernel
theorem d_Md_readBraid_0 : decode b_Md_readBraid 0 = .ok (.aload_n 0, 1) := by decide +kernel
theorem d_Md_readBraid_1 : decode b_Md_readBraid 1 = .ok (.aload_n 0, 1) := by decide +kernel
theorem d_Md_readBraid_2 : decode b_Md_readBraid 2 = .ok (.iconst 0, 1) := by decide +kernel
theorem d_Md_readBraid_3 : decode b_Md_readBraid 3 = .ok (.invokevirtual 185, 3) := by decide +kernel
theorem d_Md_readBraid_6 : decode b_Md_readBraid 6 = .ok (.invokevirtual 198, 3) := by decide +kernel
theorem d_Md_readBraid_9 : decode b_Md_readBraid 9 = .ok (.iconst 0, 1) := by decide +kernel
theorem d_Md_readBraid_10 : decode b_Md_readBraid 10 = .ok (.istore_n 1, 1) := by decide +kernel
theorem d_Md_readBraid_11 : decode b_Md_readBraid 11 = .ok (.aload_n 0, 1) := by decide +kernel
theorem d_Md_readBraid_12 : decode b_Md_readBraid 12 = .ok (.getfield 126, 3) := by decide +kernel
theorem d_Md_readBraid_15 : decode b_Md_readBraid 15 = .ok (.ifCond .ne 76, 3) := by decide +kernel
theorem d_Md_readBraid_18 : decode b_Md_readBraid 18 = .ok (.aload_n 0, 1) := by decide +kernel
theorem d_Md_readBraid_19 : decode b_Md_readBraid 19 = .ok (.getfield 129, 3) := by decide +kernel
theorem d_Md_readBraid_22 : decode b_Md_readBraid 22 = .ok (.iconst 2, 1) := by decide +kernel
theorem d_Md_readBraid_23 : decode b_Md_readBraid 23 = .ok (.if_icmp .eq 12, 3) := by decide +kernel
theorem d_Md_readBraid_26 : decode b_Md_readBraid 26 = .ok (.aload_n 0, 1) := by decide +kernel
theorem d_Md_readBraid_27 : decode b_Md_readBraid 27 = .ok (.bipush 45, 2) := by decide +kernel
theorem d_Md_readBraid_29 : decode b_Md_readBraid 29 = .ok (.invokevirtual 176, 3) := by decide +kernel
theorem d_Md_readBraid_32 : decode b_Md_readBraid 32 = .ok (.ifCond .eq 59, 3) := by decide +kernel
theorem d_Md_readBraid_35 : decode b_Md_readBraid 35 = .ok (.aload_n 0, 1) := by decide +kernel
theorem d_Md_readBraid_36 : decode b_Md_readBraid 36 = .ok (.getfield 129, 3) := by decide +kernel
theorem d_Md_readBraid_39 : decode b_Md_readBraid 39 = .ok (.iconst 2, 1) := by decide +kernel
theorem d_Md_readBraid_40 : decode b_Md_readBraid 40 = .ok (.if_icmp .ne 21, 3) := by decide +kernel
theorem d_Md_readBraid_43 : decode b_Md_readBraid 43 = .ok (.aload_n 0, 1) := by decide +kernel
theorem d_Md_readBraid_44 : decode b_Md_readBraid 44 = .ok (.iconst 0, 1) := by decide +kernel
theorem d_Md_readBraid_45 : decode b_Md_readBraid 45 = .ok (.invokevirtual 172, 3) := by decide +kernel
theorem d_Md_readBraid_48 : decode b_Md_readBraid 48 = .ok (.ifCond .eq 13, 3) := by decide +kernel
theorem d_Md_readBraid_51 : decode b_Md_readBraid 51 = .ok (.aload_n 0, 1) := by decide +kernel
theorem d_Md_readBraid_52 : decode b_Md_readBraid 52 = .ok (.iconst 2, 1) := by decide +kernel
theorem d_Md_readBraid_53 : decode b_Md_readBraid 53 = .ok (.aload_n 0, 1) := by decide +kernel
theorem d_Md_readBraid_54 : decode b_Md_readBraid 54 = .ok (.getfield 142, 3) := by decide +kernel
theorem d_Md_readBraid_57 : decode b_Md_readBraid 57 = .ok (.invokevirtual 138, 3) := by decide +kernel
theorem d_Md_readBraid_60 : decode b_Md_readBraid 60 = .ok (.return_, 1) := by decide +kernel
theorem d_Md_readBraid_61 : decode b_Md_readBraid 61 = .ok (.iload_n 1, 1) := by decide +kernel
theorem d_Md_readBraid_62 : decode b_Md_readBraid 62 = .ok (.bipush 32, 2) := by decide +kernel
theorem d_Md_readBraid_64 : decode b_Md_readBraid 64 = .ok (.if_icmp .ne 13, 3) := by decide +kernel
theorem d_Md_readBraid_67 : decode b_Md_readBraid 67 = .ok (.aload_n 0, 1) := by decide +kernel
theorem d_Md_readBraid_68 : decode b_Md_readBraid 68 = .ok (.iconst 5, 1) := by decide +kernel
theorem d_Md_readBraid_69 : decode b_Md_readBraid 69 = .ok (.aload_n 0, 1) := by decide +kernel
theorem d_Md_readBraid_70 : decode b_Md_readBraid 70 = .ok (.getfield 142, 3) := by decide +kernel
theorem d_Md_readBraid_73 : decode b_Md_readBraid 73 = .ok (.invokevirtual 138, 3) := by decide +kernel
theorem d_Md_readBraid_76 : decode b_Md_readBraid 76 = .ok (.return_, 1) := by decide +kernel
theorem d_Md_readBraid_77 : decode b_Md_readBraid 77 = .ok (.aload_n 0, 1) := by decide +kernel
theorem d_Md_readBraid_78 : decode b_Md_readBraid 78 = .ok (.aload_n 0, 1) := by decide +kernel
theorem d_Md_readBraid_79 : decode b_Md_readBraid 79 = .ok (.invokevirtual 258, 3) := by decide +kernel
theorem d_Md_readBraid_82 : decode b_Md_readBraid 82 = .ok (.invokevirtual 198, 3) := by decide +kernel
theorem d_Md_readBraid_85 : decode b_Md_readBraid 85 = .ok (.iinc 1 1, 3) := by decide +kernel
theorem d_Md_readBraid_88 : decode b_Md_readBraid 88 = .ok (.goto (-77), 3) := by decide +kernel
theorem d_Md_readBraid_91 : decode b_Md_readBraid 91 = .ok (.return_, 1) := by decide +kernel
theorem d_Md_readCode_0 : decode b_Md_readCode 0 = .ok (.iconst 0, 1) := by decide +kernel
theorem d_Md_readCode_1 : decode b_Md_readCode 1 = .ok (.istore_n 1, 1) := by decide +kernel
theorem d_Md_readCode_2 : decode b_Md_readCode 2 = .ok (.aload_n 0, 1) := by decide +kernel
theorem d_Md_readCode_3 : decode b_Md_readCode 3 = .ok (.getfield 126, 3) := by decide +kernel
theorem d_Md_readCode_6 : decode b_Md_readCode 6 = .ok (.ifCond .ne 80, 3) := by decide +kernel
theorem d_Md_readCode_9 : decode b_Md_readCode 9 = .ok (.aload_n 0, 1) := by decide +kernel
