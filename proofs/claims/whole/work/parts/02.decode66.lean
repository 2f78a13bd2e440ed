theorem d_Md_wrongHere_26 : decode b_Md_wrongHere 26 = .ok (.invokevirtual 138, 3) := by decide +kernel
theorem d_Md_wrongHere_29 : decode b_Md_wrongHere 29 = .ok (.return_, 1) := by decide +kernel
theorem d_Md_Di_init_0 : decode b_Md_Di_init 0 = .ok (.aload_n 0, 1) := by decide +kernel
theorem d_Md_Di_init_1 : decode b_Md_Di_init 1 = .ok (.invokespecial 1, 3) := by decide +kernel
theorem d_Md_Di_init_4 : decode b_Md_Di_init 4 = .ok (.aload_n 0, 1) := by decide +kernel
theorem d_Md_Di_init_5 : decode b_Md_Di_init 5 = .ok (.bipush 24, 2) := by decide +kernel
theorem d_Md_Di_init_7 : decode b_Md_Di_init 7 = .ok (.newarray .int, 2) := by decide +kernel
theorem d_Md_Di_init_9 : decode b_Md_Di_init 9 = .ok (.putfield 7, 3) := by decide +kernel
theorem d_Md_Di_init_12 : decode b_Md_Di_init 12 = .ok (.aload_n 0, 1) := by decide +kernel
theorem d_Md_Di_init_13 : decode b_Md_Di_init 13 = .ok (.bipush 96, 2) := by decide +kernel
theorem d_Md_Di_init_15 : decode b_Md_Di_init 15 = .ok (.newarray .int, 2) := by decide +kernel
theorem d_Md_Di_init_17 : decode b_Md_Di_init 17 = .ok (.putfield 13, 3) := by decide +kernel
theorem d_Md_Di_init_20 : decode b_Md_Di_init 20 = .ok (.return_, 1) := by decide +kernel
theorem d_Md_Di_become_0 : decode b_Md_Di_become 0 = .ok (.aload_n 0, 1) := by decide +kernel
theorem d_Md_Di_become_1 : decode b_Md_Di_become 1 = .ok (.aload_n 1, 1) := by decide +kernel
theorem d_Md_Di_become_2 : decode b_Md_Di_become 2 = .ok (.getfield 16, 3) := by decide +kernel
theorem d_Md_Di_become_5 : decode b_Md_Di_become 5 = .ok (.putfield 16, 3) := by decide +kernel
theorem d_Md_Di_become_8 : decode b_Md_Di_become 8 = .ok (.aload_n 0, 1) := by decide +kernel
theorem d_Md_Di_become_9 : decode b_Md_Di_become 9 = .ok (.aload_n 1, 1) := by decide +kernel
theorem d_Md_Di_become_10 : decode b_Md_Di_become 10 = .ok (.getfield 20, 3) := by decide +kernel
theorem d_Md_Di_become_13 : decode b_Md_Di_become 13 = .ok (.putfield 20, 3) := by decide +kernel
theorem d_Md_Di_become_16 : decode b_Md_Di_become 16 = .ok (.iconst 0, 1) := by decide +kernel
theorem d_Md_Di_become_17 : decode b_Md_Di_become 17 = .ok (.istore_n 2, 1) := by decide +kernel
theorem d_Md_Di_become_18 : decode b_Md_Di_become 18 = .ok (.iload_n 2, 1) := by decide +kernel
theorem d_Md_Di_become_19 : decode b_Md_Di_become 19 = .ok (.bipush 24, 2) := by decide +kernel
theorem d_Md_Di_become_21 : decode b_Md_Di_become 21 = .ok (.if_icmp .ge 21, 3) := by decide +kernel
theorem d_Md_Di_become_24 : decode b_Md_Di_become 24 = .ok (.aload_n 0, 1) := by decide +kernel
theorem d_Md_Di_become_25 : decode b_Md_Di_become 25 = .ok (.getfield 7, 3) := by decide +kernel
theorem d_Md_Di_become_28 : decode b_Md_Di_become 28 = .ok (.iload_n 2, 1) := by decide +kernel
theorem d_Md_Di_become_29 : decode b_Md_Di_become 29 = .ok (.aload_n 1, 1) := by decide +kernel
theorem d_Md_Di_become_30 : decode b_Md_Di_become 30 = .ok (.getfield 7, 3) := by decide +kernel
theorem d_Md_Di_become_33 : decode b_Md_Di_become 33 = .ok (.iload_n 2, 1) := by decide +kernel
theorem d_Md_Di_become_34 : decode b_Md_Di_become 34 = .ok (.iaload, 1) := by decide +kernel
theorem d_Md_Di_become_35 : decode b_Md_Di_become 35 = .ok (.iastore, 1) := by decide +kernel
theorem d_Md_Di_become_36 : decode b_Md_Di_become 36 = .ok (.iinc 2 1, 3) := by decide +kernel
theorem d_Md_Di_become_39 : decode b_Md_Di_become 39 = .ok (.goto (-21), 3) := by decide +kernel
theorem d_Md_Di_become_42 : decode b_Md_Di_become 42 = .ok (.iconst 0, 1) := by decide +kernel
theorem d_Md_Di_become_43 : decode b_Md_Di_become 43 = .ok (.istore_n 2, 1) := by decide +kernel
theorem d_Md_Di_become_44 : decode b_Md_Di_become 44 = .ok (.iload_n 2, 1) := by decide +kernel
theorem d_Md_Di_become_45 : decode b_Md_Di_become 45 = .ok (.bipush 96, 2) := by decide +kernel
theorem d_Md_Di_become_47 : decode b_Md_Di_become 47 = .ok (.if_icmp .ge 21, 3) := by decide +kernel
theorem d_Md_Di_become_50 : decode b_Md_Di_become 50 = .ok (.aload_n 0, 1) := by decide +kernel
theorem d_Md_Di_become_51 : decode b_Md_Di_become 51 = .ok (.getfield 13, 3) := by decide +kernel
theorem d_Md_Di_become_54 : decode b_Md_Di_become 54 = .ok (.iload_n 2, 1) := by decide +kernel
theorem d_Md_Di_become_55 : decode b_Md_Di_become 55 = .ok (.aload_n 1, 1) := by decide +kernel
theorem d_Md_Di_become_56 : decode b_Md_Di_become 56 = .ok (.getfield 13, 3) := by decide +kernel
theorem d_Md_Di_become_59 : decode b_Md_Di_become 59 = .ok (.iload_n 2, 1) := by decide +kernel
theorem d_Md_Di_become_60 : decode b_Md_Di_become 60 = .ok (.iaload, 1) := by decide +kernel
theorem d_Md_Di_become_61 : decode b_Md_Di_become 61 = .ok (.iastore, 1) := by decide +kernel
theorem d_Md_Di_become_62 : decode b_Md_Di_become 62 = .ok (.iinc 2 1, 3) := by decide +kernel
theorem d_Md_Di_become_65 : decode b_Md_Di_become 65 = .ok (.goto (-21), 3) := by decide +kernel
theorem d_Md_Di_become_68 : decode b_Md_Di_become 68 = .ok (.return_, 1) := by decide +kernel
theorem d_Md_Wo_init_0 : decode b_Md_Wo_init 0 = .ok (.aload_n 0, 1) := by decide +kernel
theorem d_Md_Wo_init_1 : decode b_Md_Wo_init 1 = .ok (.invokespecial 1, 3) := by decide +kernel
theorem d_Md_Wo_init_4 : decode b_Md_Wo_init 4 = .ok (.aload_n 0, 1) := by decide +kernel
theorem d_Md_Wo_init_5 : decode b_Md_Wo_init 5 = .ok (.iconst 1, 1) := by decide +kernel
theorem d_Md_Wo_init_6 : decode b_Md_Wo_init 6 = .ok (.putfield 7, 3) := by decide +kernel
theorem d_Md_Wo_init_9 : decode b_Md_Wo_init 9 = .ok (.aload_n 0, 1) := by decide +kernel
theorem d_Md_Wo_init_10 : decode b_Md_Wo_init 10 = .ok (.bipush 20, 2) := by decide +kernel
theorem d_Md_Wo_init_12 : decode b_Md_Wo_init 12 = .ok (.newarray .int, 2) := by decide +kernel
theorem d_Md_Wo_init_14 : decode b_Md_Wo_init 14 = .ok (.putfield 13, 3) := by decide +kernel
theorem d_Md_Wo_init_17 : decode b_Md_Wo_init 17 = .ok (.aload_n 0, 1) := by decide +kernel
theorem d_Md_Wo_init_18 : decode b_Md_Wo_init 18 = .ok (.sipush 216, 3) := by decide +kernel
theorem d_Md_Wo_init_21 : decode b_Md_Wo_init 21 = .ok (.newarray .int, 2) := by decide +kernel
theorem d_Md_Wo_init_23 : decode b_Md_Wo_init 23 = .ok (.putfield 17, 3) := by decide +kernel
theorem d_Md_Wo_init_26 : decode b_Md_Wo_init 26 = .ok (.return_, 1) := by decide +kernel
theorem d_Md_Wo_become_0 : decode b_Md_Wo_become 0 = .ok (.aload_n 0, 1) := by decide +kernel
theorem d_Md_Wo_become_1 : decode b_Md_Wo_become 1 = .ok (.aload_n 1, 1) := by decide +kernel
theorem d_Md_Wo_become_2 : decode b_Md_Wo_become 2 = .ok (.getfield 7, 3) := by decide +kernel
theorem d_Md_Wo_become_5 : decode b_Md_Wo_become 5 = .ok (.putfield 7, 3) := by decide +kernel
theorem d_Md_Wo_become_8 : decode b_Md_Wo_become 8 = .ok (.aload_n 0, 1) := by decide +kernel
theorem d_Md_Wo_become_9 : decode b_Md_Wo_become 9 = .ok (.aload_n 1, 1) := by decide +kernel
theorem d_Md_Wo_become_10 : decode b_Md_Wo_become 10 = .ok (.getfield 20, 3) := by decide +kernel
theorem d_Md_Wo_become_13 : decode b_Md_Wo_become 13 = .ok (.putfield 20, 3) := by decide +kernel
theorem d_Md_Wo_become_16 : decode b_Md_Wo_become 16 = .ok (.iconst 0, 1) := by decide +kernel
theorem d_Md_Wo_become_17 : decode b_Md_Wo_become 17 = .ok (.istore_n 2, 1) := by decide +kernel
theorem d_Md_Wo_become_18 : decode b_Md_Wo_become 18 = .ok (.iload_n 2, 1) := by decide +kernel
theorem d_Md_Wo_become_19 : decode b_Md_Wo_become 19 = .ok (.bipush 20, 2) := by decide +kernel
theorem d_Md_Wo_become_21 : decode b_Md_Wo_become 21 = .ok (.if_icmp .ge 21, 3) := by decide +kernel
theorem d_Md_Wo_become_24 : decode b_Md_Wo_become 24 = .ok (.aload_n 0, 1) := by decide +kernel
theorem d_Md_Wo_become_25 : decode b_Md_Wo_become 25 = .ok (.getfield 13, 3) := by decide +kernel
theorem d_Md_Wo_become_28 : decode b_Md_Wo_become 28 = .ok (.iload_n 2, 1) := by decide +kernel
theorem d_Md_Wo_become_29 : decode b_Md_Wo_become 29 = .ok (.aload_n 1, 1) := by decide +kernel
theorem d_Md_Wo_become_30 : decode b_Md_Wo_become 30 = .ok (.getfield 13, 3) := by decide +kernel
theorem d_Md_Wo_become_33 : decode b_Md_Wo_become 33 = .ok (.iload_n 2, 1) := by decide +kernel
theorem d_Md_Wo_become_34 : decode b_Md_Wo_become 34 = .ok (.iaload, 1) := by decide +kernel
theorem d_Md_Wo_become_35 : decode b_Md_Wo_become 35 = .ok (.iastore, 1) := by decide +kernel
theorem d_Md_Wo_become_36 : decode b_Md_Wo_become 36 = .ok (.iinc 2 1, 3) := by decide +kernel
theorem d_Md_Wo_become_39 : decode b_Md_Wo_become 39 = .ok (.goto (-21), 3) := by decide +kernel
theorem d_Md_Wo_become_42 : decode b_Md_Wo_become 42 = .ok (.return_, 1) := by decide +kernel
theorem d_Int_bitCount_0 : decode b_Int_bitCount 0 = .ok (.iload_n 0, 1) := by decide +kernel
theorem d_Int_bitCount_1 : decode b_Int_bitCount 1 = .ok (.iload_n 0, 1) := by decide +kernel
theorem d_Int_bitCount_2 : decode b_Int_bitCount 2 = .ok (.iconst 1, 1) := by decide +kernel
theorem d_Int_bitCount_3 : decode b_Int_bitCount 3 = .ok (.iushr, 1) := by decide +kernel
theorem d_Int_bitCount_4 : decode b_Int_bitCount 4 = .ok (.ldc_w 265, 3) := by decide +kernel
theorem d_Int_bitCount_7 : decode b_Int_bitCount 7 = .ok (.iand, 1) := by decide +kernel
theorem d_Int_bitCount_8 : decode b_Int_bitCount 8 = .ok (.isub, 1) := by decide +kernel
theorem d_Int_bitCount_9 : decode b_Int_bitCount 9 = .ok (.istore_n 0, 1) := by decide +kernel
theorem d_Int_bitCount_10 : decode b_Int_bitCount 10 = .ok (.iload_n 0, 1) := by decide +kernel
theorem d_Int_bitCount_11 : decode b_Int_bitCount 11 = .ok (.ldc_w 266, 3) := by decide +kernel
theorem d_Int_bitCount_14 : decode b_Int_bitCount 14 = .ok (.iand, 1) := by decide +kernel
theorem d_Int_bitCount_15 : decode b_Int_bitCount 15 = .ok (.iload_n 0, 1) := by decide +kernel
theorem d_Int_bitCount_16 : decode b_Int_bitCount 16 = .ok (.iconst 2, 1) := by decide +kernel
theorem d_Int_bitCount_17 : decode b_Int_bitCount 17 = .ok (.iushr, 1) := by decide +kernel
theorem d_Int_bitCount_18 : decode b_Int_bitCount 18 = .ok (.ldc_w 266, 3) := by decide +kernel
theorem d_Int_bitCount_21 : decode b_Int_bitCount 21 = .ok (.iand, 1) := by decide +kernel
theorem d_Int_bitCount_22 : decode b_Int_bitCount 22 = .ok (.iadd, 1) := by decide +kernel
theorem d_Int_bitCount_23 : decode b_Int_bitCount 23 = .ok (.istore_n 0, 1) := by decide +kernel
theorem d_Int_bitCount_24 : decode b_Int_bitCount 24 = .ok (.iload_n 0, 1) := by decide +kernel
theorem d_Int_bitCount_25 : decode b_Int_bitCount 25 = .ok (.iload_n 0, 1) := by decide +kernel
theorem d_Int_bitCount_26 : decode b_Int_bitCount 26 = .ok (.iconst 4, 1) := by decide +kernel
theorem d_Int_bitCount_27 : decode b_Int_bitCount 27 = .ok (.iushr, 1) := by decide +kernel
theorem d_Int_bitCount_28 : decode b_Int_bitCount 28 = .ok (.iadd, 1) := by decide +kernel
theorem d_Int_bitCount_29 : decode b_Int_bitCount 29 = .ok (.ldc_w 267, 3) := by decide +kernel
theorem d_Int_bitCount_32 : decode b_Int_bitCount 32 = .ok (.iand, 1) := by decide +kernel
theorem d_Int_bitCount_33 : decode b_Int_bitCount 33 = .ok (.istore_n 0, 1) := by decide +kernel
theorem d_Int_bitCount_34 : decode b_Int_bitCount 34 = .ok (.iload_n 0, 1) := by decide +kernel
theorem d_Int_bitCount_35 : decode b_Int_bitCount 35 = .ok (.iload_n 0, 1) := by decide +kernel
theorem d_Int_bitCount_36 : decode b_Int_bitCount 36 = .ok (.bipush 8, 2) := by decide +kernel
theorem d_Int_bitCount_38 : decode b_Int_bitCount 38 = .ok (.iushr, 1) := by decide +kernel
theorem d_Int_bitCount_39 : decode b_Int_bitCount 39 = .ok (.iadd, 1) := by decide +kernel
theorem d_Int_bitCount_40 : decode b_Int_bitCount 40 = .ok (.istore_n 0, 1) := by decide +kernel
theorem d_Int_bitCount_41 : decode b_Int_bitCount 41 = .ok (.iload_n 0, 1) := by decide +kernel
theorem d_Int_bitCount_42 : decode b_Int_bitCount 42 = .ok (.iload_n 0, 1) := by decide +kernel
theorem d_Int_bitCount_43 : decode b_Int_bitCount 43 = .ok (.bipush 16, 2) := by decide +kernel
theorem d_Int_bitCount_45 : decode b_Int_bitCount 45 = .ok (.iushr, 1) := by decide +kernel
theorem d_Int_bitCount_46 : decode b_Int_bitCount 46 = .ok (.iadd, 1) := by decide +kernel
theorem d_Int_bitCount_47 : decode b_Int_bitCount 47 = .ok (.istore_n 0, 1) := by decide +kernel
theorem d_Int_bitCount_48 : decode b_Int_bitCount 48 = .ok (.iload_n 0, 1) := by decide +kernel
theorem d_Int_bitCount_49 : decode b_Int_bitCount 49 = .ok (.bipush 63, 2) := by decide +kernel
theorem d_Int_bitCount_51 : decode b_Int_bitCount 51 = .ok (.iand, 1) := by decide +kernel
theorem d_Int_bitCount_52 : decode b_Int_bitCount 52 = .ok (.ireturn, 1) := by decide +kernel
theorem d_Mat_abs_0 : decode b_Mat_abs 0 = .ok (.iload_n 0, 1) := by decide +kernel
theorem d_Mat_abs_1 : decode b_Mat_abs 1 = .ok (.ifCond .ge 8, 3) := by decide +kernel
theorem d_Mat_abs_4 : decode b_Mat_abs 4 = .ok (.iload_n 0, 1) := by decide +kernel
theorem d_Mat_abs_5 : decode b_Mat_abs 5 = .ok (.ineg, 1) := by decide +kernel
theorem d_Mat_abs_6 : decode b_Mat_abs 6 = .ok (.goto 4, 3) := by decide +kernel
theorem d_Mat_abs_9 : decode b_Mat_abs 9 = .ok (.iload_n 0, 1) := by decide +kernel
theorem d_Mat_abs_10 : decode b_Mat_abs 10 = .ok (.ireturn, 1) := by decide +kernel
theorem d_Mat_abs2_0 : decode b_Mat_abs2 0 = .ok (.lload_n 0, 1) := by decide +kernel
theorem d_Mat_abs2_1 : decode b_Mat_abs2 1 = .ok (.lconst 0, 1) := by decide +kernel
theorem d_Mat_abs2_2 : decode b_Mat_abs2 2 = .ok (.lcmp, 1) := by decide +kernel
theorem d_Mat_abs2_3 : decode b_Mat_abs2 3 = .ok (.ifCond .ge 8, 3) := by decide +kernel
theorem d_Mat_abs2_6 : decode b_Mat_abs2 6 = .ok (.lload_n 0, 1) := by decide +kernel
theorem d_Mat_abs2_7 : decode b_Mat_abs2 7 = .ok (.lneg, 1) := by decide +kernel
theorem d_Mat_abs2_8 : decode b_Mat_abs2 8 = .ok (.goto 4, 3) := by decide +kernel
theorem d_Mat_abs2_11 : decode b_Mat_abs2 11 = .ok (.lload_n 0, 1) := by decide +kernel
theorem d_Mat_abs2_12 : decode b_Mat_abs2 12 = .ok (.lreturn, 1) := by decide +kernel
theorem d_Mat_max_0 : decode b_Mat_max 0 = .ok (.iload_n 0, 1) := by decide +kernel
theorem d_Mat_max_1 : decode b_Mat_max 1 = .ok (.iload_n 1, 1) := by decide +kernel
theorem d_Mat_max_2 : decode b_Mat_max 2 = .ok (.if_icmp .lt 7, 3) := by decide +kernel
theorem d_Mat_max_5 : decode b_Mat_max 5 = .ok (.iload_n 0, 1) := by decide +kernel
theorem d_Mat_max_6 : decode b_Mat_max 6 = .ok (.goto 4, 3) := by decide +kernel
theorem d_Mat_max_9 : decode b_Mat_max 9 = .ok (.iload_n 1, 1) := by decide +kernel
theorem d_Mat_max_10 : decode b_Mat_max 10 = .ok (.ireturn, 1) := by decide +kernel
theorem d_Mat_min_0 : decode b_Mat_min 0 = .ok (.iload_n 0, 1) := by decide +kernel
theorem d_Mat_min_1 : decode b_Mat_min 1 = .ok (.iload_n 1, 1) := by decide +kernel
theorem d_Mat_min_2 : decode b_Mat_min 2 = .ok (.if_icmp .gt 7, 3) := by decide +kernel
theorem d_Mat_min_5 : decode b_Mat_min 5 = .ok (.iload_n 0, 1) := by decide +kernel
theorem d_Mat_min_6 : decode b_Mat_min 6 = .ok (.goto 4, 3) := by decide +kernel
theorem d_Mat_min_9 : decode b_Mat_min 9 = .ok (.iload_n 1, 1) := by decide +kernel
theorem d_Mat_min_10 : decode b_Mat_min 10 = .ok (.ireturn, 1) := by decide +kernel
theorem d_Str_charAt_0 : decode b_Str_charAt 0 = .ok (.aload_n 0, 1) := by decide +kernel
theorem d_Str_charAt_1 : decode b_Str_charAt 1 = .ok (.invokevirtual 492, 3) := by decide +kernel
theorem d_Str_charAt_4 : decode b_Str_charAt 4 = .ok (.ifCond .eq 12, 3) := by decide +kernel
theorem d_Str_charAt_7 : decode b_Str_charAt 7 = .ok (.aload_n 0, 1) := by decide +kernel
theorem d_Str_charAt_8 : decode b_Str_charAt 8 = .ok (.getfield 9, 3) := by decide +kernel
theorem d_Str_charAt_11 : decode b_Str_charAt 11 = .ok (.iload_n 1, 1) := by decide +kernel
theorem d_Str_charAt_12 : decode b_Str_charAt 12 = .ok (.invokestatic 495, 3) := by decide +kernel
theorem d_Str_charAt_15 : decode b_Str_charAt 15 = .ok (.ireturn, 1) := by decide +kernel
theorem d_Str_charAt_16 : decode b_Str_charAt 16 = .ok (.aload_n 0, 1) := by decide +kernel
theorem d_Str_charAt_17 : decode b_Str_charAt 17 = .ok (.getfield 9, 3) := by decide +kernel
theorem d_Str_charAt_20 : decode b_Str_charAt 20 = .ok (.iload_n 1, 1) := by decide +kernel
theorem d_Str_charAt_21 : decode b_Str_charAt 21 = .ok (.invokestatic 498, 3) := by decide +kernel
theorem d_Str_charAt_24 : decode b_Str_charAt 24 = .ok (.ireturn, 1) := by decide +kernel
theorem d_Str_checkIndex_0 : decode b_Str_checkIndex 0 = .ok (.iload_n 0, 1) := by decide +kernel
theorem d_Str_checkIndex_1 : decode b_Str_checkIndex 1 = .ok (.iload_n 1, 1) := by decide +kernel
theorem d_Str_checkIndex_2 : decode b_Str_checkIndex 2 = .ok (.getstatic 1053, 3) := by decide +kernel
theorem d_Str_checkIndex_5 : decode b_Str_checkIndex 5 = .ok (.invokestatic 1059, 3) := by decide +kernel
theorem d_Str_checkIndex_8 : decode b_Str_checkIndex 8 = .ok (.pop, 1) := by decide +kernel
theorem d_Str_checkIndex_9 : decode b_Str_checkIndex 9 = .ok (.return_, 1) := by decide +kernel
theorem d_Str_coder_0 : decode b_Str_coder 0 = .ok (.getstatic 38, 3) := by decide +kernel
theorem d_Str_coder_3 : decode b_Str_coder 3 = .ok (.ifCond .eq 10, 3) := by decide +kernel
theorem d_Str_coder_6 : decode b_Str_coder 6 = .ok (.aload_n 0, 1) := by decide +kernel
theorem d_Str_coder_7 : decode b_Str_coder 7 = .ok (.getfield 15, 3) := by decide +kernel
theorem d_Str_coder_10 : decode b_Str_coder 10 = .ok (.goto 4, 3) := by decide +kernel
theorem d_Str_coder_13 : decode b_Str_coder 13 = .ok (.iconst 1, 1) := by decide +kernel
theorem d_Str_coder_14 : decode b_Str_coder 14 = .ok (.ireturn, 1) := by decide +kernel
theorem d_Str_isLatin1_0 : decode b_Str_isLatin1 0 = .ok (.getstatic 38, 3) := by decide +kernel
theorem d_Str_isLatin1_3 : decode b_Str_isLatin1 3 = .ok (.ifCond .eq 14, 3) := by decide +kernel
theorem d_Str_isLatin1_6 : decode b_Str_isLatin1 6 = .ok (.aload_n 0, 1) := by decide +kernel
theorem d_Str_isLatin1_7 : decode b_Str_isLatin1 7 = .ok (.getfield 15, 3) := by decide +kernel
theorem d_Str_isLatin1_10 : decode b_Str_isLatin1 10 = .ok (.ifCond .ne 7, 3) := by decide +kernel
theorem d_Str_isLatin1_13 : decode b_Str_isLatin1 13 = .ok (.iconst 1, 1) := by decide +kernel
theorem d_Str_isLatin1_14 : decode b_Str_isLatin1 14 = .ok (.goto 4, 3) := by decide +kernel
theorem d_Str_isLatin1_17 : decode b_Str_isLatin1 17 = .ok (.iconst 0, 1) := by decide +kernel
theorem d_Str_isLatin1_18 : decode b_Str_isLatin1 18 = .ok (.ireturn, 1) := by decide +kernel
theorem d_Str_length_0 : decode b_Str_length 0 = .ok (.aload_n 0, 1) := by decide +kernel
theorem d_Str_length_1 : decode b_Str_length 1 = .ok (.getfield 9, 3) := by decide +kernel
theorem d_Str_length_4 : decode b_Str_length 4 = .ok (.arraylength, 1) := by decide +kernel
