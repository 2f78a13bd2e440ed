theorem d_Pa_putTerm_22 : decode b_Pa_putTerm 22 = .ok (.invokevirtual 42, 3) := by decide +kernel
theorem d_Pa_putTerm_25 : decode b_Pa_putTerm 25 = .ok (.iload_n 3, 1) := by decide +kernel
theorem d_Pa_putTerm_26 : decode b_Pa_putTerm 26 = .ok (.ifCond .eq 20, 3) := by decide +kernel
theorem d_Pa_putTerm_29 : decode b_Pa_putTerm 29 = .ok (.iload_n 3, 1) := by decide +kernel
theorem d_Pa_putTerm_30 : decode b_Pa_putTerm 30 = .ok (.iconst 1, 1) := by decide +kernel
theorem d_Pa_putTerm_31 : decode b_Pa_putTerm 31 = .ok (.if_icmp .eq 15, 3) := by decide +kernel
theorem d_Pa_putTerm_34 : decode b_Pa_putTerm 34 = .ok (.aload_n 0, 1) := by decide +kernel
theorem d_Pa_putTerm_35 : decode b_Pa_putTerm 35 = .ok (.bipush 94, 2) := by decide +kernel
theorem d_Pa_putTerm_37 : decode b_Pa_putTerm 37 = .ok (.invokevirtual 26, 3) := by decide +kernel
theorem d_Pa_putTerm_40 : decode b_Pa_putTerm 40 = .ok (.aload_n 0, 1) := by decide +kernel
theorem d_Pa_putTerm_41 : decode b_Pa_putTerm 41 = .ok (.iload_n 3, 1) := by decide +kernel
theorem d_Pa_putTerm_42 : decode b_Pa_putTerm 42 = .ok (.i2l, 1) := by decide +kernel
theorem d_Pa_putTerm_43 : decode b_Pa_putTerm 43 = .ok (.invokevirtual 57, 3) := by decide +kernel
theorem d_Pa_putTerm_46 : decode b_Pa_putTerm 46 = .ok (.return_, 1) := by decide +kernel
theorem d_Pa_putTermSign_0 : decode b_Pa_putTermSign 0 = .ok (.iload_n 2, 1) := by decide +kernel
theorem d_Pa_putTermSign_1 : decode b_Pa_putTermSign 1 = .ok (.ifCond .eq 21, 3) := by decide +kernel
theorem d_Pa_putTermSign_4 : decode b_Pa_putTermSign 4 = .ok (.aload_n 0, 1) := by decide +kernel
theorem d_Pa_putTermSign_5 : decode b_Pa_putTermSign 5 = .ok (.iload_n 1, 1) := by decide +kernel
theorem d_Pa_putTermSign_6 : decode b_Pa_putTermSign 6 = .ok (.ifCond .eq 8, 3) := by decide +kernel
theorem d_Pa_putTermSign_9 : decode b_Pa_putTermSign 9 = .ok (.ldc 115, 2) := by decide +kernel
theorem d_Pa_putTermSign_11 : decode b_Pa_putTermSign 11 = .ok (.goto 5, 3) := by decide +kernel
theorem d_Pa_putTermSign_14 : decode b_Pa_putTermSign 14 = .ok (.ldc 117, 2) := by decide +kernel
theorem d_Pa_putTermSign_16 : decode b_Pa_putTermSign 16 = .ok (.invokevirtual 42, 3) := by decide +kernel
theorem d_Pa_putTermSign_19 : decode b_Pa_putTermSign 19 = .ok (.goto 18, 3) := by decide +kernel
theorem d_Pa_putTermSign_22 : decode b_Pa_putTermSign 22 = .ok (.aload_n 0, 1) := by decide +kernel
theorem d_Pa_putTermSign_23 : decode b_Pa_putTermSign 23 = .ok (.iload_n 1, 1) := by decide +kernel
theorem d_Pa_putTermSign_24 : decode b_Pa_putTermSign 24 = .ok (.ifCond .eq 8, 3) := by decide +kernel
theorem d_Pa_putTermSign_27 : decode b_Pa_putTermSign 27 = .ok (.ldc 119, 2) := by decide +kernel
theorem d_Pa_putTermSign_29 : decode b_Pa_putTermSign 29 = .ok (.goto 5, 3) := by decide +kernel
theorem d_Pa_putTermSign_32 : decode b_Pa_putTermSign 32 = .ok (.ldc 121, 2) := by decide +kernel
theorem d_Pa_putTermSign_34 : decode b_Pa_putTermSign 34 = .ok (.invokevirtual 42, 3) := by decide +kernel
theorem d_Pa_putTermSign_37 : decode b_Pa_putTermSign 37 = .ok (.return_, 1) := by decide +kernel
theorem d_Pa_putText_0 : decode b_Pa_putText 0 = .ok (.iconst 0, 1) := by decide +kernel
theorem d_Pa_putText_1 : decode b_Pa_putText 1 = .ok (.istore_n 2, 1) := by decide +kernel
theorem d_Pa_putText_2 : decode b_Pa_putText 2 = .ok (.iload_n 2, 1) := by decide +kernel
theorem d_Pa_putText_3 : decode b_Pa_putText 3 = .ok (.aload_n 1, 1) := by decide +kernel
theorem d_Pa_putText_4 : decode b_Pa_putText 4 = .ok (.invokevirtual 30, 3) := by decide +kernel
theorem d_Pa_putText_7 : decode b_Pa_putText 7 = .ok (.if_icmp .ge 18, 3) := by decide +kernel
theorem d_Pa_putText_10 : decode b_Pa_putText 10 = .ok (.aload_n 0, 1) := by decide +kernel
theorem d_Pa_putText_11 : decode b_Pa_putText 11 = .ok (.aload_n 1, 1) := by decide +kernel
theorem d_Pa_putText_12 : decode b_Pa_putText 12 = .ok (.iload_n 2, 1) := by decide +kernel
theorem d_Pa_putText_13 : decode b_Pa_putText 13 = .ok (.invokevirtual 36, 3) := by decide +kernel
theorem d_Pa_putText_16 : decode b_Pa_putText 16 = .ok (.invokevirtual 26, 3) := by decide +kernel
theorem d_Pa_putText_19 : decode b_Pa_putText 19 = .ok (.iinc 2 1, 3) := by decide +kernel
theorem d_Pa_putText_22 : decode b_Pa_putText 22 = .ok (.goto (-20), 3) := by decide +kernel
theorem d_Pa_putText_25 : decode b_Pa_putText 25 = .ok (.return_, 1) := by decide +kernel
theorem d_Pa_shrink_0 : decode b_Pa_shrink 0 = .ok (.aload_n 0, 1) := by decide +kernel
theorem d_Pa_shrink_1 : decode b_Pa_shrink 1 = .ok (.iload_n 1, 1) := by decide +kernel
theorem d_Pa_shrink_2 : decode b_Pa_shrink 2 = .ok (.putfield 18, 3) := by decide +kernel
theorem d_Pa_shrink_5 : decode b_Pa_shrink 5 = .ok (.aload_n 0, 1) := by decide +kernel
theorem d_Pa_shrink_6 : decode b_Pa_shrink 6 = .ok (.iconst 0, 1) := by decide +kernel
theorem d_Pa_shrink_7 : decode b_Pa_shrink 7 = .ok (.putfield 22, 3) := by decide +kernel
theorem d_Pa_shrink_10 : decode b_Pa_shrink 10 = .ok (.return_, 1) := by decide +kernel
theorem d_Po_init_0 : decode b_Po_init 0 = .ok (.aload_n 0, 1) := by decide +kernel
theorem d_Po_init_1 : decode b_Po_init 1 = .ok (.invokespecial 1, 3) := by decide +kernel
theorem d_Po_init_4 : decode b_Po_init 4 = .ok (.aload_n 0, 1) := by decide +kernel
theorem d_Po_init_5 : decode b_Po_init 5 = .ok (.sipush 161, 3) := by decide +kernel
theorem d_Po_init_8 : decode b_Po_init 8 = .ok (.newarray .long, 2) := by decide +kernel
theorem d_Po_init_10 : decode b_Po_init 10 = .ok (.putfield 9, 3) := by decide +kernel
theorem d_Po_init_13 : decode b_Po_init 13 = .ok (.aload_n 0, 1) := by decide +kernel
theorem d_Po_init_14 : decode b_Po_init 14 = .ok (.iconst 1, 1) := by decide +kernel
theorem d_Po_init_15 : decode b_Po_init 15 = .ok (.putfield 13, 3) := by decide +kernel
theorem d_Po_init_18 : decode b_Po_init 18 = .ok (.return_, 1) := by decide +kernel
theorem d_Po_add_0 : decode b_Po_add 0 = .ok (.iload_n 1, 1) := by decide +kernel
theorem d_Po_add_1 : decode b_Po_add 1 = .ok (.invokestatic 26, 3) := by decide +kernel
theorem d_Po_add_4 : decode b_Po_add 4 = .ok (.bipush 80, 2) := by decide +kernel
theorem d_Po_add_6 : decode b_Po_add 6 = .ok (.if_icmp .gt 16, 3) := by decide +kernel
theorem d_Po_add_9 : decode b_Po_add 9 = .ok (.aload_n 0, 1) := by decide +kernel
theorem d_Po_add_10 : decode b_Po_add 10 = .ok (.getfield 9, 3) := by decide +kernel
theorem d_Po_add_13 : decode b_Po_add 13 = .ok (.iload_n 1, 1) := by decide +kernel
theorem d_Po_add_14 : decode b_Po_add 14 = .ok (.bipush 80, 2) := by decide +kernel
theorem d_Po_add_16 : decode b_Po_add 16 = .ok (.iadd, 1) := by decide +kernel
theorem d_Po_add_17 : decode b_Po_add 17 = .ok (.dup2, 1) := by decide +kernel
theorem d_Po_add_18 : decode b_Po_add 18 = .ok (.laload, 1) := by decide +kernel
theorem d_Po_add_19 : decode b_Po_add 19 = .ok (.lload_n 2, 1) := by decide +kernel
theorem d_Po_add_20 : decode b_Po_add 20 = .ok (.ladd, 1) := by decide +kernel
theorem d_Po_add_21 : decode b_Po_add 21 = .ok (.lastore, 1) := by decide +kernel
theorem d_Po_add_22 : decode b_Po_add 22 = .ok (.return_, 1) := by decide +kernel
theorem d_Po_clear_0 : decode b_Po_clear 0 = .ok (.aload_n 0, 1) := by decide +kernel
theorem d_Po_clear_1 : decode b_Po_clear 1 = .ok (.getfield 9, 3) := by decide +kernel
theorem d_Po_clear_4 : decode b_Po_clear 4 = .ok (.lconst 0, 1) := by decide +kernel
theorem d_Po_clear_5 : decode b_Po_clear 5 = .ok (.invokestatic 17, 3) := by decide +kernel
theorem d_Po_clear_8 : decode b_Po_clear 8 = .ok (.aload_n 0, 1) := by decide +kernel
theorem d_Po_clear_9 : decode b_Po_clear 9 = .ok (.iconst 0, 1) := by decide +kernel
theorem d_Po_clear_10 : decode b_Po_clear 10 = .ok (.putfield 23, 3) := by decide +kernel
theorem d_Po_clear_13 : decode b_Po_clear 13 = .ok (.aload_n 0, 1) := by decide +kernel
theorem d_Po_clear_14 : decode b_Po_clear 14 = .ok (.iconst 1, 1) := by decide +kernel
theorem d_Po_clear_15 : decode b_Po_clear 15 = .ok (.putfield 13, 3) := by decide +kernel
theorem d_Po_clear_18 : decode b_Po_clear 18 = .ok (.return_, 1) := by decide +kernel
theorem d_Po_coefficient_0 : decode b_Po_coefficient 0 = .ok (.iload_n 1, 1) := by decide +kernel
theorem d_Po_coefficient_1 : decode b_Po_coefficient 1 = .ok (.aload_n 0, 1) := by decide +kernel
theorem d_Po_coefficient_2 : decode b_Po_coefficient 2 = .ok (.invokevirtual 32, 3) := by decide +kernel
theorem d_Po_coefficient_5 : decode b_Po_coefficient 5 = .ok (.if_icmp .lt 11, 3) := by decide +kernel
theorem d_Po_coefficient_8 : decode b_Po_coefficient 8 = .ok (.iload_n 1, 1) := by decide +kernel
theorem d_Po_coefficient_9 : decode b_Po_coefficient 9 = .ok (.aload_n 0, 1) := by decide +kernel
theorem d_Po_coefficient_10 : decode b_Po_coefficient 10 = .ok (.invokevirtual 36, 3) := by decide +kernel
theorem d_Po_coefficient_13 : decode b_Po_coefficient 13 = .ok (.if_icmp .le 5, 3) := by decide +kernel
theorem d_Po_coefficient_16 : decode b_Po_coefficient 16 = .ok (.lconst 0, 1) := by decide +kernel
theorem d_Po_coefficient_17 : decode b_Po_coefficient 17 = .ok (.lreturn, 1) := by decide +kernel
theorem d_Po_coefficient_18 : decode b_Po_coefficient 18 = .ok (.aload_n 0, 1) := by decide +kernel
theorem d_Po_coefficient_19 : decode b_Po_coefficient 19 = .ok (.getfield 13, 3) := by decide +kernel
theorem d_Po_coefficient_22 : decode b_Po_coefficient 22 = .ok (.i2l, 1) := by decide +kernel
theorem d_Po_coefficient_23 : decode b_Po_coefficient 23 = .ok (.aload_n 0, 1) := by decide +kernel
theorem d_Po_coefficient_24 : decode b_Po_coefficient 24 = .ok (.getfield 9, 3) := by decide +kernel
theorem d_Po_coefficient_27 : decode b_Po_coefficient 27 = .ok (.iload_n 1, 1) := by decide +kernel
theorem d_Po_coefficient_28 : decode b_Po_coefficient 28 = .ok (.aload_n 0, 1) := by decide +kernel
theorem d_Po_coefficient_29 : decode b_Po_coefficient 29 = .ok (.getfield 23, 3) := by decide +kernel
theorem d_Po_coefficient_32 : decode b_Po_coefficient 32 = .ok (.isub, 1) := by decide +kernel
theorem d_Po_coefficient_33 : decode b_Po_coefficient 33 = .ok (.bipush 80, 2) := by decide +kernel
theorem d_Po_coefficient_35 : decode b_Po_coefficient 35 = .ok (.iadd, 1) := by decide +kernel
theorem d_Po_coefficient_36 : decode b_Po_coefficient 36 = .ok (.laload, 1) := by decide +kernel
theorem d_Po_coefficient_37 : decode b_Po_coefficient 37 = .ok (.lmul, 1) := by decide +kernel
theorem d_Po_coefficient_38 : decode b_Po_coefficient 38 = .ok (.lreturn, 1) := by decide +kernel
theorem d_Po_countTerms_0 : decode b_Po_countTerms 0 = .ok (.iconst 0, 1) := by decide +kernel
theorem d_Po_countTerms_1 : decode b_Po_countTerms 1 = .ok (.istore_n 1, 1) := by decide +kernel
theorem d_Po_countTerms_2 : decode b_Po_countTerms 2 = .ok (.iconst 0, 1) := by decide +kernel
theorem d_Po_countTerms_3 : decode b_Po_countTerms 3 = .ok (.istore_n 2, 1) := by decide +kernel
theorem d_Po_countTerms_4 : decode b_Po_countTerms 4 = .ok (.iload_n 2, 1) := by decide +kernel
theorem d_Po_countTerms_5 : decode b_Po_countTerms 5 = .ok (.aload_n 0, 1) := by decide +kernel
theorem d_Po_countTerms_6 : decode b_Po_countTerms 6 = .ok (.getfield 9, 3) := by decide +kernel
theorem d_Po_countTerms_9 : decode b_Po_countTerms 9 = .ok (.arraylength, 1) := by decide +kernel
theorem d_Po_countTerms_10 : decode b_Po_countTerms 10 = .ok (.if_icmp .ge 28, 3) := by decide +kernel
theorem d_Po_countTerms_13 : decode b_Po_countTerms 13 = .ok (.iload_n 1, 1) := by decide +kernel
theorem d_Po_countTerms_14 : decode b_Po_countTerms 14 = .ok (.aload_n 0, 1) := by decide +kernel
theorem d_Po_countTerms_15 : decode b_Po_countTerms 15 = .ok (.getfield 9, 3) := by decide +kernel
theorem d_Po_countTerms_18 : decode b_Po_countTerms 18 = .ok (.iload_n 2, 1) := by decide +kernel
theorem d_Po_countTerms_19 : decode b_Po_countTerms 19 = .ok (.laload, 1) := by decide +kernel
theorem d_Po_countTerms_20 : decode b_Po_countTerms 20 = .ok (.lconst 0, 1) := by decide +kernel
theorem d_Po_countTerms_21 : decode b_Po_countTerms 21 = .ok (.lcmp, 1) := by decide +kernel
theorem d_Po_countTerms_22 : decode b_Po_countTerms 22 = .ok (.ifCond .eq 7, 3) := by decide +kernel
theorem d_Po_countTerms_25 : decode b_Po_countTerms 25 = .ok (.iconst 1, 1) := by decide +kernel
theorem d_Po_countTerms_26 : decode b_Po_countTerms 26 = .ok (.goto 4, 3) := by decide +kernel
theorem d_Po_countTerms_29 : decode b_Po_countTerms 29 = .ok (.iconst 0, 1) := by decide +kernel
theorem d_Po_countTerms_30 : decode b_Po_countTerms 30 = .ok (.iadd, 1) := by decide +kernel
theorem d_Po_countTerms_31 : decode b_Po_countTerms 31 = .ok (.istore_n 1, 1) := by decide +kernel
theorem d_Po_countTerms_32 : decode b_Po_countTerms 32 = .ok (.iinc 2 1, 3) := by decide +kernel
theorem d_Po_countTerms_35 : decode b_Po_countTerms 35 = .ok (.goto (-31), 3) := by decide +kernel
theorem d_Po_countTerms_38 : decode b_Po_countTerms 38 = .ok (.iload_n 1, 1) := by decide +kernel
theorem d_Po_countTerms_39 : decode b_Po_countTerms 39 = .ok (.ireturn, 1) := by decide +kernel
theorem d_Po_highest_0 : decode b_Po_highest 0 = .ok (.aload_n 0, 1) := by decide +kernel
theorem d_Po_highest_1 : decode b_Po_highest 1 = .ok (.getfield 23, 3) := by decide +kernel
theorem d_Po_highest_4 : decode b_Po_highest 4 = .ok (.bipush 80, 2) := by decide +kernel
theorem d_Po_highest_6 : decode b_Po_highest 6 = .ok (.iadd, 1) := by decide +kernel
theorem d_Po_highest_7 : decode b_Po_highest 7 = .ok (.ireturn, 1) := by decide +kernel
theorem d_Po_isFirstOf_0 : decode b_Po_isFirstOf 0 = .ok (.iconst 0, 1) := by decide +kernel
theorem d_Po_isFirstOf_1 : decode b_Po_isFirstOf 1 = .ok (.istore_n 3, 1) := by decide +kernel
theorem d_Po_isFirstOf_2 : decode b_Po_isFirstOf 2 = .ok (.iload_n 3, 1) := by decide +kernel
theorem d_Po_isFirstOf_3 : decode b_Po_isFirstOf 3 = .ok (.iload_n 1, 1) := by decide +kernel
theorem d_Po_isFirstOf_4 : decode b_Po_isFirstOf 4 = .ok (.if_icmp .ge 24, 3) := by decide +kernel
theorem d_Po_isFirstOf_7 : decode b_Po_isFirstOf 7 = .ok (.aload_n 0, 1) := by decide +kernel
theorem d_Po_isFirstOf_8 : decode b_Po_isFirstOf 8 = .ok (.iconst 2, 1) := by decide +kernel
theorem d_Po_isFirstOf_9 : decode b_Po_isFirstOf 9 = .ok (.iload_n 3, 1) := by decide +kernel
theorem d_Po_isFirstOf_10 : decode b_Po_isFirstOf 10 = .ok (.imul, 1) := by decide +kernel
theorem d_Po_isFirstOf_11 : decode b_Po_isFirstOf 11 = .ok (.iconst 1, 1) := by decide +kernel
theorem d_Po_isFirstOf_12 : decode b_Po_isFirstOf 12 = .ok (.iadd, 1) := by decide +kernel
theorem d_Po_isFirstOf_13 : decode b_Po_isFirstOf 13 = .ok (.invokevirtual 44, 3) := by decide +kernel
theorem d_Po_isFirstOf_16 : decode b_Po_isFirstOf 16 = .ok (.iload_n 2, 1) := by decide +kernel
theorem d_Po_isFirstOf_17 : decode b_Po_isFirstOf 17 = .ok (.if_icmp .ne 5, 3) := by decide +kernel
theorem d_Po_isFirstOf_20 : decode b_Po_isFirstOf 20 = .ok (.iconst 0, 1) := by decide +kernel
theorem d_Po_isFirstOf_21 : decode b_Po_isFirstOf 21 = .ok (.ireturn, 1) := by decide +kernel
theorem d_Po_isFirstOf_22 : decode b_Po_isFirstOf 22 = .ok (.iinc 3 1, 3) := by decide +kernel
theorem d_Po_isFirstOf_25 : decode b_Po_isFirstOf 25 = .ok (.goto (-23), 3) := by decide +kernel
theorem d_Po_isFirstOf_28 : decode b_Po_isFirstOf 28 = .ok (.iconst 1, 1) := by decide +kernel
theorem d_Po_isFirstOf_29 : decode b_Po_isFirstOf 29 = .ok (.ireturn, 1) := by decide +kernel
theorem d_Po_isSumAt_0 : decode b_Po_isSumAt 0 = .ok (.lconst 0, 1) := by decide +kernel
theorem d_Po_isSumAt_1 : decode b_Po_isSumAt 1 = .ok (.lstore 5, 2) := by decide +kernel
theorem d_Po_isSumAt_3 : decode b_Po_isSumAt 3 = .ok (.lconst 0, 1) := by decide +kernel
theorem d_Po_isSumAt_4 : decode b_Po_isSumAt 4 = .ok (.lstore 7, 2) := by decide +kernel
theorem d_Po_isSumAt_6 : decode b_Po_isSumAt 6 = .ok (.iload_n 2, 1) := by decide +kernel
theorem d_Po_isSumAt_7 : decode b_Po_isSumAt 7 = .ok (.istore 9, 2) := by decide +kernel
theorem d_Po_isSumAt_9 : decode b_Po_isSumAt 9 = .ok (.iload 9, 2) := by decide +kernel
theorem d_Po_isSumAt_11 : decode b_Po_isSumAt 11 = .ok (.iload_n 3, 1) := by decide +kernel
theorem d_Po_isSumAt_12 : decode b_Po_isSumAt 12 = .ok (.if_icmp .ge 56, 3) := by decide +kernel
theorem d_Po_isSumAt_15 : decode b_Po_isSumAt 15 = .ok (.aload_n 1, 1) := by decide +kernel
theorem d_Po_isSumAt_16 : decode b_Po_isSumAt 16 = .ok (.iconst 2, 1) := by decide +kernel
theorem d_Po_isSumAt_17 : decode b_Po_isSumAt 17 = .ok (.iload 9, 2) := by decide +kernel
theorem d_Po_isSumAt_19 : decode b_Po_isSumAt 19 = .ok (.imul, 1) := by decide +kernel
theorem d_Po_isSumAt_20 : decode b_Po_isSumAt 20 = .ok (.iconst 1, 1) := by decide +kernel
theorem d_Po_isSumAt_21 : decode b_Po_isSumAt 21 = .ok (.iadd, 1) := by decide +kernel
theorem d_Po_isSumAt_22 : decode b_Po_isSumAt 22 = .ok (.invokevirtual 44, 3) := by decide +kernel
theorem d_Po_isSumAt_25 : decode b_Po_isSumAt 25 = .ok (.iload 4, 2) := by decide +kernel
theorem d_Po_isSumAt_27 : decode b_Po_isSumAt 27 = .ok (.if_icmp .ne 35, 3) := by decide +kernel
theorem d_Po_isSumAt_30 : decode b_Po_isSumAt 30 = .ok (.aload_n 1, 1) := by decide +kernel
theorem d_Po_isSumAt_31 : decode b_Po_isSumAt 31 = .ok (.iconst 2, 1) := by decide +kernel
theorem d_Po_isSumAt_32 : decode b_Po_isSumAt 32 = .ok (.iload 9, 2) := by decide +kernel
theorem d_Po_isSumAt_34 : decode b_Po_isSumAt 34 = .ok (.imul, 1) := by decide +kernel
theorem d_Po_isSumAt_35 : decode b_Po_isSumAt 35 = .ok (.invokevirtual 62, 3) := by decide +kernel
theorem d_Po_isSumAt_38 : decode b_Po_isSumAt 38 = .ok (.lstore 10, 2) := by decide +kernel
theorem d_Po_isSumAt_40 : decode b_Po_isSumAt 40 = .ok (.lload 5, 2) := by decide +kernel
theorem d_Po_isSumAt_42 : decode b_Po_isSumAt 42 = .ok (.lload 10, 2) := by decide +kernel
theorem d_Po_isSumAt_44 : decode b_Po_isSumAt 44 = .ok (.ldc2_w 65, 3) := by decide +kernel
theorem d_Po_isSumAt_47 : decode b_Po_isSumAt 47 = .ok (.ldiv, 1) := by decide +kernel
theorem d_Po_isSumAt_48 : decode b_Po_isSumAt 48 = .ok (.ladd, 1) := by decide +kernel
theorem d_Po_isSumAt_49 : decode b_Po_isSumAt 49 = .ok (.lstore 5, 2) := by decide +kernel
theorem d_Po_isSumAt_51 : decode b_Po_isSumAt 51 = .ok (.lload 7, 2) := by decide +kernel
theorem d_Po_isSumAt_53 : decode b_Po_isSumAt 53 = .ok (.lload 10, 2) := by decide +kernel
theorem d_Po_isSumAt_55 : decode b_Po_isSumAt 55 = .ok (.ldc2_w 65, 3) := by decide +kernel
theorem d_Po_isSumAt_58 : decode b_Po_isSumAt 58 = .ok (.lrem, 1) := by decide +kernel
theorem d_Po_isSumAt_59 : decode b_Po_isSumAt 59 = .ok (.ladd, 1) := by decide +kernel
theorem d_Po_isSumAt_60 : decode b_Po_isSumAt 60 = .ok (.lstore 7, 2) := by decide +kernel
