theorem d_Mi_reach_16 : decode b_Mi_reach 16 = .ok (.iconst 0, 1) := by decide +kernel
theorem d_Mi_reach_17 : decode b_Mi_reach 17 = .ok (.istore_n 2, 1) := by decide +kernel
theorem d_Po_add_0 : decode b_Po_add 0 = .ok (.iload_n 1, 1) := by decide +kernel
theorem d_Po_add_1 : decode b_Po_add 1 = .ok (.invokestatic 26, 3) := by decide +kernel
theorem d_Po_add_4 : decode b_Po_add 4 = .ok (.bipush 80, 2) := by decide +kernel
theorem d_Po_add_6 : decode b_Po_add 6 = .ok (.if_icmp .gt 16, 3) := by decide +kernel
theorem d_Po_add_22 : decode b_Po_add 22 = .ok (.return_, 1) := by decide +kernel
theorem d_Po_add_9 : decode b_Po_add 9 = .ok (.aload_n 0, 1) := by decide +kernel
theorem d_Po_add_10 : decode b_Po_add 10 = .ok (.getfield 9, 3) := by decide +kernel
theorem d_Po_add_13 : decode b_Po_add 13 = .ok (.iload_n 1, 1) := by decide +kernel
theorem d_Po_add_14 : decode b_Po_add 14 = .ok (.bipush 80, 2) := by decide +kernel
theorem d_Po_add_16 : decode b_Po_add 16 = .ok (.iadd, 1) := by decide +kernel
theorem d_Po_add_17 : decode b_Po_add 17 = .ok (.dup2, 1) := by decide +kernel
theorem d_Po_add_18 : decode b_Po_add 18 = .ok (.laload, 1) := by decide +kernel
theorem d_Po_add_19 : decode b_Po_add 19 = .ok (.lload_n 2, 1) := by decide +kernel
theorem d_Po_add_20 : decode b_Po_add 20 = .ok (.ladd, 1) := by decide +kernel
theorem d_Po_add_21 : decode b_Po_add 21 = .ok (.lastore, 1) := by decide +kernel
theorem d_Po_makeNormal_47 : decode b_Po_makeNormal 47 = .ok (.putfield 13, 3) := by decide +kernel
theorem d_Po_makeNormal_50 : decode b_Po_makeNormal 50 = .ok (.return_, 1) := by decide +kernel
theorem d_Po_makeNormal_2 : decode b_Po_makeNormal 2 = .ok (.iload_n 1, 1) := by decide +kernel
theorem d_Po_makeNormal_3 : decode b_Po_makeNormal 3 = .ok (.aload_n 0, 1) := by decide +kernel
theorem d_Po_makeNormal_4 : decode b_Po_makeNormal 4 = .ok (.getfield 9, 3) := by decide +kernel
theorem d_Po_makeNormal_7 : decode b_Po_makeNormal 7 = .ok (.arraylength, 1) := by decide +kernel
theorem d_Po_makeNormal_8 : decode b_Po_makeNormal 8 = .ok (.if_icmp .ge 49, 3) := by decide +kernel
theorem d_Po_makeNormal_57 : decode b_Po_makeNormal 57 = .ok (.return_, 1) := by decide +kernel
theorem d_Po_makeNormal_11 : decode b_Po_makeNormal 11 = .ok (.aload_n 0, 1) := by decide +kernel
theorem d_Po_makeNormal_12 : decode b_Po_makeNormal 12 = .ok (.getfield 9, 3) := by decide +kernel
theorem d_Po_makeNormal_15 : decode b_Po_makeNormal 15 = .ok (.iload_n 1, 1) := by decide +kernel
theorem d_Po_makeNormal_16 : decode b_Po_makeNormal 16 = .ok (.laload, 1) := by decide +kernel
theorem d_Po_makeNormal_17 : decode b_Po_makeNormal 17 = .ok (.lconst 0, 1) := by decide +kernel
theorem d_Po_makeNormal_18 : decode b_Po_makeNormal 18 = .ok (.lcmp, 1) := by decide +kernel
theorem d_Po_makeNormal_19 : decode b_Po_makeNormal 19 = .ok (.ifCond .eq 32, 3) := by decide +kernel
theorem d_Po_makeNormal_51 : decode b_Po_makeNormal 51 = .ok (.iinc 1 1, 3) := by decide +kernel
theorem d_Po_makeNormal_54 : decode b_Po_makeNormal 54 = .ok (.goto (-52), 3) := by decide +kernel
theorem d_Po_makeNormal_22 : decode b_Po_makeNormal 22 = .ok (.aload_n 0, 1) := by decide +kernel
theorem d_Po_makeNormal_23 : decode b_Po_makeNormal 23 = .ok (.bipush 80, 2) := by decide +kernel
theorem d_Po_makeNormal_25 : decode b_Po_makeNormal 25 = .ok (.iload_n 1, 1) := by decide +kernel
theorem d_Po_makeNormal_26 : decode b_Po_makeNormal 26 = .ok (.isub, 1) := by decide +kernel
theorem d_Po_makeNormal_27 : decode b_Po_makeNormal 27 = .ok (.putfield 23, 3) := by decide +kernel
theorem d_Po_makeNormal_30 : decode b_Po_makeNormal 30 = .ok (.aload_n 0, 1) := by decide +kernel
theorem d_Po_makeNormal_31 : decode b_Po_makeNormal 31 = .ok (.aload_n 0, 1) := by decide +kernel
theorem d_Po_makeNormal_32 : decode b_Po_makeNormal 32 = .ok (.getfield 9, 3) := by decide +kernel
theorem d_Po_makeNormal_35 : decode b_Po_makeNormal 35 = .ok (.iload_n 1, 1) := by decide +kernel
theorem d_Po_makeNormal_36 : decode b_Po_makeNormal 36 = .ok (.laload, 1) := by decide +kernel
theorem d_Po_makeNormal_37 : decode b_Po_makeNormal 37 = .ok (.lconst 0, 1) := by decide +kernel
theorem d_Po_makeNormal_38 : decode b_Po_makeNormal 38 = .ok (.lcmp, 1) := by decide +kernel
theorem d_Po_makeNormal_39 : decode b_Po_makeNormal 39 = .ok (.ifCond .le 7, 3) := by decide +kernel
theorem d_Po_makeNormal_46 : decode b_Po_makeNormal 46 = .ok (.iconst (-1), 1) := by decide +kernel
theorem d_Po_makeNormal_42 : decode b_Po_makeNormal 42 = .ok (.iconst 1, 1) := by decide +kernel
theorem d_Po_makeNormal_43 : decode b_Po_makeNormal 43 = .ok (.goto 4, 3) := by decide +kernel
theorem d_Po_makeNormal_0 : decode b_Po_makeNormal 0 = .ok (.iconst 0, 1) := by decide +kernel
theorem d_Po_makeNormal_1 : decode b_Po_makeNormal 1 = .ok (.istore_n 1, 1) := by decide +kernel
theorem d_Ss_mostCircles_27 : decode b_Ss_mostCircles 27 = .ok (.iinc 2 1, 3) := by decide +kernel
theorem d_Ss_mostCircles_30 : decode b_Ss_mostCircles 30 = .ok (.goto (-26), 3) := by decide +kernel
theorem d_Ss_mostCircles_4 : decode b_Ss_mostCircles 4 = .ok (.iload_n 2, 1) := by decide +kernel
theorem d_Ss_mostCircles_5 : decode b_Ss_mostCircles 5 = .ok (.aload_n 0, 1) := by decide +kernel
theorem d_Ss_mostCircles_6 : decode b_Ss_mostCircles 6 = .ok (.getfield 15, 3) := by decide +kernel
theorem d_Ss_mostCircles_9 : decode b_Ss_mostCircles 9 = .ok (.arraylength, 1) := by decide +kernel
theorem d_Ss_mostCircles_10 : decode b_Ss_mostCircles 10 = .ok (.if_icmp .ge 23, 3) := by decide +kernel
theorem d_Ss_mostCircles_33 : decode b_Ss_mostCircles 33 = .ok (.iload_n 1, 1) := by decide +kernel
theorem d_Ss_mostCircles_34 : decode b_Ss_mostCircles 34 = .ok (.ireturn, 1) := by decide +kernel
theorem d_Ss_mostCircles_13 : decode b_Ss_mostCircles 13 = .ok (.aload_n 0, 1) := by decide +kernel
theorem d_Ss_mostCircles_14 : decode b_Ss_mostCircles 14 = .ok (.getfield 15, 3) := by decide +kernel
theorem d_Ss_mostCircles_17 : decode b_Ss_mostCircles 17 = .ok (.iload_n 2, 1) := by decide +kernel
theorem d_Ss_mostCircles_18 : decode b_Ss_mostCircles 18 = .ok (.iaload, 1) := by decide +kernel
theorem d_Ss_mostCircles_19 : decode b_Ss_mostCircles 19 = .ok (.ifCond .eq 8, 3) := by decide +kernel
theorem d_Ss_mostCircles_22 : decode b_Ss_mostCircles 22 = .ok (.iload_n 2, 1) := by decide +kernel
theorem d_Ss_mostCircles_23 : decode b_Ss_mostCircles 23 = .ok (.bipush 21, 2) := by decide +kernel
theorem d_Ss_mostCircles_25 : decode b_Ss_mostCircles 25 = .ok (.idiv, 1) := by decide +kernel
theorem d_Ss_mostCircles_26 : decode b_Ss_mostCircles 26 = .ok (.istore_n 1, 1) := by decide +kernel
theorem d_Ss_mostCircles_0 : decode b_Ss_mostCircles 0 = .ok (.iconst 0, 1) := by decide +kernel
theorem d_Ss_mostCircles_1 : decode b_Ss_mostCircles 1 = .ok (.istore_n 1, 1) := by decide +kernel
theorem d_Ss_mostCircles_2 : decode b_Ss_mostCircles 2 = .ok (.iconst 0, 1) := by decide +kernel
theorem d_Ss_mostCircles_3 : decode b_Ss_mostCircles 3 = .ok (.istore_n 2, 1) := by decide +kernel
theorem d_Po_timesCircle_8 : decode b_Po_timesCircle 8 = .ok (.iload 4, 2) := by decide +kernel
theorem d_Po_timesCircle_10 : decode b_Po_timesCircle 10 = .ok (.iload_n 1, 1) := by decide +kernel
theorem d_Po_timesCircle_11 : decode b_Po_timesCircle 11 = .ok (.iconst 2, 1) := by decide +kernel
theorem d_Po_timesCircle_12 : decode b_Po_timesCircle 12 = .ok (.iadd, 1) := by decide +kernel
theorem d_Po_timesCircle_13 : decode b_Po_timesCircle 13 = .ok (.if_icmp .gt 57, 3) := by decide +kernel
theorem d_Po_timesCircle_70 : decode b_Po_timesCircle 70 = .ok (.return_, 1) := by decide +kernel
theorem d_Po_timesCircle_16 : decode b_Po_timesCircle 16 = .ok (.iload_n 1, 1) := by decide +kernel
theorem d_Po_timesCircle_17 : decode b_Po_timesCircle 17 = .ok (.iconst 4, 1) := by decide +kernel
theorem d_Po_timesCircle_18 : decode b_Po_timesCircle 18 = .ok (.iadd, 1) := by decide +kernel
theorem d_Po_timesCircle_19 : decode b_Po_timesCircle 19 = .ok (.bipush 80, 2) := by decide +kernel
theorem d_Po_timesCircle_21 : decode b_Po_timesCircle 21 = .ok (.if_icmp .gt 49, 3) := by decide +kernel
theorem d_Po_timesCircle_24 : decode b_Po_timesCircle 24 = .ok (.aload_n 0, 1) := by decide +kernel
theorem d_Po_timesCircle_25 : decode b_Po_timesCircle 25 = .ok (.getfield 9, 3) := by decide +kernel
theorem d_Po_timesCircle_28 : decode b_Po_timesCircle 28 = .ok (.iload 4, 2) := by decide +kernel
theorem d_Po_timesCircle_30 : decode b_Po_timesCircle 30 = .ok (.bipush 80, 2) := by decide +kernel
theorem d_Po_timesCircle_32 : decode b_Po_timesCircle 32 = .ok (.iadd, 1) := by decide +kernel
theorem d_Po_timesCircle_33 : decode b_Po_timesCircle 33 = .ok (.laload, 1) := by decide +kernel
theorem d_Po_timesCircle_34 : decode b_Po_timesCircle 34 = .ok (.lstore 5, 2) := by decide +kernel
theorem d_Po_timesCircle_36 : decode b_Po_timesCircle 36 = .ok (.aload_n 0, 1) := by decide +kernel
theorem d_Po_timesCircle_37 : decode b_Po_timesCircle 37 = .ok (.getfield 9, 3) := by decide +kernel
theorem d_Po_timesCircle_40 : decode b_Po_timesCircle 40 = .ok (.iload 4, 2) := by decide +kernel
theorem d_Po_timesCircle_42 : decode b_Po_timesCircle 42 = .ok (.bipush 80, 2) := by decide +kernel
theorem d_Po_timesCircle_44 : decode b_Po_timesCircle 44 = .ok (.iadd, 1) := by decide +kernel
theorem d_Po_timesCircle_45 : decode b_Po_timesCircle 45 = .ok (.lload_n 2, 1) := by decide +kernel
theorem d_Po_timesCircle_46 : decode b_Po_timesCircle 46 = .ok (.lneg, 1) := by decide +kernel
theorem d_Po_timesCircle_47 : decode b_Po_timesCircle 47 = .ok (.aload_n 0, 1) := by decide +kernel
theorem d_Po_timesCircle_48 : decode b_Po_timesCircle 48 = .ok (.getfield 9, 3) := by decide +kernel
theorem d_Po_timesCircle_51 : decode b_Po_timesCircle 51 = .ok (.iload 4, 2) := by decide +kernel
theorem d_Po_timesCircle_53 : decode b_Po_timesCircle 53 = .ok (.iconst 2, 1) := by decide +kernel
theorem d_Po_timesCircle_54 : decode b_Po_timesCircle 54 = .ok (.iadd, 1) := by decide +kernel
theorem d_Po_timesCircle_55 : decode b_Po_timesCircle 55 = .ok (.bipush 80, 2) := by decide +kernel
theorem d_Po_timesCircle_57 : decode b_Po_timesCircle 57 = .ok (.iadd, 1) := by decide +kernel
theorem d_Po_timesCircle_58 : decode b_Po_timesCircle 58 = .ok (.laload, 1) := by decide +kernel
theorem d_Po_timesCircle_59 : decode b_Po_timesCircle 59 = .ok (.lsub, 1) := by decide +kernel
theorem d_Po_timesCircle_60 : decode b_Po_timesCircle 60 = .ok (.lastore, 1) := by decide +kernel
theorem d_Po_timesCircle_61 : decode b_Po_timesCircle 61 = .ok (.lload 5, 2) := by decide +kernel
theorem d_Po_timesCircle_63 : decode b_Po_timesCircle 63 = .ok (.lstore_n 2, 1) := by decide +kernel
theorem d_Po_timesCircle_64 : decode b_Po_timesCircle 64 = .ok (.iinc 4 2, 3) := by decide +kernel
theorem d_Po_timesCircle_67 : decode b_Po_timesCircle 67 = .ok (.goto (-59), 3) := by decide +kernel
theorem d_Po_timesCircle_0 : decode b_Po_timesCircle 0 = .ok (.lconst 0, 1) := by decide +kernel
theorem d_Po_timesCircle_1 : decode b_Po_timesCircle 1 = .ok (.lstore_n 2, 1) := by decide +kernel
theorem d_Po_timesCircle_2 : decode b_Po_timesCircle 2 = .ok (.iload_n 1, 1) := by decide +kernel
theorem d_Po_timesCircle_3 : decode b_Po_timesCircle 3 = .ok (.ineg, 1) := by decide +kernel
theorem d_Po_timesCircle_4 : decode b_Po_timesCircle 4 = .ok (.iconst 2, 1) := by decide +kernel
theorem d_Po_timesCircle_5 : decode b_Po_timesCircle 5 = .ok (.isub, 1) := by decide +kernel
theorem d_Po_timesCircle_6 : decode b_Po_timesCircle 6 = .ok (.istore 4, 2) := by decide +kernel
theorem d_Po_timesFrame_0 : decode b_Po_timesFrame 0 = .ok (.aload_n 0, 1) := by decide +kernel
theorem d_Po_timesFrame_1 : decode b_Po_timesFrame 1 = .ok (.dup, 1) := by decide +kernel
theorem d_Po_timesFrame_2 : decode b_Po_timesFrame 2 = .ok (.getfield 23, 3) := by decide +kernel
theorem d_Po_timesFrame_5 : decode b_Po_timesFrame 5 = .ok (.iconst 3, 1) := by decide +kernel
theorem d_Po_timesFrame_6 : decode b_Po_timesFrame 6 = .ok (.iload_n 1, 1) := by decide +kernel
theorem d_Po_timesFrame_7 : decode b_Po_timesFrame 7 = .ok (.imul, 1) := by decide +kernel
theorem d_Po_timesFrame_8 : decode b_Po_timesFrame 8 = .ok (.iadd, 1) := by decide +kernel
theorem d_Po_timesFrame_9 : decode b_Po_timesFrame 9 = .ok (.putfield 23, 3) := by decide +kernel
theorem d_Po_timesFrame_12 : decode b_Po_timesFrame 12 = .ok (.iload_n 1, 1) := by decide +kernel
theorem d_Po_timesFrame_13 : decode b_Po_timesFrame 13 = .ok (.iconst 1, 1) := by decide +kernel
theorem d_Po_timesFrame_14 : decode b_Po_timesFrame 14 = .ok (.iand, 1) := by decide +kernel
theorem d_Po_timesFrame_15 : decode b_Po_timesFrame 15 = .ok (.iconst 1, 1) := by decide +kernel
theorem d_Po_timesFrame_16 : decode b_Po_timesFrame 16 = .ok (.if_icmp .ne 12, 3) := by decide +kernel
theorem d_Po_timesFrame_28 : decode b_Po_timesFrame 28 = .ok (.return_, 1) := by decide +kernel
theorem d_Po_timesFrame_19 : decode b_Po_timesFrame 19 = .ok (.aload_n 0, 1) := by decide +kernel
theorem d_Po_timesFrame_20 : decode b_Po_timesFrame 20 = .ok (.aload_n 0, 1) := by decide +kernel
theorem d_Po_timesFrame_21 : decode b_Po_timesFrame 21 = .ok (.getfield 13, 3) := by decide +kernel
theorem d_Po_timesFrame_24 : decode b_Po_timesFrame 24 = .ok (.ineg, 1) := by decide +kernel
theorem d_Po_timesFrame_25 : decode b_Po_timesFrame 25 = .ok (.putfield 13, 3) := by decide +kernel
theorem d_Po_lowest_0 : decode b_Po_lowest 0 = .ok (.aload_n 0, 1) := by decide +kernel
theorem d_Po_lowest_1 : decode b_Po_lowest 1 = .ok (.getfield 23, 3) := by decide +kernel
theorem d_Po_lowest_4 : decode b_Po_lowest 4 = .ok (.bipush 80, 2) := by decide +kernel
theorem d_Po_lowest_6 : decode b_Po_lowest 6 = .ok (.isub, 1) := by decide +kernel
theorem d_Po_lowest_7 : decode b_Po_lowest 7 = .ok (.ireturn, 1) := by decide +kernel
theorem d_Po_highest_0 : decode b_Po_highest 0 = .ok (.aload_n 0, 1) := by decide +kernel
theorem d_Po_highest_1 : decode b_Po_highest 1 = .ok (.getfield 23, 3) := by decide +kernel
theorem d_Po_highest_4 : decode b_Po_highest 4 = .ok (.bipush 80, 2) := by decide +kernel
theorem d_Po_highest_6 : decode b_Po_highest 6 = .ok (.iadd, 1) := by decide +kernel
theorem d_Po_highest_7 : decode b_Po_highest 7 = .ok (.ireturn, 1) := by decide +kernel
theorem d_Po_coefficient_0 : decode b_Po_coefficient 0 = .ok (.iload_n 1, 1) := by decide +kernel
theorem d_Po_coefficient_1 : decode b_Po_coefficient 1 = .ok (.aload_n 0, 1) := by decide +kernel
theorem d_Po_coefficient_2 : decode b_Po_coefficient 2 = .ok (.invokevirtual 32, 3) := by decide +kernel
theorem d_Po_coefficient_5 : decode b_Po_coefficient 5 = .ok (.if_icmp .lt 11, 3) := by decide +kernel
theorem d_Po_coefficient_16 : decode b_Po_coefficient 16 = .ok (.lconst 0, 1) := by decide +kernel
theorem d_Po_coefficient_17 : decode b_Po_coefficient 17 = .ok (.lreturn, 1) := by decide +kernel
theorem d_Po_coefficient_8 : decode b_Po_coefficient 8 = .ok (.iload_n 1, 1) := by decide +kernel
theorem d_Po_coefficient_9 : decode b_Po_coefficient 9 = .ok (.aload_n 0, 1) := by decide +kernel
theorem d_Po_coefficient_10 : decode b_Po_coefficient 10 = .ok (.invokevirtual 36, 3) := by decide +kernel
theorem d_Po_coefficient_13 : decode b_Po_coefficient 13 = .ok (.if_icmp .le 5, 3) := by decide +kernel
theorem d_Po_coefficient_18 : decode b_Po_coefficient 18 = .ok (.aload_n 0, 1) := by decide +kernel
theorem d_Po_coefficient_19 : decode b_Po_coefficient 19 = .ok (.getfield 13, 3) := by decide +kernel
theorem d_Po_coefficient_22 : decode b_Po_coefficient 22 = .ok (.i2l, 1) := by decide +kernel
theorem d_Po_coefficient_23 : decode b_Po_coefficient 23 = .ok (.aload_n 0, 1) := by decide +kernel
theorem d_Po_coefficient_24 : decode b_Po_coefficient 24 = .ok (.getfield 9, 3) := by decide +kernel
theorem d_Po_coefficient_27 : decode b_Po_coefficient 27 = .ok (.iload_n 1, 1) := by decide +kernel
theorem d_Po_coefficient_28 : decode b_Po_coefficient 28 = .ok (.aload_n 0, 1) := by decide +kernel
theorem d_Po_coefficient_29 : decode b_Po_coefficient 29 = .ok (.getfield 23, 3) := by decide +kernel
theorem d_Po_coefficient_32 : decode b_Po_coefficient 32 = .ok (.isub, 1) := by decide +kernel
theorem d_Po_coefficient_33 : decode b_Po_coefficient 33 = .ok (.bipush 80, 2) := by decide +kernel
theorem d_Po_coefficient_35 : decode b_Po_coefficient 35 = .ok (.iadd, 1) := by decide +kernel
theorem d_Po_coefficient_36 : decode b_Po_coefficient 36 = .ok (.laload, 1) := by decide +kernel
theorem d_Po_coefficient_37 : decode b_Po_coefficient 37 = .ok (.lmul, 1) := by decide +kernel
theorem d_Po_coefficient_38 : decode b_Po_coefficient 38 = .ok (.lreturn, 1) := by decide +kernel
theorem d_Po_countTerms_30 : decode b_Po_countTerms 30 = .ok (.iadd, 1) := by decide +kernel
theorem d_Po_countTerms_31 : decode b_Po_countTerms 31 = .ok (.istore_n 1, 1) := by decide +kernel
theorem d_Po_countTerms_32 : decode b_Po_countTerms 32 = .ok (.iinc 2 1, 3) := by decide +kernel
theorem d_Po_countTerms_35 : decode b_Po_countTerms 35 = .ok (.goto (-31), 3) := by decide +kernel
theorem d_Po_countTerms_4 : decode b_Po_countTerms 4 = .ok (.iload_n 2, 1) := by decide +kernel
theorem d_Po_countTerms_5 : decode b_Po_countTerms 5 = .ok (.aload_n 0, 1) := by decide +kernel
theorem d_Po_countTerms_6 : decode b_Po_countTerms 6 = .ok (.getfield 9, 3) := by decide +kernel
theorem d_Po_countTerms_9 : decode b_Po_countTerms 9 = .ok (.arraylength, 1) := by decide +kernel
theorem d_Po_countTerms_10 : decode b_Po_countTerms 10 = .ok (.if_icmp .ge 28, 3) := by decide +kernel
theorem d_Po_countTerms_38 : decode b_Po_countTerms 38 = .ok (.iload_n 1, 1) := by decide +kernel
theorem d_Po_countTerms_39 : decode b_Po_countTerms 39 = .ok (.ireturn, 1) := by decide +kernel
theorem d_Po_countTerms_13 : decode b_Po_countTerms 13 = .ok (.iload_n 1, 1) := by decide +kernel
theorem d_Po_countTerms_14 : decode b_Po_countTerms 14 = .ok (.aload_n 0, 1) := by decide +kernel
theorem d_Po_countTerms_15 : decode b_Po_countTerms 15 = .ok (.getfield 9, 3) := by decide +kernel
theorem d_Po_countTerms_18 : decode b_Po_countTerms 18 = .ok (.iload_n 2, 1) := by decide +kernel
theorem d_Po_countTerms_19 : decode b_Po_countTerms 19 = .ok (.laload, 1) := by decide +kernel
theorem d_Po_countTerms_20 : decode b_Po_countTerms 20 = .ok (.lconst 0, 1) := by decide +kernel
theorem d_Po_countTerms_21 : decode b_Po_countTerms 21 = .ok (.lcmp, 1) := by decide +kernel
theorem d_Po_countTerms_22 : decode b_Po_countTerms 22 = .ok (.ifCond .eq 7, 3) := by decide +kernel
theorem d_Po_countTerms_29 : decode b_Po_countTerms 29 = .ok (.iconst 0, 1) := by decide +kernel
theorem d_Po_countTerms_25 : decode b_Po_countTerms 25 = .ok (.iconst 1, 1) := by decide +kernel
theorem d_Po_countTerms_26 : decode b_Po_countTerms 26 = .ok (.goto 4, 3) := by decide +kernel
theorem d_Po_countTerms_0 : decode b_Po_countTerms 0 = .ok (.iconst 0, 1) := by decide +kernel
theorem d_Po_countTerms_1 : decode b_Po_countTerms 1 = .ok (.istore_n 1, 1) := by decide +kernel
theorem d_Po_countTerms_2 : decode b_Po_countTerms 2 = .ok (.iconst 0, 1) := by decide +kernel
theorem d_Po_countTerms_3 : decode b_Po_countTerms 3 = .ok (.istore_n 2, 1) := by decide +kernel
theorem d_Mo_slideEdge_0 : decode b_Mo_slideEdge 0 = .ok (.aload_n 1, 1) := by decide +kernel
