theorem d_Md_cross_102 : decode b_Md_cross 102 = .ok (.iconst 1, 1) := by decide +kernel
theorem d_Md_cross_103 : decode b_Md_cross 103 = .ok (.goto 4, 3) := by decide +kernel
theorem d_Md_cross_106 : decode b_Md_cross 106 = .ok (.iconst 3, 1) := by decide +kernel
theorem d_Md_cross_107 : decode b_Md_cross 107 = .ok (.iadd, 1) := by decide +kernel
theorem d_Md_cross_108 : decode b_Md_cross 108 = .ok (.iload 5, 2) := by decide +kernel
theorem d_Md_cross_110 : decode b_Md_cross 110 = .ok (.iastore, 1) := by decide +kernel
theorem d_Md_cross_111 : decode b_Md_cross 111 = .ok (.return_, 1) := by decide +kernel
theorem d_Md_crossAbove_0 : decode b_Md_crossAbove 0 = .ok (.aload_n 0, 1) := by decide +kernel
theorem d_Md_crossAbove_1 : decode b_Md_crossAbove 1 = .ok (.getfield 403, 3) := by decide +kernel
theorem d_Md_crossAbove_4 : decode b_Md_crossAbove 4 = .ok (.bipush 9, 2) := by decide +kernel
theorem d_Md_crossAbove_6 : decode b_Md_crossAbove 6 = .ok (.iload_n 1, 1) := by decide +kernel
theorem d_Md_crossAbove_7 : decode b_Md_crossAbove 7 = .ok (.imul, 1) := by decide +kernel
theorem d_Md_crossAbove_8 : decode b_Md_crossAbove 8 = .ok (.iload_n 2, 1) := by decide +kernel
theorem d_Md_crossAbove_9 : decode b_Md_crossAbove 9 = .ok (.iadd, 1) := by decide +kernel
theorem d_Md_crossAbove_10 : decode b_Md_crossAbove 10 = .ok (.iaload, 1) := by decide +kernel
theorem d_Md_crossAbove_11 : decode b_Md_crossAbove 11 = .ok (.aload_n 0, 1) := by decide +kernel
theorem d_Md_crossAbove_12 : decode b_Md_crossAbove 12 = .ok (.getfield 403, 3) := by decide +kernel
theorem d_Md_crossAbove_15 : decode b_Md_crossAbove 15 = .ok (.bipush 9, 2) := by decide +kernel
theorem d_Md_crossAbove_17 : decode b_Md_crossAbove 17 = .ok (.iload_n 1, 1) := by decide +kernel
theorem d_Md_crossAbove_18 : decode b_Md_crossAbove 18 = .ok (.imul, 1) := by decide +kernel
theorem d_Md_crossAbove_19 : decode b_Md_crossAbove 19 = .ok (.iload_n 2, 1) := by decide +kernel
theorem d_Md_crossAbove_20 : decode b_Md_crossAbove 20 = .ok (.iadd, 1) := by decide +kernel
theorem d_Md_crossAbove_21 : decode b_Md_crossAbove 21 = .ok (.iconst 1, 1) := by decide +kernel
theorem d_Md_crossAbove_22 : decode b_Md_crossAbove 22 = .ok (.iadd, 1) := by decide +kernel
theorem d_Md_crossAbove_23 : decode b_Md_crossAbove 23 = .ok (.iaload, 1) := by decide +kernel
theorem d_Md_crossAbove_24 : decode b_Md_crossAbove 24 = .ok (.if_icmp .le 7, 3) := by decide +kernel
theorem d_Md_crossAbove_27 : decode b_Md_crossAbove 27 = .ok (.iconst 1, 1) := by decide +kernel
theorem d_Md_crossAbove_28 : decode b_Md_crossAbove 28 = .ok (.goto 4, 3) := by decide +kernel
theorem d_Md_crossAbove_31 : decode b_Md_crossAbove 31 = .ok (.iconst 0, 1) := by decide +kernel
theorem d_Md_crossAbove_32 : decode b_Md_crossAbove 32 = .ok (.ireturn, 1) := by decide +kernel
theorem d_Md_crossBelow_0 : decode b_Md_crossBelow 0 = .ok (.iconst 0, 1) := by decide +kernel
theorem d_Md_crossBelow_1 : decode b_Md_crossBelow 1 = .ok (.istore_n 3, 1) := by decide +kernel
theorem d_Md_crossBelow_2 : decode b_Md_crossBelow 2 = .ok (.iconst 0, 1) := by decide +kernel
theorem d_Md_crossBelow_3 : decode b_Md_crossBelow 3 = .ok (.istore 4, 2) := by decide +kernel
theorem d_Md_crossBelow_5 : decode b_Md_crossBelow 5 = .ok (.iconst 1, 1) := by decide +kernel
theorem d_Md_crossBelow_6 : decode b_Md_crossBelow 6 = .ok (.istore 5, 2) := by decide +kernel
theorem d_Md_crossBelow_8 : decode b_Md_crossBelow 8 = .ok (.iload 5, 2) := by decide +kernel
theorem d_Md_crossBelow_10 : decode b_Md_crossBelow 10 = .ok (.aload_n 0, 1) := by decide +kernel
theorem d_Md_crossBelow_11 : decode b_Md_crossBelow 11 = .ok (.getfield 395, 3) := by decide +kernel
theorem d_Md_crossBelow_14 : decode b_Md_crossBelow 14 = .ok (.if_icmp .gt 59, 3) := by decide +kernel
theorem d_Md_crossBelow_17 : decode b_Md_crossBelow 17 = .ok (.aload_n 0, 1) := by decide +kernel
theorem d_Md_crossBelow_18 : decode b_Md_crossBelow 18 = .ok (.getfield 403, 3) := by decide +kernel
theorem d_Md_crossBelow_21 : decode b_Md_crossBelow 21 = .ok (.bipush 9, 2) := by decide +kernel
theorem d_Md_crossBelow_23 : decode b_Md_crossBelow 23 = .ok (.iload_n 1, 1) := by decide +kernel
theorem d_Md_crossBelow_24 : decode b_Md_crossBelow 24 = .ok (.imul, 1) := by decide +kernel
theorem d_Md_crossBelow_25 : decode b_Md_crossBelow 25 = .ok (.iload 5, 2) := by decide +kernel
theorem d_Md_crossBelow_27 : decode b_Md_crossBelow 27 = .ok (.iadd, 1) := by decide +kernel
theorem d_Md_crossBelow_28 : decode b_Md_crossBelow 28 = .ok (.iaload, 1) := by decide +kernel
theorem d_Md_crossBelow_29 : decode b_Md_crossBelow 29 = .ok (.iload_n 2, 1) := by decide +kernel
theorem d_Md_crossBelow_30 : decode b_Md_crossBelow 30 = .ok (.if_icmp .ne 8, 3) := by decide +kernel
theorem d_Md_crossBelow_33 : decode b_Md_crossBelow 33 = .ok (.iload 5, 2) := by decide +kernel
theorem d_Md_crossBelow_35 : decode b_Md_crossBelow 35 = .ok (.goto 4, 3) := by decide +kernel
theorem d_Md_crossBelow_38 : decode b_Md_crossBelow 38 = .ok (.iload_n 3, 1) := by decide +kernel
theorem d_Md_crossBelow_39 : decode b_Md_crossBelow 39 = .ok (.istore_n 3, 1) := by decide +kernel
theorem d_Md_crossBelow_40 : decode b_Md_crossBelow 40 = .ok (.aload_n 0, 1) := by decide +kernel
theorem d_Md_crossBelow_41 : decode b_Md_crossBelow 41 = .ok (.getfield 403, 3) := by decide +kernel
theorem d_Md_crossBelow_44 : decode b_Md_crossBelow 44 = .ok (.bipush 9, 2) := by decide +kernel
theorem d_Md_crossBelow_46 : decode b_Md_crossBelow 46 = .ok (.iload_n 1, 1) := by decide +kernel
theorem d_Md_crossBelow_47 : decode b_Md_crossBelow 47 = .ok (.imul, 1) := by decide +kernel
theorem d_Md_crossBelow_48 : decode b_Md_crossBelow 48 = .ok (.iload 5, 2) := by decide +kernel
theorem d_Md_crossBelow_50 : decode b_Md_crossBelow 50 = .ok (.iadd, 1) := by decide +kernel
theorem d_Md_crossBelow_51 : decode b_Md_crossBelow 51 = .ok (.iaload, 1) := by decide +kernel
theorem d_Md_crossBelow_52 : decode b_Md_crossBelow 52 = .ok (.iload_n 2, 1) := by decide +kernel
theorem d_Md_crossBelow_53 : decode b_Md_crossBelow 53 = .ok (.iconst 1, 1) := by decide +kernel
theorem d_Md_crossBelow_54 : decode b_Md_crossBelow 54 = .ok (.iadd, 1) := by decide +kernel
theorem d_Md_crossBelow_55 : decode b_Md_crossBelow 55 = .ok (.if_icmp .ne 8, 3) := by decide +kernel
theorem d_Md_crossBelow_58 : decode b_Md_crossBelow 58 = .ok (.iload 5, 2) := by decide +kernel
theorem d_Md_crossBelow_60 : decode b_Md_crossBelow 60 = .ok (.goto 5, 3) := by decide +kernel
theorem d_Md_crossBelow_63 : decode b_Md_crossBelow 63 = .ok (.iload 4, 2) := by decide +kernel
theorem d_Md_crossBelow_65 : decode b_Md_crossBelow 65 = .ok (.istore 4, 2) := by decide +kernel
theorem d_Md_crossBelow_67 : decode b_Md_crossBelow 67 = .ok (.iinc 5 1, 3) := by decide +kernel
theorem d_Md_crossBelow_70 : decode b_Md_crossBelow 70 = .ok (.goto (-62), 3) := by decide +kernel
theorem d_Md_crossBelow_73 : decode b_Md_crossBelow 73 = .ok (.iload_n 3, 1) := by decide +kernel
theorem d_Md_crossBelow_74 : decode b_Md_crossBelow 74 = .ok (.iload 4, 2) := by decide +kernel
theorem d_Md_crossBelow_76 : decode b_Md_crossBelow 76 = .ok (.if_icmp .le 7, 3) := by decide +kernel
theorem d_Md_crossBelow_79 : decode b_Md_crossBelow 79 = .ok (.iconst 1, 1) := by decide +kernel
theorem d_Md_crossBelow_80 : decode b_Md_crossBelow 80 = .ok (.goto 4, 3) := by decide +kernel
theorem d_Md_crossBelow_83 : decode b_Md_crossBelow 83 = .ok (.iconst 0, 1) := by decide +kernel
theorem d_Md_crossBelow_84 : decode b_Md_crossBelow 84 = .ok (.ireturn, 1) := by decide +kernel
theorem d_Md_crossing_0 : decode b_Md_crossing 0 = .ok (.iload_n 1, 1) := by decide +kernel
theorem d_Md_crossing_1 : decode b_Md_crossing 1 = .ok (.ifCond .lt 23, 3) := by decide +kernel
theorem d_Md_crossing_4 : decode b_Md_crossing 4 = .ok (.iload_n 1, 1) := by decide +kernel
theorem d_Md_crossing_5 : decode b_Md_crossing 5 = .ok (.aload_n 0, 1) := by decide +kernel
theorem d_Md_crossing_6 : decode b_Md_crossing 6 = .ok (.getfield 37, 3) := by decide +kernel
theorem d_Md_crossing_9 : decode b_Md_crossing 9 = .ok (.getfield 312, 3) := by decide +kernel
theorem d_Md_crossing_12 : decode b_Md_crossing 12 = .ok (.if_icmp .ge 12, 3) := by decide +kernel
theorem d_Md_crossing_15 : decode b_Md_crossing 15 = .ok (.iload_n 2, 1) := by decide +kernel
theorem d_Md_crossing_16 : decode b_Md_crossing 16 = .ok (.ifCond .lt 8, 3) := by decide +kernel
theorem d_Md_crossing_19 : decode b_Md_crossing 19 = .ok (.iload_n 2, 1) := by decide +kernel
theorem d_Md_crossing_20 : decode b_Md_crossing 20 = .ok (.iconst 4, 1) := by decide +kernel
theorem d_Md_crossing_21 : decode b_Md_crossing 21 = .ok (.if_icmp .le 5, 3) := by decide +kernel
theorem d_Md_crossing_24 : decode b_Md_crossing 24 = .ok (.iconst 0, 1) := by decide +kernel
theorem d_Md_crossing_25 : decode b_Md_crossing 25 = .ok (.ireturn, 1) := by decide +kernel
theorem d_Md_crossing_26 : decode b_Md_crossing 26 = .ok (.iload_n 2, 1) := by decide +kernel
theorem d_Md_crossing_27 : decode b_Md_crossing 27 = .ok (.iconst 4, 1) := by decide +kernel
theorem d_Md_crossing_28 : decode b_Md_crossing 28 = .ok (.if_icmp .ne 15, 3) := by decide +kernel
theorem d_Md_crossing_31 : decode b_Md_crossing 31 = .ok (.aload_n 0, 1) := by decide +kernel
theorem d_Md_crossing_32 : decode b_Md_crossing 32 = .ok (.getfield 37, 3) := by decide +kernel
theorem d_Md_crossing_35 : decode b_Md_crossing 35 = .ok (.getfield 306, 3) := by decide +kernel
theorem d_Md_crossing_38 : decode b_Md_crossing 38 = .ok (.iload_n 1, 1) := by decide +kernel
theorem d_Md_crossing_39 : decode b_Md_crossing 39 = .ok (.iaload, 1) := by decide +kernel
theorem d_Md_crossing_40 : decode b_Md_crossing 40 = .ok (.goto 16, 3) := by decide +kernel
theorem d_Md_crossing_43 : decode b_Md_crossing 43 = .ok (.aload_n 0, 1) := by decide +kernel
theorem d_Md_crossing_44 : decode b_Md_crossing 44 = .ok (.getfield 37, 3) := by decide +kernel
theorem d_Md_crossing_47 : decode b_Md_crossing 47 = .ok (.getfield 318, 3) := by decide +kernel
theorem d_Md_crossing_50 : decode b_Md_crossing 50 = .ok (.iconst 4, 1) := by decide +kernel
theorem d_Md_crossing_51 : decode b_Md_crossing 51 = .ok (.iload_n 1, 1) := by decide +kernel
theorem d_Md_crossing_52 : decode b_Md_crossing 52 = .ok (.imul, 1) := by decide +kernel
theorem d_Md_crossing_53 : decode b_Md_crossing 53 = .ok (.iload_n 2, 1) := by decide +kernel
theorem d_Md_crossing_54 : decode b_Md_crossing 54 = .ok (.iadd, 1) := by decide +kernel
theorem d_Md_crossing_55 : decode b_Md_crossing 55 = .ok (.iaload, 1) := by decide +kernel
theorem d_Md_crossing_56 : decode b_Md_crossing 56 = .ok (.ireturn, 1) := by decide +kernel
theorem d_Md_dartsOf_0 : decode b_Md_dartsOf 0 = .ok (.iconst 1, 1) := by decide +kernel
theorem d_Md_dartsOf_1 : decode b_Md_dartsOf 1 = .ok (.istore_n 2, 1) := by decide +kernel
theorem d_Md_dartsOf_2 : decode b_Md_dartsOf 2 = .ok (.aload_n 0, 1) := by decide +kernel
theorem d_Md_dartsOf_3 : decode b_Md_dartsOf 3 = .ok (.aload_n 0, 1) := by decide +kernel
theorem d_Md_dartsOf_4 : decode b_Md_dartsOf 4 = .ok (.getfield 87, 3) := by decide +kernel
theorem d_Md_dartsOf_7 : decode b_Md_dartsOf 7 = .ok (.iload_n 1, 1) := by decide +kernel
theorem d_Md_dartsOf_8 : decode b_Md_dartsOf 8 = .ok (.iaload, 1) := by decide +kernel
theorem d_Md_dartsOf_9 : decode b_Md_dartsOf 9 = .ok (.invokevirtual 333, 3) := by decide +kernel
theorem d_Md_dartsOf_12 : decode b_Md_dartsOf 12 = .ok (.istore_n 3, 1) := by decide +kernel
theorem d_Md_dartsOf_13 : decode b_Md_dartsOf 13 = .ok (.iload_n 3, 1) := by decide +kernel
theorem d_Md_dartsOf_14 : decode b_Md_dartsOf 14 = .ok (.aload_n 0, 1) := by decide +kernel
theorem d_Md_dartsOf_15 : decode b_Md_dartsOf 15 = .ok (.getfield 87, 3) := by decide +kernel
theorem d_Md_dartsOf_18 : decode b_Md_dartsOf 18 = .ok (.iload_n 1, 1) := by decide +kernel
theorem d_Md_dartsOf_19 : decode b_Md_dartsOf 19 = .ok (.iaload, 1) := by decide +kernel
theorem d_Md_dartsOf_20 : decode b_Md_dartsOf 20 = .ok (.if_icmp .eq 15, 3) := by decide +kernel
theorem d_Md_dartsOf_23 : decode b_Md_dartsOf 23 = .ok (.iinc 2 1, 3) := by decide +kernel
theorem d_Md_dartsOf_26 : decode b_Md_dartsOf 26 = .ok (.aload_n 0, 1) := by decide +kernel
theorem d_Md_dartsOf_27 : decode b_Md_dartsOf 27 = .ok (.iload_n 3, 1) := by decide +kernel
theorem d_Md_dartsOf_28 : decode b_Md_dartsOf 28 = .ok (.invokevirtual 333, 3) := by decide +kernel
theorem d_Md_dartsOf_31 : decode b_Md_dartsOf 31 = .ok (.istore_n 3, 1) := by decide +kernel
theorem d_Md_dartsOf_32 : decode b_Md_dartsOf 32 = .ok (.goto (-19), 3) := by decide +kernel
theorem d_Md_dartsOf_35 : decode b_Md_dartsOf 35 = .ok (.iload_n 2, 1) := by decide +kernel
theorem d_Md_dartsOf_36 : decode b_Md_dartsOf 36 = .ok (.ireturn, 1) := by decide +kernel
theorem d_Md_degree_0 : decode b_Md_degree 0 = .ok (.bipush 15, 2) := by decide +kernel
theorem d_Md_degree_2 : decode b_Md_degree 2 = .ok (.istore_n 1, 1) := by decide +kernel
theorem d_Md_degree_3 : decode b_Md_degree 3 = .ok (.iload_n 1, 1) := by decide +kernel
theorem d_Md_degree_4 : decode b_Md_degree 4 = .ok (.ifCond .lt 17, 3) := by decide +kernel
theorem d_Md_degree_7 : decode b_Md_degree 7 = .ok (.aload_n 0, 1) := by decide +kernel
theorem d_Md_degree_8 : decode b_Md_degree 8 = .ok (.iload_n 1, 1) := by decide +kernel
theorem d_Md_degree_9 : decode b_Md_degree 9 = .ok (.laload, 1) := by decide +kernel
theorem d_Md_degree_10 : decode b_Md_degree 10 = .ok (.lconst 0, 1) := by decide +kernel
theorem d_Md_degree_11 : decode b_Md_degree 11 = .ok (.lcmp, 1) := by decide +kernel
theorem d_Md_degree_12 : decode b_Md_degree 12 = .ok (.ifCond .ne 9, 3) := by decide +kernel
theorem d_Md_degree_15 : decode b_Md_degree 15 = .ok (.iinc 1 (-1), 3) := by decide +kernel
theorem d_Md_degree_18 : decode b_Md_degree 18 = .ok (.goto (-15), 3) := by decide +kernel
theorem d_Md_degree_21 : decode b_Md_degree 21 = .ok (.iload_n 1, 1) := by decide +kernel
theorem d_Md_degree_22 : decode b_Md_degree 22 = .ok (.ireturn, 1) := by decide +kernel
theorem d_Md_divide_0 : decode b_Md_divide 0 = .ok (.iconst 0, 1) := by decide +kernel
theorem d_Md_divide_1 : decode b_Md_divide 1 = .ok (.istore_n 3, 1) := by decide +kernel
theorem d_Md_divide_2 : decode b_Md_divide 2 = .ok (.iload_n 3, 1) := by decide +kernel
theorem d_Md_divide_3 : decode b_Md_divide 3 = .ok (.bipush 16, 2) := by decide +kernel
theorem d_Md_divide_5 : decode b_Md_divide 5 = .ok (.if_icmp .ge 17, 3) := by decide +kernel
theorem d_Md_divide_8 : decode b_Md_divide 8 = .ok (.aload_n 0, 1) := by decide +kernel
theorem d_Md_divide_9 : decode b_Md_divide 9 = .ok (.iload_n 3, 1) := by decide +kernel
theorem d_Md_divide_10 : decode b_Md_divide 10 = .ok (.aload_n 0, 1) := by decide +kernel
theorem d_Md_divide_11 : decode b_Md_divide 11 = .ok (.iload_n 3, 1) := by decide +kernel
theorem d_Md_divide_12 : decode b_Md_divide 12 = .ok (.laload, 1) := by decide +kernel
theorem d_Md_divide_13 : decode b_Md_divide 13 = .ok (.lload_n 1, 1) := by decide +kernel
theorem d_Md_divide_14 : decode b_Md_divide 14 = .ok (.ldiv, 1) := by decide +kernel
theorem d_Md_divide_15 : decode b_Md_divide 15 = .ok (.lastore, 1) := by decide +kernel
theorem d_Md_divide_16 : decode b_Md_divide 16 = .ok (.iinc 3 1, 3) := by decide +kernel
theorem d_Md_divide_19 : decode b_Md_divide 19 = .ok (.goto (-17), 3) := by decide +kernel
theorem d_Md_divide_22 : decode b_Md_divide 22 = .ok (.return_, 1) := by decide +kernel
theorem d_Md_doNext_0 : decode b_Md_doNext 0 = .ok (.aload_n 0, 1) := by decide +kernel
theorem d_Md_doNext_1 : decode b_Md_doNext 1 = .ok (.getfield 23, 3) := by decide +kernel
theorem d_Md_doNext_4 : decode b_Md_doNext 4 = .ok (.aload_n 0, 1) := by decide +kernel
theorem d_Md_doNext_5 : decode b_Md_doNext 5 = .ok (.getfield 290, 3) := by decide +kernel
theorem d_Md_doNext_8 : decode b_Md_doNext 8 = .ok (.iaload, 1) := by decide +kernel
theorem d_Md_doNext_9 : decode b_Md_doNext 9 = .ok (.istore_n 1, 1) := by decide +kernel
theorem d_Md_doNext_10 : decode b_Md_doNext 10 = .ok (.aload_n 0, 1) := by decide +kernel
theorem d_Md_doNext_11 : decode b_Md_doNext 11 = .ok (.getfield 665, 3) := by decide +kernel
theorem d_Md_doNext_14 : decode b_Md_doNext 14 = .ok (.sipush 2000, 3) := by decide +kernel
theorem d_Md_doNext_17 : decode b_Md_doNext 17 = .ok (.if_icmp .eq 19, 3) := by decide +kernel
theorem d_Md_doNext_20 : decode b_Md_doNext 20 = .ok (.iload_n 1, 1) := by decide +kernel
theorem d_Md_doNext_21 : decode b_Md_doNext 21 = .ok (.bipush 15, 2) := by decide +kernel
theorem d_Md_doNext_23 : decode b_Md_doNext 23 = .ok (.if_icmp .le 15, 3) := by decide +kernel
theorem d_Md_doNext_26 : decode b_Md_doNext 26 = .ok (.aload_n 0, 1) := by decide +kernel
theorem d_Md_doNext_27 : decode b_Md_doNext 27 = .ok (.getfield 668, 3) := by decide +kernel
theorem d_Md_doNext_30 : decode b_Md_doNext 30 = .ok (.sipush 200, 3) := by decide +kernel
theorem d_Md_doNext_33 : decode b_Md_doNext 33 = .ok (.if_icmp .ne 5, 3) := by decide +kernel
theorem d_Md_doNext_36 : decode b_Md_doNext 36 = .ok (.iconst 0, 1) := by decide +kernel
theorem d_Md_doNext_37 : decode b_Md_doNext 37 = .ok (.ireturn, 1) := by decide +kernel
theorem d_Md_doNext_38 : decode b_Md_doNext 38 = .ok (.aload_n 0, 1) := by decide +kernel
theorem d_Md_doNext_39 : decode b_Md_doNext 39 = .ok (.getfield 44, 3) := by decide +kernel
theorem d_Md_doNext_42 : decode b_Md_doNext 42 = .ok (.aload_n 0, 1) := by decide +kernel
theorem d_Md_doNext_43 : decode b_Md_doNext 43 = .ok (.getfield 37, 3) := by decide +kernel
theorem d_Md_doNext_46 : decode b_Md_doNext 46 = .ok (.invokevirtual 366, 3) := by decide +kernel
theorem d_Md_doNext_49 : decode b_Md_doNext 49 = .ok (.aload_n 0, 1) := by decide +kernel
theorem d_Md_doNext_50 : decode b_Md_doNext 50 = .ok (.getfield 57, 3) := by decide +kernel
theorem d_Md_doNext_53 : decode b_Md_doNext 53 = .ok (.aload_n 0, 1) := by decide +kernel
theorem d_Md_doNext_54 : decode b_Md_doNext 54 = .ok (.getfield 50, 3) := by decide +kernel
theorem d_Md_doNext_57 : decode b_Md_doNext 57 = .ok (.invokevirtual 570, 3) := by decide +kernel
theorem d_Md_doNext_60 : decode b_Md_doNext 60 = .ok (.aload_n 0, 1) := by decide +kernel
theorem d_Md_doNext_61 : decode b_Md_doNext 61 = .ok (.getfield 60, 3) := by decide +kernel
theorem d_Md_doNext_64 : decode b_Md_doNext 64 = .ok (.aload_n 0, 1) := by decide +kernel
theorem d_Md_doNext_65 : decode b_Md_doNext 65 = .ok (.getfield 54, 3) := by decide +kernel
theorem d_Md_doNext_68 : decode b_Md_doNext 68 = .ok (.invokevirtual 570, 3) := by decide +kernel
theorem d_Md_doNext_71 : decode b_Md_doNext 71 = .ok (.aload_n 0, 1) := by decide +kernel
