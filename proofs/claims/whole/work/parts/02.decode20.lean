theorem d_Po_isSumAt_62 : decode b_Po_isSumAt 62 = .ok (.iinc 9 1, 3) := by decide +kernel
theorem d_Po_isSumAt_65 : decode b_Po_isSumAt 65 = .ok (.goto (-56), 3) := by decide +kernel
theorem d_Po_isSumAt_68 : decode b_Po_isSumAt 68 = .ok (.aload_n 0, 1) := by decide +kernel
theorem d_Po_isSumAt_69 : decode b_Po_isSumAt 69 = .ok (.iload 4, 2) := by decide +kernel
theorem d_Po_isSumAt_71 : decode b_Po_isSumAt 71 = .ok (.invokevirtual 55, 3) := by decide +kernel
theorem d_Po_isSumAt_74 : decode b_Po_isSumAt 74 = .ok (.lload 7, 2) := by decide +kernel
theorem d_Po_isSumAt_76 : decode b_Po_isSumAt 76 = .ok (.lsub, 1) := by decide +kernel
theorem d_Po_isSumAt_77 : decode b_Po_isSumAt 77 = .ok (.lstore 9, 2) := by decide +kernel
theorem d_Po_isSumAt_79 : decode b_Po_isSumAt 79 = .ok (.lload 9, 2) := by decide +kernel
theorem d_Po_isSumAt_81 : decode b_Po_isSumAt 81 = .ok (.ldc2_w 65, 3) := by decide +kernel
theorem d_Po_isSumAt_84 : decode b_Po_isSumAt 84 = .ok (.lrem, 1) := by decide +kernel
theorem d_Po_isSumAt_85 : decode b_Po_isSumAt 85 = .ok (.lconst 0, 1) := by decide +kernel
theorem d_Po_isSumAt_86 : decode b_Po_isSumAt 86 = .ok (.lcmp, 1) := by decide +kernel
theorem d_Po_isSumAt_87 : decode b_Po_isSumAt 87 = .ok (.ifCond .ne 19, 3) := by decide +kernel
theorem d_Po_isSumAt_90 : decode b_Po_isSumAt 90 = .ok (.lload 9, 2) := by decide +kernel
theorem d_Po_isSumAt_92 : decode b_Po_isSumAt 92 = .ok (.ldc2_w 65, 3) := by decide +kernel
theorem d_Po_isSumAt_95 : decode b_Po_isSumAt 95 = .ok (.ldiv, 1) := by decide +kernel
theorem d_Po_isSumAt_96 : decode b_Po_isSumAt 96 = .ok (.lload 5, 2) := by decide +kernel
theorem d_Po_isSumAt_98 : decode b_Po_isSumAt 98 = .ok (.lcmp, 1) := by decide +kernel
theorem d_Po_isSumAt_99 : decode b_Po_isSumAt 99 = .ok (.ifCond .ne 7, 3) := by decide +kernel
theorem d_Po_isSumAt_102 : decode b_Po_isSumAt 102 = .ok (.iconst 1, 1) := by decide +kernel
theorem d_Po_isSumAt_103 : decode b_Po_isSumAt 103 = .ok (.goto 4, 3) := by decide +kernel
theorem d_Po_isSumAt_106 : decode b_Po_isSumAt 106 = .ok (.iconst 0, 1) := by decide +kernel
theorem d_Po_isSumAt_107 : decode b_Po_isSumAt 107 = .ok (.ireturn, 1) := by decide +kernel
theorem d_Po_isSumOf_0 : decode b_Po_isSumOf 0 = .ok (.aload_n 1, 1) := by decide +kernel
theorem d_Po_isSumOf_1 : decode b_Po_isSumOf 1 = .ok (.invokevirtual 39, 3) := by decide +kernel
theorem d_Po_isSumOf_4 : decode b_Po_isSumOf 4 = .ok (.iconst 2, 1) := by decide +kernel
theorem d_Po_isSumOf_5 : decode b_Po_isSumOf 5 = .ok (.idiv, 1) := by decide +kernel
theorem d_Po_isSumOf_6 : decode b_Po_isSumOf 6 = .ok (.istore_n 2, 1) := by decide +kernel
theorem d_Po_isSumOf_7 : decode b_Po_isSumOf 7 = .ok (.iconst 0, 1) := by decide +kernel
theorem d_Po_isSumOf_8 : decode b_Po_isSumOf 8 = .ok (.istore_n 3, 1) := by decide +kernel
theorem d_Po_isSumOf_9 : decode b_Po_isSumOf 9 = .ok (.iconst 0, 1) := by decide +kernel
theorem d_Po_isSumOf_10 : decode b_Po_isSumOf 10 = .ok (.istore 4, 2) := by decide +kernel
theorem d_Po_isSumOf_12 : decode b_Po_isSumOf 12 = .ok (.iload 4, 2) := by decide +kernel
theorem d_Po_isSumOf_14 : decode b_Po_isSumOf 14 = .ok (.iload_n 2, 1) := by decide +kernel
theorem d_Po_isSumOf_15 : decode b_Po_isSumOf 15 = .ok (.if_icmp .ge 66, 3) := by decide +kernel
theorem d_Po_isSumOf_18 : decode b_Po_isSumOf 18 = .ok (.aload_n 1, 1) := by decide +kernel
theorem d_Po_isSumOf_19 : decode b_Po_isSumOf 19 = .ok (.iconst 2, 1) := by decide +kernel
theorem d_Po_isSumOf_20 : decode b_Po_isSumOf 20 = .ok (.iload 4, 2) := by decide +kernel
theorem d_Po_isSumOf_22 : decode b_Po_isSumOf 22 = .ok (.imul, 1) := by decide +kernel
theorem d_Po_isSumOf_23 : decode b_Po_isSumOf 23 = .ok (.iconst 1, 1) := by decide +kernel
theorem d_Po_isSumOf_24 : decode b_Po_isSumOf 24 = .ok (.iadd, 1) := by decide +kernel
theorem d_Po_isSumOf_25 : decode b_Po_isSumOf 25 = .ok (.invokevirtual 44, 3) := by decide +kernel
theorem d_Po_isSumOf_28 : decode b_Po_isSumOf 28 = .ok (.istore 5, 2) := by decide +kernel
theorem d_Po_isSumOf_30 : decode b_Po_isSumOf 30 = .ok (.aload_n 1, 1) := by decide +kernel
theorem d_Po_isSumOf_31 : decode b_Po_isSumOf 31 = .ok (.iload 4, 2) := by decide +kernel
theorem d_Po_isSumOf_33 : decode b_Po_isSumOf 33 = .ok (.iload 5, 2) := by decide +kernel
theorem d_Po_isSumOf_35 : decode b_Po_isSumOf 35 = .ok (.invokestatic 47, 3) := by decide +kernel
theorem d_Po_isSumOf_38 : decode b_Po_isSumOf 38 = .ok (.ifCond .eq 37, 3) := by decide +kernel
theorem d_Po_isSumOf_41 : decode b_Po_isSumOf 41 = .ok (.aload_n 0, 1) := by decide +kernel
theorem d_Po_isSumOf_42 : decode b_Po_isSumOf 42 = .ok (.aload_n 1, 1) := by decide +kernel
theorem d_Po_isSumOf_43 : decode b_Po_isSumOf 43 = .ok (.iload 4, 2) := by decide +kernel
theorem d_Po_isSumOf_45 : decode b_Po_isSumOf 45 = .ok (.iload_n 2, 1) := by decide +kernel
theorem d_Po_isSumOf_46 : decode b_Po_isSumOf 46 = .ok (.iload 5, 2) := by decide +kernel
theorem d_Po_isSumOf_48 : decode b_Po_isSumOf 48 = .ok (.invokevirtual 51, 3) := by decide +kernel
theorem d_Po_isSumOf_51 : decode b_Po_isSumOf 51 = .ok (.ifCond .ne 5, 3) := by decide +kernel
theorem d_Po_isSumOf_54 : decode b_Po_isSumOf 54 = .ok (.iconst 0, 1) := by decide +kernel
theorem d_Po_isSumOf_55 : decode b_Po_isSumOf 55 = .ok (.ireturn, 1) := by decide +kernel
theorem d_Po_isSumOf_56 : decode b_Po_isSumOf 56 = .ok (.iload_n 3, 1) := by decide +kernel
theorem d_Po_isSumOf_57 : decode b_Po_isSumOf 57 = .ok (.aload_n 0, 1) := by decide +kernel
theorem d_Po_isSumOf_58 : decode b_Po_isSumOf 58 = .ok (.iload 5, 2) := by decide +kernel
theorem d_Po_isSumOf_60 : decode b_Po_isSumOf 60 = .ok (.invokevirtual 55, 3) := by decide +kernel
theorem d_Po_isSumOf_63 : decode b_Po_isSumOf 63 = .ok (.lconst 0, 1) := by decide +kernel
theorem d_Po_isSumOf_64 : decode b_Po_isSumOf 64 = .ok (.lcmp, 1) := by decide +kernel
theorem d_Po_isSumOf_65 : decode b_Po_isSumOf 65 = .ok (.ifCond .eq 7, 3) := by decide +kernel
theorem d_Po_isSumOf_68 : decode b_Po_isSumOf 68 = .ok (.iconst 1, 1) := by decide +kernel
theorem d_Po_isSumOf_69 : decode b_Po_isSumOf 69 = .ok (.goto 4, 3) := by decide +kernel
theorem d_Po_isSumOf_72 : decode b_Po_isSumOf 72 = .ok (.iconst 0, 1) := by decide +kernel
theorem d_Po_isSumOf_73 : decode b_Po_isSumOf 73 = .ok (.iadd, 1) := by decide +kernel
theorem d_Po_isSumOf_74 : decode b_Po_isSumOf 74 = .ok (.istore_n 3, 1) := by decide +kernel
theorem d_Po_isSumOf_75 : decode b_Po_isSumOf 75 = .ok (.iinc 4 1, 3) := by decide +kernel
theorem d_Po_isSumOf_78 : decode b_Po_isSumOf 78 = .ok (.goto (-66), 3) := by decide +kernel
theorem d_Po_isSumOf_81 : decode b_Po_isSumOf 81 = .ok (.iload_n 3, 1) := by decide +kernel
theorem d_Po_isSumOf_82 : decode b_Po_isSumOf 82 = .ok (.aload_n 0, 1) := by decide +kernel
theorem d_Po_isSumOf_83 : decode b_Po_isSumOf 83 = .ok (.invokevirtual 59, 3) := by decide +kernel
theorem d_Po_isSumOf_86 : decode b_Po_isSumOf 86 = .ok (.if_icmp .ne 7, 3) := by decide +kernel
theorem d_Po_isSumOf_89 : decode b_Po_isSumOf 89 = .ok (.iconst 1, 1) := by decide +kernel
theorem d_Po_isSumOf_90 : decode b_Po_isSumOf 90 = .ok (.goto 4, 3) := by decide +kernel
theorem d_Po_isSumOf_93 : decode b_Po_isSumOf 93 = .ok (.iconst 0, 1) := by decide +kernel
theorem d_Po_isSumOf_94 : decode b_Po_isSumOf 94 = .ok (.ireturn, 1) := by decide +kernel
theorem d_Po_lowest_0 : decode b_Po_lowest 0 = .ok (.aload_n 0, 1) := by decide +kernel
theorem d_Po_lowest_1 : decode b_Po_lowest 1 = .ok (.getfield 23, 3) := by decide +kernel
theorem d_Po_lowest_4 : decode b_Po_lowest 4 = .ok (.bipush 80, 2) := by decide +kernel
theorem d_Po_lowest_6 : decode b_Po_lowest 6 = .ok (.isub, 1) := by decide +kernel
theorem d_Po_lowest_7 : decode b_Po_lowest 7 = .ok (.ireturn, 1) := by decide +kernel
theorem d_Po_makeNormal_0 : decode b_Po_makeNormal 0 = .ok (.iconst 0, 1) := by decide +kernel
theorem d_Po_makeNormal_1 : decode b_Po_makeNormal 1 = .ok (.istore_n 1, 1) := by decide +kernel
theorem d_Po_makeNormal_2 : decode b_Po_makeNormal 2 = .ok (.iload_n 1, 1) := by decide +kernel
theorem d_Po_makeNormal_3 : decode b_Po_makeNormal 3 = .ok (.aload_n 0, 1) := by decide +kernel
theorem d_Po_makeNormal_4 : decode b_Po_makeNormal 4 = .ok (.getfield 9, 3) := by decide +kernel
theorem d_Po_makeNormal_7 : decode b_Po_makeNormal 7 = .ok (.arraylength, 1) := by decide +kernel
theorem d_Po_makeNormal_8 : decode b_Po_makeNormal 8 = .ok (.if_icmp .ge 49, 3) := by decide +kernel
theorem d_Po_makeNormal_11 : decode b_Po_makeNormal 11 = .ok (.aload_n 0, 1) := by decide +kernel
theorem d_Po_makeNormal_12 : decode b_Po_makeNormal 12 = .ok (.getfield 9, 3) := by decide +kernel
theorem d_Po_makeNormal_15 : decode b_Po_makeNormal 15 = .ok (.iload_n 1, 1) := by decide +kernel
theorem d_Po_makeNormal_16 : decode b_Po_makeNormal 16 = .ok (.laload, 1) := by decide +kernel
theorem d_Po_makeNormal_17 : decode b_Po_makeNormal 17 = .ok (.lconst 0, 1) := by decide +kernel
theorem d_Po_makeNormal_18 : decode b_Po_makeNormal 18 = .ok (.lcmp, 1) := by decide +kernel
theorem d_Po_makeNormal_19 : decode b_Po_makeNormal 19 = .ok (.ifCond .eq 32, 3) := by decide +kernel
theorem d_Po_makeNormal_22 : decode b_Po_makeNormal 22 = .ok (.aload_n 0, 1) := by decide +kernel
theorem d_Po_makeNormal_23 : decode b_Po_makeNormal 23 = .ok (.bipush 80, 2) := by decide +kernel
theorem d_Po_makeNormal_25 : decode b_Po_makeNormal 25 = .ok (.iload_n 1, 1) := by decide +kernel
theorem d_Po_makeNormal_26 : decode b_Po_makeNormal 26 = .ok (.isub, 1) := by decide +kernel
theorem d_Po_makeNormal_27 : decode b_Po_makeNormal 27 = .ok (.putfield 23, 3) := by decide +kernel
theorem d_Po_makeNormal_30 : decode b_Po_makeNormal 30 = .ok (.aload_n 0, 1) := by decide +kernel
theorem d_Po_makeNormal_31 : decode b_Po_makeNormal 31 = .ok (.aload_n 0, 1) := by decide +kernel
theorem d_Po_makeNormal_32 : decode b_Po_makeNormal 32 = .ok (.getfield 9, 3) := by decide +kernel
theorem d_Po_makeNormal_35 : decode b_Po_makeNormal 35 = .ok (.iload_n 1, 1) := by decide +kernel
theorem d_Po_makeNormal_36 : decode b_Po_makeNormal 36 = .ok (.laload, 1) := by decide +kernel
theorem d_Po_makeNormal_37 : decode b_Po_makeNormal 37 = .ok (.lconst 0, 1) := by decide +kernel
theorem d_Po_makeNormal_38 : decode b_Po_makeNormal 38 = .ok (.lcmp, 1) := by decide +kernel
theorem d_Po_makeNormal_39 : decode b_Po_makeNormal 39 = .ok (.ifCond .le 7, 3) := by decide +kernel
theorem d_Po_makeNormal_42 : decode b_Po_makeNormal 42 = .ok (.iconst 1, 1) := by decide +kernel
theorem d_Po_makeNormal_43 : decode b_Po_makeNormal 43 = .ok (.goto 4, 3) := by decide +kernel
theorem d_Po_makeNormal_46 : decode b_Po_makeNormal 46 = .ok (.iconst (-1), 1) := by decide +kernel
theorem d_Po_makeNormal_47 : decode b_Po_makeNormal 47 = .ok (.putfield 13, 3) := by decide +kernel
theorem d_Po_makeNormal_50 : decode b_Po_makeNormal 50 = .ok (.return_, 1) := by decide +kernel
theorem d_Po_makeNormal_51 : decode b_Po_makeNormal 51 = .ok (.iinc 1 1, 3) := by decide +kernel
theorem d_Po_makeNormal_54 : decode b_Po_makeNormal 54 = .ok (.goto (-52), 3) := by decide +kernel
theorem d_Po_makeNormal_57 : decode b_Po_makeNormal 57 = .ok (.return_, 1) := by decide +kernel
theorem d_Po_timesCircle_0 : decode b_Po_timesCircle 0 = .ok (.lconst 0, 1) := by decide +kernel
theorem d_Po_timesCircle_1 : decode b_Po_timesCircle 1 = .ok (.lstore_n 2, 1) := by decide +kernel
theorem d_Po_timesCircle_2 : decode b_Po_timesCircle 2 = .ok (.iload_n 1, 1) := by decide +kernel
theorem d_Po_timesCircle_3 : decode b_Po_timesCircle 3 = .ok (.ineg, 1) := by decide +kernel
theorem d_Po_timesCircle_4 : decode b_Po_timesCircle 4 = .ok (.iconst 2, 1) := by decide +kernel
theorem d_Po_timesCircle_5 : decode b_Po_timesCircle 5 = .ok (.isub, 1) := by decide +kernel
theorem d_Po_timesCircle_6 : decode b_Po_timesCircle 6 = .ok (.istore 4, 2) := by decide +kernel
theorem d_Po_timesCircle_8 : decode b_Po_timesCircle 8 = .ok (.iload 4, 2) := by decide +kernel
theorem d_Po_timesCircle_10 : decode b_Po_timesCircle 10 = .ok (.iload_n 1, 1) := by decide +kernel
theorem d_Po_timesCircle_11 : decode b_Po_timesCircle 11 = .ok (.iconst 2, 1) := by decide +kernel
theorem d_Po_timesCircle_12 : decode b_Po_timesCircle 12 = .ok (.iadd, 1) := by decide +kernel
theorem d_Po_timesCircle_13 : decode b_Po_timesCircle 13 = .ok (.if_icmp .gt 57, 3) := by decide +kernel
theorem d_Po_timesCircle_16 : decode b_Po_timesCircle 16 = .ok (.iload_n 1, 1) := by decide +kernel
theorem d_Po_timesCircle_17 : decode b_Po_timesCircle 17 = .ok (.iconst 4, 1) := by decide +kernel
theorem d_Po_timesCircle_18 : decode b_Po_timesCircle 18 = .ok (.iadd, 1) := by decide +kernel
theorem d_Po_timesCircle_19 : decode b_Po_timesCircle 19 = .ok (.bipush 80, 2) := by decide +kernel
theorem d_Po_timesCircle_21 : decode b_Po_timesCircle 21 = .ok (.if_icmp .gt 49, 3) := by decide +kernel
theorem d_Po_timesCircle_24 : decode b_Po_timesCircle 24 = .ok (.aload_n 0, 1) := by decide +kernel
theorem d_Po_timesCircle_25 : decode b_Po_timesCircle 25 = .ok (.getfield 9, 3) := by decide +kernel
theorem d_Po_timesCircle_28 : decode b_Po_timesCircle 28 = .ok (.iload 4, 2) := by decide +kernel
theorem d_Po_timesCircle_30 : decode b_Po_timesCircle 30 = .ok (.bipush 80, 2) := by decide +kernel
theorem d_Po_timesCircle_32 : decode b_Po_timesCircle 32 = .ok (.iadd, 1) := by decide +kernel
theorem d_Po_timesCircle_33 : decode b_Po_timesCircle 33 = .ok (.laload, 1) := by decide +kernel
theorem d_Po_timesCircle_34 : decode b_Po_timesCircle 34 = .ok (.lstore 5, 2) := by decide +kernel
theorem d_Po_timesCircle_36 : decode b_Po_timesCircle 36 = .ok (.aload_n 0, 1) := by decide +kernel
theorem d_Po_timesCircle_37 : decode b_Po_timesCircle 37 = .ok (.getfield 9, 3) := by decide +kernel
theorem d_Po_timesCircle_40 : decode b_Po_timesCircle 40 = .ok (.iload 4, 2) := by decide +kernel
theorem d_Po_timesCircle_42 : decode b_Po_timesCircle 42 = .ok (.bipush 80, 2) := by decide +kernel
theorem d_Po_timesCircle_44 : decode b_Po_timesCircle 44 = .ok (.iadd, 1) := by decide +kernel
theorem d_Po_timesCircle_45 : decode b_Po_timesCircle 45 = .ok (.lload_n 2, 1) := by decide +kernel
theorem d_Po_timesCircle_46 : decode b_Po_timesCircle 46 = .ok (.lneg, 1) := by decide +kernel
theorem d_Po_timesCircle_47 : decode b_Po_timesCircle 47 = .ok (.aload_n 0, 1) := by decide +kernel
theorem d_Po_timesCircle_48 : decode b_Po_timesCircle 48 = .ok (.getfield 9, 3) := by decide +kernel
theorem d_Po_timesCircle_51 : decode b_Po_timesCircle 51 = .ok (.iload 4, 2) := by decide +kernel
theorem d_Po_timesCircle_53 : decode b_Po_timesCircle 53 = .ok (.iconst 2, 1) := by decide +kernel
theorem d_Po_timesCircle_54 : decode b_Po_timesCircle 54 = .ok (.iadd, 1) := by decide +kernel
theorem d_Po_timesCircle_55 : decode b_Po_timesCircle 55 = .ok (.bipush 80, 2) := by decide +kernel
theorem d_Po_timesCircle_57 : decode b_Po_timesCircle 57 = .ok (.iadd, 1) := by decide +kernel
theorem d_Po_timesCircle_58 : decode b_Po_timesCircle 58 = .ok (.laload, 1) := by decide +kernel
theorem d_Po_timesCircle_59 : decode b_Po_timesCircle 59 = .ok (.lsub, 1) := by decide +kernel
theorem d_Po_timesCircle_60 : decode b_Po_timesCircle 60 = .ok (.lastore, 1) := by decide +kernel
theorem d_Po_timesCircle_61 : decode b_Po_timesCircle 61 = .ok (.lload 5, 2) := by decide +kernel
theorem d_Po_timesCircle_63 : decode b_Po_timesCircle 63 = .ok (.lstore_n 2, 1) := by decide +kernel
theorem d_Po_timesCircle_64 : decode b_Po_timesCircle 64 = .ok (.iinc 4 2, 3) := by decide +kernel
theorem d_Po_timesCircle_67 : decode b_Po_timesCircle 67 = .ok (.goto (-59), 3) := by decide +kernel
theorem d_Po_timesCircle_70 : decode b_Po_timesCircle 70 = .ok (.return_, 1) := by decide +kernel
theorem d_Po_timesFrame_0 : decode b_Po_timesFrame 0 = .ok (.aload_n 0, 1) := by decide +kernel
theorem d_Po_timesFrame_1 : decode b_Po_timesFrame 1 = .ok (.dup, 1) := by decide +kernel
theorem d_Po_timesFrame_2 : decode b_Po_timesFrame 2 = .ok (.getfield 23, 3) := by decide +kernel
theorem d_Po_timesFrame_5 : decode b_Po_timesFrame 5 = .ok (.iconst 3, 1) := by decide +kernel
theorem d_Po_timesFrame_6 : decode b_Po_timesFrame 6 = .ok (.iload_n 1, 1) := by decide +kernel
theorem d_Po_timesFrame_7 : decode b_Po_timesFrame 7 = .ok (.imul, 1) := by decide +kernel
theorem d_Po_timesFrame_8 : decode b_Po_timesFrame 8 = .ok (.iadd, 1) := by decide +kernel
theorem d_Po_timesFrame_9 : decode b_Po_timesFrame 9 = .ok (.putfield 23, 3) := by decide +kernel
theorem d_Po_timesFrame_12 : decode b_Po_timesFrame 12 = .ok (.iload_n 1, 1) := by decide +kernel
theorem d_Po_timesFrame_13 : decode b_Po_timesFrame 13 = .ok (.iconst 1, 1) := by decide +kernel
theorem d_Po_timesFrame_14 : decode b_Po_timesFrame 14 = .ok (.iand, 1) := by decide +kernel
theorem d_Po_timesFrame_15 : decode b_Po_timesFrame 15 = .ok (.iconst 1, 1) := by decide +kernel
theorem d_Po_timesFrame_16 : decode b_Po_timesFrame 16 = .ok (.if_icmp .ne 12, 3) := by decide +kernel
theorem d_Po_timesFrame_19 : decode b_Po_timesFrame 19 = .ok (.aload_n 0, 1) := by decide +kernel
theorem d_Po_timesFrame_20 : decode b_Po_timesFrame 20 = .ok (.aload_n 0, 1) := by decide +kernel
theorem d_Po_timesFrame_21 : decode b_Po_timesFrame 21 = .ok (.getfield 13, 3) := by decide +kernel
theorem d_Po_timesFrame_24 : decode b_Po_timesFrame 24 = .ok (.ineg, 1) := by decide +kernel
theorem d_Po_timesFrame_25 : decode b_Po_timesFrame 25 = .ok (.putfield 13, 3) := by decide +kernel
theorem d_Po_timesFrame_28 : decode b_Po_timesFrame 28 = .ok (.return_, 1) := by decide +kernel
theorem d_Rd_init_0 : decode b_Rd_init 0 = .ok (.aload_n 0, 1) := by decide +kernel
theorem d_Rd_init_1 : decode b_Rd_init 1 = .ok (.invokespecial 3, 3) := by decide +kernel
theorem d_Rd_init_4 : decode b_Rd_init 4 = .ok (.aload_n 0, 1) := by decide +kernel
theorem d_Rd_init_5 : decode b_Rd_init 5 = .ok (.sipush 4000, 3) := by decide +kernel
theorem d_Rd_init_8 : decode b_Rd_init 8 = .ok (.newarray .int, 2) := by decide +kernel
theorem d_Rd_init_10 : decode b_Rd_init 10 = .ok (.putfield 9, 3) := by decide +kernel
theorem d_Rd_init_13 : decode b_Rd_init 13 = .ok (.aload_n 0, 1) := by decide +kernel
theorem d_Rd_init_14 : decode b_Rd_init 14 = .ok (.new 15, 3) := by decide +kernel
theorem d_Rd_init_17 : decode b_Rd_init 17 = .ok (.dup, 1) := by decide +kernel
theorem d_Rd_init_18 : decode b_Rd_init 18 = .ok (.invokespecial 17, 3) := by decide +kernel
theorem d_Rd_init_21 : decode b_Rd_init 21 = .ok (.putfield 18, 3) := by decide +kernel
theorem d_Rd_init_24 : decode b_Rd_init 24 = .ok (.aload_n 0, 1) := by decide +kernel
theorem d_Rd_init_25 : decode b_Rd_init 25 = .ok (.iconst (-1), 1) := by decide +kernel
theorem d_Rd_init_26 : decode b_Rd_init 26 = .ok (.putfield 22, 3) := by decide +kernel
theorem d_Rd_init_29 : decode b_Rd_init 29 = .ok (.return_, 1) := by decide +kernel
