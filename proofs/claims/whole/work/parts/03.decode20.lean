theorem d_Md_broken_92 : decode b_Md_broken 92 = .ok (.invokevirtual 325, 3) := by decide +kernel
theorem d_Md_broken_95 : decode b_Md_broken 95 = .ok (.iconst 2, 1) := by decide +kernel
theorem d_Md_broken_96 : decode b_Md_broken 96 = .ok (.ishr, 1) := by decide +kernel
theorem d_Md_broken_97 : decode b_Md_broken 97 = .ok (.iaload, 1) := by decide +kernel
theorem d_Md_broken_98 : decode b_Md_broken 98 = .ok (.iload_n 1, 1) := by decide +kernel
theorem d_Md_broken_99 : decode b_Md_broken 99 = .ok (.if_icmp .ne 7, 3) := by decide +kernel
theorem d_Md_broken_106 : decode b_Md_broken 106 = .ok (.iconst 0, 1) := by decide +kernel
theorem d_Md_broken_102 : decode b_Md_broken 102 = .ok (.iconst 1, 1) := by decide +kernel
theorem d_Md_broken_103 : decode b_Md_broken 103 = .ok (.goto 4, 3) := by decide +kernel
theorem d_Md_broken_57 : decode b_Md_broken 57 = .ok (.iadd, 1) := by decide +kernel
theorem d_Md_broken_58 : decode b_Md_broken 58 = .ok (.istore_n 2, 1) := by decide +kernel
theorem d_Md_broken_59 : decode b_Md_broken 59 = .ok (.iinc 3 1, 3) := by decide +kernel
theorem d_Md_broken_62 : decode b_Md_broken 62 = .ok (.goto (-32), 3) := by decide +kernel
theorem d_Md_broken_30 : decode b_Md_broken 30 = .ok (.iload_n 3, 1) := by decide +kernel
theorem d_Md_broken_31 : decode b_Md_broken 31 = .ok (.aload_n 0, 1) := by decide +kernel
theorem d_Md_broken_32 : decode b_Md_broken 32 = .ok (.getfield 37, 3) := by decide +kernel
theorem d_Md_broken_35 : decode b_Md_broken 35 = .ok (.getfield 312, 3) := by decide +kernel
theorem d_Md_broken_38 : decode b_Md_broken 38 = .ok (.if_icmp .ge 27, 3) := by decide +kernel
theorem d_Md_broken_65 : decode b_Md_broken 65 = .ok (.iconst 0, 1) := by decide +kernel
theorem d_Md_broken_66 : decode b_Md_broken 66 = .ok (.istore_n 3, 1) := by decide +kernel
theorem d_Md_broken_67 : decode b_Md_broken 67 = .ok (.iconst 0, 1) := by decide +kernel
theorem d_Md_broken_68 : decode b_Md_broken 68 = .ok (.istore 4, 2) := by decide +kernel
theorem d_Md_broken_41 : decode b_Md_broken 41 = .ok (.iload_n 2, 1) := by decide +kernel
theorem d_Md_broken_42 : decode b_Md_broken 42 = .ok (.aload_n 0, 1) := by decide +kernel
theorem d_Md_broken_43 : decode b_Md_broken 43 = .ok (.getfield 90, 3) := by decide +kernel
theorem d_Md_broken_46 : decode b_Md_broken 46 = .ok (.iload_n 3, 1) := by decide +kernel
theorem d_Md_broken_47 : decode b_Md_broken 47 = .ok (.iaload, 1) := by decide +kernel
theorem d_Md_broken_48 : decode b_Md_broken 48 = .ok (.iload_n 1, 1) := by decide +kernel
theorem d_Md_broken_49 : decode b_Md_broken 49 = .ok (.if_icmp .ne 7, 3) := by decide +kernel
theorem d_Md_broken_56 : decode b_Md_broken 56 = .ok (.iconst 0, 1) := by decide +kernel
theorem d_Md_broken_52 : decode b_Md_broken 52 = .ok (.iconst 1, 1) := by decide +kernel
theorem d_Md_broken_53 : decode b_Md_broken 53 = .ok (.goto 4, 3) := by decide +kernel
theorem d_Md_broken_2 : decode b_Md_broken 2 = .ok (.iload_n 1, 1) := by decide +kernel
theorem d_Md_broken_3 : decode b_Md_broken 3 = .ok (.aload_n 0, 1) := by decide +kernel
theorem d_Md_broken_4 : decode b_Md_broken 4 = .ok (.getfield 37, 3) := by decide +kernel
theorem d_Md_broken_7 : decode b_Md_broken 7 = .ok (.getfield 312, 3) := by decide +kernel
theorem d_Md_broken_10 : decode b_Md_broken 10 = .ok (.if_icmp .ge 120, 3) := by decide +kernel
theorem d_Md_broken_130 : decode b_Md_broken 130 = .ok (.iconst (-1), 1) := by decide +kernel
theorem d_Md_broken_131 : decode b_Md_broken 131 = .ok (.ireturn, 1) := by decide +kernel
theorem d_Md_broken_13 : decode b_Md_broken 13 = .ok (.aload_n 0, 1) := by decide +kernel
theorem d_Md_broken_14 : decode b_Md_broken 14 = .ok (.getfield 90, 3) := by decide +kernel
theorem d_Md_broken_17 : decode b_Md_broken 17 = .ok (.iload_n 1, 1) := by decide +kernel
theorem d_Md_broken_18 : decode b_Md_broken 18 = .ok (.iaload, 1) := by decide +kernel
theorem d_Md_broken_19 : decode b_Md_broken 19 = .ok (.iload_n 1, 1) := by decide +kernel
theorem d_Md_broken_20 : decode b_Md_broken 20 = .ok (.if_icmp .eq 6, 3) := by decide +kernel
theorem d_Md_broken_26 : decode b_Md_broken 26 = .ok (.iconst 0, 1) := by decide +kernel
theorem d_Md_broken_27 : decode b_Md_broken 27 = .ok (.istore_n 2, 1) := by decide +kernel
theorem d_Md_broken_28 : decode b_Md_broken 28 = .ok (.iconst 0, 1) := by decide +kernel
theorem d_Md_broken_29 : decode b_Md_broken 29 = .ok (.istore_n 3, 1) := by decide +kernel
theorem d_Md_broken_23 : decode b_Md_broken 23 = .ok (.goto 101, 3) := by decide +kernel
theorem d_Md_broken_0 : decode b_Md_broken 0 = .ok (.iconst 0, 1) := by decide +kernel
theorem d_Md_broken_1 : decode b_Md_broken 1 = .ok (.istore_n 1, 1) := by decide +kernel
theorem d_Md_sayNumber_50 : decode b_Md_sayNumber 50 = .ok (.lload 5, 2) := by decide +kernel
theorem d_Md_sayNumber_52 : decode b_Md_sayNumber 52 = .ok (.lconst 0, 1) := by decide +kernel
theorem d_Md_sayNumber_53 : decode b_Md_sayNumber 53 = .ok (.lcmp, 1) := by decide +kernel
theorem d_Md_sayNumber_54 : decode b_Md_sayNumber 54 = .ok (.ifCond .le 31, 3) := by decide +kernel
theorem d_Md_sayNumber_85 : decode b_Md_sayNumber 85 = .ok (.return_, 1) := by decide +kernel
theorem d_Md_sayNumber_57 : decode b_Md_sayNumber 57 = .ok (.aload_n 0, 1) := by decide +kernel
theorem d_Md_sayNumber_58 : decode b_Md_sayNumber 58 = .ok (.ldc2_w 164, 3) := by decide +kernel
theorem d_Md_sayNumber_61 : decode b_Md_sayNumber 61 = .ok (.lload_n 3, 1) := by decide +kernel
theorem d_Md_sayNumber_62 : decode b_Md_sayNumber 62 = .ok (.lload 5, 2) := by decide +kernel
theorem d_Md_sayNumber_64 : decode b_Md_sayNumber 64 = .ok (.ldiv, 1) := by decide +kernel
theorem d_Md_sayNumber_65 : decode b_Md_sayNumber 65 = .ok (.ldc2_w 162, 3) := by decide +kernel
theorem d_Md_sayNumber_68 : decode b_Md_sayNumber 68 = .ok (.lrem, 1) := by decide +kernel
theorem d_Md_sayNumber_69 : decode b_Md_sayNumber 69 = .ok (.ladd, 1) := by decide +kernel
theorem d_Md_sayNumber_70 : decode b_Md_sayNumber 70 = .ok (.l2i, 1) := by decide +kernel
theorem d_Md_sayNumber_71 : decode b_Md_sayNumber 71 = .ok (.invokevirtual 509, 3) := by decide +kernel
theorem d_Md_sayNumber_74 : decode b_Md_sayNumber 74 = .ok (.lload 5, 2) := by decide +kernel
theorem d_Md_sayNumber_76 : decode b_Md_sayNumber 76 = .ok (.ldc2_w 162, 3) := by decide +kernel
theorem d_Md_sayNumber_79 : decode b_Md_sayNumber 79 = .ok (.ldiv, 1) := by decide +kernel
theorem d_Md_sayNumber_80 : decode b_Md_sayNumber 80 = .ok (.lstore 5, 2) := by decide +kernel
theorem d_Md_sayNumber_82 : decode b_Md_sayNumber 82 = .ok (.goto (-32), 3) := by decide +kernel
theorem d_Md_sayNumber_28 : decode b_Md_sayNumber 28 = .ok (.lload_n 3, 1) := by decide +kernel
theorem d_Md_sayNumber_29 : decode b_Md_sayNumber 29 = .ok (.lload 5, 2) := by decide +kernel
theorem d_Md_sayNumber_31 : decode b_Md_sayNumber 31 = .ok (.ldiv, 1) := by decide +kernel
theorem d_Md_sayNumber_32 : decode b_Md_sayNumber 32 = .ok (.ldc2_w 512, 3) := by decide +kernel
theorem d_Md_sayNumber_35 : decode b_Md_sayNumber 35 = .ok (.lcmp, 1) := by decide +kernel
theorem d_Md_sayNumber_36 : decode b_Md_sayNumber 36 = .ok (.ifCond .le 14, 3) := by decide +kernel
theorem d_Md_sayNumber_39 : decode b_Md_sayNumber 39 = .ok (.ldc2_w 162, 3) := by decide +kernel
theorem d_Md_sayNumber_42 : decode b_Md_sayNumber 42 = .ok (.lload 5, 2) := by decide +kernel
theorem d_Md_sayNumber_44 : decode b_Md_sayNumber 44 = .ok (.lmul, 1) := by decide +kernel
theorem d_Md_sayNumber_45 : decode b_Md_sayNumber 45 = .ok (.lstore 5, 2) := by decide +kernel
theorem d_Md_sayNumber_47 : decode b_Md_sayNumber 47 = .ok (.goto (-19), 3) := by decide +kernel
theorem d_Md_sayNumber_25 : decode b_Md_sayNumber 25 = .ok (.lconst 1, 1) := by decide +kernel
theorem d_Md_sayNumber_26 : decode b_Md_sayNumber 26 = .ok (.lstore 5, 2) := by decide +kernel
theorem d_Md_sayNumber_12 : decode b_Md_sayNumber 12 = .ok (.lstore_n 3, 1) := by decide +kernel
theorem d_Md_sayNumber_13 : decode b_Md_sayNumber 13 = .ok (.lload_n 1, 1) := by decide +kernel
theorem d_Md_sayNumber_14 : decode b_Md_sayNumber 14 = .ok (.lconst 0, 1) := by decide +kernel
theorem d_Md_sayNumber_15 : decode b_Md_sayNumber 15 = .ok (.lcmp, 1) := by decide +kernel
theorem d_Md_sayNumber_16 : decode b_Md_sayNumber 16 = .ok (.ifCond .ge 9, 3) := by decide +kernel
theorem d_Md_sayNumber_19 : decode b_Md_sayNumber 19 = .ok (.aload_n 0, 1) := by decide +kernel
theorem d_Md_sayNumber_20 : decode b_Md_sayNumber 20 = .ok (.bipush 45, 2) := by decide +kernel
theorem d_Md_sayNumber_22 : decode b_Md_sayNumber 22 = .ok (.invokevirtual 509, 3) := by decide +kernel
theorem d_Md_sayNumber_0 : decode b_Md_sayNumber 0 = .ok (.lload_n 1, 1) := by decide +kernel
theorem d_Md_sayNumber_1 : decode b_Md_sayNumber 1 = .ok (.lconst 0, 1) := by decide +kernel
theorem d_Md_sayNumber_2 : decode b_Md_sayNumber 2 = .ok (.lcmp, 1) := by decide +kernel
theorem d_Md_sayNumber_3 : decode b_Md_sayNumber 3 = .ok (.ifCond .ge 8, 3) := by decide +kernel
theorem d_Md_sayNumber_11 : decode b_Md_sayNumber 11 = .ok (.lload_n 1, 1) := by decide +kernel
theorem d_Md_sayNumber_6 : decode b_Md_sayNumber 6 = .ok (.lload_n 1, 1) := by decide +kernel
theorem d_Md_sayNumber_7 : decode b_Md_sayNumber 7 = .ok (.lneg, 1) := by decide +kernel
theorem d_Md_sayNumber_8 : decode b_Md_sayNumber 8 = .ok (.goto 4, 3) := by decide +kernel
theorem d_Md_cross_82 : decode b_Md_cross 82 = .ok (.iadd, 1) := by decide +kernel
theorem d_Md_cross_83 : decode b_Md_cross 83 = .ok (.iload 4, 2) := by decide +kernel
theorem d_Md_cross_85 : decode b_Md_cross 85 = .ok (.iastore, 1) := by decide +kernel
theorem d_Md_cross_86 : decode b_Md_cross 86 = .ok (.aload_n 0, 1) := by decide +kernel
theorem d_Md_cross_87 : decode b_Md_cross 87 = .ok (.getfield 37, 3) := by decide +kernel
theorem d_Md_cross_90 : decode b_Md_cross 90 = .ok (.getfield 318, 3) := by decide +kernel
theorem d_Md_cross_93 : decode b_Md_cross 93 = .ok (.iconst 4, 1) := by decide +kernel
theorem d_Md_cross_94 : decode b_Md_cross 94 = .ok (.iload 6, 2) := by decide +kernel
theorem d_Md_cross_96 : decode b_Md_cross 96 = .ok (.imul, 1) := by decide +kernel
theorem d_Md_cross_97 : decode b_Md_cross 97 = .ok (.iload_n 1, 1) := by decide +kernel
theorem d_Md_cross_98 : decode b_Md_cross 98 = .ok (.iconst 1, 1) := by decide +kernel
theorem d_Md_cross_99 : decode b_Md_cross 99 = .ok (.if_icmp .ne 7, 3) := by decide +kernel
theorem d_Md_cross_106 : decode b_Md_cross 106 = .ok (.iconst 3, 1) := by decide +kernel
theorem d_Md_cross_107 : decode b_Md_cross 107 = .ok (.iadd, 1) := by decide +kernel
theorem d_Md_cross_108 : decode b_Md_cross 108 = .ok (.iload 5, 2) := by decide +kernel
theorem d_Md_cross_110 : decode b_Md_cross 110 = .ok (.iastore, 1) := by decide +kernel
theorem d_Md_cross_111 : decode b_Md_cross 111 = .ok (.return_, 1) := by decide +kernel
theorem d_Md_cross_102 : decode b_Md_cross 102 = .ok (.iconst 1, 1) := by decide +kernel
theorem d_Md_cross_103 : decode b_Md_cross 103 = .ok (.goto 4, 3) := by decide +kernel
theorem d_Md_cross_0 : decode b_Md_cross 0 = .ok (.aload_n 0, 1) := by decide +kernel
theorem d_Md_cross_1 : decode b_Md_cross 1 = .ok (.getfield 37, 3) := by decide +kernel
theorem d_Md_cross_4 : decode b_Md_cross 4 = .ok (.getfield 312, 3) := by decide +kernel
theorem d_Md_cross_7 : decode b_Md_cross 7 = .ok (.istore 6, 2) := by decide +kernel
theorem d_Md_cross_9 : decode b_Md_cross 9 = .ok (.aload_n 0, 1) := by decide +kernel
theorem d_Md_cross_10 : decode b_Md_cross 10 = .ok (.getfield 37, 3) := by decide +kernel
theorem d_Md_cross_13 : decode b_Md_cross 13 = .ok (.dup, 1) := by decide +kernel
theorem d_Md_cross_14 : decode b_Md_cross 14 = .ok (.getfield 312, 3) := by decide +kernel
theorem d_Md_cross_17 : decode b_Md_cross 17 = .ok (.iconst 1, 1) := by decide +kernel
theorem d_Md_cross_18 : decode b_Md_cross 18 = .ok (.iadd, 1) := by decide +kernel
theorem d_Md_cross_19 : decode b_Md_cross 19 = .ok (.putfield 312, 3) := by decide +kernel
theorem d_Md_cross_22 : decode b_Md_cross 22 = .ok (.aload_n 0, 1) := by decide +kernel
theorem d_Md_cross_23 : decode b_Md_cross 23 = .ok (.getfield 37, 3) := by decide +kernel
theorem d_Md_cross_26 : decode b_Md_cross 26 = .ok (.getfield 306, 3) := by decide +kernel
theorem d_Md_cross_29 : decode b_Md_cross 29 = .ok (.iload 6, 2) := by decide +kernel
theorem d_Md_cross_31 : decode b_Md_cross 31 = .ok (.iload_n 1, 1) := by decide +kernel
theorem d_Md_cross_32 : decode b_Md_cross 32 = .ok (.iastore, 1) := by decide +kernel
theorem d_Md_cross_33 : decode b_Md_cross 33 = .ok (.aload_n 0, 1) := by decide +kernel
theorem d_Md_cross_34 : decode b_Md_cross 34 = .ok (.getfield 37, 3) := by decide +kernel
theorem d_Md_cross_37 : decode b_Md_cross 37 = .ok (.getfield 318, 3) := by decide +kernel
theorem d_Md_cross_40 : decode b_Md_cross 40 = .ok (.iconst 4, 1) := by decide +kernel
theorem d_Md_cross_41 : decode b_Md_cross 41 = .ok (.iload 6, 2) := by decide +kernel
theorem d_Md_cross_43 : decode b_Md_cross 43 = .ok (.imul, 1) := by decide +kernel
theorem d_Md_cross_44 : decode b_Md_cross 44 = .ok (.iload_n 2, 1) := by decide +kernel
theorem d_Md_cross_45 : decode b_Md_cross 45 = .ok (.iastore, 1) := by decide +kernel
theorem d_Md_cross_46 : decode b_Md_cross 46 = .ok (.aload_n 0, 1) := by decide +kernel
theorem d_Md_cross_47 : decode b_Md_cross 47 = .ok (.getfield 37, 3) := by decide +kernel
theorem d_Md_cross_50 : decode b_Md_cross 50 = .ok (.getfield 318, 3) := by decide +kernel
theorem d_Md_cross_53 : decode b_Md_cross 53 = .ok (.iconst 4, 1) := by decide +kernel
theorem d_Md_cross_54 : decode b_Md_cross 54 = .ok (.iload 6, 2) := by decide +kernel
theorem d_Md_cross_56 : decode b_Md_cross 56 = .ok (.imul, 1) := by decide +kernel
theorem d_Md_cross_57 : decode b_Md_cross 57 = .ok (.iconst 2, 1) := by decide +kernel
theorem d_Md_cross_58 : decode b_Md_cross 58 = .ok (.iadd, 1) := by decide +kernel
theorem d_Md_cross_59 : decode b_Md_cross 59 = .ok (.iload_n 3, 1) := by decide +kernel
theorem d_Md_cross_60 : decode b_Md_cross 60 = .ok (.iastore, 1) := by decide +kernel
theorem d_Md_cross_61 : decode b_Md_cross 61 = .ok (.aload_n 0, 1) := by decide +kernel
theorem d_Md_cross_62 : decode b_Md_cross 62 = .ok (.getfield 37, 3) := by decide +kernel
theorem d_Md_cross_65 : decode b_Md_cross 65 = .ok (.getfield 318, 3) := by decide +kernel
theorem d_Md_cross_68 : decode b_Md_cross 68 = .ok (.iconst 4, 1) := by decide +kernel
theorem d_Md_cross_69 : decode b_Md_cross 69 = .ok (.iload 6, 2) := by decide +kernel
theorem d_Md_cross_71 : decode b_Md_cross 71 = .ok (.imul, 1) := by decide +kernel
theorem d_Md_cross_72 : decode b_Md_cross 72 = .ok (.iload_n 1, 1) := by decide +kernel
theorem d_Md_cross_73 : decode b_Md_cross 73 = .ok (.iconst 1, 1) := by decide +kernel
theorem d_Md_cross_74 : decode b_Md_cross 74 = .ok (.if_icmp .ne 7, 3) := by decide +kernel
theorem d_Md_cross_81 : decode b_Md_cross 81 = .ok (.iconst 1, 1) := by decide +kernel
theorem d_Md_cross_77 : decode b_Md_cross 77 = .ok (.iconst 3, 1) := by decide +kernel
theorem d_Md_cross_78 : decode b_Md_cross 78 = .ok (.goto 4, 3) := by decide +kernel
theorem d_Md_isUpper_0 : decode b_Md_isUpper 0 = .ok (.iload_n 0, 1) := by decide +kernel
theorem d_Md_isUpper_1 : decode b_Md_isUpper 1 = .ok (.iconst 1, 1) := by decide +kernel
theorem d_Md_isUpper_2 : decode b_Md_isUpper 2 = .ok (.iand, 1) := by decide +kernel
theorem d_Md_isUpper_3 : decode b_Md_isUpper 3 = .ok (.iconst 1, 1) := by decide +kernel
theorem d_Md_isUpper_4 : decode b_Md_isUpper 4 = .ok (.if_icmp .ne 7, 3) := by decide +kernel
theorem d_Md_isUpper_11 : decode b_Md_isUpper 11 = .ok (.iconst 0, 1) := by decide +kernel
theorem d_Md_isUpper_12 : decode b_Md_isUpper 12 = .ok (.ireturn, 1) := by decide +kernel
theorem d_Md_isUpper_7 : decode b_Md_isUpper 7 = .ok (.iconst 1, 1) := by decide +kernel
theorem d_Md_isUpper_8 : decode b_Md_isUpper 8 = .ok (.goto 4, 3) := by decide +kernel
theorem d_Md_merge_98 : decode b_Md_merge 98 = .ok (.iastore, 1) := by decide +kernel
theorem d_Md_merge_99 : decode b_Md_merge 99 = .ok (.iinc 4 1, 3) := by decide +kernel
theorem d_Md_merge_102 : decode b_Md_merge 102 = .ok (.goto (-69), 3) := by decide +kernel
theorem d_Md_merge_84 : decode b_Md_merge 84 = .ok (.iload_n 3, 1) := by decide +kernel
theorem d_Md_merge_85 : decode b_Md_merge 85 = .ok (.goto 13, 3) := by decide +kernel
theorem d_Md_merge_33 : decode b_Md_merge 33 = .ok (.iload 4, 2) := by decide +kernel
theorem d_Md_merge_35 : decode b_Md_merge 35 = .ok (.iconst 4, 1) := by decide +kernel
theorem d_Md_merge_36 : decode b_Md_merge 36 = .ok (.aload_n 0, 1) := by decide +kernel
theorem d_Md_merge_37 : decode b_Md_merge 37 = .ok (.getfield 37, 3) := by decide +kernel
theorem d_Md_merge_40 : decode b_Md_merge 40 = .ok (.getfield 312, 3) := by decide +kernel
theorem d_Md_merge_43 : decode b_Md_merge 43 = .ok (.imul, 1) := by decide +kernel
theorem d_Md_merge_44 : decode b_Md_merge 44 = .ok (.if_icmp .ge 61, 3) := by decide +kernel
theorem d_Md_merge_105 : decode b_Md_merge 105 = .ok (.return_, 1) := by decide +kernel
theorem d_Md_merge_47 : decode b_Md_merge 47 = .ok (.aload_n 0, 1) := by decide +kernel
theorem d_Md_merge_48 : decode b_Md_merge 48 = .ok (.getfield 37, 3) := by decide +kernel
theorem d_Md_merge_51 : decode b_Md_merge 51 = .ok (.getfield 318, 3) := by decide +kernel
theorem d_Md_merge_54 : decode b_Md_merge 54 = .ok (.iload 4, 2) := by decide +kernel
theorem d_Md_merge_56 : decode b_Md_merge 56 = .ok (.aload_n 0, 1) := by decide +kernel
theorem d_Md_merge_57 : decode b_Md_merge 57 = .ok (.getfield 37, 3) := by decide +kernel
theorem d_Md_merge_60 : decode b_Md_merge 60 = .ok (.getfield 318, 3) := by decide +kernel
theorem d_Md_merge_63 : decode b_Md_merge 63 = .ok (.iload 4, 2) := by decide +kernel
theorem d_Md_merge_65 : decode b_Md_merge 65 = .ok (.iaload, 1) := by decide +kernel
theorem d_Md_merge_66 : decode b_Md_merge 66 = .ok (.iload_n 1, 1) := by decide +kernel
theorem d_Md_merge_67 : decode b_Md_merge 67 = .ok (.if_icmp .eq 17, 3) := by decide +kernel
