theorem d_Md_readTerm_80 : decode b_Md_readTerm 80 = .ok (.bipush 94, 2) := by decide +kernel
theorem d_Md_readTerm_82 : decode b_Md_readTerm 82 = .ok (.invokevirtual 176, 3) := by decide +kernel
theorem d_Md_readTerm_85 : decode b_Md_readTerm 85 = .ok (.ifCond .eq 13, 3) := by decide +kernel
theorem d_Md_readTerm_88 : decode b_Md_readTerm 88 = .ok (.aload_n 0, 1) := by decide +kernel
theorem d_Md_readTerm_89 : decode b_Md_readTerm 89 = .ok (.invokevirtual 179, 3) := by decide +kernel
theorem d_Md_readTerm_92 : decode b_Md_readTerm 92 = .ok (.aload_n 0, 1) := by decide +kernel
theorem d_Md_readTerm_93 : decode b_Md_readTerm 93 = .ok (.invokevirtual 258, 3) := by decide +kernel
theorem d_Md_readTerm_96 : decode b_Md_readTerm 96 = .ok (.lstore 7, 2) := by decide +kernel
theorem d_Md_readTerm_98 : decode b_Md_readTerm 98 = .ok (.aload_n 0, 1) := by decide +kernel
theorem d_Md_readTerm_99 : decode b_Md_readTerm 99 = .ok (.iload_n 1, 1) := by decide +kernel
theorem d_Md_readTerm_100 : decode b_Md_readTerm 100 = .ok (.ifCond .eq 8, 3) := by decide +kernel
theorem d_Md_readTerm_103 : decode b_Md_readTerm 103 = .ok (.lload_n 3, 1) := by decide +kernel
theorem d_Md_readTerm_104 : decode b_Md_readTerm 104 = .ok (.lneg, 1) := by decide +kernel
theorem d_Md_readTerm_105 : decode b_Md_readTerm 105 = .ok (.goto 4, 3) := by decide +kernel
theorem d_Md_readTerm_108 : decode b_Md_readTerm 108 = .ok (.lload_n 3, 1) := by decide +kernel
theorem d_Md_readTerm_109 : decode b_Md_readTerm 109 = .ok (.invokevirtual 198, 3) := by decide +kernel
theorem d_Md_readTerm_112 : decode b_Md_readTerm 112 = .ok (.aload_n 0, 1) := by decide +kernel
theorem d_Md_readTerm_113 : decode b_Md_readTerm 113 = .ok (.lload 7, 2) := by decide +kernel
theorem d_Md_readTerm_115 : decode b_Md_readTerm 115 = .ok (.invokevirtual 198, 3) := by decide +kernel
theorem d_Md_readTerm_118 : decode b_Md_readTerm 118 = .ok (.return_, 1) := by decide +kernel
theorem d_Md_readTerms_0 : decode b_Md_readTerms 0 = .ok (.aload_n 0, 1) := by decide +kernel
theorem d_Md_readTerms_1 : decode b_Md_readTerms 1 = .ok (.bipush 61, 2) := by decide +kernel
theorem d_Md_readTerms_3 : decode b_Md_readTerms 3 = .ok (.invokevirtual 176, 3) := by decide +kernel
theorem d_Md_readTerms_6 : decode b_Md_readTerms 6 = .ok (.ifCond .ne 4, 3) := by decide +kernel
theorem d_Md_readTerms_9 : decode b_Md_readTerms 9 = .ok (.return_, 1) := by decide +kernel
theorem d_Md_readTerms_10 : decode b_Md_readTerms 10 = .ok (.aload_n 0, 1) := by decide +kernel
theorem d_Md_readTerms_11 : decode b_Md_readTerms 11 = .ok (.invokevirtual 179, 3) := by decide +kernel
theorem d_Md_readTerms_14 : decode b_Md_readTerms 14 = .ok (.aload_n 0, 1) := by decide +kernel
theorem d_Md_readTerms_15 : decode b_Md_readTerms 15 = .ok (.bipush 45, 2) := by decide +kernel
theorem d_Md_readTerms_17 : decode b_Md_readTerms 17 = .ok (.invokevirtual 176, 3) := by decide +kernel
theorem d_Md_readTerms_20 : decode b_Md_readTerms 20 = .ok (.istore_n 2, 1) := by decide +kernel
theorem d_Md_readTerms_21 : decode b_Md_readTerms 21 = .ok (.iload_n 2, 1) := by decide +kernel
theorem d_Md_readTerms_22 : decode b_Md_readTerms 22 = .ok (.ifCond .eq 7, 3) := by decide +kernel
theorem d_Md_readTerms_25 : decode b_Md_readTerms 25 = .ok (.aload_n 0, 1) := by decide +kernel
theorem d_Md_readTerms_26 : decode b_Md_readTerms 26 = .ok (.invokevirtual 179, 3) := by decide +kernel
theorem d_Md_readTerms_29 : decode b_Md_readTerms 29 = .ok (.iconst 0, 1) := by decide +kernel
theorem d_Md_readTerms_30 : decode b_Md_readTerms 30 = .ok (.istore_n 3, 1) := by decide +kernel
theorem d_Md_readTerms_31 : decode b_Md_readTerms 31 = .ok (.iconst 1, 1) := by decide +kernel
theorem d_Md_readTerms_32 : decode b_Md_readTerms 32 = .ok (.istore 4, 2) := by decide +kernel
theorem d_Md_readTerms_34 : decode b_Md_readTerms 34 = .ok (.iload 4, 2) := by decide +kernel
theorem d_Md_readTerms_36 : decode b_Md_readTerms 36 = .ok (.ifCond .eq 78, 3) := by decide +kernel
theorem d_Md_readTerms_39 : decode b_Md_readTerms 39 = .ok (.aload_n 0, 1) := by decide +kernel
theorem d_Md_readTerms_40 : decode b_Md_readTerms 40 = .ok (.getfield 126, 3) := by decide +kernel
theorem d_Md_readTerms_43 : decode b_Md_readTerms 43 = .ok (.ifCond .ne 71, 3) := by decide +kernel
theorem d_Md_readTerms_46 : decode b_Md_readTerms 46 = .ok (.aload_n 0, 1) := by decide +kernel
theorem d_Md_readTerms_47 : decode b_Md_readTerms 47 = .ok (.iload_n 2, 1) := by decide +kernel
theorem d_Md_readTerms_48 : decode b_Md_readTerms 48 = .ok (.iload_n 1, 1) := by decide +kernel
theorem d_Md_readTerms_49 : decode b_Md_readTerms 49 = .ok (.invokevirtual 265, 3) := by decide +kernel
theorem d_Md_readTerms_52 : decode b_Md_readTerms 52 = .ok (.iinc 3 1, 3) := by decide +kernel
theorem d_Md_readTerms_55 : decode b_Md_readTerms 55 = .ok (.aload_n 0, 1) := by decide +kernel
theorem d_Md_readTerms_56 : decode b_Md_readTerms 56 = .ok (.getfield 126, 3) := by decide +kernel
theorem d_Md_readTerms_59 : decode b_Md_readTerms 59 = .ok (.ifCond .ne 14, 3) := by decide +kernel
theorem d_Md_readTerms_62 : decode b_Md_readTerms 62 = .ok (.aload_n 0, 1) := by decide +kernel
theorem d_Md_readTerms_63 : decode b_Md_readTerms 63 = .ok (.invokevirtual 192, 3) := by decide +kernel
theorem d_Md_readTerms_66 : decode b_Md_readTerms 66 = .ok (.ifCond .eq 7, 3) := by decide +kernel
theorem d_Md_readTerms_69 : decode b_Md_readTerms 69 = .ok (.iconst 1, 1) := by decide +kernel
theorem d_Md_readTerms_70 : decode b_Md_readTerms 70 = .ok (.goto 4, 3) := by decide +kernel
theorem d_Md_readTerms_73 : decode b_Md_readTerms 73 = .ok (.iconst 0, 1) := by decide +kernel
theorem d_Md_readTerms_74 : decode b_Md_readTerms 74 = .ok (.istore 4, 2) := by decide +kernel
theorem d_Md_readTerms_76 : decode b_Md_readTerms 76 = .ok (.iload 4, 2) := by decide +kernel
theorem d_Md_readTerms_78 : decode b_Md_readTerms 78 = .ok (.ifCond .ne 6, 3) := by decide +kernel
theorem d_Md_readTerms_81 : decode b_Md_readTerms 81 = .ok (.goto (-47), 3) := by decide +kernel
theorem d_Md_readTerms_84 : decode b_Md_readTerms 84 = .ok (.iload_n 3, 1) := by decide +kernel
theorem d_Md_readTerms_85 : decode b_Md_readTerms 85 = .ok (.bipush 64, 2) := by decide +kernel
theorem d_Md_readTerms_87 : decode b_Md_readTerms 87 = .ok (.if_icmp .ne 13, 3) := by decide +kernel
theorem d_Md_readTerms_90 : decode b_Md_readTerms 90 = .ok (.aload_n 0, 1) := by decide +kernel
theorem d_Md_readTerms_91 : decode b_Md_readTerms 91 = .ok (.iconst 5, 1) := by decide +kernel
theorem d_Md_readTerms_92 : decode b_Md_readTerms 92 = .ok (.aload_n 0, 1) := by decide +kernel
theorem d_Md_readTerms_93 : decode b_Md_readTerms 93 = .ok (.getfield 142, 3) := by decide +kernel
theorem d_Md_readTerms_96 : decode b_Md_readTerms 96 = .ok (.invokevirtual 138, 3) := by decide +kernel
theorem d_Md_readTerms_99 : decode b_Md_readTerms 99 = .ok (.return_, 1) := by decide +kernel
theorem d_Md_readTerms_100 : decode b_Md_readTerms 100 = .ok (.aload_n 0, 1) := by decide +kernel
theorem d_Md_readTerms_101 : decode b_Md_readTerms 101 = .ok (.bipush 45, 2) := by decide +kernel
theorem d_Md_readTerms_103 : decode b_Md_readTerms 103 = .ok (.invokevirtual 176, 3) := by decide +kernel
theorem d_Md_readTerms_106 : decode b_Md_readTerms 106 = .ok (.istore_n 2, 1) := by decide +kernel
theorem d_Md_readTerms_107 : decode b_Md_readTerms 107 = .ok (.aload_n 0, 1) := by decide +kernel
theorem d_Md_readTerms_108 : decode b_Md_readTerms 108 = .ok (.invokevirtual 179, 3) := by decide +kernel
theorem d_Md_readTerms_111 : decode b_Md_readTerms 111 = .ok (.goto (-77), 3) := by decide +kernel
theorem d_Md_readTerms_114 : decode b_Md_readTerms 114 = .ok (.return_, 1) := by decide +kernel
theorem d_Md_readText_0 : decode b_Md_readText 0 = .ok (.aload_n 0, 1) := by decide +kernel
theorem d_Md_readText_1 : decode b_Md_readText 1 = .ok (.iconst 0, 1) := by decide +kernel
theorem d_Md_readText_2 : decode b_Md_readText 2 = .ok (.putfield 132, 3) := by decide +kernel
theorem d_Md_readText_5 : decode b_Md_readText 5 = .ok (.aload_n 0, 1) := by decide +kernel
theorem d_Md_readText_6 : decode b_Md_readText 6 = .ok (.iconst 0, 1) := by decide +kernel
theorem d_Md_readText_7 : decode b_Md_readText 7 = .ok (.putfield 284, 3) := by decide +kernel
theorem d_Md_readText_10 : decode b_Md_readText 10 = .ok (.aload_n 0, 1) := by decide +kernel
theorem d_Md_readText_11 : decode b_Md_readText 11 = .ok (.iconst 0, 1) := by decide +kernel
theorem d_Md_readText_12 : decode b_Md_readText 12 = .ok (.putfield 290, 3) := by decide +kernel
theorem d_Md_readText_15 : decode b_Md_readText 15 = .ok (.aload_n 0, 1) := by decide +kernel
theorem d_Md_readText_16 : decode b_Md_readText 16 = .ok (.iconst 0, 1) := by decide +kernel
theorem d_Md_readText_17 : decode b_Md_readText 17 = .ok (.putfield 189, 3) := by decide +kernel
theorem d_Md_readText_20 : decode b_Md_readText 20 = .ok (.aload_n 0, 1) := by decide +kernel
theorem d_Md_readText_21 : decode b_Md_readText 21 = .ok (.iconst 0, 1) := by decide +kernel
theorem d_Md_readText_22 : decode b_Md_readText 22 = .ok (.putfield 126, 3) := by decide +kernel
theorem d_Md_readText_25 : decode b_Md_readText 25 = .ok (.aload_n 0, 1) := by decide +kernel
theorem d_Md_readText_26 : decode b_Md_readText 26 = .ok (.iconst (-1), 1) := by decide +kernel
theorem d_Md_readText_27 : decode b_Md_readText 27 = .ok (.putfield 19, 3) := by decide +kernel
theorem d_Md_readText_30 : decode b_Md_readText 30 = .ok (.iconst 1, 1) := by decide +kernel
theorem d_Md_readText_31 : decode b_Md_readText 31 = .ok (.istore_n 1, 1) := by decide +kernel
theorem d_Md_readText_32 : decode b_Md_readText 32 = .ok (.iload_n 1, 1) := by decide +kernel
theorem d_Md_readText_33 : decode b_Md_readText 33 = .ok (.ifCond .eq 65, 3) := by decide +kernel
theorem d_Md_readText_36 : decode b_Md_readText 36 = .ok (.aload_n 0, 1) := by decide +kernel
theorem d_Md_readText_37 : decode b_Md_readText 37 = .ok (.getfield 126, 3) := by decide +kernel
theorem d_Md_readText_40 : decode b_Md_readText 40 = .ok (.ifCond .ne 58, 3) := by decide +kernel
theorem d_Md_readText_43 : decode b_Md_readText 43 = .ok (.aload_n 0, 1) := by decide +kernel
theorem d_Md_readText_44 : decode b_Md_readText 44 = .ok (.invokevirtual 179, 3) := by decide +kernel
theorem d_Md_readText_47 : decode b_Md_readText 47 = .ok (.aload_n 0, 1) := by decide +kernel
theorem d_Md_readText_48 : decode b_Md_readText 48 = .ok (.getfield 129, 3) := by decide +kernel
theorem d_Md_readText_51 : decode b_Md_readText 51 = .ok (.ifCond .eq 10, 3) := by decide +kernel
theorem d_Md_readText_54 : decode b_Md_readText 54 = .ok (.aload_n 0, 1) := by decide +kernel
theorem d_Md_readText_55 : decode b_Md_readText 55 = .ok (.invokevirtual 293, 3) := by decide +kernel
theorem d_Md_readText_58 : decode b_Md_readText 58 = .ok (.goto (-26), 3) := by decide +kernel
theorem d_Md_readText_61 : decode b_Md_readText 61 = .ok (.aload_n 0, 1) := by decide +kernel
theorem d_Md_readText_62 : decode b_Md_readText 62 = .ok (.getfield 126, 3) := by decide +kernel
theorem d_Md_readText_65 : decode b_Md_readText 65 = .ok (.ifCond .ne (-33), 3) := by decide +kernel
theorem d_Md_readText_68 : decode b_Md_readText 68 = .ok (.aload_n 0, 1) := by decide +kernel
theorem d_Md_readText_69 : decode b_Md_readText 69 = .ok (.getfield 132, 3) := by decide +kernel
theorem d_Md_readText_72 : decode b_Md_readText 72 = .ok (.aload_n 0, 1) := by decide +kernel
theorem d_Md_readText_73 : decode b_Md_readText 73 = .ok (.getfield 135, 3) := by decide +kernel
theorem d_Md_readText_76 : decode b_Md_readText 76 = .ok (.if_icmp .ge 7, 3) := by decide +kernel
theorem d_Md_readText_79 : decode b_Md_readText 79 = .ok (.iconst 1, 1) := by decide +kernel
theorem d_Md_readText_80 : decode b_Md_readText 80 = .ok (.goto 4, 3) := by decide +kernel
theorem d_Md_readText_83 : decode b_Md_readText 83 = .ok (.iconst 0, 1) := by decide +kernel
theorem d_Md_readText_84 : decode b_Md_readText 84 = .ok (.istore_n 1, 1) := by decide +kernel
theorem d_Md_readText_85 : decode b_Md_readText 85 = .ok (.aload_n 0, 1) := by decide +kernel
theorem d_Md_readText_86 : decode b_Md_readText 86 = .ok (.dup, 1) := by decide +kernel
theorem d_Md_readText_87 : decode b_Md_readText 87 = .ok (.getfield 132, 3) := by decide +kernel
theorem d_Md_readText_90 : decode b_Md_readText 90 = .ok (.iconst 1, 1) := by decide +kernel
theorem d_Md_readText_91 : decode b_Md_readText 91 = .ok (.iadd, 1) := by decide +kernel
theorem d_Md_readText_92 : decode b_Md_readText 92 = .ok (.putfield 132, 3) := by decide +kernel
theorem d_Md_readText_95 : decode b_Md_readText 95 = .ok (.goto (-63), 3) := by decide +kernel
theorem d_Md_readText_98 : decode b_Md_readText 98 = .ok (.aload_n 0, 1) := by decide +kernel
theorem d_Md_readText_99 : decode b_Md_readText 99 = .ok (.getfield 27, 3) := by decide +kernel
theorem d_Md_readText_102 : decode b_Md_readText 102 = .ok (.aload_n 0, 1) := by decide +kernel
theorem d_Md_readText_103 : decode b_Md_readText 103 = .ok (.getfield 284, 3) := by decide +kernel
theorem d_Md_readText_106 : decode b_Md_readText 106 = .ok (.aload_n 0, 1) := by decide +kernel
theorem d_Md_readText_107 : decode b_Md_readText 107 = .ok (.getfield 189, 3) := by decide +kernel
theorem d_Md_readText_110 : decode b_Md_readText 110 = .ok (.iastore, 1) := by decide +kernel
theorem d_Md_readText_111 : decode b_Md_readText 111 = .ok (.aload_n 0, 1) := by decide +kernel
theorem d_Md_readText_112 : decode b_Md_readText 112 = .ok (.getfield 126, 3) := by decide +kernel
theorem d_Md_readText_115 : decode b_Md_readText 115 = .ok (.ifCond .eq 8, 3) := by decide +kernel
theorem d_Md_readText_118 : decode b_Md_readText 118 = .ok (.aload_n 0, 1) := by decide +kernel
theorem d_Md_readText_119 : decode b_Md_readText 119 = .ok (.iconst 0, 1) := by decide +kernel
theorem d_Md_readText_120 : decode b_Md_readText 120 = .ok (.putfield 284, 3) := by decide +kernel
theorem d_Md_readText_123 : decode b_Md_readText 123 = .ok (.return_, 1) := by decide +kernel
theorem d_Md_reduce_0 : decode b_Md_reduce 0 = .ok (.aload_n 0, 1) := by decide +kernel
theorem d_Md_reduce_1 : decode b_Md_reduce 1 = .ok (.invokestatic 466, 3) := by decide +kernel
theorem d_Md_reduce_4 : decode b_Md_reduce 4 = .ok (.istore_n 2, 1) := by decide +kernel
theorem d_Md_reduce_5 : decode b_Md_reduce 5 = .ok (.aload_n 1, 1) := by decide +kernel
theorem d_Md_reduce_6 : decode b_Md_reduce 6 = .ok (.invokestatic 466, 3) := by decide +kernel
theorem d_Md_reduce_9 : decode b_Md_reduce 9 = .ok (.istore_n 3, 1) := by decide +kernel
theorem d_Md_reduce_10 : decode b_Md_reduce 10 = .ok (.aload_n 0, 1) := by decide +kernel
theorem d_Md_reduce_11 : decode b_Md_reduce 11 = .ok (.iload_n 2, 1) := by decide +kernel
theorem d_Md_reduce_12 : decode b_Md_reduce 12 = .ok (.laload, 1) := by decide +kernel
theorem d_Md_reduce_13 : decode b_Md_reduce 13 = .ok (.aload_n 1, 1) := by decide +kernel
theorem d_Md_reduce_14 : decode b_Md_reduce 14 = .ok (.iload_n 3, 1) := by decide +kernel
theorem d_Md_reduce_15 : decode b_Md_reduce 15 = .ok (.laload, 1) := by decide +kernel
theorem d_Md_reduce_16 : decode b_Md_reduce 16 = .ok (.invokestatic 470, 3) := by decide +kernel
theorem d_Md_reduce_19 : decode b_Md_reduce 19 = .ok (.lstore 4, 2) := by decide +kernel
theorem d_Md_reduce_21 : decode b_Md_reduce 21 = .ok (.aload_n 1, 1) := by decide +kernel
theorem d_Md_reduce_22 : decode b_Md_reduce 22 = .ok (.iload_n 3, 1) := by decide +kernel
theorem d_Md_reduce_23 : decode b_Md_reduce 23 = .ok (.laload, 1) := by decide +kernel
theorem d_Md_reduce_24 : decode b_Md_reduce 24 = .ok (.lload 4, 2) := by decide +kernel
theorem d_Md_reduce_26 : decode b_Md_reduce 26 = .ok (.ldiv, 1) := by decide +kernel
theorem d_Md_reduce_27 : decode b_Md_reduce 27 = .ok (.lstore 6, 2) := by decide +kernel
theorem d_Md_reduce_29 : decode b_Md_reduce 29 = .ok (.aload_n 0, 1) := by decide +kernel
theorem d_Md_reduce_30 : decode b_Md_reduce 30 = .ok (.iload_n 2, 1) := by decide +kernel
theorem d_Md_reduce_31 : decode b_Md_reduce 31 = .ok (.laload, 1) := by decide +kernel
theorem d_Md_reduce_32 : decode b_Md_reduce 32 = .ok (.lload 4, 2) := by decide +kernel
theorem d_Md_reduce_34 : decode b_Md_reduce 34 = .ok (.ldiv, 1) := by decide +kernel
theorem d_Md_reduce_35 : decode b_Md_reduce 35 = .ok (.lstore 8, 2) := by decide +kernel
theorem d_Md_reduce_37 : decode b_Md_reduce 37 = .ok (.iconst 0, 1) := by decide +kernel
theorem d_Md_reduce_38 : decode b_Md_reduce 38 = .ok (.istore 10, 2) := by decide +kernel
theorem d_Md_reduce_40 : decode b_Md_reduce 40 = .ok (.iload 10, 2) := by decide +kernel
theorem d_Md_reduce_42 : decode b_Md_reduce 42 = .ok (.bipush 16, 2) := by decide +kernel
theorem d_Md_reduce_44 : decode b_Md_reduce 44 = .ok (.if_icmp .ge 20, 3) := by decide +kernel
theorem d_Md_reduce_47 : decode b_Md_reduce 47 = .ok (.aload_n 0, 1) := by decide +kernel
theorem d_Md_reduce_48 : decode b_Md_reduce 48 = .ok (.iload 10, 2) := by decide +kernel
theorem d_Md_reduce_50 : decode b_Md_reduce 50 = .ok (.lload 6, 2) := by decide +kernel
theorem d_Md_reduce_52 : decode b_Md_reduce 52 = .ok (.aload_n 0, 1) := by decide +kernel
theorem d_Md_reduce_53 : decode b_Md_reduce 53 = .ok (.iload 10, 2) := by decide +kernel
theorem d_Md_reduce_55 : decode b_Md_reduce 55 = .ok (.laload, 1) := by decide +kernel
theorem d_Md_reduce_56 : decode b_Md_reduce 56 = .ok (.lmul, 1) := by decide +kernel
theorem d_Md_reduce_57 : decode b_Md_reduce 57 = .ok (.lastore, 1) := by decide +kernel
theorem d_Md_reduce_58 : decode b_Md_reduce 58 = .ok (.iinc 10 1, 3) := by decide +kernel
theorem d_Md_reduce_61 : decode b_Md_reduce 61 = .ok (.goto (-21), 3) := by decide +kernel
theorem d_Md_reduce_64 : decode b_Md_reduce 64 = .ok (.iconst 0, 1) := by decide +kernel
theorem d_Md_reduce_65 : decode b_Md_reduce 65 = .ok (.istore 10, 2) := by decide +kernel
theorem d_Md_reduce_67 : decode b_Md_reduce 67 = .ok (.iload 10, 2) := by decide +kernel
theorem d_Md_reduce_69 : decode b_Md_reduce 69 = .ok (.iload_n 3, 1) := by decide +kernel
theorem d_Md_reduce_70 : decode b_Md_reduce 70 = .ok (.if_icmp .gt 27, 3) := by decide +kernel
theorem d_Md_reduce_73 : decode b_Md_reduce 73 = .ok (.aload_n 0, 1) := by decide +kernel
theorem d_Md_reduce_74 : decode b_Md_reduce 74 = .ok (.iload 10, 2) := by decide +kernel
theorem d_Md_reduce_76 : decode b_Md_reduce 76 = .ok (.iload_n 2, 1) := by decide +kernel
theorem d_Md_reduce_77 : decode b_Md_reduce 77 = .ok (.iadd, 1) := by decide +kernel
theorem d_Md_reduce_78 : decode b_Md_reduce 78 = .ok (.iload_n 3, 1) := by decide +kernel
theorem d_Md_reduce_79 : decode b_Md_reduce 79 = .ok (.isub, 1) := by decide +kernel
theorem d_Md_reduce_80 : decode b_Md_reduce 80 = .ok (.dup2, 1) := by decide +kernel
theorem d_Md_reduce_81 : decode b_Md_reduce 81 = .ok (.laload, 1) := by decide +kernel
theorem d_Md_reduce_82 : decode b_Md_reduce 82 = .ok (.lload 8, 2) := by decide +kernel
