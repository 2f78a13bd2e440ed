theorem d_Rd_readSum_75 : decode b_Rd_readSum 75 = .ok (.iconst (-1), 1) := by decide +kernel
theorem d_Rd_readSum_76 : decode b_Rd_readSum 76 = .ok (.goto 4, 3) := by decide +kernel
theorem d_Rd_readSum_79 : decode b_Rd_readSum 79 = .ok (.iconst 1, 1) := by decide +kernel
theorem d_Rd_readSum_80 : decode b_Rd_readSum 80 = .ok (.istore_n 2, 1) := by decide +kernel
theorem d_Rd_readSum_81 : decode b_Rd_readSum 81 = .ok (.aload_n 0, 1) := by decide +kernel
theorem d_Rd_readSum_82 : decode b_Rd_readSum 82 = .ok (.invokevirtual 38, 3) := by decide +kernel
theorem d_Rd_readSum_85 : decode b_Rd_readSum 85 = .ok (.aload_n 0, 1) := by decide +kernel
theorem d_Rd_readSum_86 : decode b_Rd_readSum 86 = .ok (.iload_n 2, 1) := by decide +kernel
theorem d_Rd_readSum_87 : decode b_Rd_readSum 87 = .ok (.aload_n 1, 1) := by decide +kernel
theorem d_Rd_readSum_88 : decode b_Rd_readSum 88 = .ok (.invokevirtual 109, 3) := by decide +kernel
theorem d_Rd_readSum_91 : decode b_Rd_readSum 91 = .ok (.ifCond .ne 5, 3) := by decide +kernel
theorem d_Rd_readSum_94 : decode b_Rd_readSum 94 = .ok (.iconst 0, 1) := by decide +kernel
theorem d_Rd_readSum_95 : decode b_Rd_readSum 95 = .ok (.ireturn, 1) := by decide +kernel
theorem d_Rd_readSum_96 : decode b_Rd_readSum 96 = .ok (.iinc 3 1, 3) := by decide +kernel
theorem d_Rd_readSum_99 : decode b_Rd_readSum 99 = .ok (.goto (-58), 3) := by decide +kernel
theorem d_Rd_readSum_102 : decode b_Rd_readSum 102 = .ok (.iconst 1, 1) := by decide +kernel
theorem d_Rd_readSum_103 : decode b_Rd_readSum 103 = .ok (.ireturn, 1) := by decide +kernel
theorem d_Rd_readTerm_0 : decode b_Rd_readTerm 0 = .ok (.lconst 1, 1) := by decide +kernel
theorem d_Rd_readTerm_1 : decode b_Rd_readTerm 1 = .ok (.lstore_n 3, 1) := by decide +kernel
theorem d_Rd_readTerm_2 : decode b_Rd_readTerm 2 = .ok (.aload_n 0, 1) := by decide +kernel
theorem d_Rd_readTerm_3 : decode b_Rd_readTerm 3 = .ok (.getfield 41, 3) := by decide +kernel
theorem d_Rd_readTerm_6 : decode b_Rd_readTerm 6 = .ok (.iconst 3, 1) := by decide +kernel
theorem d_Rd_readTerm_7 : decode b_Rd_readTerm 7 = .ok (.if_icmp .ne 7, 3) := by decide +kernel
theorem d_Rd_readTerm_10 : decode b_Rd_readTerm 10 = .ok (.iconst 1, 1) := by decide +kernel
theorem d_Rd_readTerm_11 : decode b_Rd_readTerm 11 = .ok (.goto 4, 3) := by decide +kernel
theorem d_Rd_readTerm_14 : decode b_Rd_readTerm 14 = .ok (.iconst 0, 1) := by decide +kernel
theorem d_Rd_readTerm_15 : decode b_Rd_readTerm 15 = .ok (.istore 5, 2) := by decide +kernel
theorem d_Rd_readTerm_17 : decode b_Rd_readTerm 17 = .ok (.iload 5, 2) := by decide +kernel
theorem d_Rd_readTerm_19 : decode b_Rd_readTerm 19 = .ok (.ifCond .eq 25, 3) := by decide +kernel
theorem d_Rd_readTerm_22 : decode b_Rd_readTerm 22 = .ok (.aload_n 0, 1) := by decide +kernel
theorem d_Rd_readTerm_23 : decode b_Rd_readTerm 23 = .ok (.getfield 113, 3) := by decide +kernel
theorem d_Rd_readTerm_26 : decode b_Rd_readTerm 26 = .ok (.ifCond .eq 9, 3) := by decide +kernel
theorem d_Rd_readTerm_29 : decode b_Rd_readTerm 29 = .ok (.aload_n 0, 1) := by decide +kernel
theorem d_Rd_readTerm_30 : decode b_Rd_readTerm 30 = .ok (.iconst 2, 1) := by decide +kernel
theorem d_Rd_readTerm_31 : decode b_Rd_readTerm 31 = .ok (.invokevirtual 51, 3) := by decide +kernel
theorem d_Rd_readTerm_34 : decode b_Rd_readTerm 34 = .ok (.ireturn, 1) := by decide +kernel
theorem d_Rd_readTerm_35 : decode b_Rd_readTerm 35 = .ok (.aload_n 0, 1) := by decide +kernel
theorem d_Rd_readTerm_36 : decode b_Rd_readTerm 36 = .ok (.getfield 117, 3) := by decide +kernel
theorem d_Rd_readTerm_39 : decode b_Rd_readTerm 39 = .ok (.lstore_n 3, 1) := by decide +kernel
theorem d_Rd_readTerm_40 : decode b_Rd_readTerm 40 = .ok (.aload_n 0, 1) := by decide +kernel
theorem d_Rd_readTerm_41 : decode b_Rd_readTerm 41 = .ok (.invokevirtual 38, 3) := by decide +kernel
theorem d_Rd_readTerm_44 : decode b_Rd_readTerm 44 = .ok (.aload_n 0, 1) := by decide +kernel
theorem d_Rd_readTerm_45 : decode b_Rd_readTerm 45 = .ok (.getfield 18, 3) := by decide +kernel
theorem d_Rd_readTerm_48 : decode b_Rd_readTerm 48 = .ok (.iload_n 1, 1) := by decide +kernel
theorem d_Rd_readTerm_49 : decode b_Rd_readTerm 49 = .ok (.i2l, 1) := by decide +kernel
theorem d_Rd_readTerm_50 : decode b_Rd_readTerm 50 = .ok (.lload_n 3, 1) := by decide +kernel
theorem d_Rd_readTerm_51 : decode b_Rd_readTerm 51 = .ok (.lmul, 1) := by decide +kernel
theorem d_Rd_readTerm_52 : decode b_Rd_readTerm 52 = .ok (.invokevirtual 98, 3) := by decide +kernel
theorem d_Rd_readTerm_55 : decode b_Rd_readTerm 55 = .ok (.aload_n 0, 1) := by decide +kernel
theorem d_Rd_readTerm_56 : decode b_Rd_readTerm 56 = .ok (.aload_n 2, 1) := by decide +kernel
theorem d_Rd_readTerm_57 : decode b_Rd_readTerm 57 = .ok (.invokevirtual 95, 3) := by decide +kernel
theorem d_Rd_readTerm_60 : decode b_Rd_readTerm 60 = .ok (.ifCond .ne 30, 3) := by decide +kernel
theorem d_Rd_readTerm_63 : decode b_Rd_readTerm 63 = .ok (.aload_n 0, 1) := by decide +kernel
theorem d_Rd_readTerm_64 : decode b_Rd_readTerm 64 = .ok (.getfield 18, 3) := by decide +kernel
theorem d_Rd_readTerm_67 : decode b_Rd_readTerm 67 = .ok (.lconst 0, 1) := by decide +kernel
theorem d_Rd_readTerm_68 : decode b_Rd_readTerm 68 = .ok (.invokevirtual 98, 3) := by decide +kernel
theorem d_Rd_readTerm_71 : decode b_Rd_readTerm 71 = .ok (.iload 5, 2) := by decide +kernel
theorem d_Rd_readTerm_73 : decode b_Rd_readTerm 73 = .ok (.ifCond .ne 11, 3) := by decide +kernel
theorem d_Rd_readTerm_76 : decode b_Rd_readTerm 76 = .ok (.aload_n 0, 1) := by decide +kernel
theorem d_Rd_readTerm_77 : decode b_Rd_readTerm 77 = .ok (.iconst 4, 1) := by decide +kernel
theorem d_Rd_readTerm_78 : decode b_Rd_readTerm 78 = .ok (.invokevirtual 51, 3) := by decide +kernel
theorem d_Rd_readTerm_81 : decode b_Rd_readTerm 81 = .ok (.ifCond .eq 7, 3) := by decide +kernel
theorem d_Rd_readTerm_84 : decode b_Rd_readTerm 84 = .ok (.iconst 1, 1) := by decide +kernel
theorem d_Rd_readTerm_85 : decode b_Rd_readTerm 85 = .ok (.goto 4, 3) := by decide +kernel
theorem d_Rd_readTerm_88 : decode b_Rd_readTerm 88 = .ok (.iconst 0, 1) := by decide +kernel
theorem d_Rd_readTerm_89 : decode b_Rd_readTerm 89 = .ok (.ireturn, 1) := by decide +kernel
theorem d_Rd_readTerm_90 : decode b_Rd_readTerm 90 = .ok (.aload_n 0, 1) := by decide +kernel
theorem d_Rd_readTerm_91 : decode b_Rd_readTerm 91 = .ok (.invokevirtual 38, 3) := by decide +kernel
theorem d_Rd_readTerm_94 : decode b_Rd_readTerm 94 = .ok (.aload_n 0, 1) := by decide +kernel
theorem d_Rd_readTerm_95 : decode b_Rd_readTerm 95 = .ok (.bipush 94, 2) := by decide +kernel
theorem d_Rd_readTerm_97 : decode b_Rd_readTerm 97 = .ok (.invokevirtual 106, 3) := by decide +kernel
theorem d_Rd_readTerm_100 : decode b_Rd_readTerm 100 = .ok (.ifCond .ne 13, 3) := by decide +kernel
theorem d_Rd_readTerm_103 : decode b_Rd_readTerm 103 = .ok (.aload_n 0, 1) := by decide +kernel
theorem d_Rd_readTerm_104 : decode b_Rd_readTerm 104 = .ok (.getfield 18, 3) := by decide +kernel
theorem d_Rd_readTerm_107 : decode b_Rd_readTerm 107 = .ok (.lconst 1, 1) := by decide +kernel
theorem d_Rd_readTerm_108 : decode b_Rd_readTerm 108 = .ok (.invokevirtual 98, 3) := by decide +kernel
theorem d_Rd_readTerm_111 : decode b_Rd_readTerm 111 = .ok (.iconst 1, 1) := by decide +kernel
theorem d_Rd_readTerm_112 : decode b_Rd_readTerm 112 = .ok (.ireturn, 1) := by decide +kernel
theorem d_Rd_readTerm_113 : decode b_Rd_readTerm 113 = .ok (.aload_n 0, 1) := by decide +kernel
theorem d_Rd_readTerm_114 : decode b_Rd_readTerm 114 = .ok (.invokevirtual 38, 3) := by decide +kernel
theorem d_Rd_readTerm_117 : decode b_Rd_readTerm 117 = .ok (.aload_n 0, 1) := by decide +kernel
theorem d_Rd_readTerm_118 : decode b_Rd_readTerm 118 = .ok (.iconst 1, 1) := by decide +kernel
theorem d_Rd_readTerm_119 : decode b_Rd_readTerm 119 = .ok (.invokevirtual 66, 3) := by decide +kernel
theorem d_Rd_readTerm_122 : decode b_Rd_readTerm 122 = .ok (.ireturn, 1) := by decide +kernel
theorem d_Rd_refuse_0 : decode b_Rd_refuse 0 = .ok (.aload_n 0, 1) := by decide +kernel
theorem d_Rd_refuse_1 : decode b_Rd_refuse 1 = .ok (.aload_n 0, 1) := by decide +kernel
theorem d_Rd_refuse_2 : decode b_Rd_refuse 2 = .ok (.getfield 44, 3) := by decide +kernel
theorem d_Rd_refuse_5 : decode b_Rd_refuse 5 = .ok (.putfield 22, 3) := by decide +kernel
theorem d_Rd_refuse_8 : decode b_Rd_refuse 8 = .ok (.aload_n 0, 1) := by decide +kernel
theorem d_Rd_refuse_9 : decode b_Rd_refuse 9 = .ok (.getfield 41, 3) := by decide +kernel
theorem d_Rd_refuse_12 : decode b_Rd_refuse 12 = .ok (.iconst 1, 1) := by decide +kernel
theorem d_Rd_refuse_13 : decode b_Rd_refuse 13 = .ok (.if_icmp .ne 11, 3) := by decide +kernel
theorem d_Rd_refuse_16 : decode b_Rd_refuse 16 = .ok (.aload_n 0, 1) := by decide +kernel
theorem d_Rd_refuse_17 : decode b_Rd_refuse 17 = .ok (.iconst 1, 1) := by decide +kernel
theorem d_Rd_refuse_18 : decode b_Rd_refuse 18 = .ok (.putfield 32, 3) := by decide +kernel
theorem d_Rd_refuse_21 : decode b_Rd_refuse 21 = .ok (.goto 42, 3) := by decide +kernel
theorem d_Rd_refuse_24 : decode b_Rd_refuse 24 = .ok (.aload_n 0, 1) := by decide +kernel
theorem d_Rd_refuse_25 : decode b_Rd_refuse 25 = .ok (.getfield 41, 3) := by decide +kernel
theorem d_Rd_refuse_28 : decode b_Rd_refuse 28 = .ok (.iconst 3, 1) := by decide +kernel
theorem d_Rd_refuse_29 : decode b_Rd_refuse 29 = .ok (.if_icmp .ne 29, 3) := by decide +kernel
theorem d_Rd_refuse_32 : decode b_Rd_refuse 32 = .ok (.aload_n 0, 1) := by decide +kernel
theorem d_Rd_refuse_33 : decode b_Rd_refuse 33 = .ok (.getfield 113, 3) := by decide +kernel
theorem d_Rd_refuse_36 : decode b_Rd_refuse 36 = .ok (.ifCond .ne 14, 3) := by decide +kernel
theorem d_Rd_refuse_39 : decode b_Rd_refuse 39 = .ok (.aload_n 0, 1) := by decide +kernel
theorem d_Rd_refuse_40 : decode b_Rd_refuse 40 = .ok (.getfield 117, 3) := by decide +kernel
theorem d_Rd_refuse_43 : decode b_Rd_refuse 43 = .ok (.ldc2_w 121, 3) := by decide +kernel
theorem d_Rd_refuse_46 : decode b_Rd_refuse 46 = .ok (.lcmp, 1) := by decide +kernel
theorem d_Rd_refuse_47 : decode b_Rd_refuse 47 = .ok (.ifCond .le 11, 3) := by decide +kernel
theorem d_Rd_refuse_50 : decode b_Rd_refuse 50 = .ok (.aload_n 0, 1) := by decide +kernel
theorem d_Rd_refuse_51 : decode b_Rd_refuse 51 = .ok (.iconst 2, 1) := by decide +kernel
theorem d_Rd_refuse_52 : decode b_Rd_refuse 52 = .ok (.putfield 32, 3) := by decide +kernel
theorem d_Rd_refuse_55 : decode b_Rd_refuse 55 = .ok (.goto 8, 3) := by decide +kernel
theorem d_Rd_refuse_58 : decode b_Rd_refuse 58 = .ok (.aload_n 0, 1) := by decide +kernel
theorem d_Rd_refuse_59 : decode b_Rd_refuse 59 = .ok (.iload_n 1, 1) := by decide +kernel
theorem d_Rd_refuse_60 : decode b_Rd_refuse 60 = .ok (.putfield 32, 3) := by decide +kernel
theorem d_Rd_refuse_63 : decode b_Rd_refuse 63 = .ok (.iconst 0, 1) := by decide +kernel
theorem d_Rd_refuse_64 : decode b_Rd_refuse 64 = .ok (.ireturn, 1) := by decide +kernel
theorem d_Rd_skipIdle_0 : decode b_Rd_skipIdle 0 = .ok (.aload_n 0, 1) := by decide +kernel
theorem d_Rd_skipIdle_1 : decode b_Rd_skipIdle 1 = .ok (.getfield 29, 3) := by decide +kernel
theorem d_Rd_skipIdle_4 : decode b_Rd_skipIdle 4 = .ok (.aload_n 0, 1) := by decide +kernel
theorem d_Rd_skipIdle_5 : decode b_Rd_skipIdle 5 = .ok (.getfield 26, 3) := by decide +kernel
theorem d_Rd_skipIdle_8 : decode b_Rd_skipIdle 8 = .ok (.if_icmp .ge 30, 3) := by decide +kernel
theorem d_Rd_skipIdle_11 : decode b_Rd_skipIdle 11 = .ok (.aload_n 0, 1) := by decide +kernel
theorem d_Rd_skipIdle_12 : decode b_Rd_skipIdle 12 = .ok (.getfield 9, 3) := by decide +kernel
theorem d_Rd_skipIdle_15 : decode b_Rd_skipIdle 15 = .ok (.aload_n 0, 1) := by decide +kernel
theorem d_Rd_skipIdle_16 : decode b_Rd_skipIdle 16 = .ok (.getfield 29, 3) := by decide +kernel
theorem d_Rd_skipIdle_19 : decode b_Rd_skipIdle 19 = .ok (.iaload, 1) := by decide +kernel
theorem d_Rd_skipIdle_20 : decode b_Rd_skipIdle 20 = .ok (.bipush 32, 2) := by decide +kernel
theorem d_Rd_skipIdle_22 : decode b_Rd_skipIdle 22 = .ok (.if_icmp .ne 16, 3) := by decide +kernel
theorem d_Rd_skipIdle_25 : decode b_Rd_skipIdle 25 = .ok (.aload_n 0, 1) := by decide +kernel
theorem d_Rd_skipIdle_26 : decode b_Rd_skipIdle 26 = .ok (.dup, 1) := by decide +kernel
theorem d_Rd_skipIdle_27 : decode b_Rd_skipIdle 27 = .ok (.getfield 29, 3) := by decide +kernel
theorem d_Rd_skipIdle_30 : decode b_Rd_skipIdle 30 = .ok (.iconst 1, 1) := by decide +kernel
theorem d_Rd_skipIdle_31 : decode b_Rd_skipIdle 31 = .ok (.iadd, 1) := by decide +kernel
theorem d_Rd_skipIdle_32 : decode b_Rd_skipIdle 32 = .ok (.putfield 29, 3) := by decide +kernel
theorem d_Rd_skipIdle_35 : decode b_Rd_skipIdle 35 = .ok (.goto (-35), 3) := by decide +kernel
theorem d_Rd_skipIdle_38 : decode b_Rd_skipIdle 38 = .ok (.aload_n 0, 1) := by decide +kernel
theorem d_Rd_skipIdle_39 : decode b_Rd_skipIdle 39 = .ok (.getfield 29, 3) := by decide +kernel
theorem d_Rd_skipIdle_42 : decode b_Rd_skipIdle 42 = .ok (.aload_n 0, 1) := by decide +kernel
theorem d_Rd_skipIdle_43 : decode b_Rd_skipIdle 43 = .ok (.getfield 26, 3) := by decide +kernel
theorem d_Rd_skipIdle_46 : decode b_Rd_skipIdle 46 = .ok (.if_icmp .ge 69, 3) := by decide +kernel
theorem d_Rd_skipIdle_49 : decode b_Rd_skipIdle 49 = .ok (.aload_n 0, 1) := by decide +kernel
theorem d_Rd_skipIdle_50 : decode b_Rd_skipIdle 50 = .ok (.getfield 9, 3) := by decide +kernel
theorem d_Rd_skipIdle_53 : decode b_Rd_skipIdle 53 = .ok (.aload_n 0, 1) := by decide +kernel
theorem d_Rd_skipIdle_54 : decode b_Rd_skipIdle 54 = .ok (.getfield 29, 3) := by decide +kernel
theorem d_Rd_skipIdle_57 : decode b_Rd_skipIdle 57 = .ok (.iaload, 1) := by decide +kernel
theorem d_Rd_skipIdle_58 : decode b_Rd_skipIdle 58 = .ok (.bipush 35, 2) := by decide +kernel
theorem d_Rd_skipIdle_60 : decode b_Rd_skipIdle 60 = .ok (.if_icmp .ne 55, 3) := by decide +kernel
theorem d_Rd_skipIdle_63 : decode b_Rd_skipIdle 63 = .ok (.aload_n 0, 1) := by decide +kernel
theorem d_Rd_skipIdle_64 : decode b_Rd_skipIdle 64 = .ok (.getfield 29, 3) := by decide +kernel
theorem d_Rd_skipIdle_67 : decode b_Rd_skipIdle 67 = .ok (.aload_n 0, 1) := by decide +kernel
theorem d_Rd_skipIdle_68 : decode b_Rd_skipIdle 68 = .ok (.getfield 26, 3) := by decide +kernel
theorem d_Rd_skipIdle_71 : decode b_Rd_skipIdle 71 = .ok (.if_icmp .ge 44, 3) := by decide +kernel
theorem d_Rd_skipIdle_74 : decode b_Rd_skipIdle 74 = .ok (.aload_n 0, 1) := by decide +kernel
theorem d_Rd_skipIdle_75 : decode b_Rd_skipIdle 75 = .ok (.getfield 9, 3) := by decide +kernel
theorem d_Rd_skipIdle_78 : decode b_Rd_skipIdle 78 = .ok (.aload_n 0, 1) := by decide +kernel
theorem d_Rd_skipIdle_79 : decode b_Rd_skipIdle 79 = .ok (.getfield 29, 3) := by decide +kernel
theorem d_Rd_skipIdle_82 : decode b_Rd_skipIdle 82 = .ok (.iaload, 1) := by decide +kernel
theorem d_Rd_skipIdle_83 : decode b_Rd_skipIdle 83 = .ok (.bipush 32, 2) := by decide +kernel
theorem d_Rd_skipIdle_85 : decode b_Rd_skipIdle 85 = .ok (.if_icmp .lt 30, 3) := by decide +kernel
theorem d_Rd_skipIdle_88 : decode b_Rd_skipIdle 88 = .ok (.aload_n 0, 1) := by decide +kernel
theorem d_Rd_skipIdle_89 : decode b_Rd_skipIdle 89 = .ok (.getfield 9, 3) := by decide +kernel
theorem d_Rd_skipIdle_92 : decode b_Rd_skipIdle 92 = .ok (.aload_n 0, 1) := by decide +kernel
theorem d_Rd_skipIdle_93 : decode b_Rd_skipIdle 93 = .ok (.getfield 29, 3) := by decide +kernel
theorem d_Rd_skipIdle_96 : decode b_Rd_skipIdle 96 = .ok (.iaload, 1) := by decide +kernel
theorem d_Rd_skipIdle_97 : decode b_Rd_skipIdle 97 = .ok (.bipush 126, 2) := by decide +kernel
theorem d_Rd_skipIdle_99 : decode b_Rd_skipIdle 99 = .ok (.if_icmp .gt 16, 3) := by decide +kernel
theorem d_Rd_skipIdle_102 : decode b_Rd_skipIdle 102 = .ok (.aload_n 0, 1) := by decide +kernel
theorem d_Rd_skipIdle_103 : decode b_Rd_skipIdle 103 = .ok (.dup, 1) := by decide +kernel
theorem d_Rd_skipIdle_104 : decode b_Rd_skipIdle 104 = .ok (.getfield 29, 3) := by decide +kernel
theorem d_Rd_skipIdle_107 : decode b_Rd_skipIdle 107 = .ok (.iconst 1, 1) := by decide +kernel
theorem d_Rd_skipIdle_108 : decode b_Rd_skipIdle 108 = .ok (.iadd, 1) := by decide +kernel
theorem d_Rd_skipIdle_109 : decode b_Rd_skipIdle 109 = .ok (.putfield 29, 3) := by decide +kernel
theorem d_Rd_skipIdle_112 : decode b_Rd_skipIdle 112 = .ok (.goto (-49), 3) := by decide +kernel
theorem d_Rd_skipIdle_115 : decode b_Rd_skipIdle 115 = .ok (.return_, 1) := by decide +kernel
theorem d_Rd_takeDigits_0 : decode b_Rd_takeDigits 0 = .ok (.aload_n 0, 1) := by decide +kernel
theorem d_Rd_takeDigits_1 : decode b_Rd_takeDigits 1 = .ok (.iload_n 1, 1) := by decide +kernel
theorem d_Rd_takeDigits_2 : decode b_Rd_takeDigits 2 = .ok (.i2l, 1) := by decide +kernel
theorem d_Rd_takeDigits_3 : decode b_Rd_takeDigits 3 = .ok (.putfield 117, 3) := by decide +kernel
theorem d_Rd_takeDigits_6 : decode b_Rd_takeDigits 6 = .ok (.aload_n 0, 1) := by decide +kernel
theorem d_Rd_takeDigits_7 : decode b_Rd_takeDigits 7 = .ok (.getfield 29, 3) := by decide +kernel
theorem d_Rd_takeDigits_10 : decode b_Rd_takeDigits 10 = .ok (.aload_n 0, 1) := by decide +kernel
theorem d_Rd_takeDigits_11 : decode b_Rd_takeDigits 11 = .ok (.getfield 26, 3) := by decide +kernel
theorem d_Rd_takeDigits_14 : decode b_Rd_takeDigits 14 = .ok (.if_icmp .ge 84, 3) := by decide +kernel
theorem d_Rd_takeDigits_17 : decode b_Rd_takeDigits 17 = .ok (.aload_n 0, 1) := by decide +kernel
theorem d_Rd_takeDigits_18 : decode b_Rd_takeDigits 18 = .ok (.getfield 9, 3) := by decide +kernel
theorem d_Rd_takeDigits_21 : decode b_Rd_takeDigits 21 = .ok (.aload_n 0, 1) := by decide +kernel
theorem d_Rd_takeDigits_22 : decode b_Rd_takeDigits 22 = .ok (.getfield 29, 3) := by decide +kernel
theorem d_Rd_takeDigits_25 : decode b_Rd_takeDigits 25 = .ok (.iaload, 1) := by decide +kernel
theorem d_Rd_takeDigits_26 : decode b_Rd_takeDigits 26 = .ok (.bipush 48, 2) := by decide +kernel
theorem d_Rd_takeDigits_28 : decode b_Rd_takeDigits 28 = .ok (.if_icmp .lt 70, 3) := by decide +kernel
theorem d_Rd_takeDigits_31 : decode b_Rd_takeDigits 31 = .ok (.aload_n 0, 1) := by decide +kernel
theorem d_Rd_takeDigits_32 : decode b_Rd_takeDigits 32 = .ok (.getfield 9, 3) := by decide +kernel
theorem d_Rd_takeDigits_35 : decode b_Rd_takeDigits 35 = .ok (.aload_n 0, 1) := by decide +kernel
theorem d_Rd_takeDigits_36 : decode b_Rd_takeDigits 36 = .ok (.getfield 29, 3) := by decide +kernel
theorem d_Rd_takeDigits_39 : decode b_Rd_takeDigits 39 = .ok (.iaload, 1) := by decide +kernel
theorem d_Rd_takeDigits_40 : decode b_Rd_takeDigits 40 = .ok (.bipush 57, 2) := by decide +kernel
theorem d_Rd_takeDigits_42 : decode b_Rd_takeDigits 42 = .ok (.if_icmp .gt 56, 3) := by decide +kernel
theorem d_Rd_takeDigits_45 : decode b_Rd_takeDigits 45 = .ok (.aload_n 0, 1) := by decide +kernel
theorem d_Rd_takeDigits_46 : decode b_Rd_takeDigits 46 = .ok (.getfield 29, 3) := by decide +kernel
