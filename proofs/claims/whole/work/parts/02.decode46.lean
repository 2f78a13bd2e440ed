theorem d_Md_isNone_24 : decode b_Md_isNone 24 = .ok (.iload_n 3, 1) := by decide +kernel
theorem d_Md_isNone_25 : decode b_Md_isNone 25 = .ok (.iadd, 1) := by decide +kernel
theorem d_Md_isNone_26 : decode b_Md_isNone 26 = .ok (.iaload, 1) := by decide +kernel
theorem d_Md_isNone_27 : decode b_Md_isNone 27 = .ok (.iload_n 3, 1) := by decide +kernel
theorem d_Md_isNone_28 : decode b_Md_isNone 28 = .ok (.if_icmp .ne 7, 3) := by decide +kernel
theorem d_Md_isNone_31 : decode b_Md_isNone 31 = .ok (.iconst 1, 1) := by decide +kernel
theorem d_Md_isNone_32 : decode b_Md_isNone 32 = .ok (.goto 4, 3) := by decide +kernel
theorem d_Md_isNone_35 : decode b_Md_isNone 35 = .ok (.iconst 0, 1) := by decide +kernel
theorem d_Md_isNone_36 : decode b_Md_isNone 36 = .ok (.istore_n 2, 1) := by decide +kernel
theorem d_Md_isNone_37 : decode b_Md_isNone 37 = .ok (.iinc 3 1, 3) := by decide +kernel
theorem d_Md_isNone_40 : decode b_Md_isNone 40 = .ok (.goto (-36), 3) := by decide +kernel
theorem d_Md_isNone_43 : decode b_Md_isNone 43 = .ok (.iload_n 2, 1) := by decide +kernel
theorem d_Md_isNone_44 : decode b_Md_isNone 44 = .ok (.ireturn, 1) := by decide +kernel
theorem d_Md_isPlusOrMinus_0 : decode b_Md_isPlusOrMinus 0 = .ok (.aload_n 0, 1) := by decide +kernel
theorem d_Md_isPlusOrMinus_1 : decode b_Md_isPlusOrMinus 1 = .ok (.bipush 43, 2) := by decide +kernel
theorem d_Md_isPlusOrMinus_3 : decode b_Md_isPlusOrMinus 3 = .ok (.invokevirtual 176, 3) := by decide +kernel
theorem d_Md_isPlusOrMinus_6 : decode b_Md_isPlusOrMinus 6 = .ok (.ifCond .ne 12, 3) := by decide +kernel
theorem d_Md_isPlusOrMinus_9 : decode b_Md_isPlusOrMinus 9 = .ok (.aload_n 0, 1) := by decide +kernel
theorem d_Md_isPlusOrMinus_10 : decode b_Md_isPlusOrMinus 10 = .ok (.bipush 45, 2) := by decide +kernel
theorem d_Md_isPlusOrMinus_12 : decode b_Md_isPlusOrMinus 12 = .ok (.invokevirtual 176, 3) := by decide +kernel
theorem d_Md_isPlusOrMinus_15 : decode b_Md_isPlusOrMinus 15 = .ok (.ifCond .eq 7, 3) := by decide +kernel
theorem d_Md_isPlusOrMinus_18 : decode b_Md_isPlusOrMinus 18 = .ok (.iconst 1, 1) := by decide +kernel
theorem d_Md_isPlusOrMinus_19 : decode b_Md_isPlusOrMinus 19 = .ok (.goto 4, 3) := by decide +kernel
theorem d_Md_isPlusOrMinus_22 : decode b_Md_isPlusOrMinus 22 = .ok (.iconst 0, 1) := by decide +kernel
theorem d_Md_isPlusOrMinus_23 : decode b_Md_isPlusOrMinus 23 = .ok (.ireturn, 1) := by decide +kernel
theorem d_Md_isPoly_0 : decode b_Md_isPoly 0 = .ok (.iconst 1, 1) := by decide +kernel
theorem d_Md_isPoly_1 : decode b_Md_isPoly 1 = .ok (.istore_n 1, 1) := by decide +kernel
theorem d_Md_isPoly_2 : decode b_Md_isPoly 2 = .ok (.iconst 0, 1) := by decide +kernel
theorem d_Md_isPoly_3 : decode b_Md_isPoly 3 = .ok (.istore_n 2, 1) := by decide +kernel
theorem d_Md_isPoly_4 : decode b_Md_isPoly 4 = .ok (.iload_n 2, 1) := by decide +kernel
theorem d_Md_isPoly_5 : decode b_Md_isPoly 5 = .ok (.aload_n 0, 1) := by decide +kernel
theorem d_Md_isPoly_6 : decode b_Md_isPoly 6 = .ok (.invokevirtual 545, 3) := by decide +kernel
theorem d_Md_isPoly_9 : decode b_Md_isPoly 9 = .ok (.if_icmp .ge 27, 3) := by decide +kernel
theorem d_Md_isPoly_12 : decode b_Md_isPoly 12 = .ok (.iload_n 1, 1) := by decide +kernel
theorem d_Md_isPoly_13 : decode b_Md_isPoly 13 = .ok (.ifCond .eq 15, 3) := by decide +kernel
theorem d_Md_isPoly_16 : decode b_Md_isPoly 16 = .ok (.aload_n 0, 1) := by decide +kernel
theorem d_Md_isPoly_17 : decode b_Md_isPoly 17 = .ok (.iload_n 2, 1) := by decide +kernel
theorem d_Md_isPoly_18 : decode b_Md_isPoly 18 = .ok (.invokevirtual 606, 3) := by decide +kernel
theorem d_Md_isPoly_21 : decode b_Md_isPoly 21 = .ok (.ifCond .eq 7, 3) := by decide +kernel
theorem d_Md_isPoly_24 : decode b_Md_isPoly 24 = .ok (.iconst 1, 1) := by decide +kernel
theorem d_Md_isPoly_25 : decode b_Md_isPoly 25 = .ok (.goto 4, 3) := by decide +kernel
theorem d_Md_isPoly_28 : decode b_Md_isPoly 28 = .ok (.iconst 0, 1) := by decide +kernel
theorem d_Md_isPoly_29 : decode b_Md_isPoly 29 = .ok (.istore_n 1, 1) := by decide +kernel
theorem d_Md_isPoly_30 : decode b_Md_isPoly 30 = .ok (.iinc 2 2, 3) := by decide +kernel
theorem d_Md_isPoly_33 : decode b_Md_isPoly 33 = .ok (.goto (-29), 3) := by decide +kernel
theorem d_Md_isPoly_36 : decode b_Md_isPoly 36 = .ok (.bipush (-100), 2) := by decide +kernel
theorem d_Md_isPoly_38 : decode b_Md_isPoly 38 = .ok (.istore_n 2, 1) := by decide +kernel
theorem d_Md_isPoly_39 : decode b_Md_isPoly 39 = .ok (.iload_n 2, 1) := by decide +kernel
theorem d_Md_isPoly_40 : decode b_Md_isPoly 40 = .ok (.bipush 100, 2) := by decide +kernel
theorem d_Md_isPoly_42 : decode b_Md_isPoly 42 = .ok (.if_icmp .gt 88, 3) := by decide +kernel
theorem d_Md_isPoly_45 : decode b_Md_isPoly 45 = .ok (.iload_n 1, 1) := by decide +kernel
theorem d_Md_isPoly_46 : decode b_Md_isPoly 46 = .ok (.ifCond .eq 84, 3) := by decide +kernel
theorem d_Md_isPoly_49 : decode b_Md_isPoly 49 = .ok (.aload_n 0, 1) := by decide +kernel
theorem d_Md_isPoly_50 : decode b_Md_isPoly 50 = .ok (.getfield 96, 3) := by decide +kernel
theorem d_Md_isPoly_53 : decode b_Md_isPoly 53 = .ok (.bipush 100, 2) := by decide +kernel
theorem d_Md_isPoly_55 : decode b_Md_isPoly 55 = .ok (.iload_n 2, 1) := by decide +kernel
theorem d_Md_isPoly_56 : decode b_Md_isPoly 56 = .ok (.iadd, 1) := by decide +kernel
theorem d_Md_isPoly_57 : decode b_Md_isPoly 57 = .ok (.laload, 1) := by decide +kernel
theorem d_Md_isPoly_58 : decode b_Md_isPoly 58 = .ok (.lconst 0, 1) := by decide +kernel
theorem d_Md_isPoly_59 : decode b_Md_isPoly 59 = .ok (.lcmp, 1) := by decide +kernel
theorem d_Md_isPoly_60 : decode b_Md_isPoly 60 = .ok (.ifCond .ne 7, 3) := by decide +kernel
theorem d_Md_isPoly_63 : decode b_Md_isPoly 63 = .ok (.iconst 1, 1) := by decide +kernel
theorem d_Md_isPoly_64 : decode b_Md_isPoly 64 = .ok (.goto 4, 3) := by decide +kernel
theorem d_Md_isPoly_67 : decode b_Md_isPoly 67 = .ok (.iconst 0, 1) := by decide +kernel
theorem d_Md_isPoly_68 : decode b_Md_isPoly 68 = .ok (.istore_n 3, 1) := by decide +kernel
theorem d_Md_isPoly_69 : decode b_Md_isPoly 69 = .ok (.iconst 0, 1) := by decide +kernel
theorem d_Md_isPoly_70 : decode b_Md_isPoly 70 = .ok (.istore 4, 2) := by decide +kernel
theorem d_Md_isPoly_72 : decode b_Md_isPoly 72 = .ok (.iload 4, 2) := by decide +kernel
theorem d_Md_isPoly_74 : decode b_Md_isPoly 74 = .ok (.aload_n 0, 1) := by decide +kernel
theorem d_Md_isPoly_75 : decode b_Md_isPoly 75 = .ok (.invokevirtual 545, 3) := by decide +kernel
theorem d_Md_isPoly_78 : decode b_Md_isPoly 78 = .ok (.if_icmp .ge 44, 3) := by decide +kernel
theorem d_Md_isPoly_81 : decode b_Md_isPoly 81 = .ok (.iload_n 3, 1) := by decide +kernel
theorem d_Md_isPoly_82 : decode b_Md_isPoly 82 = .ok (.ifCond .ne 28, 3) := by decide +kernel
theorem d_Md_isPoly_85 : decode b_Md_isPoly 85 = .ok (.aload_n 0, 1) := by decide +kernel
theorem d_Md_isPoly_86 : decode b_Md_isPoly 86 = .ok (.getfield 30, 3) := by decide +kernel
theorem d_Md_isPoly_89 : decode b_Md_isPoly 89 = .ok (.aload_n 0, 1) := by decide +kernel
theorem d_Md_isPoly_90 : decode b_Md_isPoly 90 = .ok (.getfield 27, 3) := by decide +kernel
theorem d_Md_isPoly_93 : decode b_Md_isPoly 93 = .ok (.aload_n 0, 1) := by decide +kernel
theorem d_Md_isPoly_94 : decode b_Md_isPoly 94 = .ok (.getfield 290, 3) := by decide +kernel
theorem d_Md_isPoly_97 : decode b_Md_isPoly 97 = .ok (.iaload, 1) := by decide +kernel
theorem d_Md_isPoly_98 : decode b_Md_isPoly 98 = .ok (.iload 4, 2) := by decide +kernel
theorem d_Md_isPoly_100 : decode b_Md_isPoly 100 = .ok (.iadd, 1) := by decide +kernel
theorem d_Md_isPoly_101 : decode b_Md_isPoly 101 = .ok (.iconst 1, 1) := by decide +kernel
theorem d_Md_isPoly_102 : decode b_Md_isPoly 102 = .ok (.iadd, 1) := by decide +kernel
theorem d_Md_isPoly_103 : decode b_Md_isPoly 103 = .ok (.laload, 1) := by decide +kernel
theorem d_Md_isPoly_104 : decode b_Md_isPoly 104 = .ok (.iload_n 2, 1) := by decide +kernel
theorem d_Md_isPoly_105 : decode b_Md_isPoly 105 = .ok (.i2l, 1) := by decide +kernel
theorem d_Md_isPoly_106 : decode b_Md_isPoly 106 = .ok (.lcmp, 1) := by decide +kernel
theorem d_Md_isPoly_107 : decode b_Md_isPoly 107 = .ok (.ifCond .ne 7, 3) := by decide +kernel
theorem d_Md_isPoly_110 : decode b_Md_isPoly 110 = .ok (.iconst 1, 1) := by decide +kernel
theorem d_Md_isPoly_111 : decode b_Md_isPoly 111 = .ok (.goto 4, 3) := by decide +kernel
theorem d_Md_isPoly_114 : decode b_Md_isPoly 114 = .ok (.iconst 0, 1) := by decide +kernel
theorem d_Md_isPoly_115 : decode b_Md_isPoly 115 = .ok (.istore_n 3, 1) := by decide +kernel
theorem d_Md_isPoly_116 : decode b_Md_isPoly 116 = .ok (.iinc 4 2, 3) := by decide +kernel
theorem d_Md_isPoly_119 : decode b_Md_isPoly 119 = .ok (.goto (-47), 3) := by decide +kernel
theorem d_Md_isPoly_122 : decode b_Md_isPoly 122 = .ok (.iload_n 3, 1) := by decide +kernel
theorem d_Md_isPoly_123 : decode b_Md_isPoly 123 = .ok (.istore_n 1, 1) := by decide +kernel
theorem d_Md_isPoly_124 : decode b_Md_isPoly 124 = .ok (.iinc 2 1, 3) := by decide +kernel
theorem d_Md_isPoly_127 : decode b_Md_isPoly 127 = .ok (.goto (-88), 3) := by decide +kernel
theorem d_Md_isPoly_130 : decode b_Md_isPoly 130 = .ok (.iload_n 1, 1) := by decide +kernel
theorem d_Md_isPoly_131 : decode b_Md_isPoly 131 = .ok (.ireturn, 1) := by decide +kernel
theorem d_Md_isSign_0 : decode b_Md_isSign 0 = .ok (.aload_n 0, 1) := by decide +kernel
theorem d_Md_isSign_1 : decode b_Md_isSign 1 = .ok (.getfield 129, 3) := by decide +kernel
theorem d_Md_isSign_4 : decode b_Md_isSign 4 = .ok (.iconst 3, 1) := by decide +kernel
theorem d_Md_isSign_5 : decode b_Md_isSign 5 = .ok (.if_icmp .ne 20, 3) := by decide +kernel
theorem d_Md_isSign_8 : decode b_Md_isSign 8 = .ok (.aload_n 0, 1) := by decide +kernel
theorem d_Md_isSign_9 : decode b_Md_isSign 9 = .ok (.getfield 16, 3) := by decide +kernel
theorem d_Md_isSign_12 : decode b_Md_isSign 12 = .ok (.aload_n 0, 1) := by decide +kernel
theorem d_Md_isSign_13 : decode b_Md_isSign 13 = .ok (.getfield 142, 3) := by decide +kernel
theorem d_Md_isSign_16 : decode b_Md_isSign 16 = .ok (.baload, 1) := by decide +kernel
theorem d_Md_isSign_17 : decode b_Md_isSign 17 = .ok (.iload_n 1, 1) := by decide +kernel
theorem d_Md_isSign_18 : decode b_Md_isSign 18 = .ok (.if_icmp .ne 7, 3) := by decide +kernel
theorem d_Md_isSign_21 : decode b_Md_isSign 21 = .ok (.iconst 1, 1) := by decide +kernel
theorem d_Md_isSign_22 : decode b_Md_isSign 22 = .ok (.goto 4, 3) := by decide +kernel
theorem d_Md_isSign_25 : decode b_Md_isSign 25 = .ok (.iconst 0, 1) := by decide +kernel
theorem d_Md_isSign_26 : decode b_Md_isSign 26 = .ok (.ireturn, 1) := by decide +kernel
theorem d_Md_isTurn_0 : decode b_Md_isTurn 0 = .ok (.iconst 1, 1) := by decide +kernel
theorem d_Md_isTurn_1 : decode b_Md_isTurn 1 = .ok (.istore_n 2, 1) := by decide +kernel
theorem d_Md_isTurn_2 : decode b_Md_isTurn 2 = .ok (.iconst 1, 1) := by decide +kernel
theorem d_Md_isTurn_3 : decode b_Md_isTurn 3 = .ok (.istore_n 3, 1) := by decide +kernel
theorem d_Md_isTurn_4 : decode b_Md_isTurn 4 = .ok (.iload_n 3, 1) := by decide +kernel
theorem d_Md_isTurn_5 : decode b_Md_isTurn 5 = .ok (.aload_n 0, 1) := by decide +kernel
theorem d_Md_isTurn_6 : decode b_Md_isTurn 6 = .ok (.getfield 395, 3) := by decide +kernel
theorem d_Md_isTurn_9 : decode b_Md_isTurn 9 = .ok (.if_icmp .gt 41, 3) := by decide +kernel
theorem d_Md_isTurn_12 : decode b_Md_isTurn 12 = .ok (.iload_n 2, 1) := by decide +kernel
theorem d_Md_isTurn_13 : decode b_Md_isTurn 13 = .ok (.ifCond .eq 29, 3) := by decide +kernel
theorem d_Md_isTurn_16 : decode b_Md_isTurn 16 = .ok (.aload_n 0, 1) := by decide +kernel
theorem d_Md_isTurn_17 : decode b_Md_isTurn 17 = .ok (.getfield 403, 3) := by decide +kernel
theorem d_Md_isTurn_20 : decode b_Md_isTurn 20 = .ok (.bipush 9, 2) := by decide +kernel
theorem d_Md_isTurn_22 : decode b_Md_isTurn 22 = .ok (.iload_n 1, 1) := by decide +kernel
theorem d_Md_isTurn_23 : decode b_Md_isTurn 23 = .ok (.imul, 1) := by decide +kernel
theorem d_Md_isTurn_24 : decode b_Md_isTurn 24 = .ok (.iload_n 3, 1) := by decide +kernel
theorem d_Md_isTurn_25 : decode b_Md_isTurn 25 = .ok (.iadd, 1) := by decide +kernel
theorem d_Md_isTurn_26 : decode b_Md_isTurn 26 = .ok (.iaload, 1) := by decide +kernel
theorem d_Md_isTurn_27 : decode b_Md_isTurn 27 = .ok (.aload_n 0, 1) := by decide +kernel
theorem d_Md_isTurn_28 : decode b_Md_isTurn 28 = .ok (.getfield 395, 3) := by decide +kernel
theorem d_Md_isTurn_31 : decode b_Md_isTurn 31 = .ok (.iconst 1, 1) := by decide +kernel
theorem d_Md_isTurn_32 : decode b_Md_isTurn 32 = .ok (.iadd, 1) := by decide +kernel
theorem d_Md_isTurn_33 : decode b_Md_isTurn 33 = .ok (.iload_n 3, 1) := by decide +kernel
theorem d_Md_isTurn_34 : decode b_Md_isTurn 34 = .ok (.isub, 1) := by decide +kernel
theorem d_Md_isTurn_35 : decode b_Md_isTurn 35 = .ok (.if_icmp .ne 7, 3) := by decide +kernel
theorem d_Md_isTurn_38 : decode b_Md_isTurn 38 = .ok (.iconst 1, 1) := by decide +kernel
theorem d_Md_isTurn_39 : decode b_Md_isTurn 39 = .ok (.goto 4, 3) := by decide +kernel
theorem d_Md_isTurn_42 : decode b_Md_isTurn 42 = .ok (.iconst 0, 1) := by decide +kernel
theorem d_Md_isTurn_43 : decode b_Md_isTurn 43 = .ok (.istore_n 2, 1) := by decide +kernel
theorem d_Md_isTurn_44 : decode b_Md_isTurn 44 = .ok (.iinc 3 1, 3) := by decide +kernel
theorem d_Md_isTurn_47 : decode b_Md_isTurn 47 = .ok (.goto (-43), 3) := by decide +kernel
theorem d_Md_isTurn_50 : decode b_Md_isTurn 50 = .ok (.iload_n 2, 1) := by decide +kernel
theorem d_Md_isTurn_51 : decode b_Md_isTurn 51 = .ok (.ireturn, 1) := by decide +kernel
theorem d_Md_isUpper_0 : decode b_Md_isUpper 0 = .ok (.iload_n 0, 1) := by decide +kernel
theorem d_Md_isUpper_1 : decode b_Md_isUpper 1 = .ok (.iconst 1, 1) := by decide +kernel
theorem d_Md_isUpper_2 : decode b_Md_isUpper 2 = .ok (.iand, 1) := by decide +kernel
theorem d_Md_isUpper_3 : decode b_Md_isUpper 3 = .ok (.iconst 1, 1) := by decide +kernel
theorem d_Md_isUpper_4 : decode b_Md_isUpper 4 = .ok (.if_icmp .ne 7, 3) := by decide +kernel
theorem d_Md_isUpper_7 : decode b_Md_isUpper 7 = .ok (.iconst 1, 1) := by decide +kernel
theorem d_Md_isUpper_8 : decode b_Md_isUpper 8 = .ok (.goto 4, 3) := by decide +kernel
theorem d_Md_isUpper_11 : decode b_Md_isUpper 11 = .ok (.iconst 0, 1) := by decide +kernel
theorem d_Md_isUpper_12 : decode b_Md_isUpper 12 = .ok (.ireturn, 1) := by decide +kernel
theorem d_Md_isWord_0 : decode b_Md_isWord 0 = .ok (.aload_n 0, 1) := by decide +kernel
theorem d_Md_isWord_1 : decode b_Md_isWord 1 = .ok (.getfield 129, 3) := by decide +kernel
theorem d_Md_isWord_4 : decode b_Md_isWord 4 = .ok (.iconst 1, 1) := by decide +kernel
theorem d_Md_isWord_5 : decode b_Md_isWord 5 = .ok (.if_icmp .ne 23, 3) := by decide +kernel
theorem d_Md_isWord_8 : decode b_Md_isWord 8 = .ok (.aload_n 0, 1) := by decide +kernel
theorem d_Md_isWord_9 : decode b_Md_isWord 9 = .ok (.getfield 132, 3) := by decide +kernel
theorem d_Md_isWord_12 : decode b_Md_isWord 12 = .ok (.aload_n 0, 1) := by decide +kernel
theorem d_Md_isWord_13 : decode b_Md_isWord 13 = .ok (.getfield 142, 3) := by decide +kernel
theorem d_Md_isWord_16 : decode b_Md_isWord 16 = .ok (.isub, 1) := by decide +kernel
theorem d_Md_isWord_17 : decode b_Md_isWord 17 = .ok (.aload_n 1, 1) := by decide +kernel
theorem d_Md_isWord_18 : decode b_Md_isWord 18 = .ok (.invokevirtual 152, 3) := by decide +kernel
theorem d_Md_isWord_21 : decode b_Md_isWord 21 = .ok (.if_icmp .ne 7, 3) := by decide +kernel
theorem d_Md_isWord_24 : decode b_Md_isWord 24 = .ok (.iconst 1, 1) := by decide +kernel
theorem d_Md_isWord_25 : decode b_Md_isWord 25 = .ok (.goto 4, 3) := by decide +kernel
theorem d_Md_isWord_28 : decode b_Md_isWord 28 = .ok (.iconst 0, 1) := by decide +kernel
theorem d_Md_isWord_29 : decode b_Md_isWord 29 = .ok (.istore_n 2, 1) := by decide +kernel
theorem d_Md_isWord_30 : decode b_Md_isWord 30 = .ok (.iconst 0, 1) := by decide +kernel
theorem d_Md_isWord_31 : decode b_Md_isWord 31 = .ok (.istore_n 3, 1) := by decide +kernel
theorem d_Md_isWord_32 : decode b_Md_isWord 32 = .ok (.iload_n 3, 1) := by decide +kernel
theorem d_Md_isWord_33 : decode b_Md_isWord 33 = .ok (.aload_n 1, 1) := by decide +kernel
theorem d_Md_isWord_34 : decode b_Md_isWord 34 = .ok (.invokevirtual 152, 3) := by decide +kernel
theorem d_Md_isWord_37 : decode b_Md_isWord 37 = .ok (.if_icmp .ge 38, 3) := by decide +kernel
theorem d_Md_isWord_40 : decode b_Md_isWord 40 = .ok (.iload_n 2, 1) := by decide +kernel
theorem d_Md_isWord_41 : decode b_Md_isWord 41 = .ok (.ifCond .eq 34, 3) := by decide +kernel
theorem d_Md_isWord_44 : decode b_Md_isWord 44 = .ok (.aload_n 0, 1) := by decide +kernel
theorem d_Md_isWord_45 : decode b_Md_isWord 45 = .ok (.getfield 16, 3) := by decide +kernel
theorem d_Md_isWord_48 : decode b_Md_isWord 48 = .ok (.aload_n 0, 1) := by decide +kernel
theorem d_Md_isWord_49 : decode b_Md_isWord 49 = .ok (.getfield 142, 3) := by decide +kernel
theorem d_Md_isWord_52 : decode b_Md_isWord 52 = .ok (.iload_n 3, 1) := by decide +kernel
theorem d_Md_isWord_53 : decode b_Md_isWord 53 = .ok (.iadd, 1) := by decide +kernel
theorem d_Md_isWord_54 : decode b_Md_isWord 54 = .ok (.baload, 1) := by decide +kernel
theorem d_Md_isWord_55 : decode b_Md_isWord 55 = .ok (.aload_n 1, 1) := by decide +kernel
theorem d_Md_isWord_56 : decode b_Md_isWord 56 = .ok (.iload_n 3, 1) := by decide +kernel
theorem d_Md_isWord_57 : decode b_Md_isWord 57 = .ok (.invokevirtual 158, 3) := by decide +kernel
theorem d_Md_isWord_60 : decode b_Md_isWord 60 = .ok (.if_icmp .ne 7, 3) := by decide +kernel
theorem d_Md_isWord_63 : decode b_Md_isWord 63 = .ok (.iconst 1, 1) := by decide +kernel
theorem d_Md_isWord_64 : decode b_Md_isWord 64 = .ok (.goto 4, 3) := by decide +kernel
theorem d_Md_isWord_67 : decode b_Md_isWord 67 = .ok (.iconst 0, 1) := by decide +kernel
theorem d_Md_isWord_68 : decode b_Md_isWord 68 = .ok (.istore_n 2, 1) := by decide +kernel
theorem d_Md_isWord_69 : decode b_Md_isWord 69 = .ok (.iinc 3 1, 3) := by decide +kernel
theorem d_Md_isWord_72 : decode b_Md_isWord 72 = .ok (.goto (-40), 3) := by decide +kernel
theorem d_Md_isWord_75 : decode b_Md_isWord 75 = .ok (.iload_n 2, 1) := by decide +kernel
