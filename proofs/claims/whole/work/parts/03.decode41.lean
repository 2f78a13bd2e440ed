theorem d_Md_isPoly_110 : decode b_Md_isPoly 110 = .ok (.iconst 1, 1) := by decide +kernel
theorem d_Md_isPoly_111 : decode b_Md_isPoly 111 = .ok (.goto 4, 3) := by decide +kernel
theorem d_Md_isPoly_72 : decode b_Md_isPoly 72 = .ok (.iload 4, 2) := by decide +kernel
theorem d_Md_isPoly_74 : decode b_Md_isPoly 74 = .ok (.aload_n 0, 1) := by decide +kernel
theorem d_Md_isPoly_75 : decode b_Md_isPoly 75 = .ok (.invokevirtual 545, 3) := by decide +kernel
theorem d_Md_isPoly_78 : decode b_Md_isPoly 78 = .ok (.if_icmp .ge 44, 3) := by decide +kernel
theorem d_Md_isPoly_122 : decode b_Md_isPoly 122 = .ok (.iload_n 3, 1) := by decide +kernel
theorem d_Md_isPoly_123 : decode b_Md_isPoly 123 = .ok (.istore_n 1, 1) := by decide +kernel
theorem d_Md_isPoly_124 : decode b_Md_isPoly 124 = .ok (.iinc 2 1, 3) := by decide +kernel
theorem d_Md_isPoly_127 : decode b_Md_isPoly 127 = .ok (.goto (-88), 3) := by decide +kernel
theorem d_Md_isPoly_81 : decode b_Md_isPoly 81 = .ok (.iload_n 3, 1) := by decide +kernel
theorem d_Md_isPoly_82 : decode b_Md_isPoly 82 = .ok (.ifCond .ne 28, 3) := by decide +kernel
theorem d_Md_isPoly_85 : decode b_Md_isPoly 85 = .ok (.aload_n 0, 1) := by decide +kernel
theorem d_Md_isPoly_86 : decode b_Md_isPoly 86 = .ok (.getfield 30, 3) := by decide +kernel
theorem d_Md_isPoly_89 : decode b_Md_isPoly 89 = .ok (.aload_n 0, 1) := by decide +kernel
theorem d_Md_isPoly_90 : decode b_Md_isPoly 90 = .ok (.getfield 27, 3) := by decide +kernel
theorem d_Md_isPoly_93 : decode b_Md_isPoly 93 = .ok (.aload_n 0, 1) := by decide +kernel
theorem d_Md_isPoly_94 : decode b_Md_isPoly 94 = .ok (.getfield 290, 3) := by decide +kernel
theorem d_Md_isPoly_97 : decode b_Md_isPoly 97 = .ok (.iaload, 1) := by decide +kernel
theorem d_Md_isPoly_98 : decode b_Md_isPoly 98 = .ok (.iload 4, 2) := by decide +kernel
theorem d_Md_isPoly_100 : decode b_Md_isPoly 100 = .ok (.iadd, 1) := by decide +kernel
theorem d_Md_isPoly_101 : decode b_Md_isPoly 101 = .ok (.iconst 1, 1) := by decide +kernel
theorem d_Md_isPoly_102 : decode b_Md_isPoly 102 = .ok (.iadd, 1) := by decide +kernel
theorem d_Md_isPoly_103 : decode b_Md_isPoly 103 = .ok (.laload, 1) := by decide +kernel
theorem d_Md_isPoly_104 : decode b_Md_isPoly 104 = .ok (.iload_n 2, 1) := by decide +kernel
theorem d_Md_isPoly_105 : decode b_Md_isPoly 105 = .ok (.i2l, 1) := by decide +kernel
theorem d_Md_isPoly_106 : decode b_Md_isPoly 106 = .ok (.lcmp, 1) := by decide +kernel
theorem d_Md_isPoly_107 : decode b_Md_isPoly 107 = .ok (.ifCond .ne 7, 3) := by decide +kernel
theorem d_Md_isPoly_114 : decode b_Md_isPoly 114 = .ok (.iconst 0, 1) := by decide +kernel
theorem d_Md_isPoly_68 : decode b_Md_isPoly 68 = .ok (.istore_n 3, 1) := by decide +kernel
theorem d_Md_isPoly_69 : decode b_Md_isPoly 69 = .ok (.iconst 0, 1) := by decide +kernel
theorem d_Md_isPoly_70 : decode b_Md_isPoly 70 = .ok (.istore 4, 2) := by decide +kernel
theorem d_Md_isPoly_39 : decode b_Md_isPoly 39 = .ok (.iload_n 2, 1) := by decide +kernel
theorem d_Md_isPoly_40 : decode b_Md_isPoly 40 = .ok (.bipush 100, 2) := by decide +kernel
theorem d_Md_isPoly_42 : decode b_Md_isPoly 42 = .ok (.if_icmp .gt 88, 3) := by decide +kernel
theorem d_Md_isPoly_130 : decode b_Md_isPoly 130 = .ok (.iload_n 1, 1) := by decide +kernel
theorem d_Md_isPoly_131 : decode b_Md_isPoly 131 = .ok (.ireturn, 1) := by decide +kernel
theorem d_Md_isPoly_45 : decode b_Md_isPoly 45 = .ok (.iload_n 1, 1) := by decide +kernel
theorem d_Md_isPoly_46 : decode b_Md_isPoly 46 = .ok (.ifCond .eq 84, 3) := by decide +kernel
theorem d_Md_isPoly_49 : decode b_Md_isPoly 49 = .ok (.aload_n 0, 1) := by decide +kernel
theorem d_Md_isPoly_50 : decode b_Md_isPoly 50 = .ok (.getfield 96, 3) := by decide +kernel
theorem d_Md_isPoly_53 : decode b_Md_isPoly 53 = .ok (.bipush 100, 2) := by decide +kernel
theorem d_Md_isPoly_55 : decode b_Md_isPoly 55 = .ok (.iload_n 2, 1) := by decide +kernel
theorem d_Md_isPoly_56 : decode b_Md_isPoly 56 = .ok (.iadd, 1) := by decide +kernel
theorem d_Md_isPoly_57 : decode b_Md_isPoly 57 = .ok (.laload, 1) := by decide +kernel
theorem d_Md_isPoly_58 : decode b_Md_isPoly 58 = .ok (.lconst 0, 1) := by decide +kernel
theorem d_Md_isPoly_59 : decode b_Md_isPoly 59 = .ok (.lcmp, 1) := by decide +kernel
theorem d_Md_isPoly_60 : decode b_Md_isPoly 60 = .ok (.ifCond .ne 7, 3) := by decide +kernel
theorem d_Md_isPoly_67 : decode b_Md_isPoly 67 = .ok (.iconst 0, 1) := by decide +kernel
theorem d_Md_isPoly_63 : decode b_Md_isPoly 63 = .ok (.iconst 1, 1) := by decide +kernel
theorem d_Md_isPoly_64 : decode b_Md_isPoly 64 = .ok (.goto 4, 3) := by decide +kernel
theorem d_Md_isPoly_29 : decode b_Md_isPoly 29 = .ok (.istore_n 1, 1) := by decide +kernel
theorem d_Md_isPoly_30 : decode b_Md_isPoly 30 = .ok (.iinc 2 2, 3) := by decide +kernel
theorem d_Md_isPoly_33 : decode b_Md_isPoly 33 = .ok (.goto (-29), 3) := by decide +kernel
theorem d_Md_isPoly_28 : decode b_Md_isPoly 28 = .ok (.iconst 0, 1) := by decide +kernel
theorem d_Md_isPoly_4 : decode b_Md_isPoly 4 = .ok (.iload_n 2, 1) := by decide +kernel
theorem d_Md_isPoly_5 : decode b_Md_isPoly 5 = .ok (.aload_n 0, 1) := by decide +kernel
theorem d_Md_isPoly_6 : decode b_Md_isPoly 6 = .ok (.invokevirtual 545, 3) := by decide +kernel
theorem d_Md_isPoly_9 : decode b_Md_isPoly 9 = .ok (.if_icmp .ge 27, 3) := by decide +kernel
theorem d_Md_isPoly_36 : decode b_Md_isPoly 36 = .ok (.bipush (-100), 2) := by decide +kernel
theorem d_Md_isPoly_38 : decode b_Md_isPoly 38 = .ok (.istore_n 2, 1) := by decide +kernel
theorem d_Md_isPoly_12 : decode b_Md_isPoly 12 = .ok (.iload_n 1, 1) := by decide +kernel
theorem d_Md_isPoly_13 : decode b_Md_isPoly 13 = .ok (.ifCond .eq 15, 3) := by decide +kernel
theorem d_Md_isPoly_16 : decode b_Md_isPoly 16 = .ok (.aload_n 0, 1) := by decide +kernel
theorem d_Md_isPoly_17 : decode b_Md_isPoly 17 = .ok (.iload_n 2, 1) := by decide +kernel
theorem d_Md_isPoly_18 : decode b_Md_isPoly 18 = .ok (.invokevirtual 606, 3) := by decide +kernel
theorem d_Md_isPoly_21 : decode b_Md_isPoly 21 = .ok (.ifCond .eq 7, 3) := by decide +kernel
theorem d_Md_isPoly_24 : decode b_Md_isPoly 24 = .ok (.iconst 1, 1) := by decide +kernel
theorem d_Md_isPoly_25 : decode b_Md_isPoly 25 = .ok (.goto 4, 3) := by decide +kernel
theorem d_Md_isPoly_0 : decode b_Md_isPoly 0 = .ok (.iconst 1, 1) := by decide +kernel
theorem d_Md_isPoly_1 : decode b_Md_isPoly 1 = .ok (.istore_n 1, 1) := by decide +kernel
theorem d_Md_isPoly_2 : decode b_Md_isPoly 2 = .ok (.iconst 0, 1) := by decide +kernel
theorem d_Md_isPoly_3 : decode b_Md_isPoly 3 = .ok (.istore_n 2, 1) := by decide +kernel
theorem d_Md_feed_13 : decode b_Md_feed 13 = .ok (.iconst (-1), 1) := by decide +kernel
theorem d_Md_feed_14 : decode b_Md_feed 14 = .ok (.ireturn, 1) := by decide +kernel
theorem d_Rd_readCrossing_0 : decode b_Rd_readCrossing 0 = .ok (.aload_n 0, 1) := by decide +kernel
theorem d_Rd_readCrossing_1 : decode b_Rd_readCrossing 1 = .ok (.invokevirtual 73, 3) := by decide +kernel
theorem d_Rd_readCrossing_4 : decode b_Rd_readCrossing 4 = .ok (.ifCond .eq 84, 3) := by decide +kernel
theorem d_Rd_readCrossing_88 : decode b_Rd_readCrossing 88 = .ok (.iconst 0, 1) := by decide +kernel
theorem d_Rd_readCrossing_89 : decode b_Rd_readCrossing 89 = .ok (.ireturn, 1) := by decide +kernel
theorem d_Rd_readCrossing_7 : decode b_Rd_readCrossing 7 = .ok (.aload_n 0, 1) := by decide +kernel
theorem d_Rd_readCrossing_8 : decode b_Rd_readCrossing 8 = .ok (.bipush 91, 2) := by decide +kernel
theorem d_Rd_readCrossing_10 : decode b_Rd_readCrossing 10 = .ok (.invokevirtual 102, 3) := by decide +kernel
theorem d_Rd_readCrossing_13 : decode b_Rd_readCrossing 13 = .ok (.ifCond .eq 75, 3) := by decide +kernel
theorem d_Rd_readCrossing_16 : decode b_Rd_readCrossing 16 = .ok (.aload_n 0, 1) := by decide +kernel
theorem d_Rd_readCrossing_17 : decode b_Rd_readCrossing 17 = .ok (.iconst 0, 1) := by decide +kernel
theorem d_Rd_readCrossing_18 : decode b_Rd_readCrossing 18 = .ok (.invokevirtual 66, 3) := by decide +kernel
theorem d_Rd_readCrossing_21 : decode b_Rd_readCrossing 21 = .ok (.ifCond .eq 67, 3) := by decide +kernel
theorem d_Rd_readCrossing_24 : decode b_Rd_readCrossing 24 = .ok (.aload_n 0, 1) := by decide +kernel
theorem d_Rd_readCrossing_25 : decode b_Rd_readCrossing 25 = .ok (.bipush 44, 2) := by decide +kernel
theorem d_Rd_readCrossing_27 : decode b_Rd_readCrossing 27 = .ok (.invokevirtual 102, 3) := by decide +kernel
theorem d_Rd_readCrossing_30 : decode b_Rd_readCrossing 30 = .ok (.ifCond .eq 58, 3) := by decide +kernel
theorem d_Rd_readCrossing_33 : decode b_Rd_readCrossing 33 = .ok (.aload_n 0, 1) := by decide +kernel
theorem d_Rd_readCrossing_34 : decode b_Rd_readCrossing 34 = .ok (.iconst 0, 1) := by decide +kernel
theorem d_Rd_readCrossing_35 : decode b_Rd_readCrossing 35 = .ok (.invokevirtual 66, 3) := by decide +kernel
theorem d_Rd_readCrossing_38 : decode b_Rd_readCrossing 38 = .ok (.ifCond .eq 50, 3) := by decide +kernel
theorem d_Rd_readCrossing_41 : decode b_Rd_readCrossing 41 = .ok (.aload_n 0, 1) := by decide +kernel
theorem d_Rd_readCrossing_42 : decode b_Rd_readCrossing 42 = .ok (.bipush 44, 2) := by decide +kernel
theorem d_Rd_readCrossing_44 : decode b_Rd_readCrossing 44 = .ok (.invokevirtual 102, 3) := by decide +kernel
theorem d_Rd_readCrossing_47 : decode b_Rd_readCrossing 47 = .ok (.ifCond .eq 41, 3) := by decide +kernel
theorem d_Rd_readCrossing_50 : decode b_Rd_readCrossing 50 = .ok (.aload_n 0, 1) := by decide +kernel
theorem d_Rd_readCrossing_51 : decode b_Rd_readCrossing 51 = .ok (.iconst 0, 1) := by decide +kernel
theorem d_Rd_readCrossing_52 : decode b_Rd_readCrossing 52 = .ok (.invokevirtual 66, 3) := by decide +kernel
theorem d_Rd_readCrossing_55 : decode b_Rd_readCrossing 55 = .ok (.ifCond .eq 33, 3) := by decide +kernel
theorem d_Rd_readCrossing_58 : decode b_Rd_readCrossing 58 = .ok (.aload_n 0, 1) := by decide +kernel
theorem d_Rd_readCrossing_59 : decode b_Rd_readCrossing 59 = .ok (.bipush 44, 2) := by decide +kernel
theorem d_Rd_readCrossing_61 : decode b_Rd_readCrossing 61 = .ok (.invokevirtual 102, 3) := by decide +kernel
theorem d_Rd_readCrossing_64 : decode b_Rd_readCrossing 64 = .ok (.ifCond .eq 24, 3) := by decide +kernel
theorem d_Rd_readCrossing_67 : decode b_Rd_readCrossing 67 = .ok (.aload_n 0, 1) := by decide +kernel
theorem d_Rd_readCrossing_68 : decode b_Rd_readCrossing 68 = .ok (.iconst 0, 1) := by decide +kernel
theorem d_Rd_readCrossing_69 : decode b_Rd_readCrossing 69 = .ok (.invokevirtual 66, 3) := by decide +kernel
theorem d_Rd_readCrossing_72 : decode b_Rd_readCrossing 72 = .ok (.ifCond .eq 16, 3) := by decide +kernel
theorem d_Rd_readCrossing_75 : decode b_Rd_readCrossing 75 = .ok (.aload_n 0, 1) := by decide +kernel
theorem d_Rd_readCrossing_76 : decode b_Rd_readCrossing 76 = .ok (.bipush 93, 2) := by decide +kernel
theorem d_Rd_readCrossing_78 : decode b_Rd_readCrossing 78 = .ok (.invokevirtual 102, 3) := by decide +kernel
theorem d_Rd_readCrossing_81 : decode b_Rd_readCrossing 81 = .ok (.ifCond .eq 7, 3) := by decide +kernel
theorem d_Rd_readCrossing_84 : decode b_Rd_readCrossing 84 = .ok (.iconst 1, 1) := by decide +kernel
theorem d_Rd_readCrossing_85 : decode b_Rd_readCrossing 85 = .ok (.goto 4, 3) := by decide +kernel
theorem d_Di_setCode_125 : decode b_Di_setCode 125 = .ok (.aload_n 0, 1) := by decide +kernel
theorem d_Di_setCode_126 : decode b_Di_setCode 126 = .ok (.aload_n 1, 1) := by decide +kernel
theorem d_Di_setCode_127 : decode b_Di_setCode 127 = .ok (.iconst 5, 1) := by decide +kernel
theorem d_Di_setCode_128 : decode b_Di_setCode 128 = .ok (.iload_n 2, 1) := by decide +kernel
theorem d_Di_setCode_129 : decode b_Di_setCode 129 = .ok (.imul, 1) := by decide +kernel
theorem d_Di_setCode_130 : decode b_Di_setCode 130 = .ok (.invokevirtual 77, 3) := by decide +kernel
theorem d_Di_setCode_133 : decode b_Di_setCode 133 = .ok (.putfield 61, 3) := by decide +kernel
theorem d_Di_setCode_136 : decode b_Di_setCode 136 = .ok (.iload_n 3, 1) := by decide +kernel
theorem d_Di_setCode_137 : decode b_Di_setCode 137 = .ok (.ifCond .eq 16, 3) := by decide +kernel
theorem d_Di_setCode_153 : decode b_Di_setCode 153 = .ok (.iconst 0, 1) := by decide +kernel
theorem d_Di_setCode_154 : decode b_Di_setCode 154 = .ok (.ireturn, 1) := by decide +kernel
theorem d_Di_setCode_140 : decode b_Di_setCode 140 = .ok (.aload_n 0, 1) := by decide +kernel
theorem d_Di_setCode_141 : decode b_Di_setCode 141 = .ok (.getfield 61, 3) := by decide +kernel
theorem d_Di_setCode_144 : decode b_Di_setCode 144 = .ok (.bipush 20, 2) := by decide +kernel
theorem d_Di_setCode_146 : decode b_Di_setCode 146 = .ok (.if_icmp .gt 7, 3) := by decide +kernel
theorem d_Di_setCode_149 : decode b_Di_setCode 149 = .ok (.iconst 1, 1) := by decide +kernel
theorem d_Di_setCode_150 : decode b_Di_setCode 150 = .ok (.goto 4, 3) := by decide +kernel
theorem d_Di_setCode_102 : decode b_Di_setCode 102 = .ok (.istore_n 3, 1) := by decide +kernel
theorem d_Di_setCode_103 : decode b_Di_setCode 103 = .ok (.iinc 5 1, 3) := by decide +kernel
theorem d_Di_setCode_106 : decode b_Di_setCode 106 = .ok (.goto (-59), 3) := by decide +kernel
theorem d_Di_setCode_101 : decode b_Di_setCode 101 = .ok (.iconst 0, 1) := by decide +kernel
theorem d_Di_setCode_47 : decode b_Di_setCode 47 = .ok (.iload 5, 2) := by decide +kernel
theorem d_Di_setCode_49 : decode b_Di_setCode 49 = .ok (.iconst 4, 1) := by decide +kernel
theorem d_Di_setCode_50 : decode b_Di_setCode 50 = .ok (.if_icmp .ge 59, 3) := by decide +kernel
theorem d_Di_setCode_109 : decode b_Di_setCode 109 = .ok (.aload_n 0, 1) := by decide +kernel
theorem d_Di_setCode_110 : decode b_Di_setCode 110 = .ok (.dup, 1) := by decide +kernel
theorem d_Di_setCode_111 : decode b_Di_setCode 111 = .ok (.getfield 36, 3) := by decide +kernel
theorem d_Di_setCode_114 : decode b_Di_setCode 114 = .ok (.iconst 1, 1) := by decide +kernel
theorem d_Di_setCode_115 : decode b_Di_setCode 115 = .ok (.iadd, 1) := by decide +kernel
theorem d_Di_setCode_116 : decode b_Di_setCode 116 = .ok (.putfield 36, 3) := by decide +kernel
theorem d_Di_setCode_119 : decode b_Di_setCode 119 = .ok (.iinc 4 1, 3) := by decide +kernel
theorem d_Di_setCode_122 : decode b_Di_setCode 122 = .ok (.goto (-106), 3) := by decide +kernel
theorem d_Di_setCode_53 : decode b_Di_setCode 53 = .ok (.aload_n 0, 1) := by decide +kernel
theorem d_Di_setCode_54 : decode b_Di_setCode 54 = .ok (.getfield 15, 3) := by decide +kernel
theorem d_Di_setCode_57 : decode b_Di_setCode 57 = .ok (.iconst 4, 1) := by decide +kernel
theorem d_Di_setCode_58 : decode b_Di_setCode 58 = .ok (.iload 4, 2) := by decide +kernel
theorem d_Di_setCode_60 : decode b_Di_setCode 60 = .ok (.imul, 1) := by decide +kernel
theorem d_Di_setCode_61 : decode b_Di_setCode 61 = .ok (.iload 5, 2) := by decide +kernel
theorem d_Di_setCode_63 : decode b_Di_setCode 63 = .ok (.iadd, 1) := by decide +kernel
theorem d_Di_setCode_64 : decode b_Di_setCode 64 = .ok (.aload_n 1, 1) := by decide +kernel
theorem d_Di_setCode_65 : decode b_Di_setCode 65 = .ok (.iconst 5, 1) := by decide +kernel
theorem d_Di_setCode_66 : decode b_Di_setCode 66 = .ok (.iload 4, 2) := by decide +kernel
theorem d_Di_setCode_68 : decode b_Di_setCode 68 = .ok (.imul, 1) := by decide +kernel
theorem d_Di_setCode_69 : decode b_Di_setCode 69 = .ok (.iconst 1, 1) := by decide +kernel
theorem d_Di_setCode_70 : decode b_Di_setCode 70 = .ok (.iadd, 1) := by decide +kernel
theorem d_Di_setCode_71 : decode b_Di_setCode 71 = .ok (.iload 5, 2) := by decide +kernel
theorem d_Di_setCode_73 : decode b_Di_setCode 73 = .ok (.iadd, 1) := by decide +kernel
theorem d_Di_setCode_74 : decode b_Di_setCode 74 = .ok (.invokevirtual 77, 3) := by decide +kernel
theorem d_Di_setCode_77 : decode b_Di_setCode 77 = .ok (.iastore, 1) := by decide +kernel
theorem d_Di_setCode_78 : decode b_Di_setCode 78 = .ok (.iload_n 3, 1) := by decide +kernel
theorem d_Di_setCode_79 : decode b_Di_setCode 79 = .ok (.ifCond .eq 22, 3) := by decide +kernel
theorem d_Di_setCode_82 : decode b_Di_setCode 82 = .ok (.aload_n 0, 1) := by decide +kernel
theorem d_Di_setCode_83 : decode b_Di_setCode 83 = .ok (.getfield 15, 3) := by decide +kernel
theorem d_Di_setCode_86 : decode b_Di_setCode 86 = .ok (.iconst 4, 1) := by decide +kernel
theorem d_Di_setCode_87 : decode b_Di_setCode 87 = .ok (.iload 4, 2) := by decide +kernel
theorem d_Di_setCode_89 : decode b_Di_setCode 89 = .ok (.imul, 1) := by decide +kernel
theorem d_Di_setCode_90 : decode b_Di_setCode 90 = .ok (.iload 5, 2) := by decide +kernel
theorem d_Di_setCode_92 : decode b_Di_setCode 92 = .ok (.iadd, 1) := by decide +kernel
theorem d_Di_setCode_93 : decode b_Di_setCode 93 = .ok (.iaload, 1) := by decide +kernel
theorem d_Di_setCode_94 : decode b_Di_setCode 94 = .ok (.ifCond .eq 7, 3) := by decide +kernel
theorem d_Di_setCode_97 : decode b_Di_setCode 97 = .ok (.iconst 1, 1) := by decide +kernel
theorem d_Di_setCode_98 : decode b_Di_setCode 98 = .ok (.goto 4, 3) := by decide +kernel
theorem d_Di_setCode_16 : decode b_Di_setCode 16 = .ok (.iload 4, 2) := by decide +kernel
theorem d_Di_setCode_18 : decode b_Di_setCode 18 = .ok (.iload_n 2, 1) := by decide +kernel
theorem d_Di_setCode_19 : decode b_Di_setCode 19 = .ok (.if_icmp .ge 106, 3) := by decide +kernel
theorem d_Di_setCode_22 : decode b_Di_setCode 22 = .ok (.iload 4, 2) := by decide +kernel
theorem d_Di_setCode_24 : decode b_Di_setCode 24 = .ok (.bipush 20, 2) := by decide +kernel
theorem d_Di_setCode_26 : decode b_Di_setCode 26 = .ok (.if_icmp .ge 99, 3) := by decide +kernel
theorem d_Di_setCode_29 : decode b_Di_setCode 29 = .ok (.aload_n 0, 1) := by decide +kernel
theorem d_Di_setCode_30 : decode b_Di_setCode 30 = .ok (.getfield 9, 3) := by decide +kernel
theorem d_Di_setCode_33 : decode b_Di_setCode 33 = .ok (.iload 4, 2) := by decide +kernel
theorem d_Di_setCode_35 : decode b_Di_setCode 35 = .ok (.aload_n 1, 1) := by decide +kernel
theorem d_Di_setCode_36 : decode b_Di_setCode 36 = .ok (.iconst 5, 1) := by decide +kernel
theorem d_Di_setCode_37 : decode b_Di_setCode 37 = .ok (.iload 4, 2) := by decide +kernel
theorem d_Di_setCode_39 : decode b_Di_setCode 39 = .ok (.imul, 1) := by decide +kernel
theorem d_Di_setCode_40 : decode b_Di_setCode 40 = .ok (.invokevirtual 77, 3) := by decide +kernel
theorem d_Di_setCode_43 : decode b_Di_setCode 43 = .ok (.iastore, 1) := by decide +kernel
theorem d_Di_setCode_44 : decode b_Di_setCode 44 = .ok (.iconst 0, 1) := by decide +kernel
theorem d_Di_setCode_45 : decode b_Di_setCode 45 = .ok (.istore 5, 2) := by decide +kernel
theorem d_Di_setCode_0 : decode b_Di_setCode 0 = .ok (.aload_n 0, 1) := by decide +kernel
theorem d_Di_setCode_1 : decode b_Di_setCode 1 = .ok (.invokevirtual 70, 3) := by decide +kernel
theorem d_Di_setCode_4 : decode b_Di_setCode 4 = .ok (.aload_n 1, 1) := by decide +kernel
