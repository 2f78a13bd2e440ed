theorem d_Md_readCode_10 : decode b_Md_readCode 10 = .ok (.invokevirtual 192, 3) := by decide +kernel
theorem d_Md_readCode_13 : decode b_Md_readCode 13 = .ok (.ifCond .eq 73, 3) := by decide +kernel
theorem d_Md_readCode_16 : decode b_Md_readCode 16 = .ok (.iload_n 1, 1) := by decide +kernel
theorem d_Md_readCode_17 : decode b_Md_readCode 17 = .ok (.bipush 20, 2) := by decide +kernel
theorem d_Md_readCode_19 : decode b_Md_readCode 19 = .ok (.if_icmp .ne 13, 3) := by decide +kernel
theorem d_Md_readCode_22 : decode b_Md_readCode 22 = .ok (.aload_n 0, 1) := by decide +kernel
theorem d_Md_readCode_23 : decode b_Md_readCode 23 = .ok (.iconst 5, 1) := by decide +kernel
theorem d_Md_readCode_24 : decode b_Md_readCode 24 = .ok (.aload_n 0, 1) := by decide +kernel
theorem d_Md_readCode_25 : decode b_Md_readCode 25 = .ok (.getfield 142, 3) := by decide +kernel
theorem d_Md_readCode_28 : decode b_Md_readCode 28 = .ok (.invokevirtual 138, 3) := by decide +kernel
theorem d_Md_readCode_31 : decode b_Md_readCode 31 = .ok (.return_, 1) := by decide +kernel
theorem d_Md_readCode_32 : decode b_Md_readCode 32 = .ok (.aload_n 0, 1) := by decide +kernel
theorem d_Md_readCode_33 : decode b_Md_readCode 33 = .ok (.invokevirtual 249, 3) := by decide +kernel
theorem d_Md_readCode_36 : decode b_Md_readCode 36 = .ok (.aload_n 0, 1) := by decide +kernel
theorem d_Md_readCode_37 : decode b_Md_readCode 37 = .ok (.bipush 91, 2) := by decide +kernel
theorem d_Md_readCode_39 : decode b_Md_readCode 39 = .ok (.invokevirtual 252, 3) := by decide +kernel
theorem d_Md_readCode_42 : decode b_Md_readCode 42 = .ok (.iconst 0, 1) := by decide +kernel
theorem d_Md_readCode_43 : decode b_Md_readCode 43 = .ok (.istore_n 2, 1) := by decide +kernel
theorem d_Md_readCode_44 : decode b_Md_readCode 44 = .ok (.iload_n 2, 1) := by decide +kernel
theorem d_Md_readCode_45 : decode b_Md_readCode 45 = .ok (.iconst 4, 1) := by decide +kernel
theorem d_Md_readCode_46 : decode b_Md_readCode 46 = .ok (.if_icmp .ge 28, 3) := by decide +kernel
theorem d_Md_readCode_49 : decode b_Md_readCode 49 = .ok (.iload_n 2, 1) := by decide +kernel
theorem d_Md_readCode_50 : decode b_Md_readCode 50 = .ok (.ifCond .le 9, 3) := by decide +kernel
theorem d_Md_readCode_53 : decode b_Md_readCode 53 = .ok (.aload_n 0, 1) := by decide +kernel
theorem d_Md_readCode_54 : decode b_Md_readCode 54 = .ok (.bipush 44, 2) := by decide +kernel
theorem d_Md_readCode_56 : decode b_Md_readCode 56 = .ok (.invokevirtual 252, 3) := by decide +kernel
theorem d_Md_readCode_59 : decode b_Md_readCode 59 = .ok (.aload_n 0, 1) := by decide +kernel
theorem d_Md_readCode_60 : decode b_Md_readCode 60 = .ok (.aload_n 0, 1) := by decide +kernel
theorem d_Md_readCode_61 : decode b_Md_readCode 61 = .ok (.iconst 0, 1) := by decide +kernel
theorem d_Md_readCode_62 : decode b_Md_readCode 62 = .ok (.invokevirtual 185, 3) := by decide +kernel
theorem d_Md_readCode_65 : decode b_Md_readCode 65 = .ok (.invokevirtual 198, 3) := by decide +kernel
theorem d_Md_readCode_68 : decode b_Md_readCode 68 = .ok (.iinc 2 1, 3) := by decide +kernel
theorem d_Md_readCode_71 : decode b_Md_readCode 71 = .ok (.goto (-27), 3) := by decide +kernel
theorem d_Md_readCode_74 : decode b_Md_readCode 74 = .ok (.aload_n 0, 1) := by decide +kernel
theorem d_Md_readCode_75 : decode b_Md_readCode 75 = .ok (.bipush 93, 2) := by decide +kernel
theorem d_Md_readCode_77 : decode b_Md_readCode 77 = .ok (.invokevirtual 252, 3) := by decide +kernel
theorem d_Md_readCode_80 : decode b_Md_readCode 80 = .ok (.iinc 1 1, 3) := by decide +kernel
theorem d_Md_readCode_83 : decode b_Md_readCode 83 = .ok (.goto (-81), 3) := by decide +kernel
theorem d_Md_readCode_86 : decode b_Md_readCode 86 = .ok (.aload_n 0, 1) := by decide +kernel
theorem d_Md_readCode_87 : decode b_Md_readCode 87 = .ok (.ldc_w 256, 3) := by decide +kernel
theorem d_Md_readCode_90 : decode b_Md_readCode 90 = .ok (.invokevirtual 204, 3) := by decide +kernel
theorem d_Md_readCode_93 : decode b_Md_readCode 93 = .ok (.ifCond .eq 19, 3) := by decide +kernel
theorem d_Md_readCode_96 : decode b_Md_readCode 96 = .ok (.aload_n 0, 1) := by decide +kernel
theorem d_Md_readCode_97 : decode b_Md_readCode 97 = .ok (.invokevirtual 179, 3) := by decide +kernel
theorem d_Md_readCode_100 : decode b_Md_readCode 100 = .ok (.aload_n 0, 1) := by decide +kernel
theorem d_Md_readCode_101 : decode b_Md_readCode 101 = .ok (.aload_n 0, 1) := by decide +kernel
theorem d_Md_readCode_102 : decode b_Md_readCode 102 = .ok (.iconst 0, 1) := by decide +kernel
theorem d_Md_readCode_103 : decode b_Md_readCode 103 = .ok (.invokevirtual 185, 3) := by decide +kernel
theorem d_Md_readCode_106 : decode b_Md_readCode 106 = .ok (.invokevirtual 198, 3) := by decide +kernel
theorem d_Md_readCode_109 : decode b_Md_readCode 109 = .ok (.goto 8, 3) := by decide +kernel
theorem d_Md_readCode_112 : decode b_Md_readCode 112 = .ok (.aload_n 0, 1) := by decide +kernel
theorem d_Md_readCode_113 : decode b_Md_readCode 113 = .ok (.lconst 0, 1) := by decide +kernel
theorem d_Md_readCode_114 : decode b_Md_readCode 114 = .ok (.invokevirtual 198, 3) := by decide +kernel
theorem d_Md_readCode_117 : decode b_Md_readCode 117 = .ok (.return_, 1) := by decide +kernel
theorem d_Md_readFirst_0 : decode b_Md_readFirst 0 = .ok (.aload_n 0, 1) := by decide +kernel
theorem d_Md_readFirst_1 : decode b_Md_readFirst 1 = .ok (.getfield 129, 3) := by decide +kernel
theorem d_Md_readFirst_4 : decode b_Md_readFirst 4 = .ok (.iconst 2, 1) := by decide +kernel
theorem d_Md_readFirst_5 : decode b_Md_readFirst 5 = .ok (.if_icmp .ne 21, 3) := by decide +kernel
theorem d_Md_readFirst_8 : decode b_Md_readFirst 8 = .ok (.aload_n 0, 1) := by decide +kernel
theorem d_Md_readFirst_9 : decode b_Md_readFirst 9 = .ok (.iconst 0, 1) := by decide +kernel
theorem d_Md_readFirst_10 : decode b_Md_readFirst 10 = .ok (.invokevirtual 172, 3) := by decide +kernel
theorem d_Md_readFirst_13 : decode b_Md_readFirst 13 = .ok (.ifCond .eq 13, 3) := by decide +kernel
theorem d_Md_readFirst_16 : decode b_Md_readFirst 16 = .ok (.aload_n 0, 1) := by decide +kernel
theorem d_Md_readFirst_17 : decode b_Md_readFirst 17 = .ok (.iconst 2, 1) := by decide +kernel
theorem d_Md_readFirst_18 : decode b_Md_readFirst 18 = .ok (.aload_n 0, 1) := by decide +kernel
theorem d_Md_readFirst_19 : decode b_Md_readFirst 19 = .ok (.getfield 142, 3) := by decide +kernel
theorem d_Md_readFirst_22 : decode b_Md_readFirst 22 = .ok (.invokevirtual 138, 3) := by decide +kernel
theorem d_Md_readFirst_25 : decode b_Md_readFirst 25 = .ok (.return_, 1) := by decide +kernel
theorem d_Md_readFirst_26 : decode b_Md_readFirst 26 = .ok (.aload_n 0, 1) := by decide +kernel
theorem d_Md_readFirst_27 : decode b_Md_readFirst 27 = .ok (.invokevirtual 281, 3) := by decide +kernel
theorem d_Md_readFirst_30 : decode b_Md_readFirst 30 = .ok (.istore_n 1, 1) := by decide +kernel
theorem d_Md_readFirst_31 : decode b_Md_readFirst 31 = .ok (.iload_n 1, 1) := by decide +kernel
theorem d_Md_readFirst_32 : decode b_Md_readFirst 32 = .ok (.ifCond .ne 15, 3) := by decide +kernel
theorem d_Md_readFirst_35 : decode b_Md_readFirst 35 = .ok (.aload_n 0, 1) := by decide +kernel
theorem d_Md_readFirst_36 : decode b_Md_readFirst 36 = .ok (.iconst 3, 1) := by decide +kernel
theorem d_Md_readFirst_37 : decode b_Md_readFirst 37 = .ok (.aload_n 0, 1) := by decide +kernel
theorem d_Md_readFirst_38 : decode b_Md_readFirst 38 = .ok (.getfield 142, 3) := by decide +kernel
theorem d_Md_readFirst_41 : decode b_Md_readFirst 41 = .ok (.invokevirtual 138, 3) := by decide +kernel
theorem d_Md_readFirst_44 : decode b_Md_readFirst 44 = .ok (.goto 62, 3) := by decide +kernel
theorem d_Md_readFirst_47 : decode b_Md_readFirst 47 = .ok (.aload_n 0, 1) := by decide +kernel
theorem d_Md_readFirst_48 : decode b_Md_readFirst 48 = .ok (.getfield 284, 3) := by decide +kernel
theorem d_Md_readFirst_51 : decode b_Md_readFirst 51 = .ok (.bipush 64, 2) := by decide +kernel
theorem d_Md_readFirst_53 : decode b_Md_readFirst 53 = .ok (.if_icmp .ne 15, 3) := by decide +kernel
theorem d_Md_readFirst_56 : decode b_Md_readFirst 56 = .ok (.aload_n 0, 1) := by decide +kernel
theorem d_Md_readFirst_57 : decode b_Md_readFirst 57 = .ok (.iconst 5, 1) := by decide +kernel
theorem d_Md_readFirst_58 : decode b_Md_readFirst 58 = .ok (.aload_n 0, 1) := by decide +kernel
theorem d_Md_readFirst_59 : decode b_Md_readFirst 59 = .ok (.getfield 142, 3) := by decide +kernel
theorem d_Md_readFirst_62 : decode b_Md_readFirst 62 = .ok (.invokevirtual 138, 3) := by decide +kernel
theorem d_Md_readFirst_65 : decode b_Md_readFirst 65 = .ok (.goto 41, 3) := by decide +kernel
theorem d_Md_readFirst_68 : decode b_Md_readFirst 68 = .ok (.aload_n 0, 1) := by decide +kernel
theorem d_Md_readFirst_69 : decode b_Md_readFirst 69 = .ok (.getfield 23, 3) := by decide +kernel
theorem d_Md_readFirst_72 : decode b_Md_readFirst 72 = .ok (.aload_n 0, 1) := by decide +kernel
theorem d_Md_readFirst_73 : decode b_Md_readFirst 73 = .ok (.getfield 284, 3) := by decide +kernel
theorem d_Md_readFirst_76 : decode b_Md_readFirst 76 = .ok (.iload_n 1, 1) := by decide +kernel
theorem d_Md_readFirst_77 : decode b_Md_readFirst 77 = .ok (.iastore, 1) := by decide +kernel
theorem d_Md_readFirst_78 : decode b_Md_readFirst 78 = .ok (.aload_n 0, 1) := by decide +kernel
theorem d_Md_readFirst_79 : decode b_Md_readFirst 79 = .ok (.getfield 27, 3) := by decide +kernel
theorem d_Md_readFirst_82 : decode b_Md_readFirst 82 = .ok (.aload_n 0, 1) := by decide +kernel
theorem d_Md_readFirst_83 : decode b_Md_readFirst 83 = .ok (.getfield 284, 3) := by decide +kernel
theorem d_Md_readFirst_86 : decode b_Md_readFirst 86 = .ok (.aload_n 0, 1) := by decide +kernel
theorem d_Md_readFirst_87 : decode b_Md_readFirst 87 = .ok (.getfield 189, 3) := by decide +kernel
theorem d_Md_readFirst_90 : decode b_Md_readFirst 90 = .ok (.iastore, 1) := by decide +kernel
theorem d_Md_readFirst_91 : decode b_Md_readFirst 91 = .ok (.aload_n 0, 1) := by decide +kernel
theorem d_Md_readFirst_92 : decode b_Md_readFirst 92 = .ok (.iload_n 1, 1) := by decide +kernel
theorem d_Md_readFirst_93 : decode b_Md_readFirst 93 = .ok (.invokevirtual 287, 3) := by decide +kernel
theorem d_Md_readFirst_96 : decode b_Md_readFirst 96 = .ok (.aload_n 0, 1) := by decide +kernel
theorem d_Md_readFirst_97 : decode b_Md_readFirst 97 = .ok (.dup, 1) := by decide +kernel
theorem d_Md_readFirst_98 : decode b_Md_readFirst 98 = .ok (.getfield 284, 3) := by decide +kernel
theorem d_Md_readFirst_101 : decode b_Md_readFirst 101 = .ok (.iconst 1, 1) := by decide +kernel
theorem d_Md_readFirst_102 : decode b_Md_readFirst 102 = .ok (.iadd, 1) := by decide +kernel
theorem d_Md_readFirst_103 : decode b_Md_readFirst 103 = .ok (.putfield 284, 3) := by decide +kernel
theorem d_Md_readFirst_106 : decode b_Md_readFirst 106 = .ok (.return_, 1) := by decide +kernel
theorem d_Md_readLine_0 : decode b_Md_readLine 0 = .ok (.aload_n 0, 1) := by decide +kernel
theorem d_Md_readLine_1 : decode b_Md_readLine 1 = .ok (.invokevirtual 179, 3) := by decide +kernel
theorem d_Md_readLine_4 : decode b_Md_readLine 4 = .ok (.iload_n 1, 1) := by decide +kernel
theorem d_Md_readLine_5 : decode b_Md_readLine 5 = .ok (.tableswitch 164 1 18 #[87, 94, 101, 101, 113, 133, 164, 164, 101, 101, 101, 164, 164, 164, 164, 156, 156, 156], 87) := by decide +kernel
theorem d_Md_readLine_92 : decode b_Md_readLine 92 = .ok (.aload_n 0, 1) := by decide +kernel
theorem d_Md_readLine_93 : decode b_Md_readLine 93 = .ok (.invokevirtual 269, 3) := by decide +kernel
theorem d_Md_readLine_96 : decode b_Md_readLine 96 = .ok (.goto 73, 3) := by decide +kernel
theorem d_Md_readLine_99 : decode b_Md_readLine 99 = .ok (.aload_n 0, 1) := by decide +kernel
theorem d_Md_readLine_100 : decode b_Md_readLine 100 = .ok (.invokevirtual 272, 3) := by decide +kernel
theorem d_Md_readLine_103 : decode b_Md_readLine 103 = .ok (.goto 66, 3) := by decide +kernel
theorem d_Md_readLine_106 : decode b_Md_readLine 106 = .ok (.aload_n 0, 1) := by decide +kernel
theorem d_Md_readLine_107 : decode b_Md_readLine 107 = .ok (.aload_n 0, 1) := by decide +kernel
theorem d_Md_readLine_108 : decode b_Md_readLine 108 = .ok (.iconst 0, 1) := by decide +kernel
theorem d_Md_readLine_109 : decode b_Md_readLine 109 = .ok (.invokevirtual 185, 3) := by decide +kernel
theorem d_Md_readLine_112 : decode b_Md_readLine 112 = .ok (.invokevirtual 198, 3) := by decide +kernel
theorem d_Md_readLine_115 : decode b_Md_readLine 115 = .ok (.goto 54, 3) := by decide +kernel
theorem d_Md_readLine_118 : decode b_Md_readLine 118 = .ok (.aload_n 0, 1) := by decide +kernel
theorem d_Md_readLine_119 : decode b_Md_readLine 119 = .ok (.aload_n 0, 1) := by decide +kernel
theorem d_Md_readLine_120 : decode b_Md_readLine 120 = .ok (.iconst 0, 1) := by decide +kernel
theorem d_Md_readLine_121 : decode b_Md_readLine 121 = .ok (.invokevirtual 185, 3) := by decide +kernel
theorem d_Md_readLine_124 : decode b_Md_readLine 124 = .ok (.invokevirtual 198, 3) := by decide +kernel
theorem d_Md_readLine_127 : decode b_Md_readLine 127 = .ok (.aload_n 0, 1) := by decide +kernel
theorem d_Md_readLine_128 : decode b_Md_readLine 128 = .ok (.invokevirtual 249, 3) := by decide +kernel
theorem d_Md_readLine_131 : decode b_Md_readLine 131 = .ok (.aload_n 0, 1) := by decide +kernel
theorem d_Md_readLine_132 : decode b_Md_readLine 132 = .ok (.invokevirtual 275, 3) := by decide +kernel
theorem d_Md_readLine_135 : decode b_Md_readLine 135 = .ok (.goto 34, 3) := by decide +kernel
theorem d_Md_readLine_138 : decode b_Md_readLine 138 = .ok (.aload_n 0, 1) := by decide +kernel
theorem d_Md_readLine_139 : decode b_Md_readLine 139 = .ok (.aload_n 0, 1) := by decide +kernel
theorem d_Md_readLine_140 : decode b_Md_readLine 140 = .ok (.invokevirtual 258, 3) := by decide +kernel
theorem d_Md_readLine_143 : decode b_Md_readLine 143 = .ok (.invokevirtual 198, 3) := by decide +kernel
theorem d_Md_readLine_146 : decode b_Md_readLine 146 = .ok (.aload_n 0, 1) := by decide +kernel
theorem d_Md_readLine_147 : decode b_Md_readLine 147 = .ok (.invokevirtual 275, 3) := by decide +kernel
theorem d_Md_readLine_150 : decode b_Md_readLine 150 = .ok (.aload_n 0, 1) := by decide +kernel
theorem d_Md_readLine_151 : decode b_Md_readLine 151 = .ok (.aload_n 0, 1) := by decide +kernel
theorem d_Md_readLine_152 : decode b_Md_readLine 152 = .ok (.invokevirtual 258, 3) := by decide +kernel
theorem d_Md_readLine_155 : decode b_Md_readLine 155 = .ok (.invokevirtual 198, 3) := by decide +kernel
theorem d_Md_readLine_158 : decode b_Md_readLine 158 = .ok (.goto 11, 3) := by decide +kernel
theorem d_Md_readLine_161 : decode b_Md_readLine 161 = .ok (.aload_n 0, 1) := by decide +kernel
theorem d_Md_readLine_162 : decode b_Md_readLine 162 = .ok (.iload_n 1, 1) := by decide +kernel
theorem d_Md_readLine_163 : decode b_Md_readLine 163 = .ok (.invokevirtual 278, 3) := by decide +kernel
theorem d_Md_readLine_166 : decode b_Md_readLine 166 = .ok (.goto 3, 3) := by decide +kernel
theorem d_Md_readLine_169 : decode b_Md_readLine 169 = .ok (.aload_n 0, 1) := by decide +kernel
theorem d_Md_readLine_170 : decode b_Md_readLine 170 = .ok (.getfield 129, 3) := by decide +kernel
theorem d_Md_readLine_173 : decode b_Md_readLine 173 = .ok (.ifCond .eq 7, 3) := by decide +kernel
theorem d_Md_readLine_176 : decode b_Md_readLine 176 = .ok (.aload_n 0, 1) := by decide +kernel
theorem d_Md_readLine_177 : decode b_Md_readLine 177 = .ok (.invokevirtual 182, 3) := by decide +kernel
theorem d_Md_readLine_180 : decode b_Md_readLine 180 = .ok (.return_, 1) := by decide +kernel
theorem d_Md_readTerm_0 : decode b_Md_readTerm 0 = .ok (.lconst 1, 1) := by decide +kernel
theorem d_Md_readTerm_1 : decode b_Md_readTerm 1 = .ok (.lstore_n 3, 1) := by decide +kernel
theorem d_Md_readTerm_2 : decode b_Md_readTerm 2 = .ok (.aload_n 0, 1) := by decide +kernel
theorem d_Md_readTerm_3 : decode b_Md_readTerm 3 = .ok (.getfield 129, 3) := by decide +kernel
theorem d_Md_readTerm_6 : decode b_Md_readTerm 6 = .ok (.iconst 2, 1) := by decide +kernel
theorem d_Md_readTerm_7 : decode b_Md_readTerm 7 = .ok (.if_icmp .ne 7, 3) := by decide +kernel
theorem d_Md_readTerm_10 : decode b_Md_readTerm 10 = .ok (.iconst 1, 1) := by decide +kernel
theorem d_Md_readTerm_11 : decode b_Md_readTerm 11 = .ok (.goto 4, 3) := by decide +kernel
theorem d_Md_readTerm_14 : decode b_Md_readTerm 14 = .ok (.iconst 0, 1) := by decide +kernel
theorem d_Md_readTerm_15 : decode b_Md_readTerm 15 = .ok (.istore 5, 2) := by decide +kernel
theorem d_Md_readTerm_17 : decode b_Md_readTerm 17 = .ok (.iload 5, 2) := by decide +kernel
theorem d_Md_readTerm_19 : decode b_Md_readTerm 19 = .ok (.ifCond .eq 9, 3) := by decide +kernel
theorem d_Md_readTerm_22 : decode b_Md_readTerm 22 = .ok (.aload_n 0, 1) := by decide +kernel
theorem d_Md_readTerm_23 : decode b_Md_readTerm 23 = .ok (.iconst 1, 1) := by decide +kernel
theorem d_Md_readTerm_24 : decode b_Md_readTerm 24 = .ok (.invokevirtual 185, 3) := by decide +kernel
theorem d_Md_readTerm_27 : decode b_Md_readTerm 27 = .ok (.lstore_n 3, 1) := by decide +kernel
theorem d_Md_readTerm_28 : decode b_Md_readTerm 28 = .ok (.aload_n 0, 1) := by decide +kernel
theorem d_Md_readTerm_29 : decode b_Md_readTerm 29 = .ok (.iload_n 2, 1) := by decide +kernel
theorem d_Md_readTerm_30 : decode b_Md_readTerm 30 = .ok (.bipush 18, 2) := by decide +kernel
theorem d_Md_readTerm_32 : decode b_Md_readTerm 32 = .ok (.if_icmp .ne 9, 3) := by decide +kernel
theorem d_Md_readTerm_35 : decode b_Md_readTerm 35 = .ok (.ldc_w 261, 3) := by decide +kernel
theorem d_Md_readTerm_38 : decode b_Md_readTerm 38 = .ok (.goto 6, 3) := by decide +kernel
theorem d_Md_readTerm_41 : decode b_Md_readTerm 41 = .ok (.ldc_w 263, 3) := by decide +kernel
theorem d_Md_readTerm_44 : decode b_Md_readTerm 44 = .ok (.invokevirtual 204, 3) := by decide +kernel
theorem d_Md_readTerm_47 : decode b_Md_readTerm 47 = .ok (.istore 6, 2) := by decide +kernel
theorem d_Md_readTerm_49 : decode b_Md_readTerm 49 = .ok (.iload 5, 2) := by decide +kernel
theorem d_Md_readTerm_51 : decode b_Md_readTerm 51 = .ok (.ifCond .ne 13, 3) := by decide +kernel
theorem d_Md_readTerm_54 : decode b_Md_readTerm 54 = .ok (.iload 6, 2) := by decide +kernel
theorem d_Md_readTerm_56 : decode b_Md_readTerm 56 = .ok (.ifCond .ne 8, 3) := by decide +kernel
theorem d_Md_readTerm_59 : decode b_Md_readTerm 59 = .ok (.aload_n 0, 1) := by decide +kernel
theorem d_Md_readTerm_60 : decode b_Md_readTerm 60 = .ok (.invokevirtual 182, 3) := by decide +kernel
theorem d_Md_readTerm_63 : decode b_Md_readTerm 63 = .ok (.return_, 1) := by decide +kernel
theorem d_Md_readTerm_64 : decode b_Md_readTerm 64 = .ok (.lconst 0, 1) := by decide +kernel
theorem d_Md_readTerm_65 : decode b_Md_readTerm 65 = .ok (.lstore 7, 2) := by decide +kernel
theorem d_Md_readTerm_67 : decode b_Md_readTerm 67 = .ok (.iload 6, 2) := by decide +kernel
theorem d_Md_readTerm_69 : decode b_Md_readTerm 69 = .ok (.ifCond .eq 29, 3) := by decide +kernel
theorem d_Md_readTerm_72 : decode b_Md_readTerm 72 = .ok (.lconst 1, 1) := by decide +kernel
theorem d_Md_readTerm_73 : decode b_Md_readTerm 73 = .ok (.lstore 7, 2) := by decide +kernel
theorem d_Md_readTerm_75 : decode b_Md_readTerm 75 = .ok (.aload_n 0, 1) := by decide +kernel
theorem d_Md_readTerm_76 : decode b_Md_readTerm 76 = .ok (.invokevirtual 179, 3) := by decide +kernel
theorem d_Md_readTerm_79 : decode b_Md_readTerm 79 = .ok (.aload_n 0, 1) := by decide +kernel
