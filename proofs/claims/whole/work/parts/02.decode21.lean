theorem d_Rd_advance_0 : decode b_Rd_advance 0 = .ok (.aload_n 0, 1) := by decide +kernel
theorem d_Rd_advance_1 : decode b_Rd_advance 1 = .ok (.invokevirtual 141, 3) := by decide +kernel
theorem d_Rd_advance_4 : decode b_Rd_advance 4 = .ok (.aload_n 0, 1) := by decide +kernel
theorem d_Rd_advance_5 : decode b_Rd_advance 5 = .ok (.aload_n 0, 1) := by decide +kernel
theorem d_Rd_advance_6 : decode b_Rd_advance 6 = .ok (.getfield 29, 3) := by decide +kernel
theorem d_Rd_advance_9 : decode b_Rd_advance 9 = .ok (.putfield 44, 3) := by decide +kernel
theorem d_Rd_advance_12 : decode b_Rd_advance 12 = .ok (.aload_n 0, 1) := by decide +kernel
theorem d_Rd_advance_13 : decode b_Rd_advance 13 = .ok (.aload_n 0, 1) := by decide +kernel
theorem d_Rd_advance_14 : decode b_Rd_advance 14 = .ok (.getfield 44, 3) := by decide +kernel
theorem d_Rd_advance_17 : decode b_Rd_advance 17 = .ok (.invokevirtual 144, 3) := by decide +kernel
theorem d_Rd_advance_20 : decode b_Rd_advance 20 = .ok (.istore_n 1, 1) := by decide +kernel
theorem d_Rd_advance_21 : decode b_Rd_advance 21 = .ok (.iload_n 1, 1) := by decide +kernel
theorem d_Rd_advance_22 : decode b_Rd_advance 22 = .ok (.bipush 10, 2) := by decide +kernel
theorem d_Rd_advance_24 : decode b_Rd_advance 24 = .ok (.if_icmp .ne 9, 3) := by decide +kernel
theorem d_Rd_advance_27 : decode b_Rd_advance 27 = .ok (.aload_n 0, 1) := by decide +kernel
theorem d_Rd_advance_28 : decode b_Rd_advance 28 = .ok (.iconst 0, 1) := by decide +kernel
theorem d_Rd_advance_29 : decode b_Rd_advance 29 = .ok (.putfield 41, 3) := by decide +kernel
theorem d_Rd_advance_32 : decode b_Rd_advance 32 = .ok (.return_, 1) := by decide +kernel
theorem d_Rd_advance_33 : decode b_Rd_advance 33 = .ok (.aload_n 0, 1) := by decide +kernel
theorem d_Rd_advance_34 : decode b_Rd_advance 34 = .ok (.dup, 1) := by decide +kernel
theorem d_Rd_advance_35 : decode b_Rd_advance 35 = .ok (.getfield 29, 3) := by decide +kernel
theorem d_Rd_advance_38 : decode b_Rd_advance 38 = .ok (.iconst 1, 1) := by decide +kernel
theorem d_Rd_advance_39 : decode b_Rd_advance 39 = .ok (.iadd, 1) := by decide +kernel
theorem d_Rd_advance_40 : decode b_Rd_advance 40 = .ok (.putfield 29, 3) := by decide +kernel
theorem d_Rd_advance_43 : decode b_Rd_advance 43 = .ok (.iload_n 1, 1) := by decide +kernel
theorem d_Rd_advance_44 : decode b_Rd_advance 44 = .ok (.invokestatic 148, 3) := by decide +kernel
theorem d_Rd_advance_47 : decode b_Rd_advance 47 = .ok (.ifCond .eq 11, 3) := by decide +kernel
theorem d_Rd_advance_50 : decode b_Rd_advance 50 = .ok (.aload_n 0, 1) := by decide +kernel
theorem d_Rd_advance_51 : decode b_Rd_advance 51 = .ok (.iconst 1, 1) := by decide +kernel
theorem d_Rd_advance_52 : decode b_Rd_advance 52 = .ok (.putfield 41, 3) := by decide +kernel
theorem d_Rd_advance_55 : decode b_Rd_advance 55 = .ok (.goto 93, 3) := by decide +kernel
theorem d_Rd_advance_58 : decode b_Rd_advance 58 = .ok (.iload_n 1, 1) := by decide +kernel
theorem d_Rd_advance_59 : decode b_Rd_advance 59 = .ok (.invokestatic 151, 3) := by decide +kernel
theorem d_Rd_advance_62 : decode b_Rd_advance 62 = .ok (.ifCond .eq 47, 3) := by decide +kernel
theorem d_Rd_advance_65 : decode b_Rd_advance 65 = .ok (.aload_n 0, 1) := by decide +kernel
theorem d_Rd_advance_66 : decode b_Rd_advance 66 = .ok (.iconst 2, 1) := by decide +kernel
theorem d_Rd_advance_67 : decode b_Rd_advance 67 = .ok (.putfield 41, 3) := by decide +kernel
theorem d_Rd_advance_70 : decode b_Rd_advance 70 = .ok (.aload_n 0, 1) := by decide +kernel
theorem d_Rd_advance_71 : decode b_Rd_advance 71 = .ok (.getfield 29, 3) := by decide +kernel
theorem d_Rd_advance_74 : decode b_Rd_advance 74 = .ok (.aload_n 0, 1) := by decide +kernel
theorem d_Rd_advance_75 : decode b_Rd_advance 75 = .ok (.getfield 26, 3) := by decide +kernel
theorem d_Rd_advance_78 : decode b_Rd_advance 78 = .ok (.if_icmp .ge 70, 3) := by decide +kernel
theorem d_Rd_advance_81 : decode b_Rd_advance 81 = .ok (.aload_n 0, 1) := by decide +kernel
theorem d_Rd_advance_82 : decode b_Rd_advance 82 = .ok (.getfield 9, 3) := by decide +kernel
theorem d_Rd_advance_85 : decode b_Rd_advance 85 = .ok (.aload_n 0, 1) := by decide +kernel
theorem d_Rd_advance_86 : decode b_Rd_advance 86 = .ok (.getfield 29, 3) := by decide +kernel
theorem d_Rd_advance_89 : decode b_Rd_advance 89 = .ok (.iaload, 1) := by decide +kernel
theorem d_Rd_advance_90 : decode b_Rd_advance 90 = .ok (.invokestatic 151, 3) := by decide +kernel
theorem d_Rd_advance_93 : decode b_Rd_advance 93 = .ok (.ifCond .eq 55, 3) := by decide +kernel
theorem d_Rd_advance_96 : decode b_Rd_advance 96 = .ok (.aload_n 0, 1) := by decide +kernel
theorem d_Rd_advance_97 : decode b_Rd_advance 97 = .ok (.dup, 1) := by decide +kernel
theorem d_Rd_advance_98 : decode b_Rd_advance 98 = .ok (.getfield 29, 3) := by decide +kernel
theorem d_Rd_advance_101 : decode b_Rd_advance 101 = .ok (.iconst 1, 1) := by decide +kernel
theorem d_Rd_advance_102 : decode b_Rd_advance 102 = .ok (.iadd, 1) := by decide +kernel
theorem d_Rd_advance_103 : decode b_Rd_advance 103 = .ok (.putfield 29, 3) := by decide +kernel
theorem d_Rd_advance_106 : decode b_Rd_advance 106 = .ok (.goto (-36), 3) := by decide +kernel
theorem d_Rd_advance_109 : decode b_Rd_advance 109 = .ok (.iload_n 1, 1) := by decide +kernel
theorem d_Rd_advance_110 : decode b_Rd_advance 110 = .ok (.bipush 48, 2) := by decide +kernel
theorem d_Rd_advance_112 : decode b_Rd_advance 112 = .ok (.if_icmp .lt 25, 3) := by decide +kernel
theorem d_Rd_advance_115 : decode b_Rd_advance 115 = .ok (.iload_n 1, 1) := by decide +kernel
theorem d_Rd_advance_116 : decode b_Rd_advance 116 = .ok (.bipush 57, 2) := by decide +kernel
theorem d_Rd_advance_118 : decode b_Rd_advance 118 = .ok (.if_icmp .gt 19, 3) := by decide +kernel
theorem d_Rd_advance_121 : decode b_Rd_advance 121 = .ok (.aload_n 0, 1) := by decide +kernel
theorem d_Rd_advance_122 : decode b_Rd_advance 122 = .ok (.iconst 3, 1) := by decide +kernel
theorem d_Rd_advance_123 : decode b_Rd_advance 123 = .ok (.putfield 41, 3) := by decide +kernel
theorem d_Rd_advance_126 : decode b_Rd_advance 126 = .ok (.aload_n 0, 1) := by decide +kernel
theorem d_Rd_advance_127 : decode b_Rd_advance 127 = .ok (.iload_n 1, 1) := by decide +kernel
theorem d_Rd_advance_128 : decode b_Rd_advance 128 = .ok (.bipush 48, 2) := by decide +kernel
theorem d_Rd_advance_130 : decode b_Rd_advance 130 = .ok (.isub, 1) := by decide +kernel
theorem d_Rd_advance_131 : decode b_Rd_advance 131 = .ok (.invokevirtual 154, 3) := by decide +kernel
theorem d_Rd_advance_134 : decode b_Rd_advance 134 = .ok (.goto 14, 3) := by decide +kernel
theorem d_Rd_advance_137 : decode b_Rd_advance 137 = .ok (.aload_n 0, 1) := by decide +kernel
theorem d_Rd_advance_138 : decode b_Rd_advance 138 = .ok (.iconst 4, 1) := by decide +kernel
theorem d_Rd_advance_139 : decode b_Rd_advance 139 = .ok (.putfield 41, 3) := by decide +kernel
theorem d_Rd_advance_142 : decode b_Rd_advance 142 = .ok (.aload_n 0, 1) := by decide +kernel
theorem d_Rd_advance_143 : decode b_Rd_advance 143 = .ok (.iload_n 1, 1) := by decide +kernel
theorem d_Rd_advance_144 : decode b_Rd_advance 144 = .ok (.i2l, 1) := by decide +kernel
theorem d_Rd_advance_145 : decode b_Rd_advance 145 = .ok (.putfield 117, 3) := by decide +kernel
theorem d_Rd_advance_148 : decode b_Rd_advance 148 = .ok (.return_, 1) := by decide +kernel
theorem d_Rd_begin_0 : decode b_Rd_begin 0 = .ok (.aload_n 0, 1) := by decide +kernel
theorem d_Rd_begin_1 : decode b_Rd_begin 1 = .ok (.iload_n 1, 1) := by decide +kernel
theorem d_Rd_begin_2 : decode b_Rd_begin 2 = .ok (.putfield 26, 3) := by decide +kernel
theorem d_Rd_begin_5 : decode b_Rd_begin 5 = .ok (.aload_n 0, 1) := by decide +kernel
theorem d_Rd_begin_6 : decode b_Rd_begin 6 = .ok (.iconst 0, 1) := by decide +kernel
theorem d_Rd_begin_7 : decode b_Rd_begin 7 = .ok (.putfield 29, 3) := by decide +kernel
theorem d_Rd_begin_10 : decode b_Rd_begin 10 = .ok (.aload_n 0, 1) := by decide +kernel
theorem d_Rd_begin_11 : decode b_Rd_begin 11 = .ok (.iconst 0, 1) := by decide +kernel
theorem d_Rd_begin_12 : decode b_Rd_begin 12 = .ok (.putfield 32, 3) := by decide +kernel
theorem d_Rd_begin_15 : decode b_Rd_begin 15 = .ok (.aload_n 0, 1) := by decide +kernel
theorem d_Rd_begin_16 : decode b_Rd_begin 16 = .ok (.iconst (-1), 1) := by decide +kernel
theorem d_Rd_begin_17 : decode b_Rd_begin 17 = .ok (.putfield 22, 3) := by decide +kernel
theorem d_Rd_begin_20 : decode b_Rd_begin 20 = .ok (.aload_n 0, 1) := by decide +kernel
theorem d_Rd_begin_21 : decode b_Rd_begin 21 = .ok (.getfield 18, 3) := by decide +kernel
theorem d_Rd_begin_24 : decode b_Rd_begin 24 = .ok (.invokevirtual 35, 3) := by decide +kernel
theorem d_Rd_begin_27 : decode b_Rd_begin 27 = .ok (.return_, 1) := by decide +kernel
theorem d_Rd_beginLine_0 : decode b_Rd_beginLine 0 = .ok (.aload_n 0, 1) := by decide +kernel
theorem d_Rd_beginLine_1 : decode b_Rd_beginLine 1 = .ok (.invokevirtual 38, 3) := by decide +kernel
theorem d_Rd_beginLine_4 : decode b_Rd_beginLine 4 = .ok (.aload_n 0, 1) := by decide +kernel
theorem d_Rd_beginLine_5 : decode b_Rd_beginLine 5 = .ok (.getfield 41, 3) := by decide +kernel
theorem d_Rd_beginLine_8 : decode b_Rd_beginLine 8 = .ok (.ifCond .ne 15, 3) := by decide +kernel
theorem d_Rd_beginLine_11 : decode b_Rd_beginLine 11 = .ok (.aload_n 0, 1) := by decide +kernel
theorem d_Rd_beginLine_12 : decode b_Rd_beginLine 12 = .ok (.aload_n 0, 1) := by decide +kernel
theorem d_Rd_beginLine_13 : decode b_Rd_beginLine 13 = .ok (.getfield 44, 3) := by decide +kernel
theorem d_Rd_beginLine_16 : decode b_Rd_beginLine 16 = .ok (.iconst 1, 1) := by decide +kernel
theorem d_Rd_beginLine_17 : decode b_Rd_beginLine 17 = .ok (.iadd, 1) := by decide +kernel
theorem d_Rd_beginLine_18 : decode b_Rd_beginLine 18 = .ok (.putfield 29, 3) := by decide +kernel
theorem d_Rd_beginLine_21 : decode b_Rd_beginLine 21 = .ok (.iconst 0, 1) := by decide +kernel
theorem d_Rd_beginLine_22 : decode b_Rd_beginLine 22 = .ok (.ireturn, 1) := by decide +kernel
theorem d_Rd_beginLine_23 : decode b_Rd_beginLine 23 = .ok (.aload_n 0, 1) := by decide +kernel
theorem d_Rd_beginLine_24 : decode b_Rd_beginLine 24 = .ok (.invokevirtual 47, 3) := by decide +kernel
theorem d_Rd_beginLine_27 : decode b_Rd_beginLine 27 = .ok (.istore_n 1, 1) := by decide +kernel
theorem d_Rd_beginLine_28 : decode b_Rd_beginLine 28 = .ok (.iload_n 1, 1) := by decide +kernel
theorem d_Rd_beginLine_29 : decode b_Rd_beginLine 29 = .ok (.ifCond .ne 9, 3) := by decide +kernel
theorem d_Rd_beginLine_32 : decode b_Rd_beginLine 32 = .ok (.aload_n 0, 1) := by decide +kernel
theorem d_Rd_beginLine_33 : decode b_Rd_beginLine 33 = .ok (.iconst 3, 1) := by decide +kernel
theorem d_Rd_beginLine_34 : decode b_Rd_beginLine 34 = .ok (.invokevirtual 51, 3) := by decide +kernel
theorem d_Rd_beginLine_37 : decode b_Rd_beginLine 37 = .ok (.ireturn, 1) := by decide +kernel
theorem d_Rd_beginLine_38 : decode b_Rd_beginLine 38 = .ok (.aload_n 0, 1) := by decide +kernel
theorem d_Rd_beginLine_39 : decode b_Rd_beginLine 39 = .ok (.getfield 18, 3) := by decide +kernel
theorem d_Rd_beginLine_42 : decode b_Rd_beginLine 42 = .ok (.invokevirtual 55, 3) := by decide +kernel
theorem d_Rd_beginLine_45 : decode b_Rd_beginLine 45 = .ok (.ifCond .eq 9, 3) := by decide +kernel
theorem d_Rd_beginLine_48 : decode b_Rd_beginLine 48 = .ok (.aload_n 0, 1) := by decide +kernel
theorem d_Rd_beginLine_49 : decode b_Rd_beginLine 49 = .ok (.iconst 5, 1) := by decide +kernel
theorem d_Rd_beginLine_50 : decode b_Rd_beginLine 50 = .ok (.invokevirtual 51, 3) := by decide +kernel
theorem d_Rd_beginLine_53 : decode b_Rd_beginLine 53 = .ok (.ireturn, 1) := by decide +kernel
theorem d_Rd_beginLine_54 : decode b_Rd_beginLine 54 = .ok (.aload_n 0, 1) := by decide +kernel
theorem d_Rd_beginLine_55 : decode b_Rd_beginLine 55 = .ok (.getfield 18, 3) := by decide +kernel
theorem d_Rd_beginLine_58 : decode b_Rd_beginLine 58 = .ok (.iload_n 1, 1) := by decide +kernel
theorem d_Rd_beginLine_59 : decode b_Rd_beginLine 59 = .ok (.invokevirtual 59, 3) := by decide +kernel
theorem d_Rd_beginLine_62 : decode b_Rd_beginLine 62 = .ok (.aload_n 0, 1) := by decide +kernel
theorem d_Rd_beginLine_63 : decode b_Rd_beginLine 63 = .ok (.invokevirtual 38, 3) := by decide +kernel
theorem d_Rd_beginLine_66 : decode b_Rd_beginLine 66 = .ok (.iconst 1, 1) := by decide +kernel
theorem d_Rd_beginLine_67 : decode b_Rd_beginLine 67 = .ok (.ireturn, 1) := by decide +kernel
theorem d_Rd_byteAt_0 : decode b_Rd_byteAt 0 = .ok (.iload_n 1, 1) := by decide +kernel
theorem d_Rd_byteAt_1 : decode b_Rd_byteAt 1 = .ok (.ifCond .lt 20, 3) := by decide +kernel
theorem d_Rd_byteAt_4 : decode b_Rd_byteAt 4 = .ok (.iload_n 1, 1) := by decide +kernel
theorem d_Rd_byteAt_5 : decode b_Rd_byteAt 5 = .ok (.aload_n 0, 1) := by decide +kernel
theorem d_Rd_byteAt_6 : decode b_Rd_byteAt 6 = .ok (.getfield 26, 3) := by decide +kernel
theorem d_Rd_byteAt_9 : decode b_Rd_byteAt 9 = .ok (.if_icmp .ge 12, 3) := by decide +kernel
theorem d_Rd_byteAt_12 : decode b_Rd_byteAt 12 = .ok (.aload_n 0, 1) := by decide +kernel
theorem d_Rd_byteAt_13 : decode b_Rd_byteAt 13 = .ok (.getfield 9, 3) := by decide +kernel
theorem d_Rd_byteAt_16 : decode b_Rd_byteAt 16 = .ok (.iload_n 1, 1) := by decide +kernel
theorem d_Rd_byteAt_17 : decode b_Rd_byteAt 17 = .ok (.iaload, 1) := by decide +kernel
theorem d_Rd_byteAt_18 : decode b_Rd_byteAt 18 = .ok (.goto 5, 3) := by decide +kernel
theorem d_Rd_byteAt_21 : decode b_Rd_byteAt 21 = .ok (.bipush 10, 2) := by decide +kernel
theorem d_Rd_byteAt_23 : decode b_Rd_byteAt 23 = .ok (.ireturn, 1) := by decide +kernel
theorem d_Rd_hasMore_0 : decode b_Rd_hasMore 0 = .ok (.aload_n 0, 1) := by decide +kernel
theorem d_Rd_hasMore_1 : decode b_Rd_hasMore 1 = .ok (.getfield 29, 3) := by decide +kernel
theorem d_Rd_hasMore_4 : decode b_Rd_hasMore 4 = .ok (.aload_n 0, 1) := by decide +kernel
theorem d_Rd_hasMore_5 : decode b_Rd_hasMore 5 = .ok (.getfield 26, 3) := by decide +kernel
theorem d_Rd_hasMore_8 : decode b_Rd_hasMore 8 = .ok (.if_icmp .ge 14, 3) := by decide +kernel
theorem d_Rd_hasMore_11 : decode b_Rd_hasMore 11 = .ok (.aload_n 0, 1) := by decide +kernel
theorem d_Rd_hasMore_12 : decode b_Rd_hasMore 12 = .ok (.getfield 32, 3) := by decide +kernel
theorem d_Rd_hasMore_15 : decode b_Rd_hasMore 15 = .ok (.ifCond .ne 7, 3) := by decide +kernel
theorem d_Rd_hasMore_18 : decode b_Rd_hasMore 18 = .ok (.iconst 1, 1) := by decide +kernel
theorem d_Rd_hasMore_19 : decode b_Rd_hasMore 19 = .ok (.goto 4, 3) := by decide +kernel
theorem d_Rd_hasMore_22 : decode b_Rd_hasMore 22 = .ok (.iconst 0, 1) := by decide +kernel
theorem d_Rd_hasMore_23 : decode b_Rd_hasMore 23 = .ok (.ireturn, 1) := by decide +kernel
theorem d_Rd_isLetter_0 : decode b_Rd_isLetter 0 = .ok (.iload_n 0, 1) := by decide +kernel
theorem d_Rd_isLetter_1 : decode b_Rd_isLetter 1 = .ok (.bipush 97, 2) := by decide +kernel
theorem d_Rd_isLetter_3 : decode b_Rd_isLetter 3 = .ok (.if_icmp .lt 9, 3) := by decide +kernel
theorem d_Rd_isLetter_6 : decode b_Rd_isLetter 6 = .ok (.iload_n 0, 1) := by decide +kernel
theorem d_Rd_isLetter_7 : decode b_Rd_isLetter 7 = .ok (.bipush 122, 2) := by decide +kernel
theorem d_Rd_isLetter_9 : decode b_Rd_isLetter 9 = .ok (.if_icmp .le 15, 3) := by decide +kernel
theorem d_Rd_isLetter_12 : decode b_Rd_isLetter 12 = .ok (.iload_n 0, 1) := by decide +kernel
theorem d_Rd_isLetter_13 : decode b_Rd_isLetter 13 = .ok (.bipush 65, 2) := by decide +kernel
theorem d_Rd_isLetter_15 : decode b_Rd_isLetter 15 = .ok (.if_icmp .lt 13, 3) := by decide +kernel
theorem d_Rd_isLetter_18 : decode b_Rd_isLetter 18 = .ok (.iload_n 0, 1) := by decide +kernel
theorem d_Rd_isLetter_19 : decode b_Rd_isLetter 19 = .ok (.bipush 90, 2) := by decide +kernel
theorem d_Rd_isLetter_21 : decode b_Rd_isLetter 21 = .ok (.if_icmp .gt 7, 3) := by decide +kernel
theorem d_Rd_isLetter_24 : decode b_Rd_isLetter 24 = .ok (.iconst 1, 1) := by decide +kernel
theorem d_Rd_isLetter_25 : decode b_Rd_isLetter 25 = .ok (.goto 4, 3) := by decide +kernel
theorem d_Rd_isLetter_28 : decode b_Rd_isLetter 28 = .ok (.iconst 0, 1) := by decide +kernel
theorem d_Rd_isLetter_29 : decode b_Rd_isLetter 29 = .ok (.ireturn, 1) := by decide +kernel
theorem d_Rd_isMark_0 : decode b_Rd_isMark 0 = .ok (.aload_n 0, 1) := by decide +kernel
theorem d_Rd_isMark_1 : decode b_Rd_isMark 1 = .ok (.getfield 41, 3) := by decide +kernel
theorem d_Rd_isMark_4 : decode b_Rd_isMark 4 = .ok (.iconst 4, 1) := by decide +kernel
theorem d_Rd_isMark_5 : decode b_Rd_isMark 5 = .ok (.if_icmp .ne 17, 3) := by decide +kernel
theorem d_Rd_isMark_8 : decode b_Rd_isMark 8 = .ok (.aload_n 0, 1) := by decide +kernel
theorem d_Rd_isMark_9 : decode b_Rd_isMark 9 = .ok (.getfield 117, 3) := by decide +kernel
theorem d_Rd_isMark_12 : decode b_Rd_isMark 12 = .ok (.iload_n 1, 1) := by decide +kernel
theorem d_Rd_isMark_13 : decode b_Rd_isMark 13 = .ok (.i2l, 1) := by decide +kernel
theorem d_Rd_isMark_14 : decode b_Rd_isMark 14 = .ok (.lcmp, 1) := by decide +kernel
theorem d_Rd_isMark_15 : decode b_Rd_isMark 15 = .ok (.ifCond .ne 7, 3) := by decide +kernel
theorem d_Rd_isMark_18 : decode b_Rd_isMark 18 = .ok (.iconst 1, 1) := by decide +kernel
theorem d_Rd_isMark_19 : decode b_Rd_isMark 19 = .ok (.goto 4, 3) := by decide +kernel
theorem d_Rd_isMark_22 : decode b_Rd_isMark 22 = .ok (.iconst 0, 1) := by decide +kernel
theorem d_Rd_isMark_23 : decode b_Rd_isMark 23 = .ok (.ireturn, 1) := by decide +kernel
theorem d_Rd_isSign_0 : decode b_Rd_isSign 0 = .ok (.aload_n 0, 1) := by decide +kernel
theorem d_Rd_isSign_1 : decode b_Rd_isSign 1 = .ok (.bipush 43, 2) := by decide +kernel
theorem d_Rd_isSign_3 : decode b_Rd_isSign 3 = .ok (.invokevirtual 106, 3) := by decide +kernel
theorem d_Rd_isSign_6 : decode b_Rd_isSign 6 = .ok (.ifCond .ne 12, 3) := by decide +kernel
theorem d_Rd_isSign_9 : decode b_Rd_isSign 9 = .ok (.aload_n 0, 1) := by decide +kernel
theorem d_Rd_isSign_10 : decode b_Rd_isSign 10 = .ok (.bipush 45, 2) := by decide +kernel
theorem d_Rd_isSign_12 : decode b_Rd_isSign 12 = .ok (.invokevirtual 106, 3) := by decide +kernel
theorem d_Rd_isSign_15 : decode b_Rd_isSign 15 = .ok (.ifCond .eq 7, 3) := by decide +kernel
theorem d_Rd_isSign_18 : decode b_Rd_isSign 18 = .ok (.iconst 1, 1) := by decide +kernel
theorem d_Rd_isSign_19 : decode b_Rd_isSign 19 = .ok (.goto 4, 3) := by decide +kernel
theorem d_Rd_isSign_22 : decode b_Rd_isSign 22 = .ok (.iconst 0, 1) := by decide +kernel
theorem d_Rd_isSign_23 : decode b_Rd_isSign 23 = .ok (.ireturn, 1) := by decide +kernel
