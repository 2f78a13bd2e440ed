theorem d_Arr_fill2_2 : decode b_Arr_fill2 2 = .ok (.aload_n 0, 1) := by decide +kernel
theorem d_Arr_fill2_3 : decode b_Arr_fill2 3 = .ok (.arraylength, 1) := by decide +kernel
theorem d_Arr_fill2_4 : decode b_Arr_fill2 4 = .ok (.istore 4, 2) := by decide +kernel
theorem d_Arr_fill2_6 : decode b_Arr_fill2 6 = .ok (.iload_n 3, 1) := by decide +kernel
theorem d_Arr_fill2_7 : decode b_Arr_fill2 7 = .ok (.iload 4, 2) := by decide +kernel
theorem d_Arr_fill2_9 : decode b_Arr_fill2 9 = .ok (.if_icmp .ge 13, 3) := by decide +kernel
theorem d_Arr_fill2_12 : decode b_Arr_fill2 12 = .ok (.aload_n 0, 1) := by decide +kernel
theorem d_Arr_fill2_13 : decode b_Arr_fill2 13 = .ok (.iload_n 3, 1) := by decide +kernel
theorem d_Arr_fill2_14 : decode b_Arr_fill2 14 = .ok (.lload_n 1, 1) := by decide +kernel
theorem d_Arr_fill2_15 : decode b_Arr_fill2 15 = .ok (.lastore, 1) := by decide +kernel
theorem d_Arr_fill2_16 : decode b_Arr_fill2 16 = .ok (.iinc 3 1, 3) := by decide +kernel
theorem d_Arr_fill2_19 : decode b_Arr_fill2 19 = .ok (.goto (-13), 3) := by decide +kernel
theorem d_Arr_fill2_22 : decode b_Arr_fill2 22 = .ok (.return_, 1) := by decide +kernel
theorem d_Rd_hasMore_0 : decode b_Rd_hasMore 0 = .ok (.aload_n 0, 1) := by decide +kernel
theorem d_Rd_hasMore_1 : decode b_Rd_hasMore 1 = .ok (.getfield 29, 3) := by decide +kernel
theorem d_Rd_hasMore_4 : decode b_Rd_hasMore 4 = .ok (.aload_n 0, 1) := by decide +kernel
theorem d_Rd_hasMore_5 : decode b_Rd_hasMore 5 = .ok (.getfield 26, 3) := by decide +kernel
theorem d_Rd_hasMore_8 : decode b_Rd_hasMore 8 = .ok (.if_icmp .ge 14, 3) := by decide +kernel
theorem d_Rd_hasMore_22 : decode b_Rd_hasMore 22 = .ok (.iconst 0, 1) := by decide +kernel
theorem d_Rd_hasMore_23 : decode b_Rd_hasMore 23 = .ok (.ireturn, 1) := by decide +kernel
theorem d_Rd_hasMore_11 : decode b_Rd_hasMore 11 = .ok (.aload_n 0, 1) := by decide +kernel
theorem d_Rd_hasMore_12 : decode b_Rd_hasMore 12 = .ok (.getfield 32, 3) := by decide +kernel
theorem d_Rd_hasMore_15 : decode b_Rd_hasMore 15 = .ok (.ifCond .ne 7, 3) := by decide +kernel
theorem d_Rd_hasMore_18 : decode b_Rd_hasMore 18 = .ok (.iconst 1, 1) := by decide +kernel
theorem d_Rd_hasMore_19 : decode b_Rd_hasMore 19 = .ok (.goto 4, 3) := by decide +kernel
theorem d_Rd_skipIdle_63 : decode b_Rd_skipIdle 63 = .ok (.aload_n 0, 1) := by decide +kernel
theorem d_Rd_skipIdle_64 : decode b_Rd_skipIdle 64 = .ok (.getfield 29, 3) := by decide +kernel
theorem d_Rd_skipIdle_67 : decode b_Rd_skipIdle 67 = .ok (.aload_n 0, 1) := by decide +kernel
theorem d_Rd_skipIdle_68 : decode b_Rd_skipIdle 68 = .ok (.getfield 26, 3) := by decide +kernel
theorem d_Rd_skipIdle_71 : decode b_Rd_skipIdle 71 = .ok (.if_icmp .ge 44, 3) := by decide +kernel
theorem d_Rd_skipIdle_115 : decode b_Rd_skipIdle 115 = .ok (.return_, 1) := by decide +kernel
theorem d_Rd_skipIdle_74 : decode b_Rd_skipIdle 74 = .ok (.aload_n 0, 1) := by decide +kernel
theorem d_Rd_skipIdle_75 : decode b_Rd_skipIdle 75 = .ok (.getfield 9, 3) := by decide +kernel
theorem d_Rd_skipIdle_78 : decode b_Rd_skipIdle 78 = .ok (.aload_n 0, 1) := by decide +kernel
theorem d_Rd_skipIdle_79 : decode b_Rd_skipIdle 79 = .ok (.getfield 29, 3) := by decide +kernel
theorem d_Rd_skipIdle_82 : decode b_Rd_skipIdle 82 = .ok (.iaload, 1) := by decide +kernel
theorem d_Rd_skipIdle_83 : decode b_Rd_skipIdle 83 = .ok (.bipush 32, 2) := by decide +kernel
theorem d_Rd_skipIdle_85 : decode b_Rd_skipIdle 85 = .ok (.if_icmp .lt 30, 3) := by decide +kernel
theorem d_Rd_skipIdle_88 : decode b_Rd_skipIdle 88 = .ok (.aload_n 0, 1) := by decide +kernel
theorem d_Rd_skipIdle_89 : decode b_Rd_skipIdle 89 = .ok (.getfield 9, 3) := by decide +kernel
theorem d_Rd_skipIdle_92 : decode b_Rd_skipIdle 92 = .ok (.aload_n 0, 1) := by decide +kernel
theorem d_Rd_skipIdle_93 : decode b_Rd_skipIdle 93 = .ok (.getfield 29, 3) := by decide +kernel
theorem d_Rd_skipIdle_96 : decode b_Rd_skipIdle 96 = .ok (.iaload, 1) := by decide +kernel
theorem d_Rd_skipIdle_97 : decode b_Rd_skipIdle 97 = .ok (.bipush 126, 2) := by decide +kernel
theorem d_Rd_skipIdle_99 : decode b_Rd_skipIdle 99 = .ok (.if_icmp .gt 16, 3) := by decide +kernel
theorem d_Rd_skipIdle_102 : decode b_Rd_skipIdle 102 = .ok (.aload_n 0, 1) := by decide +kernel
theorem d_Rd_skipIdle_103 : decode b_Rd_skipIdle 103 = .ok (.dup, 1) := by decide +kernel
theorem d_Rd_skipIdle_104 : decode b_Rd_skipIdle 104 = .ok (.getfield 29, 3) := by decide +kernel
theorem d_Rd_skipIdle_107 : decode b_Rd_skipIdle 107 = .ok (.iconst 1, 1) := by decide +kernel
theorem d_Rd_skipIdle_108 : decode b_Rd_skipIdle 108 = .ok (.iadd, 1) := by decide +kernel
theorem d_Rd_skipIdle_109 : decode b_Rd_skipIdle 109 = .ok (.putfield 29, 3) := by decide +kernel
theorem d_Rd_skipIdle_112 : decode b_Rd_skipIdle 112 = .ok (.goto (-49), 3) := by decide +kernel
theorem d_Rd_skipIdle_38 : decode b_Rd_skipIdle 38 = .ok (.aload_n 0, 1) := by decide +kernel
theorem d_Rd_skipIdle_39 : decode b_Rd_skipIdle 39 = .ok (.getfield 29, 3) := by decide +kernel
theorem d_Rd_skipIdle_42 : decode b_Rd_skipIdle 42 = .ok (.aload_n 0, 1) := by decide +kernel
theorem d_Rd_skipIdle_43 : decode b_Rd_skipIdle 43 = .ok (.getfield 26, 3) := by decide +kernel
theorem d_Rd_skipIdle_46 : decode b_Rd_skipIdle 46 = .ok (.if_icmp .ge 69, 3) := by decide +kernel
theorem d_Rd_skipIdle_49 : decode b_Rd_skipIdle 49 = .ok (.aload_n 0, 1) := by decide +kernel
theorem d_Rd_skipIdle_50 : decode b_Rd_skipIdle 50 = .ok (.getfield 9, 3) := by decide +kernel
theorem d_Rd_skipIdle_53 : decode b_Rd_skipIdle 53 = .ok (.aload_n 0, 1) := by decide +kernel
theorem d_Rd_skipIdle_54 : decode b_Rd_skipIdle 54 = .ok (.getfield 29, 3) := by decide +kernel
theorem d_Rd_skipIdle_57 : decode b_Rd_skipIdle 57 = .ok (.iaload, 1) := by decide +kernel
theorem d_Rd_skipIdle_58 : decode b_Rd_skipIdle 58 = .ok (.bipush 35, 2) := by decide +kernel
theorem d_Rd_skipIdle_60 : decode b_Rd_skipIdle 60 = .ok (.if_icmp .ne 55, 3) := by decide +kernel
theorem d_Rd_skipIdle_0 : decode b_Rd_skipIdle 0 = .ok (.aload_n 0, 1) := by decide +kernel
theorem d_Rd_skipIdle_1 : decode b_Rd_skipIdle 1 = .ok (.getfield 29, 3) := by decide +kernel
theorem d_Rd_skipIdle_4 : decode b_Rd_skipIdle 4 = .ok (.aload_n 0, 1) := by decide +kernel
theorem d_Rd_skipIdle_5 : decode b_Rd_skipIdle 5 = .ok (.getfield 26, 3) := by decide +kernel
theorem d_Rd_skipIdle_8 : decode b_Rd_skipIdle 8 = .ok (.if_icmp .ge 30, 3) := by decide +kernel
theorem d_Rd_skipIdle_11 : decode b_Rd_skipIdle 11 = .ok (.aload_n 0, 1) := by decide +kernel
theorem d_Rd_skipIdle_12 : decode b_Rd_skipIdle 12 = .ok (.getfield 9, 3) := by decide +kernel
theorem d_Rd_skipIdle_15 : decode b_Rd_skipIdle 15 = .ok (.aload_n 0, 1) := by decide +kernel
theorem d_Rd_skipIdle_16 : decode b_Rd_skipIdle 16 = .ok (.getfield 29, 3) := by decide +kernel
theorem d_Rd_skipIdle_19 : decode b_Rd_skipIdle 19 = .ok (.iaload, 1) := by decide +kernel
theorem d_Rd_skipIdle_20 : decode b_Rd_skipIdle 20 = .ok (.bipush 32, 2) := by decide +kernel
theorem d_Rd_skipIdle_22 : decode b_Rd_skipIdle 22 = .ok (.if_icmp .ne 16, 3) := by decide +kernel
theorem d_Rd_skipIdle_25 : decode b_Rd_skipIdle 25 = .ok (.aload_n 0, 1) := by decide +kernel
theorem d_Rd_skipIdle_26 : decode b_Rd_skipIdle 26 = .ok (.dup, 1) := by decide +kernel
theorem d_Rd_skipIdle_27 : decode b_Rd_skipIdle 27 = .ok (.getfield 29, 3) := by decide +kernel
theorem d_Rd_skipIdle_30 : decode b_Rd_skipIdle 30 = .ok (.iconst 1, 1) := by decide +kernel
theorem d_Rd_skipIdle_31 : decode b_Rd_skipIdle 31 = .ok (.iadd, 1) := by decide +kernel
theorem d_Rd_skipIdle_32 : decode b_Rd_skipIdle 32 = .ok (.putfield 29, 3) := by decide +kernel
theorem d_Rd_skipIdle_35 : decode b_Rd_skipIdle 35 = .ok (.goto (-35), 3) := by decide +kernel
theorem d_Rd_byteAt_0 : decode b_Rd_byteAt 0 = .ok (.iload_n 1, 1) := by decide +kernel
theorem d_Rd_byteAt_1 : decode b_Rd_byteAt 1 = .ok (.ifCond .lt 20, 3) := by decide +kernel
theorem d_Rd_byteAt_21 : decode b_Rd_byteAt 21 = .ok (.bipush 10, 2) := by decide +kernel
theorem d_Rd_byteAt_23 : decode b_Rd_byteAt 23 = .ok (.ireturn, 1) := by decide +kernel
theorem d_Rd_byteAt_4 : decode b_Rd_byteAt 4 = .ok (.iload_n 1, 1) := by decide +kernel
theorem d_Rd_byteAt_5 : decode b_Rd_byteAt 5 = .ok (.aload_n 0, 1) := by decide +kernel
theorem d_Rd_byteAt_6 : decode b_Rd_byteAt 6 = .ok (.getfield 26, 3) := by decide +kernel
theorem d_Rd_byteAt_9 : decode b_Rd_byteAt 9 = .ok (.if_icmp .ge 12, 3) := by decide +kernel
theorem d_Rd_byteAt_12 : decode b_Rd_byteAt 12 = .ok (.aload_n 0, 1) := by decide +kernel
theorem d_Rd_byteAt_13 : decode b_Rd_byteAt 13 = .ok (.getfield 9, 3) := by decide +kernel
theorem d_Rd_byteAt_16 : decode b_Rd_byteAt 16 = .ok (.iload_n 1, 1) := by decide +kernel
theorem d_Rd_byteAt_17 : decode b_Rd_byteAt 17 = .ok (.iaload, 1) := by decide +kernel
theorem d_Rd_byteAt_18 : decode b_Rd_byteAt 18 = .ok (.goto 5, 3) := by decide +kernel
theorem d_Rd_isStray_12 : decode b_Rd_isStray 12 = .ok (.iconst 1, 1) := by decide +kernel
theorem d_Rd_isStray_13 : decode b_Rd_isStray 13 = .ok (.goto 4, 3) := by decide +kernel
theorem d_Rd_isStray_17 : decode b_Rd_isStray 17 = .ok (.ireturn, 1) := by decide +kernel
theorem d_Rd_isStray_0 : decode b_Rd_isStray 0 = .ok (.iload_n 0, 1) := by decide +kernel
theorem d_Rd_isStray_1 : decode b_Rd_isStray 1 = .ok (.bipush 32, 2) := by decide +kernel
theorem d_Rd_isStray_3 : decode b_Rd_isStray 3 = .ok (.if_icmp .lt 9, 3) := by decide +kernel
theorem d_Rd_isStray_6 : decode b_Rd_isStray 6 = .ok (.iload_n 0, 1) := by decide +kernel
theorem d_Rd_isStray_7 : decode b_Rd_isStray 7 = .ok (.bipush 126, 2) := by decide +kernel
theorem d_Rd_isStray_9 : decode b_Rd_isStray 9 = .ok (.if_icmp .le 7, 3) := by decide +kernel
theorem d_Rd_isStray_16 : decode b_Rd_isStray 16 = .ok (.iconst 0, 1) := by decide +kernel
theorem d_Rd_isLetter_24 : decode b_Rd_isLetter 24 = .ok (.iconst 1, 1) := by decide +kernel
theorem d_Rd_isLetter_25 : decode b_Rd_isLetter 25 = .ok (.goto 4, 3) := by decide +kernel
theorem d_Rd_isLetter_29 : decode b_Rd_isLetter 29 = .ok (.ireturn, 1) := by decide +kernel
theorem d_Rd_isLetter_12 : decode b_Rd_isLetter 12 = .ok (.iload_n 0, 1) := by decide +kernel
theorem d_Rd_isLetter_13 : decode b_Rd_isLetter 13 = .ok (.bipush 65, 2) := by decide +kernel
theorem d_Rd_isLetter_15 : decode b_Rd_isLetter 15 = .ok (.if_icmp .lt 13, 3) := by decide +kernel
theorem d_Rd_isLetter_28 : decode b_Rd_isLetter 28 = .ok (.iconst 0, 1) := by decide +kernel
theorem d_Rd_isLetter_18 : decode b_Rd_isLetter 18 = .ok (.iload_n 0, 1) := by decide +kernel
theorem d_Rd_isLetter_19 : decode b_Rd_isLetter 19 = .ok (.bipush 90, 2) := by decide +kernel
theorem d_Rd_isLetter_21 : decode b_Rd_isLetter 21 = .ok (.if_icmp .gt 7, 3) := by decide +kernel
theorem d_Rd_isLetter_0 : decode b_Rd_isLetter 0 = .ok (.iload_n 0, 1) := by decide +kernel
theorem d_Rd_isLetter_1 : decode b_Rd_isLetter 1 = .ok (.bipush 97, 2) := by decide +kernel
theorem d_Rd_isLetter_3 : decode b_Rd_isLetter 3 = .ok (.if_icmp .lt 9, 3) := by decide +kernel
theorem d_Rd_isLetter_6 : decode b_Rd_isLetter 6 = .ok (.iload_n 0, 1) := by decide +kernel
theorem d_Rd_isLetter_7 : decode b_Rd_isLetter 7 = .ok (.bipush 122, 2) := by decide +kernel
theorem d_Rd_isLetter_9 : decode b_Rd_isLetter 9 = .ok (.if_icmp .le 15, 3) := by decide +kernel
theorem d_Rd_takeDigits_129 : decode b_Rd_takeDigits 129 = .ok (.putfield 113, 3) := by decide +kernel
theorem d_Rd_takeDigits_132 : decode b_Rd_takeDigits 132 = .ok (.return_, 1) := by decide +kernel
theorem d_Rd_takeDigits_124 : decode b_Rd_takeDigits 124 = .ok (.iconst 1, 1) := by decide +kernel
theorem d_Rd_takeDigits_125 : decode b_Rd_takeDigits 125 = .ok (.goto 4, 3) := by decide +kernel
theorem d_Rd_takeDigits_128 : decode b_Rd_takeDigits 128 = .ok (.iconst 0, 1) := by decide +kernel
theorem d_Rd_takeDigits_98 : decode b_Rd_takeDigits 98 = .ok (.aload_n 0, 1) := by decide +kernel
theorem d_Rd_takeDigits_99 : decode b_Rd_takeDigits 99 = .ok (.getfield 29, 3) := by decide +kernel
theorem d_Rd_takeDigits_102 : decode b_Rd_takeDigits 102 = .ok (.aload_n 0, 1) := by decide +kernel
theorem d_Rd_takeDigits_103 : decode b_Rd_takeDigits 103 = .ok (.getfield 44, 3) := by decide +kernel
theorem d_Rd_takeDigits_106 : decode b_Rd_takeDigits 106 = .ok (.isub, 1) := by decide +kernel
theorem d_Rd_takeDigits_107 : decode b_Rd_takeDigits 107 = .ok (.istore_n 2, 1) := by decide +kernel
theorem d_Rd_takeDigits_108 : decode b_Rd_takeDigits 108 = .ok (.aload_n 0, 1) := by decide +kernel
theorem d_Rd_takeDigits_109 : decode b_Rd_takeDigits 109 = .ok (.iload_n 2, 1) := by decide +kernel
theorem d_Rd_takeDigits_110 : decode b_Rd_takeDigits 110 = .ok (.bipush 18, 2) := by decide +kernel
theorem d_Rd_takeDigits_112 : decode b_Rd_takeDigits 112 = .ok (.if_icmp .gt 12, 3) := by decide +kernel
theorem d_Rd_takeDigits_115 : decode b_Rd_takeDigits 115 = .ok (.iload_n 2, 1) := by decide +kernel
theorem d_Rd_takeDigits_116 : decode b_Rd_takeDigits 116 = .ok (.iconst 1, 1) := by decide +kernel
theorem d_Rd_takeDigits_117 : decode b_Rd_takeDigits 117 = .ok (.if_icmp .le 11, 3) := by decide +kernel
theorem d_Rd_takeDigits_120 : decode b_Rd_takeDigits 120 = .ok (.iload_n 1, 1) := by decide +kernel
theorem d_Rd_takeDigits_121 : decode b_Rd_takeDigits 121 = .ok (.ifCond .ne 7, 3) := by decide +kernel
theorem d_Rd_takeDigits_85 : decode b_Rd_takeDigits 85 = .ok (.aload_n 0, 1) := by decide +kernel
theorem d_Rd_takeDigits_86 : decode b_Rd_takeDigits 86 = .ok (.dup, 1) := by decide +kernel
theorem d_Rd_takeDigits_87 : decode b_Rd_takeDigits 87 = .ok (.getfield 29, 3) := by decide +kernel
theorem d_Rd_takeDigits_90 : decode b_Rd_takeDigits 90 = .ok (.iconst 1, 1) := by decide +kernel
theorem d_Rd_takeDigits_91 : decode b_Rd_takeDigits 91 = .ok (.iadd, 1) := by decide +kernel
theorem d_Rd_takeDigits_92 : decode b_Rd_takeDigits 92 = .ok (.putfield 29, 3) := by decide +kernel
theorem d_Rd_takeDigits_95 : decode b_Rd_takeDigits 95 = .ok (.goto (-89), 3) := by decide +kernel
theorem d_Rd_takeDigits_6 : decode b_Rd_takeDigits 6 = .ok (.aload_n 0, 1) := by decide +kernel
theorem d_Rd_takeDigits_7 : decode b_Rd_takeDigits 7 = .ok (.getfield 29, 3) := by decide +kernel
theorem d_Rd_takeDigits_10 : decode b_Rd_takeDigits 10 = .ok (.aload_n 0, 1) := by decide +kernel
theorem d_Rd_takeDigits_11 : decode b_Rd_takeDigits 11 = .ok (.getfield 26, 3) := by decide +kernel
theorem d_Rd_takeDigits_14 : decode b_Rd_takeDigits 14 = .ok (.if_icmp .ge 84, 3) := by decide +kernel
theorem d_Rd_takeDigits_17 : decode b_Rd_takeDigits 17 = .ok (.aload_n 0, 1) := by decide +kernel
theorem d_Rd_takeDigits_18 : decode b_Rd_takeDigits 18 = .ok (.getfield 9, 3) := by decide +kernel
theorem d_Rd_takeDigits_21 : decode b_Rd_takeDigits 21 = .ok (.aload_n 0, 1) := by decide +kernel
theorem d_Rd_takeDigits_22 : decode b_Rd_takeDigits 22 = .ok (.getfield 29, 3) := by decide +kernel
theorem d_Rd_takeDigits_25 : decode b_Rd_takeDigits 25 = .ok (.iaload, 1) := by decide +kernel
theorem d_Rd_takeDigits_26 : decode b_Rd_takeDigits 26 = .ok (.bipush 48, 2) := by decide +kernel
theorem d_Rd_takeDigits_28 : decode b_Rd_takeDigits 28 = .ok (.if_icmp .lt 70, 3) := by decide +kernel
theorem d_Rd_takeDigits_31 : decode b_Rd_takeDigits 31 = .ok (.aload_n 0, 1) := by decide +kernel
theorem d_Rd_takeDigits_32 : decode b_Rd_takeDigits 32 = .ok (.getfield 9, 3) := by decide +kernel
theorem d_Rd_takeDigits_35 : decode b_Rd_takeDigits 35 = .ok (.aload_n 0, 1) := by decide +kernel
theorem d_Rd_takeDigits_36 : decode b_Rd_takeDigits 36 = .ok (.getfield 29, 3) := by decide +kernel
theorem d_Rd_takeDigits_39 : decode b_Rd_takeDigits 39 = .ok (.iaload, 1) := by decide +kernel
theorem d_Rd_takeDigits_40 : decode b_Rd_takeDigits 40 = .ok (.bipush 57, 2) := by decide +kernel
theorem d_Rd_takeDigits_42 : decode b_Rd_takeDigits 42 = .ok (.if_icmp .gt 56, 3) := by decide +kernel
theorem d_Rd_takeDigits_45 : decode b_Rd_takeDigits 45 = .ok (.aload_n 0, 1) := by decide +kernel
theorem d_Rd_takeDigits_46 : decode b_Rd_takeDigits 46 = .ok (.getfield 29, 3) := by decide +kernel
theorem d_Rd_takeDigits_49 : decode b_Rd_takeDigits 49 = .ok (.aload_n 0, 1) := by decide +kernel
theorem d_Rd_takeDigits_50 : decode b_Rd_takeDigits 50 = .ok (.getfield 44, 3) := by decide +kernel
theorem d_Rd_takeDigits_53 : decode b_Rd_takeDigits 53 = .ok (.isub, 1) := by decide +kernel
theorem d_Rd_takeDigits_54 : decode b_Rd_takeDigits 54 = .ok (.bipush 18, 2) := by decide +kernel
theorem d_Rd_takeDigits_56 : decode b_Rd_takeDigits 56 = .ok (.if_icmp .ge 29, 3) := by decide +kernel
theorem d_Rd_takeDigits_59 : decode b_Rd_takeDigits 59 = .ok (.aload_n 0, 1) := by decide +kernel
theorem d_Rd_takeDigits_60 : decode b_Rd_takeDigits 60 = .ok (.ldc2_w 157, 3) := by decide +kernel
theorem d_Rd_takeDigits_63 : decode b_Rd_takeDigits 63 = .ok (.aload_n 0, 1) := by decide +kernel
theorem d_Rd_takeDigits_64 : decode b_Rd_takeDigits 64 = .ok (.getfield 117, 3) := by decide +kernel
theorem d_Rd_takeDigits_67 : decode b_Rd_takeDigits 67 = .ok (.lmul, 1) := by decide +kernel
theorem d_Rd_takeDigits_68 : decode b_Rd_takeDigits 68 = .ok (.aload_n 0, 1) := by decide +kernel
theorem d_Rd_takeDigits_69 : decode b_Rd_takeDigits 69 = .ok (.getfield 9, 3) := by decide +kernel
theorem d_Rd_takeDigits_72 : decode b_Rd_takeDigits 72 = .ok (.aload_n 0, 1) := by decide +kernel
theorem d_Rd_takeDigits_73 : decode b_Rd_takeDigits 73 = .ok (.getfield 29, 3) := by decide +kernel
theorem d_Rd_takeDigits_76 : decode b_Rd_takeDigits 76 = .ok (.iaload, 1) := by decide +kernel
theorem d_Rd_takeDigits_77 : decode b_Rd_takeDigits 77 = .ok (.bipush 48, 2) := by decide +kernel
theorem d_Rd_takeDigits_79 : decode b_Rd_takeDigits 79 = .ok (.isub, 1) := by decide +kernel
theorem d_Rd_takeDigits_80 : decode b_Rd_takeDigits 80 = .ok (.i2l, 1) := by decide +kernel
theorem d_Rd_takeDigits_81 : decode b_Rd_takeDigits 81 = .ok (.ladd, 1) := by decide +kernel
theorem d_Rd_takeDigits_82 : decode b_Rd_takeDigits 82 = .ok (.putfield 117, 3) := by decide +kernel
theorem d_Rd_takeDigits_0 : decode b_Rd_takeDigits 0 = .ok (.aload_n 0, 1) := by decide +kernel
theorem d_Rd_takeDigits_1 : decode b_Rd_takeDigits 1 = .ok (.iload_n 1, 1) := by decide +kernel
theorem d_Rd_takeDigits_2 : decode b_Rd_takeDigits 2 = .ok (.i2l, 1) := by decide +kernel
theorem d_Rd_takeDigits_3 : decode b_Rd_takeDigits 3 = .ok (.putfield 117, 3) := by decide +kernel
theorem d_Rd_refuse_58 : decode b_Rd_refuse 58 = .ok (.aload_n 0, 1) := by decide +kernel
theorem d_Rd_refuse_59 : decode b_Rd_refuse 59 = .ok (.iload_n 1, 1) := by decide +kernel
theorem d_Rd_refuse_60 : decode b_Rd_refuse 60 = .ok (.putfield 32, 3) := by decide +kernel
theorem d_Rd_refuse_63 : decode b_Rd_refuse 63 = .ok (.iconst 0, 1) := by decide +kernel
theorem d_Rd_refuse_64 : decode b_Rd_refuse 64 = .ok (.ireturn, 1) := by decide +kernel
theorem d_Rd_refuse_50 : decode b_Rd_refuse 50 = .ok (.aload_n 0, 1) := by decide +kernel
