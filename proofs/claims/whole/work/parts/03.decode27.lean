theorem d_Md_agrees_134 : decode b_Md_agrees 134 = .ok (.lload 6, 2) := by decide +kernel
theorem d_Md_agrees_136 : decode b_Md_agrees 136 = .ok (.ldc2_w 604, 3) := by decide +kernel
theorem d_Md_agrees_139 : decode b_Md_agrees 139 = .ok (.lcmp, 1) := by decide +kernel
theorem d_Md_agrees_140 : decode b_Md_agrees 140 = .ok (.ifCond .le 7, 3) := by decide +kernel
theorem d_Md_agrees_147 : decode b_Md_agrees 147 = .ok (.aload_n 0, 1) := by decide +kernel
theorem d_Md_agrees_148 : decode b_Md_agrees 148 = .ok (.getfield 96, 3) := by decide +kernel
theorem d_Md_agrees_151 : decode b_Md_agrees 151 = .ok (.bipush 100, 2) := by decide +kernel
theorem d_Md_agrees_153 : decode b_Md_agrees 153 = .ok (.lload 6, 2) := by decide +kernel
theorem d_Md_agrees_155 : decode b_Md_agrees 155 = .ok (.l2i, 1) := by decide +kernel
theorem d_Md_agrees_156 : decode b_Md_agrees 156 = .ok (.iadd, 1) := by decide +kernel
theorem d_Md_agrees_157 : decode b_Md_agrees 157 = .ok (.laload, 1) := by decide +kernel
theorem d_Md_agrees_37 : decode b_Md_agrees 37 = .ok (.aload_n 0, 1) := by decide +kernel
theorem d_Md_agrees_38 : decode b_Md_agrees 38 = .ok (.getfield 30, 3) := by decide +kernel
theorem d_Md_agrees_41 : decode b_Md_agrees 41 = .ok (.aload_n 0, 1) := by decide +kernel
theorem d_Md_agrees_42 : decode b_Md_agrees 42 = .ok (.getfield 27, 3) := by decide +kernel
theorem d_Md_agrees_45 : decode b_Md_agrees 45 = .ok (.aload_n 0, 1) := by decide +kernel
theorem d_Md_agrees_46 : decode b_Md_agrees 46 = .ok (.getfield 290, 3) := by decide +kernel
theorem d_Md_agrees_49 : decode b_Md_agrees 49 = .ok (.iaload, 1) := by decide +kernel
theorem d_Md_agrees_50 : decode b_Md_agrees 50 = .ok (.iload 8, 2) := by decide +kernel
theorem d_Md_agrees_52 : decode b_Md_agrees 52 = .ok (.iadd, 1) := by decide +kernel
theorem d_Md_agrees_53 : decode b_Md_agrees 53 = .ok (.iconst 1, 1) := by decide +kernel
theorem d_Md_agrees_54 : decode b_Md_agrees 54 = .ok (.iadd, 1) := by decide +kernel
theorem d_Md_agrees_55 : decode b_Md_agrees 55 = .ok (.laload, 1) := by decide +kernel
theorem d_Md_agrees_56 : decode b_Md_agrees 56 = .ok (.lload 6, 2) := by decide +kernel
theorem d_Md_agrees_58 : decode b_Md_agrees 58 = .ok (.lcmp, 1) := by decide +kernel
theorem d_Md_agrees_59 : decode b_Md_agrees 59 = .ok (.ifCond .eq 6, 3) := by decide +kernel
theorem d_Md_agrees_65 : decode b_Md_agrees 65 = .ok (.aload_n 0, 1) := by decide +kernel
theorem d_Md_agrees_66 : decode b_Md_agrees 66 = .ok (.getfield 30, 3) := by decide +kernel
theorem d_Md_agrees_69 : decode b_Md_agrees 69 = .ok (.aload_n 0, 1) := by decide +kernel
theorem d_Md_agrees_70 : decode b_Md_agrees 70 = .ok (.getfield 27, 3) := by decide +kernel
theorem d_Md_agrees_73 : decode b_Md_agrees 73 = .ok (.aload_n 0, 1) := by decide +kernel
theorem d_Md_agrees_74 : decode b_Md_agrees 74 = .ok (.getfield 290, 3) := by decide +kernel
theorem d_Md_agrees_77 : decode b_Md_agrees 77 = .ok (.iaload, 1) := by decide +kernel
theorem d_Md_agrees_78 : decode b_Md_agrees 78 = .ok (.iload 8, 2) := by decide +kernel
theorem d_Md_agrees_80 : decode b_Md_agrees 80 = .ok (.iadd, 1) := by decide +kernel
theorem d_Md_agrees_81 : decode b_Md_agrees 81 = .ok (.laload, 1) := by decide +kernel
theorem d_Md_agrees_82 : decode b_Md_agrees 82 = .ok (.lstore 9, 2) := by decide +kernel
theorem d_Md_agrees_84 : decode b_Md_agrees 84 = .ok (.lload_n 2, 1) := by decide +kernel
theorem d_Md_agrees_85 : decode b_Md_agrees 85 = .ok (.lload 9, 2) := by decide +kernel
theorem d_Md_agrees_87 : decode b_Md_agrees 87 = .ok (.bipush 32, 2) := by decide +kernel
theorem d_Md_agrees_89 : decode b_Md_agrees 89 = .ok (.lshr, 1) := by decide +kernel
theorem d_Md_agrees_90 : decode b_Md_agrees 90 = .ok (.ladd, 1) := by decide +kernel
theorem d_Md_agrees_91 : decode b_Md_agrees 91 = .ok (.lstore_n 2, 1) := by decide +kernel
theorem d_Md_agrees_92 : decode b_Md_agrees 92 = .ok (.lload 4, 2) := by decide +kernel
theorem d_Md_agrees_94 : decode b_Md_agrees 94 = .ok (.lload 9, 2) := by decide +kernel
theorem d_Md_agrees_96 : decode b_Md_agrees 96 = .ok (.ldc2_w 600, 3) := by decide +kernel
theorem d_Md_agrees_99 : decode b_Md_agrees 99 = .ok (.land, 1) := by decide +kernel
theorem d_Md_agrees_100 : decode b_Md_agrees 100 = .ok (.ladd, 1) := by decide +kernel
theorem d_Md_agrees_101 : decode b_Md_agrees 101 = .ok (.lstore 4, 2) := by decide +kernel
theorem d_Md_agrees_62 : decode b_Md_agrees 62 = .ok (.goto 41, 3) := by decide +kernel
theorem d_Md_agrees_0 : decode b_Md_agrees 0 = .ok (.lconst 0, 1) := by decide +kernel
theorem d_Md_agrees_1 : decode b_Md_agrees 1 = .ok (.lstore_n 2, 1) := by decide +kernel
theorem d_Md_agrees_2 : decode b_Md_agrees 2 = .ok (.lconst 0, 1) := by decide +kernel
theorem d_Md_agrees_3 : decode b_Md_agrees 3 = .ok (.lstore 4, 2) := by decide +kernel
theorem d_Md_agrees_5 : decode b_Md_agrees 5 = .ok (.aload_n 0, 1) := by decide +kernel
theorem d_Md_agrees_6 : decode b_Md_agrees 6 = .ok (.getfield 30, 3) := by decide +kernel
theorem d_Md_agrees_9 : decode b_Md_agrees 9 = .ok (.aload_n 0, 1) := by decide +kernel
theorem d_Md_agrees_10 : decode b_Md_agrees 10 = .ok (.getfield 27, 3) := by decide +kernel
theorem d_Md_agrees_13 : decode b_Md_agrees 13 = .ok (.aload_n 0, 1) := by decide +kernel
theorem d_Md_agrees_14 : decode b_Md_agrees 14 = .ok (.getfield 290, 3) := by decide +kernel
theorem d_Md_agrees_17 : decode b_Md_agrees 17 = .ok (.iaload, 1) := by decide +kernel
theorem d_Md_agrees_18 : decode b_Md_agrees 18 = .ok (.iload_n 1, 1) := by decide +kernel
theorem d_Md_agrees_19 : decode b_Md_agrees 19 = .ok (.iadd, 1) := by decide +kernel
theorem d_Md_agrees_20 : decode b_Md_agrees 20 = .ok (.iconst 1, 1) := by decide +kernel
theorem d_Md_agrees_21 : decode b_Md_agrees 21 = .ok (.iadd, 1) := by decide +kernel
theorem d_Md_agrees_22 : decode b_Md_agrees 22 = .ok (.laload, 1) := by decide +kernel
theorem d_Md_agrees_23 : decode b_Md_agrees 23 = .ok (.lstore 6, 2) := by decide +kernel
theorem d_Md_agrees_25 : decode b_Md_agrees 25 = .ok (.iconst 0, 1) := by decide +kernel
theorem d_Md_agrees_26 : decode b_Md_agrees 26 = .ok (.istore 8, 2) := by decide +kernel
theorem d_Md_crossing_15 : decode b_Md_crossing 15 = .ok (.iload_n 2, 1) := by decide +kernel
theorem d_Md_crossing_16 : decode b_Md_crossing 16 = .ok (.ifCond .lt 8, 3) := by decide +kernel
theorem d_Md_crossing_19 : decode b_Md_crossing 19 = .ok (.iload_n 2, 1) := by decide +kernel
theorem d_Md_crossing_20 : decode b_Md_crossing 20 = .ok (.iconst 4, 1) := by decide +kernel
theorem d_Md_crossing_21 : decode b_Md_crossing 21 = .ok (.if_icmp .le 5, 3) := by decide +kernel
theorem d_Md_crossing_26 : decode b_Md_crossing 26 = .ok (.iload_n 2, 1) := by decide +kernel
theorem d_Md_crossing_27 : decode b_Md_crossing 27 = .ok (.iconst 4, 1) := by decide +kernel
theorem d_Md_crossing_28 : decode b_Md_crossing 28 = .ok (.if_icmp .ne 15, 3) := by decide +kernel
theorem d_Md_crossing_43 : decode b_Md_crossing 43 = .ok (.aload_n 0, 1) := by decide +kernel
theorem d_Md_crossing_44 : decode b_Md_crossing 44 = .ok (.getfield 37, 3) := by decide +kernel
theorem d_Md_crossing_47 : decode b_Md_crossing 47 = .ok (.getfield 318, 3) := by decide +kernel
theorem d_Md_crossing_50 : decode b_Md_crossing 50 = .ok (.iconst 4, 1) := by decide +kernel
theorem d_Md_crossing_51 : decode b_Md_crossing 51 = .ok (.iload_n 1, 1) := by decide +kernel
theorem d_Md_crossing_52 : decode b_Md_crossing 52 = .ok (.imul, 1) := by decide +kernel
theorem d_Md_crossing_53 : decode b_Md_crossing 53 = .ok (.iload_n 2, 1) := by decide +kernel
theorem d_Md_crossing_54 : decode b_Md_crossing 54 = .ok (.iadd, 1) := by decide +kernel
theorem d_Md_crossing_55 : decode b_Md_crossing 55 = .ok (.iaload, 1) := by decide +kernel
theorem d_Md_crossing_56 : decode b_Md_crossing 56 = .ok (.ireturn, 1) := by decide +kernel
theorem d_Md_crossing_31 : decode b_Md_crossing 31 = .ok (.aload_n 0, 1) := by decide +kernel
theorem d_Md_crossing_32 : decode b_Md_crossing 32 = .ok (.getfield 37, 3) := by decide +kernel
theorem d_Md_crossing_35 : decode b_Md_crossing 35 = .ok (.getfield 306, 3) := by decide +kernel
theorem d_Md_crossing_38 : decode b_Md_crossing 38 = .ok (.iload_n 1, 1) := by decide +kernel
theorem d_Md_crossing_39 : decode b_Md_crossing 39 = .ok (.iaload, 1) := by decide +kernel
theorem d_Md_crossing_40 : decode b_Md_crossing 40 = .ok (.goto 16, 3) := by decide +kernel
theorem d_Md_printed_12 : decode b_Md_printed 12 = .ok (.aload_n 0, 1) := by decide +kernel
theorem d_Md_printed_13 : decode b_Md_printed 13 = .ok (.getfield 13, 3) := by decide +kernel
theorem d_Md_printed_16 : decode b_Md_printed 16 = .ok (.iload_n 1, 1) := by decide +kernel
theorem d_Md_printed_17 : decode b_Md_printed 17 = .ok (.baload, 1) := by decide +kernel
theorem d_Md_printed_18 : decode b_Md_printed 18 = .ok (.sipush 255, 3) := by decide +kernel
theorem d_Md_printed_21 : decode b_Md_printed 21 = .ok (.iand, 1) := by decide +kernel
theorem d_Md_printed_22 : decode b_Md_printed 22 = .ok (.goto 4, 3) := by decide +kernel
theorem d_Md_wipe_23 : decode b_Md_wipe 23 = .ok (.aload_n 0, 1) := by decide +kernel
theorem d_Md_wipe_24 : decode b_Md_wipe 24 = .ok (.getfield 9, 3) := by decide +kernel
theorem d_Md_wipe_27 : decode b_Md_wipe 27 = .ok (.iload_n 3, 1) := by decide +kernel
theorem d_Md_wipe_28 : decode b_Md_wipe 28 = .ok (.aload_n 0, 1) := by decide +kernel
theorem d_Md_wipe_29 : decode b_Md_wipe 29 = .ok (.getfield 13, 3) := by decide +kernel
theorem d_Md_wipe_32 : decode b_Md_wipe 32 = .ok (.iload_n 3, 1) := by decide +kernel
theorem d_Md_wipe_33 : decode b_Md_wipe 33 = .ok (.baload, 1) := by decide +kernel
theorem d_Md_wipe_34 : decode b_Md_wipe 34 = .ok (.bastore, 1) := by decide +kernel
theorem d_Md_wipe_35 : decode b_Md_wipe 35 = .ok (.iinc 3 1, 3) := by decide +kernel
theorem d_Md_wipe_38 : decode b_Md_wipe 38 = .ok (.goto (-20), 3) := by decide +kernel
theorem d_Int_bitCount_0 : decode b_Int_bitCount 0 = .ok (.iload_n 0, 1) := by decide +kernel
theorem d_Int_bitCount_1 : decode b_Int_bitCount 1 = .ok (.iload_n 0, 1) := by decide +kernel
theorem d_Int_bitCount_2 : decode b_Int_bitCount 2 = .ok (.iconst 1, 1) := by decide +kernel
theorem d_Int_bitCount_3 : decode b_Int_bitCount 3 = .ok (.iushr, 1) := by decide +kernel
theorem d_Int_bitCount_4 : decode b_Int_bitCount 4 = .ok (.ldc_w 265, 3) := by decide +kernel
theorem d_Int_bitCount_7 : decode b_Int_bitCount 7 = .ok (.iand, 1) := by decide +kernel
theorem d_Int_bitCount_8 : decode b_Int_bitCount 8 = .ok (.isub, 1) := by decide +kernel
theorem d_Int_bitCount_9 : decode b_Int_bitCount 9 = .ok (.istore_n 0, 1) := by decide +kernel
theorem d_Int_bitCount_10 : decode b_Int_bitCount 10 = .ok (.iload_n 0, 1) := by decide +kernel
theorem d_Int_bitCount_11 : decode b_Int_bitCount 11 = .ok (.ldc_w 266, 3) := by decide +kernel
theorem d_Int_bitCount_14 : decode b_Int_bitCount 14 = .ok (.iand, 1) := by decide +kernel
theorem d_Int_bitCount_15 : decode b_Int_bitCount 15 = .ok (.iload_n 0, 1) := by decide +kernel
theorem d_Int_bitCount_16 : decode b_Int_bitCount 16 = .ok (.iconst 2, 1) := by decide +kernel
theorem d_Int_bitCount_17 : decode b_Int_bitCount 17 = .ok (.iushr, 1) := by decide +kernel
theorem d_Int_bitCount_18 : decode b_Int_bitCount 18 = .ok (.ldc_w 266, 3) := by decide +kernel
theorem d_Int_bitCount_21 : decode b_Int_bitCount 21 = .ok (.iand, 1) := by decide +kernel
theorem d_Int_bitCount_22 : decode b_Int_bitCount 22 = .ok (.iadd, 1) := by decide +kernel
theorem d_Int_bitCount_23 : decode b_Int_bitCount 23 = .ok (.istore_n 0, 1) := by decide +kernel
theorem d_Int_bitCount_24 : decode b_Int_bitCount 24 = .ok (.iload_n 0, 1) := by decide +kernel
theorem d_Int_bitCount_25 : decode b_Int_bitCount 25 = .ok (.iload_n 0, 1) := by decide +kernel
theorem d_Int_bitCount_26 : decode b_Int_bitCount 26 = .ok (.iconst 4, 1) := by decide +kernel
theorem d_Int_bitCount_27 : decode b_Int_bitCount 27 = .ok (.iushr, 1) := by decide +kernel
theorem d_Int_bitCount_28 : decode b_Int_bitCount 28 = .ok (.iadd, 1) := by decide +kernel
theorem d_Int_bitCount_29 : decode b_Int_bitCount 29 = .ok (.ldc_w 267, 3) := by decide +kernel
theorem d_Int_bitCount_32 : decode b_Int_bitCount 32 = .ok (.iand, 1) := by decide +kernel
theorem d_Int_bitCount_33 : decode b_Int_bitCount 33 = .ok (.istore_n 0, 1) := by decide +kernel
theorem d_Int_bitCount_34 : decode b_Int_bitCount 34 = .ok (.iload_n 0, 1) := by decide +kernel
theorem d_Int_bitCount_35 : decode b_Int_bitCount 35 = .ok (.iload_n 0, 1) := by decide +kernel
theorem d_Int_bitCount_36 : decode b_Int_bitCount 36 = .ok (.bipush 8, 2) := by decide +kernel
theorem d_Int_bitCount_38 : decode b_Int_bitCount 38 = .ok (.iushr, 1) := by decide +kernel
theorem d_Int_bitCount_39 : decode b_Int_bitCount 39 = .ok (.iadd, 1) := by decide +kernel
theorem d_Int_bitCount_40 : decode b_Int_bitCount 40 = .ok (.istore_n 0, 1) := by decide +kernel
theorem d_Int_bitCount_41 : decode b_Int_bitCount 41 = .ok (.iload_n 0, 1) := by decide +kernel
theorem d_Int_bitCount_42 : decode b_Int_bitCount 42 = .ok (.iload_n 0, 1) := by decide +kernel
theorem d_Int_bitCount_43 : decode b_Int_bitCount 43 = .ok (.bipush 16, 2) := by decide +kernel
theorem d_Int_bitCount_45 : decode b_Int_bitCount 45 = .ok (.iushr, 1) := by decide +kernel
theorem d_Int_bitCount_46 : decode b_Int_bitCount 46 = .ok (.iadd, 1) := by decide +kernel
theorem d_Int_bitCount_47 : decode b_Int_bitCount 47 = .ok (.istore_n 0, 1) := by decide +kernel
theorem d_Int_bitCount_48 : decode b_Int_bitCount 48 = .ok (.iload_n 0, 1) := by decide +kernel
theorem d_Int_bitCount_49 : decode b_Int_bitCount 49 = .ok (.bipush 63, 2) := by decide +kernel
theorem d_Int_bitCount_51 : decode b_Int_bitCount 51 = .ok (.iand, 1) := by decide +kernel
theorem d_Int_bitCount_52 : decode b_Int_bitCount 52 = .ok (.ireturn, 1) := by decide +kernel
theorem d_En_feed_13 : decode b_En_feed 13 = .ok (.iconst (-1), 1) := by decide +kernel
theorem d_En_feed_14 : decode b_En_feed 14 = .ok (.ireturn, 1) := by decide +kernel
theorem d_Rd_advance_137 : decode b_Rd_advance 137 = .ok (.aload_n 0, 1) := by decide +kernel
theorem d_Rd_advance_138 : decode b_Rd_advance 138 = .ok (.iconst 4, 1) := by decide +kernel
theorem d_Rd_advance_139 : decode b_Rd_advance 139 = .ok (.putfield 41, 3) := by decide +kernel
theorem d_Rd_advance_142 : decode b_Rd_advance 142 = .ok (.aload_n 0, 1) := by decide +kernel
theorem d_Rd_advance_143 : decode b_Rd_advance 143 = .ok (.iload_n 1, 1) := by decide +kernel
theorem d_Rd_advance_144 : decode b_Rd_advance 144 = .ok (.i2l, 1) := by decide +kernel
theorem d_Rd_advance_145 : decode b_Rd_advance 145 = .ok (.putfield 117, 3) := by decide +kernel
theorem d_Rd_advance_148 : decode b_Rd_advance 148 = .ok (.return_, 1) := by decide +kernel
theorem d_Rd_advance_70 : decode b_Rd_advance 70 = .ok (.aload_n 0, 1) := by decide +kernel
theorem d_Rd_advance_71 : decode b_Rd_advance 71 = .ok (.getfield 29, 3) := by decide +kernel
theorem d_Rd_advance_74 : decode b_Rd_advance 74 = .ok (.aload_n 0, 1) := by decide +kernel
theorem d_Rd_advance_75 : decode b_Rd_advance 75 = .ok (.getfield 26, 3) := by decide +kernel
theorem d_Rd_advance_78 : decode b_Rd_advance 78 = .ok (.if_icmp .ge 70, 3) := by decide +kernel
theorem d_Rd_advance_81 : decode b_Rd_advance 81 = .ok (.aload_n 0, 1) := by decide +kernel
theorem d_Rd_advance_82 : decode b_Rd_advance 82 = .ok (.getfield 9, 3) := by decide +kernel
theorem d_Rd_advance_85 : decode b_Rd_advance 85 = .ok (.aload_n 0, 1) := by decide +kernel
theorem d_Rd_advance_86 : decode b_Rd_advance 86 = .ok (.getfield 29, 3) := by decide +kernel
theorem d_Rd_advance_89 : decode b_Rd_advance 89 = .ok (.iaload, 1) := by decide +kernel
theorem d_Rd_advance_90 : decode b_Rd_advance 90 = .ok (.invokestatic 151, 3) := by decide +kernel
theorem d_Rd_advance_93 : decode b_Rd_advance 93 = .ok (.ifCond .eq 55, 3) := by decide +kernel
theorem d_Rd_advance_96 : decode b_Rd_advance 96 = .ok (.aload_n 0, 1) := by decide +kernel
theorem d_Rd_advance_97 : decode b_Rd_advance 97 = .ok (.dup, 1) := by decide +kernel
theorem d_Rd_advance_98 : decode b_Rd_advance 98 = .ok (.getfield 29, 3) := by decide +kernel
theorem d_Rd_advance_101 : decode b_Rd_advance 101 = .ok (.iconst 1, 1) := by decide +kernel
theorem d_Rd_advance_102 : decode b_Rd_advance 102 = .ok (.iadd, 1) := by decide +kernel
theorem d_Rd_advance_103 : decode b_Rd_advance 103 = .ok (.putfield 29, 3) := by decide +kernel
theorem d_Rd_advance_106 : decode b_Rd_advance 106 = .ok (.goto (-36), 3) := by decide +kernel
theorem d_Rd_advance_0 : decode b_Rd_advance 0 = .ok (.aload_n 0, 1) := by decide +kernel
theorem d_Rd_advance_1 : decode b_Rd_advance 1 = .ok (.invokevirtual 141, 3) := by decide +kernel
theorem d_Rd_advance_4 : decode b_Rd_advance 4 = .ok (.aload_n 0, 1) := by decide +kernel
theorem d_Rd_advance_5 : decode b_Rd_advance 5 = .ok (.aload_n 0, 1) := by decide +kernel
theorem d_Rd_advance_6 : decode b_Rd_advance 6 = .ok (.getfield 29, 3) := by decide +kernel
theorem d_Rd_advance_9 : decode b_Rd_advance 9 = .ok (.putfield 44, 3) := by decide +kernel
theorem d_Rd_advance_12 : decode b_Rd_advance 12 = .ok (.aload_n 0, 1) := by decide +kernel
theorem d_Rd_advance_13 : decode b_Rd_advance 13 = .ok (.aload_n 0, 1) := by decide +kernel
theorem d_Rd_advance_14 : decode b_Rd_advance 14 = .ok (.getfield 44, 3) := by decide +kernel
theorem d_Rd_advance_17 : decode b_Rd_advance 17 = .ok (.invokevirtual 144, 3) := by decide +kernel
theorem d_Rd_advance_20 : decode b_Rd_advance 20 = .ok (.istore_n 1, 1) := by decide +kernel
theorem d_Rd_advance_21 : decode b_Rd_advance 21 = .ok (.iload_n 1, 1) := by decide +kernel
theorem d_Rd_advance_22 : decode b_Rd_advance 22 = .ok (.bipush 10, 2) := by decide +kernel
theorem d_Rd_advance_24 : decode b_Rd_advance 24 = .ok (.if_icmp .ne 9, 3) := by decide +kernel
theorem d_Rd_advance_33 : decode b_Rd_advance 33 = .ok (.aload_n 0, 1) := by decide +kernel
theorem d_Rd_advance_34 : decode b_Rd_advance 34 = .ok (.dup, 1) := by decide +kernel
theorem d_Rd_advance_35 : decode b_Rd_advance 35 = .ok (.getfield 29, 3) := by decide +kernel
theorem d_Rd_advance_38 : decode b_Rd_advance 38 = .ok (.iconst 1, 1) := by decide +kernel
theorem d_Rd_advance_39 : decode b_Rd_advance 39 = .ok (.iadd, 1) := by decide +kernel
