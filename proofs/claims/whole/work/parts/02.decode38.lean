theorem d_Md_close_226 : decode b_Md_close 226 = .ok (.iload 4, 2) := by decide +kernel
theorem d_Md_close_228 : decode b_Md_close 228 = .ok (.aload_n 0, 1) := by decide +kernel
theorem d_Md_close_229 : decode b_Md_close 229 = .ok (.getfield 37, 3) := by decide +kernel
theorem d_Md_close_232 : decode b_Md_close 232 = .ok (.getfield 318, 3) := by decide +kernel
theorem d_Md_close_235 : decode b_Md_close 235 = .ok (.iload 4, 2) := by decide +kernel
theorem d_Md_close_237 : decode b_Md_close 237 = .ok (.iaload, 1) := by decide +kernel
theorem d_Md_close_238 : decode b_Md_close 238 = .ok (.aload_n 0, 1) := by decide +kernel
theorem d_Md_close_239 : decode b_Md_close 239 = .ok (.getfield 93, 3) := by decide +kernel
theorem d_Md_close_242 : decode b_Md_close 242 = .ok (.iload_n 3, 1) := by decide +kernel
theorem d_Md_close_243 : decode b_Md_close 243 = .ok (.iaload, 1) := by decide +kernel
theorem d_Md_close_244 : decode b_Md_close 244 = .ok (.if_icmp .ne 7, 3) := by decide +kernel
theorem d_Md_close_247 : decode b_Md_close 247 = .ok (.iload_n 3, 1) := by decide +kernel
theorem d_Md_close_248 : decode b_Md_close 248 = .ok (.goto 13, 3) := by decide +kernel
theorem d_Md_close_251 : decode b_Md_close 251 = .ok (.aload_n 0, 1) := by decide +kernel
theorem d_Md_close_252 : decode b_Md_close 252 = .ok (.getfield 37, 3) := by decide +kernel
theorem d_Md_close_255 : decode b_Md_close 255 = .ok (.getfield 318, 3) := by decide +kernel
theorem d_Md_close_258 : decode b_Md_close 258 = .ok (.iload 4, 2) := by decide +kernel
theorem d_Md_close_260 : decode b_Md_close 260 = .ok (.iaload, 1) := by decide +kernel
theorem d_Md_close_261 : decode b_Md_close 261 = .ok (.iastore, 1) := by decide +kernel
theorem d_Md_close_262 : decode b_Md_close 262 = .ok (.iinc 4 1, 3) := by decide +kernel
theorem d_Md_close_265 : decode b_Md_close 265 = .ok (.goto (-60), 3) := by decide +kernel
theorem d_Md_close_268 : decode b_Md_close 268 = .ok (.iinc 3 1, 3) := by decide +kernel
theorem d_Md_close_271 : decode b_Md_close 271 = .ok (.goto (-97), 3) := by decide +kernel
theorem d_Md_close_274 : decode b_Md_close 274 = .ok (.return_, 1) := by decide +kernel
theorem d_Md_common_0 : decode b_Md_common 0 = .ok (.lload_n 0, 1) := by decide +kernel
theorem d_Md_common_1 : decode b_Md_common 1 = .ok (.lconst 0, 1) := by decide +kernel
theorem d_Md_common_2 : decode b_Md_common 2 = .ok (.lcmp, 1) := by decide +kernel
theorem d_Md_common_3 : decode b_Md_common 3 = .ok (.ifCond .ge 8, 3) := by decide +kernel
theorem d_Md_common_6 : decode b_Md_common 6 = .ok (.lload_n 0, 1) := by decide +kernel
theorem d_Md_common_7 : decode b_Md_common 7 = .ok (.lneg, 1) := by decide +kernel
theorem d_Md_common_8 : decode b_Md_common 8 = .ok (.goto 4, 3) := by decide +kernel
theorem d_Md_common_11 : decode b_Md_common 11 = .ok (.lload_n 0, 1) := by decide +kernel
theorem d_Md_common_12 : decode b_Md_common 12 = .ok (.lstore 4, 2) := by decide +kernel
theorem d_Md_common_14 : decode b_Md_common 14 = .ok (.lload_n 2, 1) := by decide +kernel
theorem d_Md_common_15 : decode b_Md_common 15 = .ok (.lconst 0, 1) := by decide +kernel
theorem d_Md_common_16 : decode b_Md_common 16 = .ok (.lcmp, 1) := by decide +kernel
theorem d_Md_common_17 : decode b_Md_common 17 = .ok (.ifCond .ge 8, 3) := by decide +kernel
theorem d_Md_common_20 : decode b_Md_common 20 = .ok (.lload_n 2, 1) := by decide +kernel
theorem d_Md_common_21 : decode b_Md_common 21 = .ok (.lneg, 1) := by decide +kernel
theorem d_Md_common_22 : decode b_Md_common 22 = .ok (.goto 4, 3) := by decide +kernel
theorem d_Md_common_25 : decode b_Md_common 25 = .ok (.lload_n 2, 1) := by decide +kernel
theorem d_Md_common_26 : decode b_Md_common 26 = .ok (.lstore 6, 2) := by decide +kernel
theorem d_Md_common_28 : decode b_Md_common 28 = .ok (.lload 6, 2) := by decide +kernel
theorem d_Md_common_30 : decode b_Md_common 30 = .ok (.lconst 0, 1) := by decide +kernel
theorem d_Md_common_31 : decode b_Md_common 31 = .ok (.lcmp, 1) := by decide +kernel
theorem d_Md_common_32 : decode b_Md_common 32 = .ok (.ifCond .eq 21, 3) := by decide +kernel
theorem d_Md_common_35 : decode b_Md_common 35 = .ok (.lload 4, 2) := by decide +kernel
theorem d_Md_common_37 : decode b_Md_common 37 = .ok (.lload 6, 2) := by decide +kernel
theorem d_Md_common_39 : decode b_Md_common 39 = .ok (.lrem, 1) := by decide +kernel
theorem d_Md_common_40 : decode b_Md_common 40 = .ok (.lstore 8, 2) := by decide +kernel
theorem d_Md_common_42 : decode b_Md_common 42 = .ok (.lload 6, 2) := by decide +kernel
theorem d_Md_common_44 : decode b_Md_common 44 = .ok (.lstore 4, 2) := by decide +kernel
theorem d_Md_common_46 : decode b_Md_common 46 = .ok (.lload 8, 2) := by decide +kernel
theorem d_Md_common_48 : decode b_Md_common 48 = .ok (.lstore 6, 2) := by decide +kernel
theorem d_Md_common_50 : decode b_Md_common 50 = .ok (.goto (-22), 3) := by decide +kernel
theorem d_Md_common_53 : decode b_Md_common 53 = .ok (.lload 4, 2) := by decide +kernel
theorem d_Md_common_55 : decode b_Md_common 55 = .ok (.lreturn, 1) := by decide +kernel
theorem d_Md_content_0 : decode b_Md_content 0 = .ok (.lconst 0, 1) := by decide +kernel
theorem d_Md_content_1 : decode b_Md_content 1 = .ok (.lstore_n 1, 1) := by decide +kernel
theorem d_Md_content_2 : decode b_Md_content 2 = .ok (.iconst 0, 1) := by decide +kernel
theorem d_Md_content_3 : decode b_Md_content 3 = .ok (.istore_n 3, 1) := by decide +kernel
theorem d_Md_content_4 : decode b_Md_content 4 = .ok (.iload_n 3, 1) := by decide +kernel
theorem d_Md_content_5 : decode b_Md_content 5 = .ok (.bipush 16, 2) := by decide +kernel
theorem d_Md_content_7 : decode b_Md_content 7 = .ok (.if_icmp .ge 17, 3) := by decide +kernel
theorem d_Md_content_10 : decode b_Md_content 10 = .ok (.lload_n 1, 1) := by decide +kernel
theorem d_Md_content_11 : decode b_Md_content 11 = .ok (.aload_n 0, 1) := by decide +kernel
theorem d_Md_content_12 : decode b_Md_content 12 = .ok (.iload_n 3, 1) := by decide +kernel
theorem d_Md_content_13 : decode b_Md_content 13 = .ok (.laload, 1) := by decide +kernel
theorem d_Md_content_14 : decode b_Md_content 14 = .ok (.invokestatic 470, 3) := by decide +kernel
theorem d_Md_content_17 : decode b_Md_content 17 = .ok (.lstore_n 1, 1) := by decide +kernel
theorem d_Md_content_18 : decode b_Md_content 18 = .ok (.iinc 3 1, 3) := by decide +kernel
theorem d_Md_content_21 : decode b_Md_content 21 = .ok (.goto (-17), 3) := by decide +kernel
theorem d_Md_content_24 : decode b_Md_content 24 = .ok (.lload_n 1, 1) := by decide +kernel
theorem d_Md_content_25 : decode b_Md_content 25 = .ok (.lreturn, 1) := by decide +kernel
theorem d_Md_count_0 : decode b_Md_count 0 = .ok (.aload_n 0, 1) := by decide +kernel
theorem d_Md_count_1 : decode b_Md_count 1 = .ok (.invokevirtual 496, 3) := by decide +kernel
theorem d_Md_count_4 : decode b_Md_count 4 = .ok (.aload_n 0, 1) := by decide +kernel
theorem d_Md_count_5 : decode b_Md_count 5 = .ok (.bipush 35, 2) := by decide +kernel
theorem d_Md_count_7 : decode b_Md_count 7 = .ok (.invokevirtual 509, 3) := by decide +kernel
theorem d_Md_count_10 : decode b_Md_count 10 = .ok (.aload_n 0, 1) := by decide +kernel
theorem d_Md_count_11 : decode b_Md_count 11 = .ok (.aload_n 0, 1) := by decide +kernel
theorem d_Md_count_12 : decode b_Md_count 12 = .ok (.getfield 37, 3) := by decide +kernel
theorem d_Md_count_15 : decode b_Md_count 15 = .ok (.getfield 312, 3) := by decide +kernel
theorem d_Md_count_18 : decode b_Md_count 18 = .ok (.i2l, 1) := by decide +kernel
theorem d_Md_count_19 : decode b_Md_count 19 = .ok (.invokevirtual 536, 3) := by decide +kernel
theorem d_Md_count_22 : decode b_Md_count 22 = .ok (.aload_n 0, 1) := by decide +kernel
theorem d_Md_count_23 : decode b_Md_count 23 = .ok (.aload_n 0, 1) := by decide +kernel
theorem d_Md_count_24 : decode b_Md_count 24 = .ok (.getfield 37, 3) := by decide +kernel
theorem d_Md_count_27 : decode b_Md_count 27 = .ok (.getfield 354, 3) := by decide +kernel
theorem d_Md_count_30 : decode b_Md_count 30 = .ok (.i2l, 1) := by decide +kernel
theorem d_Md_count_31 : decode b_Md_count 31 = .ok (.invokevirtual 536, 3) := by decide +kernel
theorem d_Md_count_34 : decode b_Md_count 34 = .ok (.aload_n 0, 1) := by decide +kernel
theorem d_Md_count_35 : decode b_Md_count 35 = .ok (.aload_n 0, 1) := by decide +kernel
theorem d_Md_count_36 : decode b_Md_count 36 = .ok (.getfield 328, 3) := by decide +kernel
theorem d_Md_count_39 : decode b_Md_count 39 = .ok (.aload_n 0, 1) := by decide +kernel
theorem d_Md_count_40 : decode b_Md_count 40 = .ok (.getfield 37, 3) := by decide +kernel
theorem d_Md_count_43 : decode b_Md_count 43 = .ok (.getfield 354, 3) := by decide +kernel
theorem d_Md_count_46 : decode b_Md_count 46 = .ok (.iadd, 1) := by decide +kernel
theorem d_Md_count_47 : decode b_Md_count 47 = .ok (.i2l, 1) := by decide +kernel
theorem d_Md_count_48 : decode b_Md_count 48 = .ok (.invokevirtual 536, 3) := by decide +kernel
theorem d_Md_count_51 : decode b_Md_count 51 = .ok (.aload_n 0, 1) := by decide +kernel
theorem d_Md_count_52 : decode b_Md_count 52 = .ok (.aload_n 0, 1) := by decide +kernel
theorem d_Md_count_53 : decode b_Md_count 53 = .ok (.getfield 336, 3) := by decide +kernel
theorem d_Md_count_56 : decode b_Md_count 56 = .ok (.aload_n 0, 1) := by decide +kernel
theorem d_Md_count_57 : decode b_Md_count 57 = .ok (.getfield 37, 3) := by decide +kernel
theorem d_Md_count_60 : decode b_Md_count 60 = .ok (.getfield 354, 3) := by decide +kernel
theorem d_Md_count_63 : decode b_Md_count 63 = .ok (.iadd, 1) := by decide +kernel
theorem d_Md_count_64 : decode b_Md_count 64 = .ok (.i2l, 1) := by decide +kernel
theorem d_Md_count_65 : decode b_Md_count 65 = .ok (.invokevirtual 536, 3) := by decide +kernel
theorem d_Md_count_68 : decode b_Md_count 68 = .ok (.aload_n 0, 1) := by decide +kernel
theorem d_Md_count_69 : decode b_Md_count 69 = .ok (.aload_n 0, 1) := by decide +kernel
theorem d_Md_count_70 : decode b_Md_count 70 = .ok (.getfield 331, 3) := by decide +kernel
theorem d_Md_count_73 : decode b_Md_count 73 = .ok (.i2l, 1) := by decide +kernel
theorem d_Md_count_74 : decode b_Md_count 74 = .ok (.invokevirtual 536, 3) := by decide +kernel
theorem d_Md_count_77 : decode b_Md_count 77 = .ok (.aload_n 0, 1) := by decide +kernel
theorem d_Md_count_78 : decode b_Md_count 78 = .ok (.aload_n 0, 1) := by decide +kernel
theorem d_Md_count_79 : decode b_Md_count 79 = .ok (.getfield 459, 3) := by decide +kernel
theorem d_Md_count_82 : decode b_Md_count 82 = .ok (.i2l, 1) := by decide +kernel
theorem d_Md_count_83 : decode b_Md_count 83 = .ok (.invokevirtual 536, 3) := by decide +kernel
theorem d_Md_count_86 : decode b_Md_count 86 = .ok (.aload_n 0, 1) := by decide +kernel
theorem d_Md_count_87 : decode b_Md_count 87 = .ok (.aload_n 0, 1) := by decide +kernel
theorem d_Md_count_88 : decode b_Md_count 88 = .ok (.invokevirtual 594, 3) := by decide +kernel
theorem d_Md_count_91 : decode b_Md_count 91 = .ok (.i2l, 1) := by decide +kernel
theorem d_Md_count_92 : decode b_Md_count 92 = .ok (.invokevirtual 536, 3) := by decide +kernel
theorem d_Md_count_95 : decode b_Md_count 95 = .ok (.aload_n 0, 1) := by decide +kernel
theorem d_Md_count_96 : decode b_Md_count 96 = .ok (.aload_n 0, 1) := by decide +kernel
theorem d_Md_count_97 : decode b_Md_count 97 = .ok (.invokevirtual 456, 3) := by decide +kernel
theorem d_Md_count_100 : decode b_Md_count 100 = .ok (.i2l, 1) := by decide +kernel
theorem d_Md_count_101 : decode b_Md_count 101 = .ok (.invokevirtual 536, 3) := by decide +kernel
theorem d_Md_count_104 : decode b_Md_count 104 = .ok (.aload_n 0, 1) := by decide +kernel
theorem d_Md_count_105 : decode b_Md_count 105 = .ok (.aload_n 0, 1) := by decide +kernel
theorem d_Md_count_106 : decode b_Md_count 106 = .ok (.invokevirtual 597, 3) := by decide +kernel
theorem d_Md_count_109 : decode b_Md_count 109 = .ok (.ifCond .eq 7, 3) := by decide +kernel
theorem d_Md_count_112 : decode b_Md_count 112 = .ok (.lconst 1, 1) := by decide +kernel
theorem d_Md_count_113 : decode b_Md_count 113 = .ok (.goto 4, 3) := by decide +kernel
theorem d_Md_count_116 : decode b_Md_count 116 = .ok (.lconst 0, 1) := by decide +kernel
theorem d_Md_count_117 : decode b_Md_count 117 = .ok (.invokevirtual 536, 3) := by decide +kernel
theorem d_Md_count_120 : decode b_Md_count 120 = .ok (.aload_n 0, 1) := by decide +kernel
theorem d_Md_count_121 : decode b_Md_count 121 = .ok (.bipush 10, 2) := by decide +kernel
theorem d_Md_count_123 : decode b_Md_count 123 = .ok (.invokevirtual 509, 3) := by decide +kernel
theorem d_Md_count_126 : decode b_Md_count 126 = .ok (.return_, 1) := by decide +kernel
theorem d_Md_cross_0 : decode b_Md_cross 0 = .ok (.aload_n 0, 1) := by decide +kernel
theorem d_Md_cross_1 : decode b_Md_cross 1 = .ok (.getfield 37, 3) := by decide +kernel
theorem d_Md_cross_4 : decode b_Md_cross 4 = .ok (.getfield 312, 3) := by decide +kernel
theorem d_Md_cross_7 : decode b_Md_cross 7 = .ok (.istore 6, 2) := by decide +kernel
theorem d_Md_cross_9 : decode b_Md_cross 9 = .ok (.aload_n 0, 1) := by decide +kernel
theorem d_Md_cross_10 : decode b_Md_cross 10 = .ok (.getfield 37, 3) := by decide +kernel
theorem d_Md_cross_13 : decode b_Md_cross 13 = .ok (.dup, 1) := by decide +kernel
theorem d_Md_cross_14 : decode b_Md_cross 14 = .ok (.getfield 312, 3) := by decide +kernel
theorem d_Md_cross_17 : decode b_Md_cross 17 = .ok (.iconst 1, 1) := by decide +kernel
theorem d_Md_cross_18 : decode b_Md_cross 18 = .ok (.iadd, 1) := by decide +kernel
theorem d_Md_cross_19 : decode b_Md_cross 19 = .ok (.putfield 312, 3) := by decide +kernel
theorem d_Md_cross_22 : decode b_Md_cross 22 = .ok (.aload_n 0, 1) := by decide +kernel
theorem d_Md_cross_23 : decode b_Md_cross 23 = .ok (.getfield 37, 3) := by decide +kernel
theorem d_Md_cross_26 : decode b_Md_cross 26 = .ok (.getfield 306, 3) := by decide +kernel
theorem d_Md_cross_29 : decode b_Md_cross 29 = .ok (.iload 6, 2) := by decide +kernel
theorem d_Md_cross_31 : decode b_Md_cross 31 = .ok (.iload_n 1, 1) := by decide +kernel
theorem d_Md_cross_32 : decode b_Md_cross 32 = .ok (.iastore, 1) := by decide +kernel
theorem d_Md_cross_33 : decode b_Md_cross 33 = .ok (.aload_n 0, 1) := by decide +kernel
theorem d_Md_cross_34 : decode b_Md_cross 34 = .ok (.getfield 37, 3) := by decide +kernel
theorem d_Md_cross_37 : decode b_Md_cross 37 = .ok (.getfield 318, 3) := by decide +kernel
theorem d_Md_cross_40 : decode b_Md_cross 40 = .ok (.iconst 4, 1) := by decide +kernel
theorem d_Md_cross_41 : decode b_Md_cross 41 = .ok (.iload 6, 2) := by decide +kernel
theorem d_Md_cross_43 : decode b_Md_cross 43 = .ok (.imul, 1) := by decide +kernel
theorem d_Md_cross_44 : decode b_Md_cross 44 = .ok (.iload_n 2, 1) := by decide +kernel
theorem d_Md_cross_45 : decode b_Md_cross 45 = .ok (.iastore, 1) := by decide +kernel
theorem d_Md_cross_46 : decode b_Md_cross 46 = .ok (.aload_n 0, 1) := by decide +kernel
theorem d_Md_cross_47 : decode b_Md_cross 47 = .ok (.getfield 37, 3) := by decide +kernel
theorem d_Md_cross_50 : decode b_Md_cross 50 = .ok (.getfield 318, 3) := by decide +kernel
theorem d_Md_cross_53 : decode b_Md_cross 53 = .ok (.iconst 4, 1) := by decide +kernel
theorem d_Md_cross_54 : decode b_Md_cross 54 = .ok (.iload 6, 2) := by decide +kernel
theorem d_Md_cross_56 : decode b_Md_cross 56 = .ok (.imul, 1) := by decide +kernel
theorem d_Md_cross_57 : decode b_Md_cross 57 = .ok (.iconst 2, 1) := by decide +kernel
theorem d_Md_cross_58 : decode b_Md_cross 58 = .ok (.iadd, 1) := by decide +kernel
theorem d_Md_cross_59 : decode b_Md_cross 59 = .ok (.iload_n 3, 1) := by decide +kernel
theorem d_Md_cross_60 : decode b_Md_cross 60 = .ok (.iastore, 1) := by decide +kernel
theorem d_Md_cross_61 : decode b_Md_cross 61 = .ok (.aload_n 0, 1) := by decide +kernel
theorem d_Md_cross_62 : decode b_Md_cross 62 = .ok (.getfield 37, 3) := by decide +kernel
theorem d_Md_cross_65 : decode b_Md_cross 65 = .ok (.getfield 318, 3) := by decide +kernel
theorem d_Md_cross_68 : decode b_Md_cross 68 = .ok (.iconst 4, 1) := by decide +kernel
theorem d_Md_cross_69 : decode b_Md_cross 69 = .ok (.iload 6, 2) := by decide +kernel
theorem d_Md_cross_71 : decode b_Md_cross 71 = .ok (.imul, 1) := by decide +kernel
theorem d_Md_cross_72 : decode b_Md_cross 72 = .ok (.iload_n 1, 1) := by decide +kernel
theorem d_Md_cross_73 : decode b_Md_cross 73 = .ok (.iconst 1, 1) := by decide +kernel
theorem d_Md_cross_74 : decode b_Md_cross 74 = .ok (.if_icmp .ne 7, 3) := by decide +kernel
theorem d_Md_cross_77 : decode b_Md_cross 77 = .ok (.iconst 3, 1) := by decide +kernel
theorem d_Md_cross_78 : decode b_Md_cross 78 = .ok (.goto 4, 3) := by decide +kernel
theorem d_Md_cross_81 : decode b_Md_cross 81 = .ok (.iconst 1, 1) := by decide +kernel
theorem d_Md_cross_82 : decode b_Md_cross 82 = .ok (.iadd, 1) := by decide +kernel
theorem d_Md_cross_83 : decode b_Md_cross 83 = .ok (.iload 4, 2) := by decide +kernel
theorem d_Md_cross_85 : decode b_Md_cross 85 = .ok (.iastore, 1) := by decide +kernel
theorem d_Md_cross_86 : decode b_Md_cross 86 = .ok (.aload_n 0, 1) := by decide +kernel
theorem d_Md_cross_87 : decode b_Md_cross 87 = .ok (.getfield 37, 3) := by decide +kernel
theorem d_Md_cross_90 : decode b_Md_cross 90 = .ok (.getfield 318, 3) := by decide +kernel
theorem d_Md_cross_93 : decode b_Md_cross 93 = .ok (.iconst 4, 1) := by decide +kernel
theorem d_Md_cross_94 : decode b_Md_cross 94 = .ok (.iload 6, 2) := by decide +kernel
theorem d_Md_cross_96 : decode b_Md_cross 96 = .ok (.imul, 1) := by decide +kernel
theorem d_Md_cross_97 : decode b_Md_cross 97 = .ok (.iload_n 1, 1) := by decide +kernel
theorem d_Md_cross_98 : decode b_Md_cross 98 = .ok (.iconst 1, 1) := by decide +kernel
theorem d_Md_cross_99 : decode b_Md_cross 99 = .ok (.if_icmp .ne 7, 3) := by decide +kernel
