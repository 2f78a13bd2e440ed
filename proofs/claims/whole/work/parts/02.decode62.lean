theorem d_Md_simplify_8 : decode b_Md_simplify 8 = .ok (.aload_n 0, 1) := by decide +kernel
theorem d_Md_simplify_9 : decode b_Md_simplify 9 = .ok (.invokevirtual 558, 3) := by decide +kernel
theorem d_Md_simplify_12 : decode b_Md_simplify 12 = .ok (.iconst 0, 1) := by decide +kernel
theorem d_Md_simplify_13 : decode b_Md_simplify 13 = .ok (.istore_n 2, 1) := by decide +kernel
theorem d_Md_simplify_14 : decode b_Md_simplify 14 = .ok (.iconst 0, 1) := by decide +kernel
theorem d_Md_simplify_15 : decode b_Md_simplify 15 = .ok (.istore_n 3, 1) := by decide +kernel
theorem d_Md_simplify_16 : decode b_Md_simplify 16 = .ok (.iload_n 3, 1) := by decide +kernel
theorem d_Md_simplify_17 : decode b_Md_simplify 17 = .ok (.aload_n 0, 1) := by decide +kernel
theorem d_Md_simplify_18 : decode b_Md_simplify 18 = .ok (.getfield 331, 3) := by decide +kernel
theorem d_Md_simplify_21 : decode b_Md_simplify 21 = .ok (.if_icmp .ge 61, 3) := by decide +kernel
theorem d_Md_simplify_24 : decode b_Md_simplify 24 = .ok (.iload_n 2, 1) := by decide +kernel
theorem d_Md_simplify_25 : decode b_Md_simplify 25 = .ok (.ifCond .ne 57, 3) := by decide +kernel
theorem d_Md_simplify_28 : decode b_Md_simplify 28 = .ok (.aload_n 0, 1) := by decide +kernel
theorem d_Md_simplify_29 : decode b_Md_simplify 29 = .ok (.iload_n 3, 1) := by decide +kernel
theorem d_Md_simplify_30 : decode b_Md_simplify 30 = .ok (.invokevirtual 577, 3) := by decide +kernel
theorem d_Md_simplify_33 : decode b_Md_simplify 33 = .ok (.istore 4, 2) := by decide +kernel
theorem d_Md_simplify_35 : decode b_Md_simplify 35 = .ok (.iload 4, 2) := by decide +kernel
theorem d_Md_simplify_37 : decode b_Md_simplify 37 = .ok (.iconst 1, 1) := by decide +kernel
theorem d_Md_simplify_38 : decode b_Md_simplify 38 = .ok (.if_icmp .eq 9, 3) := by decide +kernel
theorem d_Md_simplify_41 : decode b_Md_simplify 41 = .ok (.iload 4, 2) := by decide +kernel
theorem d_Md_simplify_43 : decode b_Md_simplify 43 = .ok (.iconst 2, 1) := by decide +kernel
theorem d_Md_simplify_44 : decode b_Md_simplify 44 = .ok (.if_icmp .ne 17, 3) := by decide +kernel
theorem d_Md_simplify_47 : decode b_Md_simplify 47 = .ok (.aload_n 0, 1) := by decide +kernel
theorem d_Md_simplify_48 : decode b_Md_simplify 48 = .ok (.iload_n 3, 1) := by decide +kernel
theorem d_Md_simplify_49 : decode b_Md_simplify 49 = .ok (.iload 4, 2) := by decide +kernel
theorem d_Md_simplify_51 : decode b_Md_simplify 51 = .ok (.invokevirtual 580, 3) := by decide +kernel
theorem d_Md_simplify_54 : decode b_Md_simplify 54 = .ok (.ifCond .eq 7, 3) := by decide +kernel
theorem d_Md_simplify_57 : decode b_Md_simplify 57 = .ok (.iconst 1, 1) := by decide +kernel
theorem d_Md_simplify_58 : decode b_Md_simplify 58 = .ok (.goto 4, 3) := by decide +kernel
theorem d_Md_simplify_61 : decode b_Md_simplify 61 = .ok (.iconst 0, 1) := by decide +kernel
theorem d_Md_simplify_62 : decode b_Md_simplify 62 = .ok (.istore_n 2, 1) := by decide +kernel
theorem d_Md_simplify_63 : decode b_Md_simplify 63 = .ok (.iload_n 1, 1) := by decide +kernel
theorem d_Md_simplify_64 : decode b_Md_simplify 64 = .ok (.iload_n 2, 1) := by decide +kernel
theorem d_Md_simplify_65 : decode b_Md_simplify 65 = .ok (.ifCond .eq 8, 3) := by decide +kernel
theorem d_Md_simplify_68 : decode b_Md_simplify 68 = .ok (.iload 4, 2) := by decide +kernel
theorem d_Md_simplify_70 : decode b_Md_simplify 70 = .ok (.goto 4, 3) := by decide +kernel
theorem d_Md_simplify_73 : decode b_Md_simplify 73 = .ok (.iconst 0, 1) := by decide +kernel
theorem d_Md_simplify_74 : decode b_Md_simplify 74 = .ok (.iadd, 1) := by decide +kernel
theorem d_Md_simplify_75 : decode b_Md_simplify 75 = .ok (.istore_n 1, 1) := by decide +kernel
theorem d_Md_simplify_76 : decode b_Md_simplify 76 = .ok (.iinc 3 1, 3) := by decide +kernel
theorem d_Md_simplify_79 : decode b_Md_simplify 79 = .ok (.goto (-63), 3) := by decide +kernel
theorem d_Md_simplify_82 : decode b_Md_simplify 82 = .ok (.goto (-78), 3) := by decide +kernel
theorem d_Md_simplify_85 : decode b_Md_simplify 85 = .ok (.aload_n 0, 1) := by decide +kernel
theorem d_Md_simplify_86 : decode b_Md_simplify 86 = .ok (.iload_n 1, 1) := by decide +kernel
theorem d_Md_simplify_87 : decode b_Md_simplify 87 = .ok (.invokevirtual 583, 3) := by decide +kernel
theorem d_Md_simplify_90 : decode b_Md_simplify 90 = .ok (.return_, 1) := by decide +kernel
theorem d_Md_slide_0 : decode b_Md_slide 0 = .ok (.aload_n 0, 1) := by decide +kernel
theorem d_Md_slide_1 : decode b_Md_slide 1 = .ok (.getfield 41, 3) := by decide +kernel
theorem d_Md_slide_4 : decode b_Md_slide 4 = .ok (.aload_n 0, 1) := by decide +kernel
theorem d_Md_slide_5 : decode b_Md_slide 5 = .ok (.getfield 37, 3) := by decide +kernel
theorem d_Md_slide_8 : decode b_Md_slide 8 = .ok (.invokevirtual 366, 3) := by decide +kernel
theorem d_Md_slide_11 : decode b_Md_slide 11 = .ok (.aload_n 0, 1) := by decide +kernel
theorem d_Md_slide_12 : decode b_Md_slide 12 = .ok (.getfield 87, 3) := by decide +kernel
theorem d_Md_slide_15 : decode b_Md_slide 15 = .ok (.iload_n 1, 1) := by decide +kernel
theorem d_Md_slide_16 : decode b_Md_slide 16 = .ok (.iaload, 1) := by decide +kernel
theorem d_Md_slide_17 : decode b_Md_slide 17 = .ok (.istore_n 2, 1) := by decide +kernel
theorem d_Md_slide_18 : decode b_Md_slide 18 = .ok (.iconst 0, 1) := by decide +kernel
theorem d_Md_slide_19 : decode b_Md_slide 19 = .ok (.istore_n 3, 1) := by decide +kernel
theorem d_Md_slide_20 : decode b_Md_slide 20 = .ok (.iload_n 3, 1) := by decide +kernel
theorem d_Md_slide_21 : decode b_Md_slide 21 = .ok (.iconst 3, 1) := by decide +kernel
theorem d_Md_slide_22 : decode b_Md_slide 22 = .ok (.if_icmp .ge 120, 3) := by decide +kernel
theorem d_Md_slide_25 : decode b_Md_slide 25 = .ok (.iload_n 2, 1) := by decide +kernel
theorem d_Md_slide_26 : decode b_Md_slide 26 = .ok (.iconst 1, 1) := by decide +kernel
theorem d_Md_slide_27 : decode b_Md_slide 27 = .ok (.ishr, 1) := by decide +kernel
theorem d_Md_slide_28 : decode b_Md_slide 28 = .ok (.istore 4, 2) := by decide +kernel
theorem d_Md_slide_30 : decode b_Md_slide 30 = .ok (.aload_n 0, 1) := by decide +kernel
theorem d_Md_slide_31 : decode b_Md_slide 31 = .ok (.getfield 69, 3) := by decide +kernel
theorem d_Md_slide_34 : decode b_Md_slide 34 = .ok (.iload 4, 2) := by decide +kernel
theorem d_Md_slide_36 : decode b_Md_slide 36 = .ok (.iaload, 1) := by decide +kernel
theorem d_Md_slide_37 : decode b_Md_slide 37 = .ok (.istore 5, 2) := by decide +kernel
theorem d_Md_slide_39 : decode b_Md_slide 39 = .ok (.aload_n 0, 1) := by decide +kernel
theorem d_Md_slide_40 : decode b_Md_slide 40 = .ok (.getfield 72, 3) := by decide +kernel
theorem d_Md_slide_43 : decode b_Md_slide 43 = .ok (.iload 4, 2) := by decide +kernel
theorem d_Md_slide_45 : decode b_Md_slide 45 = .ok (.iaload, 1) := by decide +kernel
theorem d_Md_slide_46 : decode b_Md_slide 46 = .ok (.istore 6, 2) := by decide +kernel
theorem d_Md_slide_48 : decode b_Md_slide 48 = .ok (.aload_n 0, 1) := by decide +kernel
theorem d_Md_slide_49 : decode b_Md_slide 49 = .ok (.getfield 37, 3) := by decide +kernel
theorem d_Md_slide_52 : decode b_Md_slide 52 = .ok (.getfield 318, 3) := by decide +kernel
theorem d_Md_slide_55 : decode b_Md_slide 55 = .ok (.iload 5, 2) := by decide +kernel
theorem d_Md_slide_57 : decode b_Md_slide 57 = .ok (.iconst 2, 1) := by decide +kernel
theorem d_Md_slide_58 : decode b_Md_slide 58 = .ok (.ixor, 1) := by decide +kernel
theorem d_Md_slide_59 : decode b_Md_slide 59 = .ok (.aload_n 0, 1) := by decide +kernel
theorem d_Md_slide_60 : decode b_Md_slide 60 = .ok (.getfield 66, 3) := by decide +kernel
theorem d_Md_slide_63 : decode b_Md_slide 63 = .ok (.iload 4, 2) := by decide +kernel
theorem d_Md_slide_65 : decode b_Md_slide 65 = .ok (.iaload, 1) := by decide +kernel
theorem d_Md_slide_66 : decode b_Md_slide 66 = .ok (.iastore, 1) := by decide +kernel
theorem d_Md_slide_67 : decode b_Md_slide 67 = .ok (.aload_n 0, 1) := by decide +kernel
theorem d_Md_slide_68 : decode b_Md_slide 68 = .ok (.getfield 37, 3) := by decide +kernel
theorem d_Md_slide_71 : decode b_Md_slide 71 = .ok (.getfield 318, 3) := by decide +kernel
theorem d_Md_slide_74 : decode b_Md_slide 74 = .ok (.iload 5, 2) := by decide +kernel
theorem d_Md_slide_76 : decode b_Md_slide 76 = .ok (.aload_n 0, 1) := by decide +kernel
theorem d_Md_slide_77 : decode b_Md_slide 77 = .ok (.getfield 41, 3) := by decide +kernel
theorem d_Md_slide_80 : decode b_Md_slide 80 = .ok (.getfield 318, 3) := by decide +kernel
theorem d_Md_slide_83 : decode b_Md_slide 83 = .ok (.iload 6, 2) := by decide +kernel
theorem d_Md_slide_85 : decode b_Md_slide 85 = .ok (.iconst 2, 1) := by decide +kernel
theorem d_Md_slide_86 : decode b_Md_slide 86 = .ok (.ixor, 1) := by decide +kernel
theorem d_Md_slide_87 : decode b_Md_slide 87 = .ok (.iaload, 1) := by decide +kernel
theorem d_Md_slide_88 : decode b_Md_slide 88 = .ok (.iastore, 1) := by decide +kernel
theorem d_Md_slide_89 : decode b_Md_slide 89 = .ok (.aload_n 0, 1) := by decide +kernel
theorem d_Md_slide_90 : decode b_Md_slide 90 = .ok (.getfield 37, 3) := by decide +kernel
theorem d_Md_slide_93 : decode b_Md_slide 93 = .ok (.getfield 318, 3) := by decide +kernel
theorem d_Md_slide_96 : decode b_Md_slide 96 = .ok (.iload 6, 2) := by decide +kernel
theorem d_Md_slide_98 : decode b_Md_slide 98 = .ok (.aload_n 0, 1) := by decide +kernel
theorem d_Md_slide_99 : decode b_Md_slide 99 = .ok (.getfield 41, 3) := by decide +kernel
theorem d_Md_slide_102 : decode b_Md_slide 102 = .ok (.getfield 318, 3) := by decide +kernel
theorem d_Md_slide_105 : decode b_Md_slide 105 = .ok (.iload 5, 2) := by decide +kernel
theorem d_Md_slide_107 : decode b_Md_slide 107 = .ok (.iconst 2, 1) := by decide +kernel
theorem d_Md_slide_108 : decode b_Md_slide 108 = .ok (.ixor, 1) := by decide +kernel
theorem d_Md_slide_109 : decode b_Md_slide 109 = .ok (.iaload, 1) := by decide +kernel
theorem d_Md_slide_110 : decode b_Md_slide 110 = .ok (.iastore, 1) := by decide +kernel
theorem d_Md_slide_111 : decode b_Md_slide 111 = .ok (.aload_n 0, 1) := by decide +kernel
theorem d_Md_slide_112 : decode b_Md_slide 112 = .ok (.getfield 37, 3) := by decide +kernel
theorem d_Md_slide_115 : decode b_Md_slide 115 = .ok (.getfield 318, 3) := by decide +kernel
theorem d_Md_slide_118 : decode b_Md_slide 118 = .ok (.iload 6, 2) := by decide +kernel
theorem d_Md_slide_120 : decode b_Md_slide 120 = .ok (.iconst 2, 1) := by decide +kernel
theorem d_Md_slide_121 : decode b_Md_slide 121 = .ok (.ixor, 1) := by decide +kernel
theorem d_Md_slide_122 : decode b_Md_slide 122 = .ok (.aload_n 0, 1) := by decide +kernel
theorem d_Md_slide_123 : decode b_Md_slide 123 = .ok (.getfield 66, 3) := by decide +kernel
theorem d_Md_slide_126 : decode b_Md_slide 126 = .ok (.iload 4, 2) := by decide +kernel
theorem d_Md_slide_128 : decode b_Md_slide 128 = .ok (.iaload, 1) := by decide +kernel
theorem d_Md_slide_129 : decode b_Md_slide 129 = .ok (.iastore, 1) := by decide +kernel
theorem d_Md_slide_130 : decode b_Md_slide 130 = .ok (.aload_n 0, 1) := by decide +kernel
theorem d_Md_slide_131 : decode b_Md_slide 131 = .ok (.iload_n 2, 1) := by decide +kernel
theorem d_Md_slide_132 : decode b_Md_slide 132 = .ok (.invokevirtual 333, 3) := by decide +kernel
theorem d_Md_slide_135 : decode b_Md_slide 135 = .ok (.istore_n 2, 1) := by decide +kernel
theorem d_Md_slide_136 : decode b_Md_slide 136 = .ok (.iinc 3 1, 3) := by decide +kernel
theorem d_Md_slide_139 : decode b_Md_slide 139 = .ok (.goto (-119), 3) := by decide +kernel
theorem d_Md_slide_142 : decode b_Md_slide 142 = .ok (.return_, 1) := by decide +kernel
theorem d_Md_slideAt_0 : decode b_Md_slideAt 0 = .ok (.iload_n 1, 1) := by decide +kernel
theorem d_Md_slideAt_1 : decode b_Md_slideAt 1 = .ok (.aload_n 0, 1) := by decide +kernel
theorem d_Md_slideAt_2 : decode b_Md_slideAt 2 = .ok (.getfield 331, 3) := by decide +kernel
theorem d_Md_slideAt_5 : decode b_Md_slideAt 5 = .ok (.if_icmp .ge 12, 3) := by decide +kernel
theorem d_Md_slideAt_8 : decode b_Md_slideAt 8 = .ok (.aload_n 0, 1) := by decide +kernel
theorem d_Md_slideAt_9 : decode b_Md_slideAt 9 = .ok (.iload_n 1, 1) := by decide +kernel
theorem d_Md_slideAt_10 : decode b_Md_slideAt 10 = .ok (.invokevirtual 577, 3) := by decide +kernel
theorem d_Md_slideAt_13 : decode b_Md_slideAt 13 = .ok (.iconst 3, 1) := by decide +kernel
theorem d_Md_slideAt_14 : decode b_Md_slideAt 14 = .ok (.if_icmp .eq 5, 3) := by decide +kernel
theorem d_Md_slideAt_17 : decode b_Md_slideAt 17 = .ok (.iconst 0, 1) := by decide +kernel
theorem d_Md_slideAt_18 : decode b_Md_slideAt 18 = .ok (.ireturn, 1) := by decide +kernel
theorem d_Md_slideAt_19 : decode b_Md_slideAt 19 = .ok (.aload_n 0, 1) := by decide +kernel
theorem d_Md_slideAt_20 : decode b_Md_slideAt 20 = .ok (.iload_n 1, 1) := by decide +kernel
theorem d_Md_slideAt_21 : decode b_Md_slideAt 21 = .ok (.invokevirtual 586, 3) := by decide +kernel
theorem d_Md_slideAt_24 : decode b_Md_slideAt 24 = .ok (.iconst 1, 1) := by decide +kernel
theorem d_Md_slideAt_25 : decode b_Md_slideAt 25 = .ok (.ireturn, 1) := by decide +kernel
theorem d_Md_smooth_0 : decode b_Md_smooth 0 = .ok (.aload_n 0, 1) := by decide +kernel
theorem d_Md_smooth_1 : decode b_Md_smooth 1 = .ok (.iload_n 1, 1) := by decide +kernel
theorem d_Md_smooth_2 : decode b_Md_smooth 2 = .ok (.invokevirtual 360, 3) := by decide +kernel
theorem d_Md_smooth_5 : decode b_Md_smooth 5 = .ok (.istore_n 2, 1) := by decide +kernel
theorem d_Md_smooth_6 : decode b_Md_smooth 6 = .ok (.aload_n 0, 1) := by decide +kernel
theorem d_Md_smooth_7 : decode b_Md_smooth 7 = .ok (.aload_n 0, 1) := by decide +kernel
theorem d_Md_smooth_8 : decode b_Md_smooth 8 = .ok (.getfield 37, 3) := by decide +kernel
theorem d_Md_smooth_11 : decode b_Md_smooth 11 = .ok (.getfield 318, 3) := by decide +kernel
theorem d_Md_smooth_14 : decode b_Md_smooth 14 = .ok (.iconst 4, 1) := by decide +kernel
theorem d_Md_smooth_15 : decode b_Md_smooth 15 = .ok (.iload_n 1, 1) := by decide +kernel
theorem d_Md_smooth_16 : decode b_Md_smooth 16 = .ok (.imul, 1) := by decide +kernel
theorem d_Md_smooth_17 : decode b_Md_smooth 17 = .ok (.iaload, 1) := by decide +kernel
theorem d_Md_smooth_18 : decode b_Md_smooth 18 = .ok (.aload_n 0, 1) := by decide +kernel
theorem d_Md_smooth_19 : decode b_Md_smooth 19 = .ok (.getfield 37, 3) := by decide +kernel
theorem d_Md_smooth_22 : decode b_Md_smooth 22 = .ok (.getfield 318, 3) := by decide +kernel
theorem d_Md_smooth_25 : decode b_Md_smooth 25 = .ok (.iload_n 2, 1) := by decide +kernel
theorem d_Md_smooth_26 : decode b_Md_smooth 26 = .ok (.iconst 2, 1) := by decide +kernel
theorem d_Md_smooth_27 : decode b_Md_smooth 27 = .ok (.ixor, 1) := by decide +kernel
theorem d_Md_smooth_28 : decode b_Md_smooth 28 = .ok (.iaload, 1) := by decide +kernel
theorem d_Md_smooth_29 : decode b_Md_smooth 29 = .ok (.invokevirtual 357, 3) := by decide +kernel
theorem d_Md_smooth_32 : decode b_Md_smooth 32 = .ok (.aload_n 0, 1) := by decide +kernel
theorem d_Md_smooth_33 : decode b_Md_smooth 33 = .ok (.aload_n 0, 1) := by decide +kernel
theorem d_Md_smooth_34 : decode b_Md_smooth 34 = .ok (.getfield 37, 3) := by decide +kernel
theorem d_Md_smooth_37 : decode b_Md_smooth 37 = .ok (.getfield 318, 3) := by decide +kernel
theorem d_Md_smooth_40 : decode b_Md_smooth 40 = .ok (.iload_n 2, 1) := by decide +kernel
theorem d_Md_smooth_41 : decode b_Md_smooth 41 = .ok (.iaload, 1) := by decide +kernel
theorem d_Md_smooth_42 : decode b_Md_smooth 42 = .ok (.aload_n 0, 1) := by decide +kernel
theorem d_Md_smooth_43 : decode b_Md_smooth 43 = .ok (.getfield 37, 3) := by decide +kernel
theorem d_Md_smooth_46 : decode b_Md_smooth 46 = .ok (.getfield 318, 3) := by decide +kernel
theorem d_Md_smooth_49 : decode b_Md_smooth 49 = .ok (.iconst 4, 1) := by decide +kernel
theorem d_Md_smooth_50 : decode b_Md_smooth 50 = .ok (.iload_n 1, 1) := by decide +kernel
theorem d_Md_smooth_51 : decode b_Md_smooth 51 = .ok (.imul, 1) := by decide +kernel
theorem d_Md_smooth_52 : decode b_Md_smooth 52 = .ok (.iconst 2, 1) := by decide +kernel
theorem d_Md_smooth_53 : decode b_Md_smooth 53 = .ok (.iadd, 1) := by decide +kernel
theorem d_Md_smooth_54 : decode b_Md_smooth 54 = .ok (.iaload, 1) := by decide +kernel
theorem d_Md_smooth_55 : decode b_Md_smooth 55 = .ok (.invokevirtual 357, 3) := by decide +kernel
theorem d_Md_smooth_58 : decode b_Md_smooth 58 = .ok (.aload_n 0, 1) := by decide +kernel
theorem d_Md_smooth_59 : decode b_Md_smooth 59 = .ok (.iload_n 1, 1) := by decide +kernel
theorem d_Md_smooth_60 : decode b_Md_smooth 60 = .ok (.invokevirtual 363, 3) := by decide +kernel
theorem d_Md_smooth_63 : decode b_Md_smooth 63 = .ok (.return_, 1) := by decide +kernel
theorem d_Md_smoothAt_0 : decode b_Md_smoothAt 0 = .ok (.iload_n 1, 1) := by decide +kernel
theorem d_Md_smoothAt_1 : decode b_Md_smoothAt 1 = .ok (.aload_n 0, 1) := by decide +kernel
theorem d_Md_smoothAt_2 : decode b_Md_smoothAt 2 = .ok (.getfield 37, 3) := by decide +kernel
theorem d_Md_smoothAt_5 : decode b_Md_smoothAt 5 = .ok (.getfield 312, 3) := by decide +kernel
theorem d_Md_smoothAt_8 : decode b_Md_smoothAt 8 = .ok (.if_icmp .lt 5, 3) := by decide +kernel
theorem d_Md_smoothAt_11 : decode b_Md_smoothAt 11 = .ok (.iconst 0, 1) := by decide +kernel
theorem d_Md_smoothAt_12 : decode b_Md_smoothAt 12 = .ok (.ireturn, 1) := by decide +kernel
theorem d_Md_smoothAt_13 : decode b_Md_smoothAt 13 = .ok (.aload_n 0, 1) := by decide +kernel
theorem d_Md_smoothAt_14 : decode b_Md_smoothAt 14 = .ok (.getfield 41, 3) := by decide +kernel
theorem d_Md_smoothAt_17 : decode b_Md_smoothAt 17 = .ok (.aload_n 0, 1) := by decide +kernel
theorem d_Md_smoothAt_18 : decode b_Md_smoothAt 18 = .ok (.getfield 37, 3) := by decide +kernel
theorem d_Md_smoothAt_21 : decode b_Md_smoothAt 21 = .ok (.invokevirtual 366, 3) := by decide +kernel
theorem d_Md_smoothAt_24 : decode b_Md_smoothAt 24 = .ok (.aload_n 0, 1) := by decide +kernel
theorem d_Md_smoothAt_25 : decode b_Md_smoothAt 25 = .ok (.iload_n 1, 1) := by decide +kernel
theorem d_Md_smoothAt_26 : decode b_Md_smoothAt 26 = .ok (.invokevirtual 590, 3) := by decide +kernel
theorem d_Md_smoothAt_29 : decode b_Md_smoothAt 29 = .ok (.aload_n 0, 1) := by decide +kernel
