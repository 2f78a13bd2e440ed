theorem d_Md_slide_88 : decode b_Md_slide 88 = .ok (.iastore, 1) := by decide +kernel
theorem d_Md_slide_89 : decode b_Md_slide 89 = .ok (.aload_n 0, 1) := by decide +kernel
theorem d_Md_slide_90 : decode b_Md_slide 90 = .ok (.getfield 37, 3) := by decide +kernel
theorem d_Md_slide_93 : decode b_Md_slide 93 = .ok (.getfield 318, 3) := by decide +kernel
theorem d_Md_slide_96 : decode b_Md_slide 96 = .ok (.iload 6, 2) := by decide +kernel
theorem d_Md_slide_98 : decode b_Md_slide 98 = .ok (.aload_n 0, 1) := by decide +kernel
theorem d_Md_slide_99 : decode b_Md_slide 99 = .ok (.getfield 41, 3) := by decide +kernel
theorem d_Md_slide_102 : decode b_Md_slide 102 = .ok (.getfield 318, 3) := by decide +kernel
theorem d_Md_slide_105 : decode b_Md_slide 105 = .ok (.iload 5, 2) := by decide +kernel
theorem d_Md_slide_107 : decode b_Md_slide 107 = .ok (.iconst 2, 1) := by decide +kernel
theorem d_Md_slide_108 : decode b_Md_slide 108 = .ok (.ixor, 1) := by decide +kernel
theorem d_Md_slide_109 : decode b_Md_slide 109 = .ok (.iaload, 1) := by decide +kernel
theorem d_Md_slide_110 : decode b_Md_slide 110 = .ok (.iastore, 1) := by decide +kernel
theorem d_Md_slide_111 : decode b_Md_slide 111 = .ok (.aload_n 0, 1) := by decide +kernel
theorem d_Md_slide_112 : decode b_Md_slide 112 = .ok (.getfield 37, 3) := by decide +kernel
theorem d_Md_slide_115 : decode b_Md_slide 115 = .ok (.getfield 318, 3) := by decide +kernel
theorem d_Md_slide_118 : decode b_Md_slide 118 = .ok (.iload 6, 2) := by decide +kernel
theorem d_Md_slide_120 : decode b_Md_slide 120 = .ok (.iconst 2, 1) := by decide +kernel
theorem d_Md_slide_121 : decode b_Md_slide 121 = .ok (.ixor, 1) := by decide +kernel
theorem d_Md_slide_122 : decode b_Md_slide 122 = .ok (.aload_n 0, 1) := by decide +kernel
theorem d_Md_slide_123 : decode b_Md_slide 123 = .ok (.getfield 66, 3) := by decide +kernel
theorem d_Md_slide_126 : decode b_Md_slide 126 = .ok (.iload 4, 2) := by decide +kernel
theorem d_Md_slide_128 : decode b_Md_slide 128 = .ok (.iaload, 1) := by decide +kernel
theorem d_Md_slide_129 : decode b_Md_slide 129 = .ok (.iastore, 1) := by decide +kernel
theorem d_Md_slide_130 : decode b_Md_slide 130 = .ok (.aload_n 0, 1) := by decide +kernel
theorem d_Md_slide_131 : decode b_Md_slide 131 = .ok (.iload_n 2, 1) := by decide +kernel
theorem d_Md_slide_132 : decode b_Md_slide 132 = .ok (.invokevirtual 333, 3) := by decide +kernel
theorem d_Md_slide_135 : decode b_Md_slide 135 = .ok (.istore_n 2, 1) := by decide +kernel
theorem d_Md_slide_136 : decode b_Md_slide 136 = .ok (.iinc 3 1, 3) := by decide +kernel
theorem d_Md_slide_139 : decode b_Md_slide 139 = .ok (.goto (-119), 3) := by decide +kernel
theorem d_Md_slide_0 : decode b_Md_slide 0 = .ok (.aload_n 0, 1) := by decide +kernel
theorem d_Md_slide_1 : decode b_Md_slide 1 = .ok (.getfield 41, 3) := by decide +kernel
theorem d_Md_slide_4 : decode b_Md_slide 4 = .ok (.aload_n 0, 1) := by decide +kernel
theorem d_Md_slide_5 : decode b_Md_slide 5 = .ok (.getfield 37, 3) := by decide +kernel
theorem d_Md_slide_8 : decode b_Md_slide 8 = .ok (.invokevirtual 366, 3) := by decide +kernel
theorem d_Md_slide_11 : decode b_Md_slide 11 = .ok (.aload_n 0, 1) := by decide +kernel
theorem d_Md_slide_12 : decode b_Md_slide 12 = .ok (.getfield 87, 3) := by decide +kernel
theorem d_Md_slide_15 : decode b_Md_slide 15 = .ok (.iload_n 1, 1) := by decide +kernel
theorem d_Md_slide_16 : decode b_Md_slide 16 = .ok (.iaload, 1) := by decide +kernel
theorem d_Md_slide_17 : decode b_Md_slide 17 = .ok (.istore_n 2, 1) := by decide +kernel
theorem d_Md_slide_18 : decode b_Md_slide 18 = .ok (.iconst 0, 1) := by decide +kernel
theorem d_Md_slide_19 : decode b_Md_slide 19 = .ok (.istore_n 3, 1) := by decide +kernel
theorem d_Md_twist_116 : decode b_Md_twist 116 = .ok (.iload_n 3, 1) := by decide +kernel
theorem d_Md_twist_117 : decode b_Md_twist 117 = .ok (.ifCond .eq 19, 3) := by decide +kernel
theorem d_Md_twist_136 : decode b_Md_twist 136 = .ok (.aload_n 0, 1) := by decide +kernel
theorem d_Md_twist_137 : decode b_Md_twist 137 = .ok (.iload_n 2, 1) := by decide +kernel
theorem d_Md_twist_138 : decode b_Md_twist 138 = .ok (.iload 7, 2) := by decide +kernel
theorem d_Md_twist_140 : decode b_Md_twist 140 = .ok (.iload 5, 2) := by decide +kernel
theorem d_Md_twist_142 : decode b_Md_twist 142 = .ok (.iload 5, 2) := by decide +kernel
theorem d_Md_twist_144 : decode b_Md_twist 144 = .ok (.iload 6, 2) := by decide +kernel
theorem d_Md_twist_146 : decode b_Md_twist 146 = .ok (.invokevirtual 388, 3) := by decide +kernel
theorem d_Md_twist_149 : decode b_Md_twist 149 = .ok (.iconst 1, 1) := by decide +kernel
theorem d_Md_twist_150 : decode b_Md_twist 150 = .ok (.ireturn, 1) := by decide +kernel
theorem d_Md_twist_120 : decode b_Md_twist 120 = .ok (.aload_n 0, 1) := by decide +kernel
theorem d_Md_twist_121 : decode b_Md_twist 121 = .ok (.iload_n 2, 1) := by decide +kernel
theorem d_Md_twist_122 : decode b_Md_twist 122 = .ok (.iload 5, 2) := by decide +kernel
theorem d_Md_twist_124 : decode b_Md_twist 124 = .ok (.iload 6, 2) := by decide +kernel
theorem d_Md_twist_126 : decode b_Md_twist 126 = .ok (.iload 7, 2) := by decide +kernel
theorem d_Md_twist_128 : decode b_Md_twist 128 = .ok (.iload 5, 2) := by decide +kernel
theorem d_Md_twist_130 : decode b_Md_twist 130 = .ok (.invokevirtual 388, 3) := by decide +kernel
theorem d_Md_twist_133 : decode b_Md_twist 133 = .ok (.goto 16, 3) := by decide +kernel
theorem d_Md_twist_77 : decode b_Md_twist 77 = .ok (.istore 7, 2) := by decide +kernel
theorem d_Md_twist_79 : decode b_Md_twist 79 = .ok (.iload_n 1, 1) := by decide +kernel
theorem d_Md_twist_80 : decode b_Md_twist 80 = .ok (.ifCond .ne 19, 3) := by decide +kernel
theorem d_Md_twist_99 : decode b_Md_twist 99 = .ok (.aload_n 0, 1) := by decide +kernel
theorem d_Md_twist_100 : decode b_Md_twist 100 = .ok (.getfield 37, 3) := by decide +kernel
theorem d_Md_twist_103 : decode b_Md_twist 103 = .ok (.getfield 318, 3) := by decide +kernel
theorem d_Md_twist_106 : decode b_Md_twist 106 = .ok (.aload_n 0, 1) := by decide +kernel
theorem d_Md_twist_107 : decode b_Md_twist 107 = .ok (.getfield 72, 3) := by decide +kernel
theorem d_Md_twist_110 : decode b_Md_twist 110 = .ok (.iload 4, 2) := by decide +kernel
theorem d_Md_twist_112 : decode b_Md_twist 112 = .ok (.iaload, 1) := by decide +kernel
theorem d_Md_twist_113 : decode b_Md_twist 113 = .ok (.iload 6, 2) := by decide +kernel
theorem d_Md_twist_115 : decode b_Md_twist 115 = .ok (.iastore, 1) := by decide +kernel
theorem d_Md_twist_83 : decode b_Md_twist 83 = .ok (.aload_n 0, 1) := by decide +kernel
theorem d_Md_twist_84 : decode b_Md_twist 84 = .ok (.getfield 37, 3) := by decide +kernel
theorem d_Md_twist_87 : decode b_Md_twist 87 = .ok (.dup, 1) := by decide +kernel
theorem d_Md_twist_88 : decode b_Md_twist 88 = .ok (.getfield 354, 3) := by decide +kernel
theorem d_Md_twist_91 : decode b_Md_twist 91 = .ok (.iconst 1, 1) := by decide +kernel
theorem d_Md_twist_92 : decode b_Md_twist 92 = .ok (.isub, 1) := by decide +kernel
theorem d_Md_twist_93 : decode b_Md_twist 93 = .ok (.putfield 354, 3) := by decide +kernel
theorem d_Md_twist_96 : decode b_Md_twist 96 = .ok (.goto 20, 3) := by decide +kernel
theorem d_Md_twist_52 : decode b_Md_twist 52 = .ok (.aload_n 0, 1) := by decide +kernel
theorem d_Md_twist_53 : decode b_Md_twist 53 = .ok (.iconst 0, 1) := by decide +kernel
theorem d_Md_twist_54 : decode b_Md_twist 54 = .ok (.invokevirtual 385, 3) := by decide +kernel
theorem d_Md_twist_57 : decode b_Md_twist 57 = .ok (.istore 5, 2) := by decide +kernel
theorem d_Md_twist_59 : decode b_Md_twist 59 = .ok (.aload_n 0, 1) := by decide +kernel
theorem d_Md_twist_60 : decode b_Md_twist 60 = .ok (.iload 5, 2) := by decide +kernel
theorem d_Md_twist_62 : decode b_Md_twist 62 = .ok (.invokevirtual 385, 3) := by decide +kernel
theorem d_Md_twist_65 : decode b_Md_twist 65 = .ok (.istore 6, 2) := by decide +kernel
theorem d_Md_twist_67 : decode b_Md_twist 67 = .ok (.iload_n 1, 1) := by decide +kernel
theorem d_Md_twist_68 : decode b_Md_twist 68 = .ok (.ifCond .ne 8, 3) := by decide +kernel
theorem d_Md_twist_76 : decode b_Md_twist 76 = .ok (.iload_n 1, 1) := by decide +kernel
theorem d_Md_twist_71 : decode b_Md_twist 71 = .ok (.iload 6, 2) := by decide +kernel
theorem d_Md_twist_73 : decode b_Md_twist 73 = .ok (.goto 4, 3) := by decide +kernel
theorem d_Md_twist_41 : decode b_Md_twist 41 = .ok (.iload_n 1, 1) := by decide +kernel
theorem d_Md_twist_42 : decode b_Md_twist 42 = .ok (.ifCond .eq 10, 3) := by decide +kernel
theorem d_Md_twist_45 : decode b_Md_twist 45 = .ok (.iload 4, 2) := by decide +kernel
theorem d_Md_twist_47 : decode b_Md_twist 47 = .ok (.ifCond .ge 5, 3) := by decide +kernel
theorem d_Md_twist_50 : decode b_Md_twist 50 = .ok (.iconst 0, 1) := by decide +kernel
theorem d_Md_twist_51 : decode b_Md_twist 51 = .ok (.ireturn, 1) := by decide +kernel
theorem d_Md_twist_13 : decode b_Md_twist 13 = .ok (.istore 4, 2) := by decide +kernel
theorem d_Md_twist_15 : decode b_Md_twist 15 = .ok (.aload_n 0, 1) := by decide +kernel
theorem d_Md_twist_16 : decode b_Md_twist 16 = .ok (.getfield 37, 3) := by decide +kernel
theorem d_Md_twist_19 : decode b_Md_twist 19 = .ok (.getfield 312, 3) := by decide +kernel
theorem d_Md_twist_22 : decode b_Md_twist 22 = .ok (.bipush 20, 2) := by decide +kernel
theorem d_Md_twist_24 : decode b_Md_twist 24 = .ok (.if_icmp .eq 26, 3) := by decide +kernel
theorem d_Md_twist_27 : decode b_Md_twist 27 = .ok (.iload_n 1, 1) := by decide +kernel
theorem d_Md_twist_28 : decode b_Md_twist 28 = .ok (.ifCond .ne 13, 3) := by decide +kernel
theorem d_Md_twist_31 : decode b_Md_twist 31 = .ok (.aload_n 0, 1) := by decide +kernel
theorem d_Md_twist_32 : decode b_Md_twist 32 = .ok (.getfield 37, 3) := by decide +kernel
theorem d_Md_twist_35 : decode b_Md_twist 35 = .ok (.getfield 354, 3) := by decide +kernel
theorem d_Md_twist_38 : decode b_Md_twist 38 = .ok (.ifCond .eq 12, 3) := by decide +kernel
theorem d_Md_twist_0 : decode b_Md_twist 0 = .ok (.iload_n 1, 1) := by decide +kernel
theorem d_Md_twist_1 : decode b_Md_twist 1 = .ok (.ifCond .ne 7, 3) := by decide +kernel
theorem d_Md_twist_8 : decode b_Md_twist 8 = .ok (.aload_n 0, 1) := by decide +kernel
theorem d_Md_twist_9 : decode b_Md_twist 9 = .ok (.iload_n 1, 1) := by decide +kernel
theorem d_Md_twist_10 : decode b_Md_twist 10 = .ok (.invokevirtual 321, 3) := by decide +kernel
theorem d_Md_twist_4 : decode b_Md_twist 4 = .ok (.iconst (-1), 1) := by decide +kernel
theorem d_Md_twist_5 : decode b_Md_twist 5 = .ok (.goto 8, 3) := by decide +kernel
theorem d_Md_change_18 : decode b_Md_change 18 = .ok (.istore_n 2, 1) := by decide +kernel
theorem d_Md_change_19 : decode b_Md_change 19 = .ok (.aload_n 0, 1) := by decide +kernel
theorem d_Md_change_20 : decode b_Md_change 20 = .ok (.getfield 37, 3) := by decide +kernel
theorem d_Md_change_23 : decode b_Md_change 23 = .ok (.getfield 306, 3) := by decide +kernel
theorem d_Md_change_26 : decode b_Md_change 26 = .ok (.iload_n 1, 1) := by decide +kernel
theorem d_Md_change_27 : decode b_Md_change 27 = .ok (.aload_n 0, 1) := by decide +kernel
theorem d_Md_change_28 : decode b_Md_change 28 = .ok (.getfield 37, 3) := by decide +kernel
theorem d_Md_change_31 : decode b_Md_change 31 = .ok (.getfield 306, 3) := by decide +kernel
theorem d_Md_change_34 : decode b_Md_change 34 = .ok (.iload_n 1, 1) := by decide +kernel
theorem d_Md_change_35 : decode b_Md_change 35 = .ok (.iaload, 1) := by decide +kernel
theorem d_Md_change_36 : decode b_Md_change 36 = .ok (.ineg, 1) := by decide +kernel
theorem d_Md_change_37 : decode b_Md_change 37 = .ok (.iastore, 1) := by decide +kernel
theorem d_Md_change_38 : decode b_Md_change 38 = .ok (.aload_n 0, 1) := by decide +kernel
theorem d_Md_change_39 : decode b_Md_change 39 = .ok (.iload_n 1, 1) := by decide +kernel
theorem d_Md_change_40 : decode b_Md_change 40 = .ok (.iload_n 2, 1) := by decide +kernel
theorem d_Md_change_41 : decode b_Md_change 41 = .ok (.invokevirtual 392, 3) := by decide +kernel
theorem d_Md_change_44 : decode b_Md_change 44 = .ok (.return_, 1) := by decide +kernel
theorem d_Md_change_0 : decode b_Md_change 0 = .ok (.aload_n 0, 1) := by decide +kernel
theorem d_Md_change_1 : decode b_Md_change 1 = .ok (.getfield 37, 3) := by decide +kernel
theorem d_Md_change_4 : decode b_Md_change 4 = .ok (.getfield 306, 3) := by decide +kernel
theorem d_Md_change_7 : decode b_Md_change 7 = .ok (.iload_n 1, 1) := by decide +kernel
theorem d_Md_change_8 : decode b_Md_change 8 = .ok (.iaload, 1) := by decide +kernel
theorem d_Md_change_9 : decode b_Md_change 9 = .ok (.iconst 1, 1) := by decide +kernel
theorem d_Md_change_10 : decode b_Md_change 10 = .ok (.if_icmp .ne 7, 3) := by decide +kernel
theorem d_Md_change_17 : decode b_Md_change 17 = .ok (.iconst 1, 1) := by decide +kernel
theorem d_Md_change_13 : decode b_Md_change 13 = .ok (.iconst 3, 1) := by decide +kernel
theorem d_Md_change_14 : decode b_Md_change 14 = .ok (.goto 4, 3) := by decide +kernel
theorem d_Md_reverseAt_0 : decode b_Md_reverseAt 0 = .ok (.iload_n 1, 1) := by decide +kernel
theorem d_Md_reverseAt_1 : decode b_Md_reverseAt 1 = .ok (.aload_n 0, 1) := by decide +kernel
theorem d_Md_reverseAt_2 : decode b_Md_reverseAt 2 = .ok (.getfield 328, 3) := by decide +kernel
theorem d_Md_reverseAt_5 : decode b_Md_reverseAt 5 = .ok (.aload_n 0, 1) := by decide +kernel
theorem d_Md_reverseAt_6 : decode b_Md_reverseAt 6 = .ok (.getfield 37, 3) := by decide +kernel
theorem d_Md_reverseAt_9 : decode b_Md_reverseAt 9 = .ok (.getfield 354, 3) := by decide +kernel
theorem d_Md_reverseAt_12 : decode b_Md_reverseAt 12 = .ok (.iadd, 1) := by decide +kernel
theorem d_Md_reverseAt_13 : decode b_Md_reverseAt 13 = .ok (.if_icmp .lt 5, 3) := by decide +kernel
theorem d_Md_reverseAt_18 : decode b_Md_reverseAt 18 = .ok (.iload_n 1, 1) := by decide +kernel
theorem d_Md_reverseAt_19 : decode b_Md_reverseAt 19 = .ok (.aload_n 0, 1) := by decide +kernel
theorem d_Md_reverseAt_20 : decode b_Md_reverseAt 20 = .ok (.getfield 328, 3) := by decide +kernel
theorem d_Md_reverseAt_23 : decode b_Md_reverseAt 23 = .ok (.if_icmp .ge 8, 3) := by decide +kernel
theorem d_Md_reverseAt_31 : decode b_Md_reverseAt 31 = .ok (.iconst 1, 1) := by decide +kernel
theorem d_Md_reverseAt_32 : decode b_Md_reverseAt 32 = .ok (.ireturn, 1) := by decide +kernel
theorem d_Md_reverseAt_26 : decode b_Md_reverseAt 26 = .ok (.aload_n 0, 1) := by decide +kernel
theorem d_Md_reverseAt_27 : decode b_Md_reverseAt 27 = .ok (.iload_n 1, 1) := by decide +kernel
theorem d_Md_reverseAt_28 : decode b_Md_reverseAt 28 = .ok (.invokevirtual 588, 3) := by decide +kernel
theorem d_Md_reverseAt_16 : decode b_Md_reverseAt 16 = .ok (.iconst 0, 1) := by decide +kernel
theorem d_Md_reverseAt_17 : decode b_Md_reverseAt 17 = .ok (.ireturn, 1) := by decide +kernel
theorem d_Md_changeAt_0 : decode b_Md_changeAt 0 = .ok (.iload_n 1, 1) := by decide +kernel
theorem d_Md_changeAt_1 : decode b_Md_changeAt 1 = .ok (.aload_n 0, 1) := by decide +kernel
theorem d_Md_changeAt_2 : decode b_Md_changeAt 2 = .ok (.getfield 37, 3) := by decide +kernel
theorem d_Md_changeAt_5 : decode b_Md_changeAt 5 = .ok (.getfield 312, 3) := by decide +kernel
theorem d_Md_changeAt_8 : decode b_Md_changeAt 8 = .ok (.if_icmp .lt 5, 3) := by decide +kernel
theorem d_Md_changeAt_13 : decode b_Md_changeAt 13 = .ok (.aload_n 0, 1) := by decide +kernel
theorem d_Md_changeAt_14 : decode b_Md_changeAt 14 = .ok (.iload_n 1, 1) := by decide +kernel
theorem d_Md_changeAt_15 : decode b_Md_changeAt 15 = .ok (.invokevirtual 592, 3) := by decide +kernel
theorem d_Md_changeAt_18 : decode b_Md_changeAt 18 = .ok (.iconst 1, 1) := by decide +kernel
theorem d_Md_changeAt_19 : decode b_Md_changeAt 19 = .ok (.ireturn, 1) := by decide +kernel
theorem d_Md_changeAt_11 : decode b_Md_changeAt 11 = .ok (.iconst 0, 1) := by decide +kernel
theorem d_Md_changeAt_12 : decode b_Md_changeAt 12 = .ok (.ireturn, 1) := by decide +kernel
theorem d_Md_smoothAt_0 : decode b_Md_smoothAt 0 = .ok (.iload_n 1, 1) := by decide +kernel
theorem d_Md_smoothAt_1 : decode b_Md_smoothAt 1 = .ok (.aload_n 0, 1) := by decide +kernel
theorem d_Md_smoothAt_2 : decode b_Md_smoothAt 2 = .ok (.getfield 37, 3) := by decide +kernel
theorem d_Md_smoothAt_5 : decode b_Md_smoothAt 5 = .ok (.getfield 312, 3) := by decide +kernel
theorem d_Md_smoothAt_8 : decode b_Md_smoothAt 8 = .ok (.if_icmp .lt 5, 3) := by decide +kernel
theorem d_Md_smoothAt_13 : decode b_Md_smoothAt 13 = .ok (.aload_n 0, 1) := by decide +kernel
theorem d_Md_smoothAt_14 : decode b_Md_smoothAt 14 = .ok (.getfield 41, 3) := by decide +kernel
theorem d_Md_smoothAt_17 : decode b_Md_smoothAt 17 = .ok (.aload_n 0, 1) := by decide +kernel
theorem d_Md_smoothAt_18 : decode b_Md_smoothAt 18 = .ok (.getfield 37, 3) := by decide +kernel
theorem d_Md_smoothAt_21 : decode b_Md_smoothAt 21 = .ok (.invokevirtual 366, 3) := by decide +kernel
theorem d_Md_smoothAt_24 : decode b_Md_smoothAt 24 = .ok (.aload_n 0, 1) := by decide +kernel
theorem d_Md_smoothAt_25 : decode b_Md_smoothAt 25 = .ok (.iload_n 1, 1) := by decide +kernel
theorem d_Md_smoothAt_26 : decode b_Md_smoothAt 26 = .ok (.invokevirtual 590, 3) := by decide +kernel
theorem d_Md_smoothAt_29 : decode b_Md_smoothAt 29 = .ok (.aload_n 0, 1) := by decide +kernel
theorem d_Md_smoothAt_30 : decode b_Md_smoothAt 30 = .ok (.invokevirtual 382, 3) := by decide +kernel
theorem d_Md_smoothAt_33 : decode b_Md_smoothAt 33 = .ok (.ireturn, 1) := by decide +kernel
theorem d_Md_smoothAt_11 : decode b_Md_smoothAt 11 = .ok (.iconst 0, 1) := by decide +kernel
theorem d_Md_smoothAt_12 : decode b_Md_smoothAt 12 = .ok (.ireturn, 1) := by decide +kernel
theorem d_Md_count_117 : decode b_Md_count 117 = .ok (.invokevirtual 536, 3) := by decide +kernel
theorem d_Md_count_120 : decode b_Md_count 120 = .ok (.aload_n 0, 1) := by decide +kernel
theorem d_Md_count_121 : decode b_Md_count 121 = .ok (.bipush 10, 2) := by decide +kernel
theorem d_Md_count_123 : decode b_Md_count 123 = .ok (.invokevirtual 509, 3) := by decide +kernel
theorem d_Md_count_126 : decode b_Md_count 126 = .ok (.return_, 1) := by decide +kernel
