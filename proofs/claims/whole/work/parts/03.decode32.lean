theorem d_Po_isSumAt_31 : decode b_Po_isSumAt 31 = .ok (.iconst 2, 1) := by decide +kernel
theorem d_Po_isSumAt_32 : decode b_Po_isSumAt 32 = .ok (.iload 9, 2) := by decide +kernel
theorem d_Po_isSumAt_34 : decode b_Po_isSumAt 34 = .ok (.imul, 1) := by decide +kernel
theorem d_Po_isSumAt_35 : decode b_Po_isSumAt 35 = .ok (.invokevirtual 62, 3) := by decide +kernel
theorem d_Po_isSumAt_38 : decode b_Po_isSumAt 38 = .ok (.lstore 10, 2) := by decide +kernel
theorem d_Po_isSumAt_40 : decode b_Po_isSumAt 40 = .ok (.lload 5, 2) := by decide +kernel
theorem d_Po_isSumAt_42 : decode b_Po_isSumAt 42 = .ok (.lload 10, 2) := by decide +kernel
theorem d_Po_isSumAt_44 : decode b_Po_isSumAt 44 = .ok (.ldc2_w 65, 3) := by decide +kernel
theorem d_Po_isSumAt_47 : decode b_Po_isSumAt 47 = .ok (.ldiv, 1) := by decide +kernel
theorem d_Po_isSumAt_48 : decode b_Po_isSumAt 48 = .ok (.ladd, 1) := by decide +kernel
theorem d_Po_isSumAt_49 : decode b_Po_isSumAt 49 = .ok (.lstore 5, 2) := by decide +kernel
theorem d_Po_isSumAt_51 : decode b_Po_isSumAt 51 = .ok (.lload 7, 2) := by decide +kernel
theorem d_Po_isSumAt_53 : decode b_Po_isSumAt 53 = .ok (.lload 10, 2) := by decide +kernel
theorem d_Po_isSumAt_55 : decode b_Po_isSumAt 55 = .ok (.ldc2_w 65, 3) := by decide +kernel
theorem d_Po_isSumAt_58 : decode b_Po_isSumAt 58 = .ok (.lrem, 1) := by decide +kernel
theorem d_Po_isSumAt_59 : decode b_Po_isSumAt 59 = .ok (.ladd, 1) := by decide +kernel
theorem d_Po_isSumAt_60 : decode b_Po_isSumAt 60 = .ok (.lstore 7, 2) := by decide +kernel
theorem d_Po_isSumAt_0 : decode b_Po_isSumAt 0 = .ok (.lconst 0, 1) := by decide +kernel
theorem d_Po_isSumAt_1 : decode b_Po_isSumAt 1 = .ok (.lstore 5, 2) := by decide +kernel
theorem d_Po_isSumAt_3 : decode b_Po_isSumAt 3 = .ok (.lconst 0, 1) := by decide +kernel
theorem d_Po_isSumAt_4 : decode b_Po_isSumAt 4 = .ok (.lstore 7, 2) := by decide +kernel
theorem d_Po_isSumAt_6 : decode b_Po_isSumAt 6 = .ok (.iload_n 2, 1) := by decide +kernel
theorem d_Po_isSumAt_7 : decode b_Po_isSumAt 7 = .ok (.istore 9, 2) := by decide +kernel
theorem d_Mo_slide_34 : decode b_Mo_slide 34 = .ok (.iload 5, 2) := by decide +kernel
theorem d_Mo_slide_36 : decode b_Mo_slide 36 = .ok (.iconst 3, 1) := by decide +kernel
theorem d_Mo_slide_37 : decode b_Mo_slide 37 = .ok (.if_icmp .ge 27, 3) := by decide +kernel
theorem d_Mo_slide_64 : decode b_Mo_slide 64 = .ok (.iconst 1, 1) := by decide +kernel
theorem d_Mo_slide_65 : decode b_Mo_slide 65 = .ok (.ireturn, 1) := by decide +kernel
theorem d_Mo_slide_40 : decode b_Mo_slide 40 = .ok (.aload_n 0, 1) := by decide +kernel
theorem d_Mo_slide_41 : decode b_Mo_slide 41 = .ok (.aload_n 1, 1) := by decide +kernel
theorem d_Mo_slide_42 : decode b_Mo_slide 42 = .ok (.aload_n 2, 1) := by decide +kernel
theorem d_Mo_slide_43 : decode b_Mo_slide 43 = .ok (.iload 4, 2) := by decide +kernel
theorem d_Mo_slide_45 : decode b_Mo_slide 45 = .ok (.iconst 1, 1) := by decide +kernel
theorem d_Mo_slide_46 : decode b_Mo_slide 46 = .ok (.ishr, 1) := by decide +kernel
theorem d_Mo_slide_47 : decode b_Mo_slide 47 = .ok (.invokevirtual 56, 3) := by decide +kernel
theorem d_Mo_twist_0 : decode b_Mo_twist 0 = .ok (.aload_n 2, 1) := by decide +kernel
theorem d_Mo_twist_1 : decode b_Mo_twist 1 = .ok (.getfield 75, 3) := by decide +kernel
theorem d_Mo_twist_4 : decode b_Mo_twist 4 = .ok (.bipush 20, 2) := by decide +kernel
theorem d_Mo_twist_6 : decode b_Mo_twist 6 = .ok (.if_icmp .lt 5, 3) := by decide +kernel
theorem d_Mo_twist_11 : decode b_Mo_twist 11 = .ok (.aload_n 1, 1) := by decide +kernel
theorem d_Mo_twist_12 : decode b_Mo_twist 12 = .ok (.aload_n 0, 1) := by decide +kernel
theorem d_Mo_twist_13 : decode b_Mo_twist 13 = .ok (.getfield 9, 3) := by decide +kernel
theorem d_Mo_twist_16 : decode b_Mo_twist 16 = .ok (.invokevirtual 78, 3) := by decide +kernel
theorem d_Mo_twist_19 : decode b_Mo_twist 19 = .ok (.aload_n 0, 1) := by decide +kernel
theorem d_Mo_twist_20 : decode b_Mo_twist 20 = .ok (.getfield 9, 3) := by decide +kernel
theorem d_Mo_twist_23 : decode b_Mo_twist 23 = .ok (.iconst 0, 1) := by decide +kernel
theorem d_Mo_twist_24 : decode b_Mo_twist 24 = .ok (.iaload, 1) := by decide +kernel
theorem d_Mo_twist_25 : decode b_Mo_twist 25 = .ok (.istore 6, 2) := by decide +kernel
theorem d_Mo_twist_27 : decode b_Mo_twist 27 = .ok (.aload_n 0, 1) := by decide +kernel
theorem d_Mo_twist_28 : decode b_Mo_twist 28 = .ok (.getfield 9, 3) := by decide +kernel
theorem d_Mo_twist_31 : decode b_Mo_twist 31 = .ok (.iconst 1, 1) := by decide +kernel
theorem d_Mo_twist_32 : decode b_Mo_twist 32 = .ok (.iaload, 1) := by decide +kernel
theorem d_Mo_twist_33 : decode b_Mo_twist 33 = .ok (.istore 7, 2) := by decide +kernel
theorem d_Mo_twist_35 : decode b_Mo_twist 35 = .ok (.iload_n 3, 1) := by decide +kernel
theorem d_Mo_twist_36 : decode b_Mo_twist 36 = .ok (.ifCond .ne 40, 3) := by decide +kernel
theorem d_Mo_twist_76 : decode b_Mo_twist 76 = .ok (.aload_n 1, 1) := by decide +kernel
theorem d_Mo_twist_77 : decode b_Mo_twist 77 = .ok (.iload_n 3, 1) := by decide +kernel
theorem d_Mo_twist_78 : decode b_Mo_twist 78 = .ok (.invokevirtual 86, 3) := by decide +kernel
theorem d_Mo_twist_81 : decode b_Mo_twist 81 = .ok (.istore 8, 2) := by decide +kernel
theorem d_Mo_twist_83 : decode b_Mo_twist 83 = .ok (.iload 8, 2) := by decide +kernel
theorem d_Mo_twist_85 : decode b_Mo_twist 85 = .ok (.ifCond .ge 5, 3) := by decide +kernel
theorem d_Mo_twist_90 : decode b_Mo_twist 90 = .ok (.aload_n 2, 1) := by decide +kernel
theorem d_Mo_twist_91 : decode b_Mo_twist 91 = .ok (.getfield 72, 3) := by decide +kernel
theorem d_Mo_twist_94 : decode b_Mo_twist 94 = .ok (.aload_n 1, 1) := by decide +kernel
theorem d_Mo_twist_95 : decode b_Mo_twist 95 = .ok (.getfield 63, 3) := by decide +kernel
theorem d_Mo_twist_98 : decode b_Mo_twist 98 = .ok (.iload 8, 2) := by decide +kernel
theorem d_Mo_twist_100 : decode b_Mo_twist 100 = .ok (.iaload, 1) := by decide +kernel
theorem d_Mo_twist_101 : decode b_Mo_twist 101 = .ok (.iload 7, 2) := by decide +kernel
theorem d_Mo_twist_103 : decode b_Mo_twist 103 = .ok (.iastore, 1) := by decide +kernel
theorem d_Mo_twist_104 : decode b_Mo_twist 104 = .ok (.aload_n 2, 1) := by decide +kernel
theorem d_Mo_twist_105 : decode b_Mo_twist 105 = .ok (.iload 4, 2) := by decide +kernel
theorem d_Mo_twist_107 : decode b_Mo_twist 107 = .ok (.iload 5, 2) := by decide +kernel
theorem d_Mo_twist_109 : decode b_Mo_twist 109 = .ok (.iload_n 3, 1) := by decide +kernel
theorem d_Mo_twist_110 : decode b_Mo_twist 110 = .ok (.iload 6, 2) := by decide +kernel
theorem d_Mo_twist_112 : decode b_Mo_twist 112 = .ok (.iload 6, 2) := by decide +kernel
theorem d_Mo_twist_114 : decode b_Mo_twist 114 = .ok (.iload 7, 2) := by decide +kernel
theorem d_Mo_twist_116 : decode b_Mo_twist 116 = .ok (.invokevirtual 82, 3) := by decide +kernel
theorem d_Mo_twist_119 : decode b_Mo_twist 119 = .ok (.iconst 1, 1) := by decide +kernel
theorem d_Mo_twist_120 : decode b_Mo_twist 120 = .ok (.ireturn, 1) := by decide +kernel
theorem d_Mo_twist_88 : decode b_Mo_twist 88 = .ok (.iconst 0, 1) := by decide +kernel
theorem d_Mo_twist_89 : decode b_Mo_twist 89 = .ok (.ireturn, 1) := by decide +kernel
theorem d_Mo_twist_39 : decode b_Mo_twist 39 = .ok (.aload_n 2, 1) := by decide +kernel
theorem d_Mo_twist_40 : decode b_Mo_twist 40 = .ok (.getfield 53, 3) := by decide +kernel
theorem d_Mo_twist_43 : decode b_Mo_twist 43 = .ok (.ifCond .ne 5, 3) := by decide +kernel
theorem d_Mo_twist_48 : decode b_Mo_twist 48 = .ok (.aload_n 2, 1) := by decide +kernel
theorem d_Mo_twist_49 : decode b_Mo_twist 49 = .ok (.dup, 1) := by decide +kernel
theorem d_Mo_twist_50 : decode b_Mo_twist 50 = .ok (.getfield 53, 3) := by decide +kernel
theorem d_Mo_twist_53 : decode b_Mo_twist 53 = .ok (.iconst 1, 1) := by decide +kernel
theorem d_Mo_twist_54 : decode b_Mo_twist 54 = .ok (.isub, 1) := by decide +kernel
theorem d_Mo_twist_55 : decode b_Mo_twist 55 = .ok (.putfield 53, 3) := by decide +kernel
theorem d_Mo_twist_58 : decode b_Mo_twist 58 = .ok (.aload_n 2, 1) := by decide +kernel
theorem d_Mo_twist_59 : decode b_Mo_twist 59 = .ok (.iload 4, 2) := by decide +kernel
theorem d_Mo_twist_61 : decode b_Mo_twist 61 = .ok (.iload 5, 2) := by decide +kernel
theorem d_Mo_twist_63 : decode b_Mo_twist 63 = .ok (.iload 7, 2) := by decide +kernel
theorem d_Mo_twist_65 : decode b_Mo_twist 65 = .ok (.iload 6, 2) := by decide +kernel
theorem d_Mo_twist_67 : decode b_Mo_twist 67 = .ok (.iload 6, 2) := by decide +kernel
theorem d_Mo_twist_69 : decode b_Mo_twist 69 = .ok (.iload 7, 2) := by decide +kernel
theorem d_Mo_twist_71 : decode b_Mo_twist 71 = .ok (.invokevirtual 82, 3) := by decide +kernel
theorem d_Mo_twist_74 : decode b_Mo_twist 74 = .ok (.iconst 1, 1) := by decide +kernel
theorem d_Mo_twist_75 : decode b_Mo_twist 75 = .ok (.ireturn, 1) := by decide +kernel
theorem d_Mo_twist_46 : decode b_Mo_twist 46 = .ok (.iconst 0, 1) := by decide +kernel
theorem d_Mo_twist_47 : decode b_Mo_twist 47 = .ok (.ireturn, 1) := by decide +kernel
theorem d_Mo_twist_9 : decode b_Mo_twist 9 = .ok (.iconst 0, 1) := by decide +kernel
theorem d_Mo_twist_10 : decode b_Mo_twist 10 = .ok (.ireturn, 1) := by decide +kernel
theorem d_Mo_pushCrossing_128 : decode b_Mo_pushCrossing 128 = .ok (.istore 12, 2) := by decide +kernel
theorem d_Mo_pushCrossing_130 : decode b_Mo_pushCrossing 130 = .ok (.aload_n 1, 1) := by decide +kernel
theorem d_Mo_pushCrossing_131 : decode b_Mo_pushCrossing 131 = .ok (.iload_n 2, 1) := by decide +kernel
theorem d_Mo_pushCrossing_132 : decode b_Mo_pushCrossing 132 = .ok (.iload_n 3, 1) := by decide +kernel
theorem d_Mo_pushCrossing_133 : decode b_Mo_pushCrossing 133 = .ok (.iload 9, 2) := by decide +kernel
theorem d_Mo_pushCrossing_135 : decode b_Mo_pushCrossing 135 = .ok (.iload 10, 2) := by decide +kernel
theorem d_Mo_pushCrossing_137 : decode b_Mo_pushCrossing 137 = .ok (.iload 11, 2) := by decide +kernel
theorem d_Mo_pushCrossing_139 : decode b_Mo_pushCrossing 139 = .ok (.iload 12, 2) := by decide +kernel
theorem d_Mo_pushCrossing_141 : decode b_Mo_pushCrossing 141 = .ok (.invokevirtual 82, 3) := by decide +kernel
theorem d_Mo_pushCrossing_144 : decode b_Mo_pushCrossing 144 = .ok (.return_, 1) := by decide +kernel
theorem d_Mo_pushCrossing_106 : decode b_Mo_pushCrossing 106 = .ok (.istore 11, 2) := by decide +kernel
theorem d_Mo_pushCrossing_108 : decode b_Mo_pushCrossing 108 = .ok (.iload 8, 2) := by decide +kernel
theorem d_Mo_pushCrossing_110 : decode b_Mo_pushCrossing 110 = .ok (.ifCond .eq 12, 3) := by decide +kernel
theorem d_Mo_pushCrossing_122 : decode b_Mo_pushCrossing 122 = .ok (.aload_n 0, 1) := by decide +kernel
theorem d_Mo_pushCrossing_123 : decode b_Mo_pushCrossing 123 = .ok (.getfield 9, 3) := by decide +kernel
theorem d_Mo_pushCrossing_126 : decode b_Mo_pushCrossing 126 = .ok (.iconst 3, 1) := by decide +kernel
theorem d_Mo_pushCrossing_127 : decode b_Mo_pushCrossing 127 = .ok (.iaload, 1) := by decide +kernel
theorem d_Mo_pushCrossing_113 : decode b_Mo_pushCrossing 113 = .ok (.aload_n 0, 1) := by decide +kernel
theorem d_Mo_pushCrossing_114 : decode b_Mo_pushCrossing 114 = .ok (.getfield 9, 3) := by decide +kernel
theorem d_Mo_pushCrossing_117 : decode b_Mo_pushCrossing 117 = .ok (.iconst 2, 1) := by decide +kernel
theorem d_Mo_pushCrossing_118 : decode b_Mo_pushCrossing 118 = .ok (.iaload, 1) := by decide +kernel
theorem d_Mo_pushCrossing_119 : decode b_Mo_pushCrossing 119 = .ok (.goto 9, 3) := by decide +kernel
theorem d_Mo_pushCrossing_85 : decode b_Mo_pushCrossing 85 = .ok (.istore 10, 2) := by decide +kernel
theorem d_Mo_pushCrossing_87 : decode b_Mo_pushCrossing 87 = .ok (.iload 8, 2) := by decide +kernel
theorem d_Mo_pushCrossing_89 : decode b_Mo_pushCrossing 89 = .ok (.ifCond .eq 11, 3) := by decide +kernel
theorem d_Mo_pushCrossing_100 : decode b_Mo_pushCrossing 100 = .ok (.aload_n 0, 1) := by decide +kernel
theorem d_Mo_pushCrossing_101 : decode b_Mo_pushCrossing 101 = .ok (.getfield 9, 3) := by decide +kernel
theorem d_Mo_pushCrossing_104 : decode b_Mo_pushCrossing 104 = .ok (.iconst 2, 1) := by decide +kernel
theorem d_Mo_pushCrossing_105 : decode b_Mo_pushCrossing 105 = .ok (.iaload, 1) := by decide +kernel
theorem d_Mo_pushCrossing_92 : decode b_Mo_pushCrossing 92 = .ok (.iload 5, 2) := by decide +kernel
theorem d_Mo_pushCrossing_94 : decode b_Mo_pushCrossing 94 = .ok (.invokestatic 89, 3) := by decide +kernel
theorem d_Mo_pushCrossing_97 : decode b_Mo_pushCrossing 97 = .ok (.goto 9, 3) := by decide +kernel
theorem d_Mo_pushCrossing_63 : decode b_Mo_pushCrossing 63 = .ok (.istore 9, 2) := by decide +kernel
theorem d_Mo_pushCrossing_65 : decode b_Mo_pushCrossing 65 = .ok (.iload 7, 2) := by decide +kernel
theorem d_Mo_pushCrossing_67 : decode b_Mo_pushCrossing 67 = .ok (.ifCond .eq 12, 3) := by decide +kernel
theorem d_Mo_pushCrossing_79 : decode b_Mo_pushCrossing 79 = .ok (.aload_n 0, 1) := by decide +kernel
theorem d_Mo_pushCrossing_80 : decode b_Mo_pushCrossing 80 = .ok (.getfield 9, 3) := by decide +kernel
theorem d_Mo_pushCrossing_83 : decode b_Mo_pushCrossing 83 = .ok (.iconst 1, 1) := by decide +kernel
theorem d_Mo_pushCrossing_84 : decode b_Mo_pushCrossing 84 = .ok (.iaload, 1) := by decide +kernel
theorem d_Mo_pushCrossing_70 : decode b_Mo_pushCrossing 70 = .ok (.aload_n 0, 1) := by decide +kernel
theorem d_Mo_pushCrossing_71 : decode b_Mo_pushCrossing 71 = .ok (.getfield 9, 3) := by decide +kernel
theorem d_Mo_pushCrossing_74 : decode b_Mo_pushCrossing 74 = .ok (.iconst 0, 1) := by decide +kernel
theorem d_Mo_pushCrossing_75 : decode b_Mo_pushCrossing 75 = .ok (.iaload, 1) := by decide +kernel
theorem d_Mo_pushCrossing_76 : decode b_Mo_pushCrossing 76 = .ok (.goto 9, 3) := by decide +kernel
theorem d_Mo_pushCrossing_42 : decode b_Mo_pushCrossing 42 = .ok (.istore 8, 2) := by decide +kernel
theorem d_Mo_pushCrossing_44 : decode b_Mo_pushCrossing 44 = .ok (.iload 7, 2) := by decide +kernel
theorem d_Mo_pushCrossing_46 : decode b_Mo_pushCrossing 46 = .ok (.ifCond .eq 11, 3) := by decide +kernel
theorem d_Mo_pushCrossing_57 : decode b_Mo_pushCrossing 57 = .ok (.aload_n 0, 1) := by decide +kernel
theorem d_Mo_pushCrossing_58 : decode b_Mo_pushCrossing 58 = .ok (.getfield 9, 3) := by decide +kernel
theorem d_Mo_pushCrossing_61 : decode b_Mo_pushCrossing 61 = .ok (.iconst 0, 1) := by decide +kernel
theorem d_Mo_pushCrossing_62 : decode b_Mo_pushCrossing 62 = .ok (.iaload, 1) := by decide +kernel
theorem d_Mo_pushCrossing_49 : decode b_Mo_pushCrossing 49 = .ok (.iload 4, 2) := by decide +kernel
theorem d_Mo_pushCrossing_51 : decode b_Mo_pushCrossing 51 = .ok (.invokestatic 89, 3) := by decide +kernel
theorem d_Mo_pushCrossing_54 : decode b_Mo_pushCrossing 54 = .ok (.goto 9, 3) := by decide +kernel
theorem d_Mo_pushCrossing_32 : decode b_Mo_pushCrossing 32 = .ok (.iload 6, 2) := by decide +kernel
theorem d_Mo_pushCrossing_34 : decode b_Mo_pushCrossing 34 = .ok (.if_icmp .eq 7, 3) := by decide +kernel
theorem d_Mo_pushCrossing_41 : decode b_Mo_pushCrossing 41 = .ok (.iconst 0, 1) := by decide +kernel
theorem d_Mo_pushCrossing_37 : decode b_Mo_pushCrossing 37 = .ok (.iconst 1, 1) := by decide +kernel
theorem d_Mo_pushCrossing_38 : decode b_Mo_pushCrossing 38 = .ok (.goto 4, 3) := by decide +kernel
theorem d_Mo_pushCrossing_20 : decode b_Mo_pushCrossing 20 = .ok (.istore 7, 2) := by decide +kernel
theorem d_Mo_pushCrossing_22 : decode b_Mo_pushCrossing 22 = .ok (.iload 5, 2) := by decide +kernel
theorem d_Mo_pushCrossing_24 : decode b_Mo_pushCrossing 24 = .ok (.ifCond .le 7, 3) := by decide +kernel
theorem d_Mo_pushCrossing_31 : decode b_Mo_pushCrossing 31 = .ok (.iconst 0, 1) := by decide +kernel
theorem d_Mo_pushCrossing_27 : decode b_Mo_pushCrossing 27 = .ok (.iconst 1, 1) := by decide +kernel
theorem d_Mo_pushCrossing_28 : decode b_Mo_pushCrossing 28 = .ok (.goto 4, 3) := by decide +kernel
theorem d_Mo_pushCrossing_10 : decode b_Mo_pushCrossing 10 = .ok (.iload 6, 2) := by decide +kernel
theorem d_Mo_pushCrossing_12 : decode b_Mo_pushCrossing 12 = .ok (.if_icmp .ne 7, 3) := by decide +kernel
theorem d_Mo_pushCrossing_19 : decode b_Mo_pushCrossing 19 = .ok (.iconst 0, 1) := by decide +kernel
theorem d_Mo_pushCrossing_15 : decode b_Mo_pushCrossing 15 = .ok (.iconst 1, 1) := by decide +kernel
theorem d_Mo_pushCrossing_16 : decode b_Mo_pushCrossing 16 = .ok (.goto 4, 3) := by decide +kernel
theorem d_Mo_pushCrossing_0 : decode b_Mo_pushCrossing 0 = .ok (.iload 4, 2) := by decide +kernel
theorem d_Mo_pushCrossing_2 : decode b_Mo_pushCrossing 2 = .ok (.ifCond .le 7, 3) := by decide +kernel
theorem d_Mo_pushCrossing_9 : decode b_Mo_pushCrossing 9 = .ok (.iconst 0, 1) := by decide +kernel
theorem d_Mo_pushCrossing_5 : decode b_Mo_pushCrossing 5 = .ok (.iconst 1, 1) := by decide +kernel
theorem d_Mo_pushCrossing_6 : decode b_Mo_pushCrossing 6 = .ok (.goto 4, 3) := by decide +kernel
theorem d_Di_change_0 : decode b_Di_change 0 = .ok (.iload_n 1, 1) := by decide +kernel
theorem d_Di_change_1 : decode b_Di_change 1 = .ok (.ifCond .lt 11, 3) := by decide +kernel
theorem d_Di_change_12 : decode b_Di_change 12 = .ok (.iconst 0, 1) := by decide +kernel
theorem d_Di_change_13 : decode b_Di_change 13 = .ok (.ireturn, 1) := by decide +kernel
theorem d_Di_change_4 : decode b_Di_change 4 = .ok (.iload_n 1, 1) := by decide +kernel
theorem d_Di_change_5 : decode b_Di_change 5 = .ok (.aload_n 0, 1) := by decide +kernel
theorem d_Di_change_6 : decode b_Di_change 6 = .ok (.getfield 36, 3) := by decide +kernel
theorem d_Di_change_9 : decode b_Di_change 9 = .ok (.if_icmp .lt 5, 3) := by decide +kernel
theorem d_Di_change_14 : decode b_Di_change 14 = .ok (.aload_n 0, 1) := by decide +kernel
theorem d_Di_change_15 : decode b_Di_change 15 = .ok (.iload_n 1, 1) := by decide +kernel
theorem d_Di_change_16 : decode b_Di_change 16 = .ok (.aload_n 0, 1) := by decide +kernel
theorem d_Di_change_17 : decode b_Di_change 17 = .ok (.iload_n 1, 1) := by decide +kernel
theorem d_Di_change_18 : decode b_Di_change 18 = .ok (.invokevirtual 84, 3) := by decide +kernel
theorem d_Di_change_21 : decode b_Di_change 21 = .ok (.iconst 3, 1) := by decide +kernel
theorem d_Di_change_22 : decode b_Di_change 22 = .ok (.iand, 1) := by decide +kernel
theorem d_Di_change_23 : decode b_Di_change 23 = .ok (.invokevirtual 97, 3) := by decide +kernel
theorem d_Di_change_26 : decode b_Di_change 26 = .ok (.aload_n 0, 1) := by decide +kernel
theorem d_Di_change_27 : decode b_Di_change 27 = .ok (.getfield 9, 3) := by decide +kernel
theorem d_Di_change_30 : decode b_Di_change 30 = .ok (.iload_n 1, 1) := by decide +kernel
theorem d_Di_change_31 : decode b_Di_change 31 = .ok (.aload_n 0, 1) := by decide +kernel
theorem d_Di_change_32 : decode b_Di_change 32 = .ok (.getfield 9, 3) := by decide +kernel
