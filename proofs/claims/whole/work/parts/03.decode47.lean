theorem d_Md_what_80 : decode b_Md_what 80 = .ok (.iconst 1, 1) := by decide +kernel
theorem d_Md_what_81 : decode b_Md_what 81 = .ok (.ishr, 1) := by decide +kernel
theorem d_Md_what_82 : decode b_Md_what 82 = .ok (.invokevirtual 376, 3) := by decide +kernel
theorem d_Md_what_85 : decode b_Md_what 85 = .ok (.istore 9, 2) := by decide +kernel
theorem d_Md_what_87 : decode b_Md_what 87 = .ok (.aload_n 0, 1) := by decide +kernel
theorem d_Md_what_88 : decode b_Md_what 88 = .ok (.iload 4, 2) := by decide +kernel
theorem d_Md_what_90 : decode b_Md_what 90 = .ok (.iconst 1, 1) := by decide +kernel
theorem d_Md_what_91 : decode b_Md_what 91 = .ok (.ishr, 1) := by decide +kernel
theorem d_Md_what_92 : decode b_Md_what 92 = .ok (.invokevirtual 376, 3) := by decide +kernel
theorem d_Md_what_95 : decode b_Md_what 95 = .ok (.istore 10, 2) := by decide +kernel
theorem d_Md_what_97 : decode b_Md_what 97 = .ok (.aload_n 0, 1) := by decide +kernel
theorem d_Md_what_98 : decode b_Md_what 98 = .ok (.iload 5, 2) := by decide +kernel
theorem d_Md_what_100 : decode b_Md_what 100 = .ok (.iconst 1, 1) := by decide +kernel
theorem d_Md_what_101 : decode b_Md_what 101 = .ok (.ishr, 1) := by decide +kernel
theorem d_Md_what_102 : decode b_Md_what 102 = .ok (.invokevirtual 376, 3) := by decide +kernel
theorem d_Md_what_105 : decode b_Md_what 105 = .ok (.istore 11, 2) := by decide +kernel
theorem d_Md_what_107 : decode b_Md_what 107 = .ok (.iload_n 2, 1) := by decide +kernel
theorem d_Md_what_108 : decode b_Md_what 108 = .ok (.iconst 2, 1) := by decide +kernel
theorem d_Md_what_109 : decode b_Md_what 109 = .ok (.if_icmp .ne 38, 3) := by decide +kernel
theorem d_Md_what_147 : decode b_Md_what 147 = .ok (.iload 9, 2) := by decide +kernel
theorem d_Md_what_149 : decode b_Md_what 149 = .ok (.iconst 2, 1) := by decide +kernel
theorem d_Md_what_150 : decode b_Md_what 150 = .ok (.if_icmp .eq 15, 3) := by decide +kernel
theorem d_Md_what_153 : decode b_Md_what 153 = .ok (.iload 10, 2) := by decide +kernel
theorem d_Md_what_155 : decode b_Md_what 155 = .ok (.iconst 2, 1) := by decide +kernel
theorem d_Md_what_156 : decode b_Md_what 156 = .ok (.if_icmp .eq 9, 3) := by decide +kernel
theorem d_Md_what_159 : decode b_Md_what 159 = .ok (.iload 11, 2) := by decide +kernel
theorem d_Md_what_161 : decode b_Md_what 161 = .ok (.iconst 2, 1) := by decide +kernel
theorem d_Md_what_162 : decode b_Md_what 162 = .ok (.if_icmp .ne 40, 3) := by decide +kernel
theorem d_Md_what_112 : decode b_Md_what 112 = .ok (.iload 6, 2) := by decide +kernel
theorem d_Md_what_114 : decode b_Md_what 114 = .ok (.iload 7, 2) := by decide +kernel
theorem d_Md_what_116 : decode b_Md_what 116 = .ok (.if_icmp .eq 29, 3) := by decide +kernel
theorem d_Md_what_119 : decode b_Md_what 119 = .ok (.iload 9, 2) := by decide +kernel
theorem d_Md_what_121 : decode b_Md_what 121 = .ok (.iconst 2, 1) := by decide +kernel
theorem d_Md_what_122 : decode b_Md_what 122 = .ok (.if_icmp .ne 8, 3) := by decide +kernel
theorem d_Md_what_125 : decode b_Md_what 125 = .ok (.iload 10, 2) := by decide +kernel
theorem d_Md_what_127 : decode b_Md_what 127 = .ok (.ifCond .eq 14, 3) := by decide +kernel
theorem d_Md_undo_94 : decode b_Md_undo 94 = .ok (.aload_n 0, 1) := by decide +kernel
theorem d_Md_undo_95 : decode b_Md_undo 95 = .ok (.invokevirtual 382, 3) := by decide +kernel
theorem d_Md_undo_98 : decode b_Md_undo 98 = .ok (.ireturn, 1) := by decide +kernel
theorem d_Md_undo_91 : decode b_Md_undo 91 = .ok (.invokevirtual 379, 3) := by decide +kernel
theorem d_Md_undo_69 : decode b_Md_undo 69 = .ok (.invokevirtual 379, 3) := by decide +kernel
theorem d_Md_undo_72 : decode b_Md_undo 72 = .ok (.aload_n 0, 1) := by decide +kernel
theorem d_Md_undo_73 : decode b_Md_undo 73 = .ok (.iload 4, 2) := by decide +kernel
theorem d_Md_undo_75 : decode b_Md_undo 75 = .ok (.iload 5, 2) := by decide +kernel
theorem d_Md_undo_77 : decode b_Md_undo 77 = .ok (.if_icmp .ge 10, 3) := by decide +kernel
theorem d_Md_undo_87 : decode b_Md_undo 87 = .ok (.iload 4, 2) := by decide +kernel
theorem d_Md_undo_89 : decode b_Md_undo 89 = .ok (.iconst 1, 1) := by decide +kernel
theorem d_Md_undo_90 : decode b_Md_undo 90 = .ok (.isub, 1) := by decide +kernel
theorem d_Md_undo_80 : decode b_Md_undo 80 = .ok (.iload 5, 2) := by decide +kernel
theorem d_Md_undo_82 : decode b_Md_undo 82 = .ok (.iconst 1, 1) := by decide +kernel
theorem d_Md_undo_83 : decode b_Md_undo 83 = .ok (.isub, 1) := by decide +kernel
theorem d_Md_undo_84 : decode b_Md_undo 84 = .ok (.goto 7, 3) := by decide +kernel
theorem d_Md_undo_0 : decode b_Md_undo 0 = .ok (.aload_n 0, 1) := by decide +kernel
theorem d_Md_undo_1 : decode b_Md_undo 1 = .ok (.getfield 41, 3) := by decide +kernel
theorem d_Md_undo_4 : decode b_Md_undo 4 = .ok (.aload_n 0, 1) := by decide +kernel
theorem d_Md_undo_5 : decode b_Md_undo 5 = .ok (.getfield 37, 3) := by decide +kernel
theorem d_Md_undo_8 : decode b_Md_undo 8 = .ok (.invokevirtual 366, 3) := by decide +kernel
theorem d_Md_undo_11 : decode b_Md_undo 11 = .ok (.aload_n 0, 1) := by decide +kernel
theorem d_Md_undo_12 : decode b_Md_undo 12 = .ok (.getfield 87, 3) := by decide +kernel
theorem d_Md_undo_15 : decode b_Md_undo 15 = .ok (.iload_n 1, 1) := by decide +kernel
theorem d_Md_undo_16 : decode b_Md_undo 16 = .ok (.iaload, 1) := by decide +kernel
theorem d_Md_undo_17 : decode b_Md_undo 17 = .ok (.istore_n 3, 1) := by decide +kernel
theorem d_Md_undo_18 : decode b_Md_undo 18 = .ok (.aload_n 0, 1) := by decide +kernel
theorem d_Md_undo_19 : decode b_Md_undo 19 = .ok (.iload_n 3, 1) := by decide +kernel
theorem d_Md_undo_20 : decode b_Md_undo 20 = .ok (.invokevirtual 325, 3) := by decide +kernel
theorem d_Md_undo_23 : decode b_Md_undo 23 = .ok (.iconst 2, 1) := by decide +kernel
theorem d_Md_undo_24 : decode b_Md_undo 24 = .ok (.ishr, 1) := by decide +kernel
theorem d_Md_undo_25 : decode b_Md_undo 25 = .ok (.istore 4, 2) := by decide +kernel
theorem d_Md_undo_27 : decode b_Md_undo 27 = .ok (.aload_n 0, 1) := by decide +kernel
theorem d_Md_undo_28 : decode b_Md_undo 28 = .ok (.aload_n 0, 1) := by decide +kernel
theorem d_Md_undo_29 : decode b_Md_undo 29 = .ok (.iload_n 3, 1) := by decide +kernel
theorem d_Md_undo_30 : decode b_Md_undo 30 = .ok (.invokevirtual 333, 3) := by decide +kernel
theorem d_Md_undo_33 : decode b_Md_undo 33 = .ok (.invokevirtual 325, 3) := by decide +kernel
theorem d_Md_undo_36 : decode b_Md_undo 36 = .ok (.iconst 2, 1) := by decide +kernel
theorem d_Md_undo_37 : decode b_Md_undo 37 = .ok (.ishr, 1) := by decide +kernel
theorem d_Md_undo_38 : decode b_Md_undo 38 = .ok (.istore 5, 2) := by decide +kernel
theorem d_Md_undo_40 : decode b_Md_undo 40 = .ok (.iload_n 2, 1) := by decide +kernel
theorem d_Md_undo_41 : decode b_Md_undo 41 = .ok (.iconst 1, 1) := by decide +kernel
theorem d_Md_undo_42 : decode b_Md_undo 42 = .ok (.if_icmp .ne 12, 3) := by decide +kernel
theorem d_Md_undo_54 : decode b_Md_undo 54 = .ok (.aload_n 0, 1) := by decide +kernel
theorem d_Md_undo_55 : decode b_Md_undo 55 = .ok (.iload 4, 2) := by decide +kernel
theorem d_Md_undo_57 : decode b_Md_undo 57 = .ok (.iload 5, 2) := by decide +kernel
theorem d_Md_undo_59 : decode b_Md_undo 59 = .ok (.if_icmp .ge 8, 3) := by decide +kernel
theorem d_Md_undo_67 : decode b_Md_undo 67 = .ok (.iload 5, 2) := by decide +kernel
theorem d_Md_undo_62 : decode b_Md_undo 62 = .ok (.iload 4, 2) := by decide +kernel
theorem d_Md_undo_64 : decode b_Md_undo 64 = .ok (.goto 5, 3) := by decide +kernel
theorem d_Md_undo_45 : decode b_Md_undo 45 = .ok (.aload_n 0, 1) := by decide +kernel
theorem d_Md_undo_46 : decode b_Md_undo 46 = .ok (.iload 4, 2) := by decide +kernel
theorem d_Md_undo_48 : decode b_Md_undo 48 = .ok (.invokevirtual 379, 3) := by decide +kernel
theorem d_Md_undo_51 : decode b_Md_undo 51 = .ok (.goto 43, 3) := by decide +kernel
theorem d_Md_slideAt_0 : decode b_Md_slideAt 0 = .ok (.iload_n 1, 1) := by decide +kernel
theorem d_Md_slideAt_1 : decode b_Md_slideAt 1 = .ok (.aload_n 0, 1) := by decide +kernel
theorem d_Md_slideAt_2 : decode b_Md_slideAt 2 = .ok (.getfield 331, 3) := by decide +kernel
theorem d_Md_slideAt_5 : decode b_Md_slideAt 5 = .ok (.if_icmp .ge 12, 3) := by decide +kernel
theorem d_Md_slideAt_17 : decode b_Md_slideAt 17 = .ok (.iconst 0, 1) := by decide +kernel
theorem d_Md_slideAt_18 : decode b_Md_slideAt 18 = .ok (.ireturn, 1) := by decide +kernel
theorem d_Md_slideAt_8 : decode b_Md_slideAt 8 = .ok (.aload_n 0, 1) := by decide +kernel
theorem d_Md_slideAt_9 : decode b_Md_slideAt 9 = .ok (.iload_n 1, 1) := by decide +kernel
theorem d_Md_slideAt_10 : decode b_Md_slideAt 10 = .ok (.invokevirtual 577, 3) := by decide +kernel
theorem d_Md_slideAt_13 : decode b_Md_slideAt 13 = .ok (.iconst 3, 1) := by decide +kernel
theorem d_Md_slideAt_14 : decode b_Md_slideAt 14 = .ok (.if_icmp .eq 5, 3) := by decide +kernel
theorem d_Md_slideAt_19 : decode b_Md_slideAt 19 = .ok (.aload_n 0, 1) := by decide +kernel
theorem d_Md_slideAt_20 : decode b_Md_slideAt 20 = .ok (.iload_n 1, 1) := by decide +kernel
theorem d_Md_slideAt_21 : decode b_Md_slideAt 21 = .ok (.invokevirtual 586, 3) := by decide +kernel
theorem d_Md_slideAt_24 : decode b_Md_slideAt 24 = .ok (.iconst 1, 1) := by decide +kernel
theorem d_Md_slideAt_25 : decode b_Md_slideAt 25 = .ok (.ireturn, 1) := by decide +kernel
theorem d_Md_listFaces_89 : decode b_Md_listFaces 89 = .ok (.invokevirtual 536, 3) := by decide +kernel
theorem d_Md_listFaces_92 : decode b_Md_listFaces 92 = .ok (.aload_n 0, 1) := by decide +kernel
theorem d_Md_listFaces_93 : decode b_Md_listFaces 93 = .ok (.iload_n 2, 1) := by decide +kernel
theorem d_Md_listFaces_94 : decode b_Md_listFaces 94 = .ok (.invokevirtual 333, 3) := by decide +kernel
theorem d_Md_listFaces_97 : decode b_Md_listFaces 97 = .ok (.istore_n 2, 1) := by decide +kernel
theorem d_Md_listFaces_98 : decode b_Md_listFaces 98 = .ok (.iload_n 2, 1) := by decide +kernel
theorem d_Md_listFaces_99 : decode b_Md_listFaces 99 = .ok (.aload_n 0, 1) := by decide +kernel
theorem d_Md_listFaces_100 : decode b_Md_listFaces 100 = .ok (.getfield 87, 3) := by decide +kernel
theorem d_Md_listFaces_103 : decode b_Md_listFaces 103 = .ok (.iload_n 1, 1) := by decide +kernel
theorem d_Md_listFaces_104 : decode b_Md_listFaces 104 = .ok (.iaload, 1) := by decide +kernel
theorem d_Md_listFaces_105 : decode b_Md_listFaces 105 = .ok (.if_icmp .ne (-45), 3) := by decide +kernel
theorem d_Md_listFaces_108 : decode b_Md_listFaces 108 = .ok (.aload_n 0, 1) := by decide +kernel
theorem d_Md_listFaces_109 : decode b_Md_listFaces 109 = .ok (.bipush 10, 2) := by decide +kernel
theorem d_Md_listFaces_111 : decode b_Md_listFaces 111 = .ok (.invokevirtual 509, 3) := by decide +kernel
theorem d_Md_listFaces_114 : decode b_Md_listFaces 114 = .ok (.iinc 1 1, 3) := by decide +kernel
theorem d_Md_listFaces_117 : decode b_Md_listFaces 117 = .ok (.goto (-94), 3) := by decide +kernel
theorem d_Md_listFaces_60 : decode b_Md_listFaces 60 = .ok (.aload_n 0, 1) := by decide +kernel
theorem d_Md_listFaces_61 : decode b_Md_listFaces 61 = .ok (.iload_n 2, 1) := by decide +kernel
theorem d_Md_listFaces_62 : decode b_Md_listFaces 62 = .ok (.iconst 1, 1) := by decide +kernel
theorem d_Md_listFaces_63 : decode b_Md_listFaces 63 = .ok (.iand, 1) := by decide +kernel
theorem d_Md_listFaces_64 : decode b_Md_listFaces 64 = .ok (.ifCond .ne 15, 3) := by decide +kernel
theorem d_Md_listFaces_79 : decode b_Md_listFaces 79 = .ok (.aload_n 0, 1) := by decide +kernel
theorem d_Md_listFaces_80 : decode b_Md_listFaces 80 = .ok (.getfield 66, 3) := by decide +kernel
theorem d_Md_listFaces_83 : decode b_Md_listFaces 83 = .ok (.iload_n 2, 1) := by decide +kernel
theorem d_Md_listFaces_84 : decode b_Md_listFaces 84 = .ok (.iconst 1, 1) := by decide +kernel
theorem d_Md_listFaces_85 : decode b_Md_listFaces 85 = .ok (.ishr, 1) := by decide +kernel
theorem d_Md_listFaces_86 : decode b_Md_listFaces 86 = .ok (.iaload, 1) := by decide +kernel
theorem d_Md_listFaces_87 : decode b_Md_listFaces 87 = .ok (.ineg, 1) := by decide +kernel
theorem d_Md_listFaces_88 : decode b_Md_listFaces 88 = .ok (.i2l, 1) := by decide +kernel
theorem d_Md_listFaces_67 : decode b_Md_listFaces 67 = .ok (.aload_n 0, 1) := by decide +kernel
theorem d_Md_listFaces_68 : decode b_Md_listFaces 68 = .ok (.getfield 66, 3) := by decide +kernel
theorem d_Md_listFaces_71 : decode b_Md_listFaces 71 = .ok (.iload_n 2, 1) := by decide +kernel
theorem d_Md_listFaces_72 : decode b_Md_listFaces 72 = .ok (.iconst 1, 1) := by decide +kernel
theorem d_Md_listFaces_73 : decode b_Md_listFaces 73 = .ok (.ishr, 1) := by decide +kernel
theorem d_Md_listFaces_74 : decode b_Md_listFaces 74 = .ok (.iaload, 1) := by decide +kernel
theorem d_Md_listFaces_75 : decode b_Md_listFaces 75 = .ok (.i2l, 1) := by decide +kernel
theorem d_Md_listFaces_76 : decode b_Md_listFaces 76 = .ok (.goto 13, 3) := by decide +kernel
theorem d_Md_listFaces_23 : decode b_Md_listFaces 23 = .ok (.iload_n 1, 1) := by decide +kernel
theorem d_Md_listFaces_24 : decode b_Md_listFaces 24 = .ok (.aload_n 0, 1) := by decide +kernel
theorem d_Md_listFaces_25 : decode b_Md_listFaces 25 = .ok (.getfield 331, 3) := by decide +kernel
theorem d_Md_listFaces_28 : decode b_Md_listFaces 28 = .ok (.if_icmp .ge 92, 3) := by decide +kernel
theorem d_Md_listFaces_120 : decode b_Md_listFaces 120 = .ok (.return_, 1) := by decide +kernel
theorem d_Md_listFaces_31 : decode b_Md_listFaces 31 = .ok (.aload_n 0, 1) := by decide +kernel
theorem d_Md_listFaces_32 : decode b_Md_listFaces 32 = .ok (.bipush 35, 2) := by decide +kernel
theorem d_Md_listFaces_34 : decode b_Md_listFaces 34 = .ok (.invokevirtual 509, 3) := by decide +kernel
theorem d_Md_listFaces_37 : decode b_Md_listFaces 37 = .ok (.aload_n 0, 1) := by decide +kernel
theorem d_Md_listFaces_38 : decode b_Md_listFaces 38 = .ok (.iload_n 1, 1) := by decide +kernel
theorem d_Md_listFaces_39 : decode b_Md_listFaces 39 = .ok (.i2l, 1) := by decide +kernel
theorem d_Md_listFaces_40 : decode b_Md_listFaces 40 = .ok (.invokevirtual 536, 3) := by decide +kernel
theorem d_Md_listFaces_43 : decode b_Md_listFaces 43 = .ok (.aload_n 0, 1) := by decide +kernel
theorem d_Md_listFaces_44 : decode b_Md_listFaces 44 = .ok (.aload_n 0, 1) := by decide +kernel
theorem d_Md_listFaces_45 : decode b_Md_listFaces 45 = .ok (.iload_n 1, 1) := by decide +kernel
theorem d_Md_listFaces_46 : decode b_Md_listFaces 46 = .ok (.invokevirtual 577, 3) := by decide +kernel
theorem d_Md_listFaces_49 : decode b_Md_listFaces 49 = .ok (.i2l, 1) := by decide +kernel
theorem d_Md_listFaces_50 : decode b_Md_listFaces 50 = .ok (.invokevirtual 536, 3) := by decide +kernel
theorem d_Md_listFaces_53 : decode b_Md_listFaces 53 = .ok (.aload_n 0, 1) := by decide +kernel
theorem d_Md_listFaces_54 : decode b_Md_listFaces 54 = .ok (.getfield 87, 3) := by decide +kernel
theorem d_Md_listFaces_57 : decode b_Md_listFaces 57 = .ok (.iload_n 1, 1) := by decide +kernel
theorem d_Md_listFaces_58 : decode b_Md_listFaces 58 = .ok (.iaload, 1) := by decide +kernel
theorem d_Md_listFaces_59 : decode b_Md_listFaces 59 = .ok (.istore_n 2, 1) := by decide +kernel
theorem d_Md_listFaces_0 : decode b_Md_listFaces 0 = .ok (.aload_n 0, 1) := by decide +kernel
theorem d_Md_listFaces_1 : decode b_Md_listFaces 1 = .ok (.bipush 35, 2) := by decide +kernel
theorem d_Md_listFaces_3 : decode b_Md_listFaces 3 = .ok (.invokevirtual 509, 3) := by decide +kernel
theorem d_Md_listFaces_6 : decode b_Md_listFaces 6 = .ok (.aload_n 0, 1) := by decide +kernel
theorem d_Md_listFaces_7 : decode b_Md_listFaces 7 = .ok (.aload_n 0, 1) := by decide +kernel
theorem d_Md_listFaces_8 : decode b_Md_listFaces 8 = .ok (.getfield 331, 3) := by decide +kernel
theorem d_Md_listFaces_11 : decode b_Md_listFaces 11 = .ok (.i2l, 1) := by decide +kernel
theorem d_Md_listFaces_12 : decode b_Md_listFaces 12 = .ok (.invokevirtual 536, 3) := by decide +kernel
theorem d_Md_listFaces_15 : decode b_Md_listFaces 15 = .ok (.aload_n 0, 1) := by decide +kernel
theorem d_Md_listFaces_16 : decode b_Md_listFaces 16 = .ok (.bipush 10, 2) := by decide +kernel
theorem d_Md_listFaces_18 : decode b_Md_listFaces 18 = .ok (.invokevirtual 509, 3) := by decide +kernel
theorem d_Md_listFaces_21 : decode b_Md_listFaces 21 = .ok (.iconst 0, 1) := by decide +kernel
theorem d_Md_listFaces_22 : decode b_Md_listFaces 22 = .ok (.istore_n 1, 1) := by decide +kernel
theorem d_Md_bracket_190 : decode b_Md_bracket 190 = .ok (.iinc 2 1, 3) := by decide +kernel
theorem d_Md_bracket_193 : decode b_Md_bracket 193 = .ok (.goto (-54), 3) := by decide +kernel
theorem d_Md_bracket_139 : decode b_Md_bracket 139 = .ok (.iload_n 2, 1) := by decide +kernel
theorem d_Md_bracket_140 : decode b_Md_bracket 140 = .ok (.bipush 64, 2) := by decide +kernel
theorem d_Md_bracket_142 : decode b_Md_bracket 142 = .ok (.if_icmp .ge 54, 3) := by decide +kernel
theorem d_Md_bracket_196 : decode b_Md_bracket 196 = .ok (.iinc 1 1, 3) := by decide +kernel
theorem d_Md_bracket_199 : decode b_Md_bracket 199 = .ok (.goto (-73), 3) := by decide +kernel
theorem d_Md_bracket_145 : decode b_Md_bracket 145 = .ok (.aload_n 0, 1) := by decide +kernel
theorem d_Md_bracket_146 : decode b_Md_bracket 146 = .ok (.getfield 105, 3) := by decide +kernel
theorem d_Md_bracket_149 : decode b_Md_bracket 149 = .ok (.bipush 64, 2) := by decide +kernel
theorem d_Md_bracket_151 : decode b_Md_bracket 151 = .ok (.iload_n 1, 1) := by decide +kernel
theorem d_Md_bracket_152 : decode b_Md_bracket 152 = .ok (.imul, 1) := by decide +kernel
theorem d_Md_bracket_153 : decode b_Md_bracket 153 = .ok (.iload_n 2, 1) := by decide +kernel
theorem d_Md_bracket_154 : decode b_Md_bracket 154 = .ok (.iadd, 1) := by decide +kernel
theorem d_Md_bracket_155 : decode b_Md_bracket 155 = .ok (.laload, 1) := by decide +kernel
theorem d_Md_bracket_156 : decode b_Md_bracket 156 = .ok (.lconst 0, 1) := by decide +kernel
theorem d_Md_bracket_157 : decode b_Md_bracket 157 = .ok (.lcmp, 1) := by decide +kernel
theorem d_Md_bracket_158 : decode b_Md_bracket 158 = .ok (.ifCond .le 32, 3) := by decide +kernel
theorem d_Md_bracket_161 : decode b_Md_bracket 161 = .ok (.aload_n 0, 1) := by decide +kernel
theorem d_Md_bracket_162 : decode b_Md_bracket 162 = .ok (.iconst 2, 1) := by decide +kernel
theorem d_Md_bracket_163 : decode b_Md_bracket 163 = .ok (.iload_n 1, 1) := by decide +kernel
