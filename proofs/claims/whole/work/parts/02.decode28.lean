theorem d_Sh_findFaces_67 : decode b_Sh_findFaces 67 = .ok (.goto (-34), 3) := by decide +kernel
theorem d_Sh_findFaces_70 : decode b_Sh_findFaces 70 = .ok (.aload_n 0, 1) := by decide +kernel
theorem d_Sh_findFaces_71 : decode b_Sh_findFaces 71 = .ok (.getfield 39, 3) := by decide +kernel
theorem d_Sh_findFaces_74 : decode b_Sh_findFaces 74 = .ok (.aload_n 0, 1) := by decide +kernel
theorem d_Sh_findFaces_75 : decode b_Sh_findFaces 75 = .ok (.getfield 58, 3) := by decide +kernel
theorem d_Sh_findFaces_78 : decode b_Sh_findFaces 78 = .ok (.iload_n 1, 1) := by decide +kernel
theorem d_Sh_findFaces_79 : decode b_Sh_findFaces 79 = .ok (.iastore, 1) := by decide +kernel
theorem d_Sh_findFaces_80 : decode b_Sh_findFaces 80 = .ok (.aload_n 0, 1) := by decide +kernel
theorem d_Sh_findFaces_81 : decode b_Sh_findFaces 81 = .ok (.getfield 42, 3) := by decide +kernel
theorem d_Sh_findFaces_84 : decode b_Sh_findFaces 84 = .ok (.aload_n 0, 1) := by decide +kernel
theorem d_Sh_findFaces_85 : decode b_Sh_findFaces 85 = .ok (.getfield 58, 3) := by decide +kernel
theorem d_Sh_findFaces_88 : decode b_Sh_findFaces 88 = .ok (.iload_n 3, 1) := by decide +kernel
theorem d_Sh_findFaces_89 : decode b_Sh_findFaces 89 = .ok (.iastore, 1) := by decide +kernel
theorem d_Sh_findFaces_90 : decode b_Sh_findFaces 90 = .ok (.aload_n 0, 1) := by decide +kernel
theorem d_Sh_findFaces_91 : decode b_Sh_findFaces 91 = .ok (.dup, 1) := by decide +kernel
theorem d_Sh_findFaces_92 : decode b_Sh_findFaces 92 = .ok (.getfield 58, 3) := by decide +kernel
theorem d_Sh_findFaces_95 : decode b_Sh_findFaces 95 = .ok (.iconst 1, 1) := by decide +kernel
theorem d_Sh_findFaces_96 : decode b_Sh_findFaces 96 = .ok (.iadd, 1) := by decide +kernel
theorem d_Sh_findFaces_97 : decode b_Sh_findFaces 97 = .ok (.putfield 58, 3) := by decide +kernel
theorem d_Sh_findFaces_100 : decode b_Sh_findFaces 100 = .ok (.iinc 1 1, 3) := by decide +kernel
theorem d_Sh_findFaces_103 : decode b_Sh_findFaces 103 = .ok (.goto (-93), 3) := by decide +kernel
theorem d_Sh_findFaces_106 : decode b_Sh_findFaces 106 = .ok (.return_, 1) := by decide +kernel
theorem d_Sh_findFree_0 : decode b_Sh_findFree 0 = .ok (.iconst 0, 1) := by decide +kernel
theorem d_Sh_findFree_1 : decode b_Sh_findFree 1 = .ok (.istore_n 2, 1) := by decide +kernel
theorem d_Sh_findFree_2 : decode b_Sh_findFree 2 = .ok (.iconst 0, 1) := by decide +kernel
theorem d_Sh_findFree_3 : decode b_Sh_findFree 3 = .ok (.istore_n 3, 1) := by decide +kernel
theorem d_Sh_findFree_4 : decode b_Sh_findFree 4 = .ok (.iconst 1, 1) := by decide +kernel
theorem d_Sh_findFree_5 : decode b_Sh_findFree 5 = .ok (.istore 4, 2) := by decide +kernel
theorem d_Sh_findFree_7 : decode b_Sh_findFree 7 = .ok (.iload_n 3, 1) := by decide +kernel
theorem d_Sh_findFree_8 : decode b_Sh_findFree 8 = .ok (.aload_n 1, 1) := by decide +kernel
theorem d_Sh_findFree_9 : decode b_Sh_findFree 9 = .ok (.arraylength, 1) := by decide +kernel
theorem d_Sh_findFree_10 : decode b_Sh_findFree 10 = .ok (.if_icmp .ge 52, 3) := by decide +kernel
theorem d_Sh_findFree_13 : decode b_Sh_findFree 13 = .ok (.iload 4, 2) := by decide +kernel
theorem d_Sh_findFree_15 : decode b_Sh_findFree 15 = .ok (.bipush 40, 2) := by decide +kernel
theorem d_Sh_findFree_17 : decode b_Sh_findFree 17 = .ok (.aload_n 1, 1) := by decide +kernel
theorem d_Sh_findFree_18 : decode b_Sh_findFree 18 = .ok (.arraylength, 1) := by decide +kernel
theorem d_Sh_findFree_19 : decode b_Sh_findFree 19 = .ok (.iadd, 1) := by decide +kernel
theorem d_Sh_findFree_20 : decode b_Sh_findFree 20 = .ok (.if_icmp .gt 42, 3) := by decide +kernel
theorem d_Sh_findFree_23 : decode b_Sh_findFree 23 = .ok (.iload_n 2, 1) := by decide +kernel
theorem d_Sh_findFree_24 : decode b_Sh_findFree 24 = .ok (.aload_n 0, 1) := by decide +kernel
theorem d_Sh_findFree_25 : decode b_Sh_findFree 25 = .ok (.getfield 48, 3) := by decide +kernel
theorem d_Sh_findFree_28 : decode b_Sh_findFree 28 = .ok (.if_icmp .ge 20, 3) := by decide +kernel
theorem d_Sh_findFree_31 : decode b_Sh_findFree 31 = .ok (.aload_n 0, 1) := by decide +kernel
theorem d_Sh_findFree_32 : decode b_Sh_findFree 32 = .ok (.getfield 15, 3) := by decide +kernel
theorem d_Sh_findFree_35 : decode b_Sh_findFree 35 = .ok (.iload_n 2, 1) := by decide +kernel
theorem d_Sh_findFree_36 : decode b_Sh_findFree 36 = .ok (.iaload, 1) := by decide +kernel
theorem d_Sh_findFree_37 : decode b_Sh_findFree 37 = .ok (.iload 4, 2) := by decide +kernel
theorem d_Sh_findFree_39 : decode b_Sh_findFree 39 = .ok (.if_icmp .ne 9, 3) := by decide +kernel
theorem d_Sh_findFree_42 : decode b_Sh_findFree 42 = .ok (.iinc 2 1, 3) := by decide +kernel
theorem d_Sh_findFree_45 : decode b_Sh_findFree 45 = .ok (.goto 11, 3) := by decide +kernel
theorem d_Sh_findFree_48 : decode b_Sh_findFree 48 = .ok (.aload_n 1, 1) := by decide +kernel
theorem d_Sh_findFree_49 : decode b_Sh_findFree 49 = .ok (.iload_n 3, 1) := by decide +kernel
theorem d_Sh_findFree_50 : decode b_Sh_findFree 50 = .ok (.iload 4, 2) := by decide +kernel
theorem d_Sh_findFree_52 : decode b_Sh_findFree 52 = .ok (.iastore, 1) := by decide +kernel
theorem d_Sh_findFree_53 : decode b_Sh_findFree 53 = .ok (.iinc 3 1, 3) := by decide +kernel
theorem d_Sh_findFree_56 : decode b_Sh_findFree 56 = .ok (.iinc 4 1, 3) := by decide +kernel
theorem d_Sh_findFree_59 : decode b_Sh_findFree 59 = .ok (.goto (-52), 3) := by decide +kernel
theorem d_Sh_findFree_62 : decode b_Sh_findFree 62 = .ok (.return_, 1) := by decide +kernel
theorem d_Sh_findPieces_0 : decode b_Sh_findPieces 0 = .ok (.iconst 0, 1) := by decide +kernel
theorem d_Sh_findPieces_1 : decode b_Sh_findPieces 1 = .ok (.istore_n 2, 1) := by decide +kernel
theorem d_Sh_findPieces_2 : decode b_Sh_findPieces 2 = .ok (.iload_n 2, 1) := by decide +kernel
theorem d_Sh_findPieces_3 : decode b_Sh_findPieces 3 = .ok (.iload_n 1, 1) := by decide +kernel
theorem d_Sh_findPieces_4 : decode b_Sh_findPieces 4 = .ok (.if_icmp .ge 16, 3) := by decide +kernel
theorem d_Sh_findPieces_7 : decode b_Sh_findPieces 7 = .ok (.aload_n 0, 1) := by decide +kernel
theorem d_Sh_findPieces_8 : decode b_Sh_findPieces 8 = .ok (.getfield 33, 3) := by decide +kernel
theorem d_Sh_findPieces_11 : decode b_Sh_findPieces 11 = .ok (.iload_n 2, 1) := by decide +kernel
theorem d_Sh_findPieces_12 : decode b_Sh_findPieces 12 = .ok (.iload_n 2, 1) := by decide +kernel
theorem d_Sh_findPieces_13 : decode b_Sh_findPieces 13 = .ok (.iastore, 1) := by decide +kernel
theorem d_Sh_findPieces_14 : decode b_Sh_findPieces 14 = .ok (.iinc 2 1, 3) := by decide +kernel
theorem d_Sh_findPieces_17 : decode b_Sh_findPieces 17 = .ok (.goto (-15), 3) := by decide +kernel
theorem d_Sh_findPieces_20 : decode b_Sh_findPieces 20 = .ok (.aload_n 0, 1) := by decide +kernel
theorem d_Sh_findPieces_21 : decode b_Sh_findPieces 21 = .ok (.iload_n 1, 1) := by decide +kernel
theorem d_Sh_findPieces_22 : decode b_Sh_findPieces 22 = .ok (.putfield 55, 3) := by decide +kernel
theorem d_Sh_findPieces_25 : decode b_Sh_findPieces 25 = .ok (.iconst 0, 1) := by decide +kernel
theorem d_Sh_findPieces_26 : decode b_Sh_findPieces 26 = .ok (.istore_n 2, 1) := by decide +kernel
theorem d_Sh_findPieces_27 : decode b_Sh_findPieces 27 = .ok (.iload_n 2, 1) := by decide +kernel
theorem d_Sh_findPieces_28 : decode b_Sh_findPieces 28 = .ok (.aload_n 0, 1) := by decide +kernel
theorem d_Sh_findPieces_29 : decode b_Sh_findPieces 29 = .ok (.getfield 48, 3) := by decide +kernel
theorem d_Sh_findPieces_32 : decode b_Sh_findPieces 32 = .ok (.if_icmp .ge 119, 3) := by decide +kernel
theorem d_Sh_findPieces_35 : decode b_Sh_findPieces 35 = .ok (.aload_n 0, 1) := by decide +kernel
theorem d_Sh_findPieces_36 : decode b_Sh_findPieces 36 = .ok (.getfield 33, 3) := by decide +kernel
theorem d_Sh_findPieces_39 : decode b_Sh_findPieces 39 = .ok (.aload_n 0, 1) := by decide +kernel
theorem d_Sh_findPieces_40 : decode b_Sh_findPieces 40 = .ok (.getfield 18, 3) := by decide +kernel
theorem d_Sh_findPieces_43 : decode b_Sh_findPieces 43 = .ok (.iload_n 2, 1) := by decide +kernel
theorem d_Sh_findPieces_44 : decode b_Sh_findPieces 44 = .ok (.iaload, 1) := by decide +kernel
theorem d_Sh_findPieces_45 : decode b_Sh_findPieces 45 = .ok (.iconst 2, 1) := by decide +kernel
theorem d_Sh_findPieces_46 : decode b_Sh_findPieces 46 = .ok (.ishr, 1) := by decide +kernel
theorem d_Sh_findPieces_47 : decode b_Sh_findPieces 47 = .ok (.iaload, 1) := by decide +kernel
theorem d_Sh_findPieces_48 : decode b_Sh_findPieces 48 = .ok (.istore_n 3, 1) := by decide +kernel
theorem d_Sh_findPieces_49 : decode b_Sh_findPieces 49 = .ok (.aload_n 0, 1) := by decide +kernel
theorem d_Sh_findPieces_50 : decode b_Sh_findPieces 50 = .ok (.getfield 33, 3) := by decide +kernel
theorem d_Sh_findPieces_53 : decode b_Sh_findPieces 53 = .ok (.aload_n 0, 1) := by decide +kernel
theorem d_Sh_findPieces_54 : decode b_Sh_findPieces 54 = .ok (.getfield 21, 3) := by decide +kernel
theorem d_Sh_findPieces_57 : decode b_Sh_findPieces 57 = .ok (.iload_n 2, 1) := by decide +kernel
theorem d_Sh_findPieces_58 : decode b_Sh_findPieces 58 = .ok (.iaload, 1) := by decide +kernel
theorem d_Sh_findPieces_59 : decode b_Sh_findPieces 59 = .ok (.iconst 2, 1) := by decide +kernel
theorem d_Sh_findPieces_60 : decode b_Sh_findPieces 60 = .ok (.ishr, 1) := by decide +kernel
theorem d_Sh_findPieces_61 : decode b_Sh_findPieces 61 = .ok (.iaload, 1) := by decide +kernel
theorem d_Sh_findPieces_62 : decode b_Sh_findPieces 62 = .ok (.istore 4, 2) := by decide +kernel
theorem d_Sh_findPieces_64 : decode b_Sh_findPieces 64 = .ok (.iload_n 3, 1) := by decide +kernel
theorem d_Sh_findPieces_65 : decode b_Sh_findPieces 65 = .ok (.iload 4, 2) := by decide +kernel
theorem d_Sh_findPieces_67 : decode b_Sh_findPieces 67 = .ok (.if_icmp .eq 78, 3) := by decide +kernel
theorem d_Sh_findPieces_70 : decode b_Sh_findPieces 70 = .ok (.iload_n 3, 1) := by decide +kernel
theorem d_Sh_findPieces_71 : decode b_Sh_findPieces 71 = .ok (.iload 4, 2) := by decide +kernel
theorem d_Sh_findPieces_73 : decode b_Sh_findPieces 73 = .ok (.invokestatic 90, 3) := by decide +kernel
theorem d_Sh_findPieces_76 : decode b_Sh_findPieces 76 = .ok (.istore 5, 2) := by decide +kernel
theorem d_Sh_findPieces_78 : decode b_Sh_findPieces 78 = .ok (.iconst 0, 1) := by decide +kernel
theorem d_Sh_findPieces_79 : decode b_Sh_findPieces 79 = .ok (.istore 6, 2) := by decide +kernel
theorem d_Sh_findPieces_81 : decode b_Sh_findPieces 81 = .ok (.iload 6, 2) := by decide +kernel
theorem d_Sh_findPieces_83 : decode b_Sh_findPieces 83 = .ok (.iload_n 1, 1) := by decide +kernel
theorem d_Sh_findPieces_84 : decode b_Sh_findPieces 84 = .ok (.if_icmp .ge 51, 3) := by decide +kernel
theorem d_Sh_findPieces_87 : decode b_Sh_findPieces 87 = .ok (.aload_n 0, 1) := by decide +kernel
theorem d_Sh_findPieces_88 : decode b_Sh_findPieces 88 = .ok (.getfield 33, 3) := by decide +kernel
theorem d_Sh_findPieces_91 : decode b_Sh_findPieces 91 = .ok (.iload 6, 2) := by decide +kernel
theorem d_Sh_findPieces_93 : decode b_Sh_findPieces 93 = .ok (.aload_n 0, 1) := by decide +kernel
theorem d_Sh_findPieces_94 : decode b_Sh_findPieces 94 = .ok (.getfield 33, 3) := by decide +kernel
theorem d_Sh_findPieces_97 : decode b_Sh_findPieces 97 = .ok (.iload 6, 2) := by decide +kernel
theorem d_Sh_findPieces_99 : decode b_Sh_findPieces 99 = .ok (.iaload, 1) := by decide +kernel
theorem d_Sh_findPieces_100 : decode b_Sh_findPieces 100 = .ok (.iload_n 3, 1) := by decide +kernel
theorem d_Sh_findPieces_101 : decode b_Sh_findPieces 101 = .ok (.if_icmp .eq 15, 3) := by decide +kernel
theorem d_Sh_findPieces_104 : decode b_Sh_findPieces 104 = .ok (.aload_n 0, 1) := by decide +kernel
theorem d_Sh_findPieces_105 : decode b_Sh_findPieces 105 = .ok (.getfield 33, 3) := by decide +kernel
theorem d_Sh_findPieces_108 : decode b_Sh_findPieces 108 = .ok (.iload 6, 2) := by decide +kernel
theorem d_Sh_findPieces_110 : decode b_Sh_findPieces 110 = .ok (.iaload, 1) := by decide +kernel
theorem d_Sh_findPieces_111 : decode b_Sh_findPieces 111 = .ok (.iload 4, 2) := by decide +kernel
theorem d_Sh_findPieces_113 : decode b_Sh_findPieces 113 = .ok (.if_icmp .ne 8, 3) := by decide +kernel
theorem d_Sh_findPieces_116 : decode b_Sh_findPieces 116 = .ok (.iload 5, 2) := by decide +kernel
theorem d_Sh_findPieces_118 : decode b_Sh_findPieces 118 = .ok (.goto 10, 3) := by decide +kernel
theorem d_Sh_findPieces_121 : decode b_Sh_findPieces 121 = .ok (.aload_n 0, 1) := by decide +kernel
theorem d_Sh_findPieces_122 : decode b_Sh_findPieces 122 = .ok (.getfield 33, 3) := by decide +kernel
theorem d_Sh_findPieces_125 : decode b_Sh_findPieces 125 = .ok (.iload 6, 2) := by decide +kernel
theorem d_Sh_findPieces_127 : decode b_Sh_findPieces 127 = .ok (.iaload, 1) := by decide +kernel
theorem d_Sh_findPieces_128 : decode b_Sh_findPieces 128 = .ok (.iastore, 1) := by decide +kernel
theorem d_Sh_findPieces_129 : decode b_Sh_findPieces 129 = .ok (.iinc 6 1, 3) := by decide +kernel
theorem d_Sh_findPieces_132 : decode b_Sh_findPieces 132 = .ok (.goto (-51), 3) := by decide +kernel
theorem d_Sh_findPieces_135 : decode b_Sh_findPieces 135 = .ok (.aload_n 0, 1) := by decide +kernel
theorem d_Sh_findPieces_136 : decode b_Sh_findPieces 136 = .ok (.dup, 1) := by decide +kernel
theorem d_Sh_findPieces_137 : decode b_Sh_findPieces 137 = .ok (.getfield 55, 3) := by decide +kernel
theorem d_Sh_findPieces_140 : decode b_Sh_findPieces 140 = .ok (.iconst 1, 1) := by decide +kernel
theorem d_Sh_findPieces_141 : decode b_Sh_findPieces 141 = .ok (.isub, 1) := by decide +kernel
theorem d_Sh_findPieces_142 : decode b_Sh_findPieces 142 = .ok (.putfield 55, 3) := by decide +kernel
theorem d_Sh_findPieces_145 : decode b_Sh_findPieces 145 = .ok (.iinc 2 1, 3) := by decide +kernel
theorem d_Sh_findPieces_148 : decode b_Sh_findPieces 148 = .ok (.goto (-121), 3) := by decide +kernel
theorem d_Sh_findPieces_151 : decode b_Sh_findPieces 151 = .ok (.return_, 1) := by decide +kernel
theorem d_Sh_isAlternating_0 : decode b_Sh_isAlternating 0 = .ok (.iconst 0, 1) := by decide +kernel
theorem d_Sh_isAlternating_1 : decode b_Sh_isAlternating 1 = .ok (.istore_n 1, 1) := by decide +kernel
theorem d_Sh_isAlternating_2 : decode b_Sh_isAlternating 2 = .ok (.iload_n 1, 1) := by decide +kernel
theorem d_Sh_isAlternating_3 : decode b_Sh_isAlternating 3 = .ok (.aload_n 0, 1) := by decide +kernel
theorem d_Sh_isAlternating_4 : decode b_Sh_isAlternating 4 = .ok (.getfield 48, 3) := by decide +kernel
theorem d_Sh_isAlternating_7 : decode b_Sh_isAlternating 7 = .ok (.if_icmp .ge 32, 3) := by decide +kernel
theorem d_Sh_isAlternating_10 : decode b_Sh_isAlternating 10 = .ok (.aload_n 0, 1) := by decide +kernel
theorem d_Sh_isAlternating_11 : decode b_Sh_isAlternating 11 = .ok (.getfield 18, 3) := by decide +kernel
theorem d_Sh_isAlternating_14 : decode b_Sh_isAlternating 14 = .ok (.iload_n 1, 1) := by decide +kernel
theorem d_Sh_isAlternating_15 : decode b_Sh_isAlternating 15 = .ok (.iaload, 1) := by decide +kernel
theorem d_Sh_isAlternating_16 : decode b_Sh_isAlternating 16 = .ok (.invokestatic 114, 3) := by decide +kernel
theorem d_Sh_isAlternating_19 : decode b_Sh_isAlternating 19 = .ok (.aload_n 0, 1) := by decide +kernel
theorem d_Sh_isAlternating_20 : decode b_Sh_isAlternating 20 = .ok (.getfield 21, 3) := by decide +kernel
theorem d_Sh_isAlternating_23 : decode b_Sh_isAlternating 23 = .ok (.iload_n 1, 1) := by decide +kernel
theorem d_Sh_isAlternating_24 : decode b_Sh_isAlternating 24 = .ok (.iaload, 1) := by decide +kernel
theorem d_Sh_isAlternating_25 : decode b_Sh_isAlternating 25 = .ok (.invokestatic 114, 3) := by decide +kernel
theorem d_Sh_isAlternating_28 : decode b_Sh_isAlternating 28 = .ok (.if_icmp .ne 5, 3) := by decide +kernel
theorem d_Sh_isAlternating_31 : decode b_Sh_isAlternating 31 = .ok (.iconst 0, 1) := by decide +kernel
theorem d_Sh_isAlternating_32 : decode b_Sh_isAlternating 32 = .ok (.ireturn, 1) := by decide +kernel
theorem d_Sh_isAlternating_33 : decode b_Sh_isAlternating 33 = .ok (.iinc 1 1, 3) := by decide +kernel
theorem d_Sh_isAlternating_36 : decode b_Sh_isAlternating 36 = .ok (.goto (-34), 3) := by decide +kernel
theorem d_Sh_isAlternating_39 : decode b_Sh_isAlternating 39 = .ok (.iconst 1, 1) := by decide +kernel
theorem d_Sh_isAlternating_40 : decode b_Sh_isAlternating 40 = .ok (.ireturn, 1) := by decide +kernel
theorem d_Sh_isUpper_0 : decode b_Sh_isUpper 0 = .ok (.iload_n 0, 1) := by decide +kernel
theorem d_Sh_isUpper_1 : decode b_Sh_isUpper 1 = .ok (.iconst 1, 1) := by decide +kernel
theorem d_Sh_isUpper_2 : decode b_Sh_isUpper 2 = .ok (.iand, 1) := by decide +kernel
theorem d_Sh_isUpper_3 : decode b_Sh_isUpper 3 = .ok (.iconst 1, 1) := by decide +kernel
theorem d_Sh_isUpper_4 : decode b_Sh_isUpper 4 = .ok (.if_icmp .ne 7, 3) := by decide +kernel
theorem d_Sh_isUpper_7 : decode b_Sh_isUpper 7 = .ok (.iconst 1, 1) := by decide +kernel
theorem d_Sh_isUpper_8 : decode b_Sh_isUpper 8 = .ok (.goto 4, 3) := by decide +kernel
theorem d_Sh_isUpper_11 : decode b_Sh_isUpper 11 = .ok (.iconst 0, 1) := by decide +kernel
theorem d_Sh_isUpper_12 : decode b_Sh_isUpper 12 = .ok (.ireturn, 1) := by decide +kernel
theorem d_Sh_labelOfKey_0 : decode b_Sh_labelOfKey 0 = .ok (.aload_n 0, 1) := by decide +kernel
theorem d_Sh_labelOfKey_1 : decode b_Sh_labelOfKey 1 = .ok (.getfield 9, 3) := by decide +kernel
theorem d_Sh_labelOfKey_4 : decode b_Sh_labelOfKey 4 = .ok (.iload_n 1, 1) := by decide +kernel
theorem d_Sh_labelOfKey_5 : decode b_Sh_labelOfKey 5 = .ok (.iaload, 1) := by decide +kernel
theorem d_Sh_labelOfKey_6 : decode b_Sh_labelOfKey 6 = .ok (.bipush 7, 2) := by decide +kernel
theorem d_Sh_labelOfKey_8 : decode b_Sh_labelOfKey 8 = .ok (.ishr, 1) := by decide +kernel
theorem d_Sh_labelOfKey_9 : decode b_Sh_labelOfKey 9 = .ok (.ireturn, 1) := by decide +kernel
theorem d_Sh_labelsArePaired_0 : decode b_Sh_labelsArePaired 0 = .ok (.iconst 0, 1) := by decide +kernel
theorem d_Sh_labelsArePaired_1 : decode b_Sh_labelsArePaired 1 = .ok (.istore_n 2, 1) := by decide +kernel
theorem d_Sh_labelsArePaired_2 : decode b_Sh_labelsArePaired 2 = .ok (.iload_n 2, 1) := by decide +kernel
theorem d_Sh_labelsArePaired_3 : decode b_Sh_labelsArePaired 3 = .ok (.iload_n 1, 1) := by decide +kernel
theorem d_Sh_labelsArePaired_4 : decode b_Sh_labelsArePaired 4 = .ok (.if_icmp .ge 82, 3) := by decide +kernel
theorem d_Sh_labelsArePaired_7 : decode b_Sh_labelsArePaired 7 = .ok (.aload_n 0, 1) := by decide +kernel
theorem d_Sh_labelsArePaired_8 : decode b_Sh_labelsArePaired 8 = .ok (.iload_n 2, 1) := by decide +kernel
theorem d_Sh_labelsArePaired_9 : decode b_Sh_labelsArePaired 9 = .ok (.invokevirtual 75, 3) := by decide +kernel
theorem d_Sh_labelsArePaired_12 : decode b_Sh_labelsArePaired 12 = .ok (.istore_n 3, 1) := by decide +kernel
theorem d_Sh_labelsArePaired_13 : decode b_Sh_labelsArePaired 13 = .ok (.iload_n 2, 1) := by decide +kernel
theorem d_Sh_labelsArePaired_14 : decode b_Sh_labelsArePaired 14 = .ok (.iconst 1, 1) := by decide +kernel
theorem d_Sh_labelsArePaired_15 : decode b_Sh_labelsArePaired 15 = .ok (.iadd, 1) := by decide +kernel
theorem d_Sh_labelsArePaired_16 : decode b_Sh_labelsArePaired 16 = .ok (.iload_n 1, 1) := by decide +kernel
theorem d_Sh_labelsArePaired_17 : decode b_Sh_labelsArePaired 17 = .ok (.if_icmp .ge 14, 3) := by decide +kernel
theorem d_Sh_labelsArePaired_20 : decode b_Sh_labelsArePaired 20 = .ok (.aload_n 0, 1) := by decide +kernel
theorem d_Sh_labelsArePaired_21 : decode b_Sh_labelsArePaired 21 = .ok (.iload_n 2, 1) := by decide +kernel
theorem d_Sh_labelsArePaired_22 : decode b_Sh_labelsArePaired 22 = .ok (.iconst 1, 1) := by decide +kernel
