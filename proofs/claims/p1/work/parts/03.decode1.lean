theorem d_Br_init_7 : decode b_Br_init 7 = .ok (.newarray .int, 2) := by decide +kernel
theorem d_Br_init_9 : decode b_Br_init 9 = .ok (.putfield 9, 3) := by decide +kernel
theorem d_Br_init_12 : decode b_Br_init 12 = .ok (.aload_n 0, 1) := by decide +kernel
theorem d_Br_init_13 : decode b_Br_init 13 = .ok (.sipush 168, 3) := by decide +kernel
theorem d_Br_init_16 : decode b_Br_init 16 = .ok (.newarray .int, 2) := by decide +kernel
theorem d_Br_init_18 : decode b_Br_init 18 = .ok (.putfield 15, 3) := by decide +kernel
theorem d_Br_init_21 : decode b_Br_init 21 = .ok (.aload_n 0, 1) := by decide +kernel
theorem d_Br_init_22 : decode b_Br_init 22 = .ok (.bipush 8, 2) := by decide +kernel
theorem d_Br_init_24 : decode b_Br_init 24 = .ok (.newarray .int, 2) := by decide +kernel
theorem d_Br_init_26 : decode b_Br_init 26 = .ok (.putfield 18, 3) := by decide +kernel
theorem d_Br_init_29 : decode b_Br_init 29 = .ok (.aload_n 0, 1) := by decide +kernel
theorem d_Br_init_30 : decode b_Br_init 30 = .ok (.iconst 1, 1) := by decide +kernel
theorem d_Br_init_31 : decode b_Br_init 31 = .ok (.putfield 21, 3) := by decide +kernel
theorem d_Br_init_34 : decode b_Br_init 34 = .ok (.return_, 1) := by decide +kernel
theorem d_Di_init_0 : decode b_Di_init 0 = .ok (.aload_n 0, 1) := by decide +kernel
theorem d_Di_init_1 : decode b_Di_init 1 = .ok (.invokespecial 3, 3) := by decide +kernel
theorem d_Di_init_4 : decode b_Di_init 4 = .ok (.aload_n 0, 1) := by decide +kernel
theorem d_Di_init_5 : decode b_Di_init 5 = .ok (.bipush 20, 2) := by decide +kernel
theorem d_Di_init_7 : decode b_Di_init 7 = .ok (.newarray .int, 2) := by decide +kernel
theorem d_Di_init_9 : decode b_Di_init 9 = .ok (.putfield 9, 3) := by decide +kernel
theorem d_Di_init_12 : decode b_Di_init 12 = .ok (.aload_n 0, 1) := by decide +kernel
theorem d_Di_init_13 : decode b_Di_init 13 = .ok (.bipush 80, 2) := by decide +kernel
theorem d_Di_init_15 : decode b_Di_init 15 = .ok (.newarray .int, 2) := by decide +kernel
theorem d_Di_init_17 : decode b_Di_init 17 = .ok (.putfield 15, 3) := by decide +kernel
theorem d_Di_init_20 : decode b_Di_init 20 = .ok (.aload_n 0, 1) := by decide +kernel
theorem d_Di_init_21 : decode b_Di_init 21 = .ok (.new 18, 3) := by decide +kernel
theorem d_Di_init_24 : decode b_Di_init 24 = .ok (.dup, 1) := by decide +kernel
theorem d_Di_init_25 : decode b_Di_init 25 = .ok (.invokespecial 20, 3) := by decide +kernel
theorem d_Di_init_28 : decode b_Di_init 28 = .ok (.putfield 21, 3) := by decide +kernel
theorem d_Di_init_31 : decode b_Di_init 31 = .ok (.return_, 1) := by decide +kernel
theorem d_En_init_0 : decode b_En_init 0 = .ok (.aload_n 0, 1) := by decide +kernel
theorem d_En_init_1 : decode b_En_init 1 = .ok (.invokespecial 3, 3) := by decide +kernel
theorem d_En_init_4 : decode b_En_init 4 = .ok (.aload_n 0, 1) := by decide +kernel
theorem d_En_init_5 : decode b_En_init 5 = .ok (.new 9, 3) := by decide +kernel
theorem d_En_init_8 : decode b_En_init 8 = .ok (.dup, 1) := by decide +kernel
theorem d_En_init_9 : decode b_En_init 9 = .ok (.invokespecial 11, 3) := by decide +kernel
theorem d_En_init_12 : decode b_En_init 12 = .ok (.putfield 12, 3) := by decide +kernel
theorem d_En_init_15 : decode b_En_init 15 = .ok (.aload_n 0, 1) := by decide +kernel
theorem d_En_init_16 : decode b_En_init 16 = .ok (.aload_n 0, 1) := by decide +kernel
theorem d_En_init_17 : decode b_En_init 17 = .ok (.getfield 12, 3) := by decide +kernel
theorem d_En_init_20 : decode b_En_init 20 = .ok (.getfield 16, 3) := by decide +kernel
theorem d_En_init_23 : decode b_En_init 23 = .ok (.putfield 20, 3) := by decide +kernel
theorem d_En_init_26 : decode b_En_init 26 = .ok (.aload_n 0, 1) := by decide +kernel
theorem d_En_init_27 : decode b_En_init 27 = .ok (.aload_n 0, 1) := by decide +kernel
theorem d_En_init_28 : decode b_En_init 28 = .ok (.getfield 12, 3) := by decide +kernel
theorem d_En_init_31 : decode b_En_init 31 = .ok (.getfield 23, 3) := by decide +kernel
theorem d_En_init_34 : decode b_En_init 34 = .ok (.putfield 27, 3) := by decide +kernel
theorem d_En_init_37 : decode b_En_init 37 = .ok (.aload_n 0, 1) := by decide +kernel
theorem d_En_init_38 : decode b_En_init 38 = .ok (.new 28, 3) := by decide +kernel
theorem d_En_init_41 : decode b_En_init 41 = .ok (.dup, 1) := by decide +kernel
theorem d_En_init_42 : decode b_En_init 42 = .ok (.invokespecial 30, 3) := by decide +kernel
theorem d_En_init_45 : decode b_En_init 45 = .ok (.putfield 31, 3) := by decide +kernel
theorem d_En_init_48 : decode b_En_init 48 = .ok (.aload_n 0, 1) := by decide +kernel
theorem d_En_init_49 : decode b_En_init 49 = .ok (.new 35, 3) := by decide +kernel
theorem d_En_init_52 : decode b_En_init 52 = .ok (.dup, 1) := by decide +kernel
theorem d_En_init_53 : decode b_En_init 53 = .ok (.invokespecial 37, 3) := by decide +kernel
theorem d_En_init_56 : decode b_En_init 56 = .ok (.putfield 38, 3) := by decide +kernel
theorem d_En_init_59 : decode b_En_init 59 = .ok (.aload_n 0, 1) := by decide +kernel
theorem d_En_init_60 : decode b_En_init 60 = .ok (.new 42, 3) := by decide +kernel
theorem d_En_init_63 : decode b_En_init 63 = .ok (.dup, 1) := by decide +kernel
theorem d_En_init_64 : decode b_En_init 64 = .ok (.invokespecial 44, 3) := by decide +kernel
theorem d_En_init_67 : decode b_En_init 67 = .ok (.putfield 45, 3) := by decide +kernel
theorem d_En_init_70 : decode b_En_init 70 = .ok (.aload_n 0, 1) := by decide +kernel
theorem d_En_init_71 : decode b_En_init 71 = .ok (.new 49, 3) := by decide +kernel
theorem d_En_init_74 : decode b_En_init 74 = .ok (.dup, 1) := by decide +kernel
theorem d_En_init_75 : decode b_En_init 75 = .ok (.invokespecial 51, 3) := by decide +kernel
theorem d_En_init_78 : decode b_En_init 78 = .ok (.putfield 52, 3) := by decide +kernel
theorem d_En_init_81 : decode b_En_init 81 = .ok (.aload_n 0, 1) := by decide +kernel
theorem d_En_init_82 : decode b_En_init 82 = .ok (.new 56, 3) := by decide +kernel
theorem d_En_init_85 : decode b_En_init 85 = .ok (.dup, 1) := by decide +kernel
theorem d_En_init_86 : decode b_En_init 86 = .ok (.invokespecial 58, 3) := by decide +kernel
theorem d_En_init_89 : decode b_En_init 89 = .ok (.putfield 59, 3) := by decide +kernel
theorem d_En_init_92 : decode b_En_init 92 = .ok (.aload_n 0, 1) := by decide +kernel
theorem d_En_init_93 : decode b_En_init 93 = .ok (.new 63, 3) := by decide +kernel
theorem d_En_init_96 : decode b_En_init 96 = .ok (.dup, 1) := by decide +kernel
theorem d_En_init_97 : decode b_En_init 97 = .ok (.invokespecial 65, 3) := by decide +kernel
theorem d_En_init_100 : decode b_En_init 100 = .ok (.putfield 66, 3) := by decide +kernel
theorem d_En_init_103 : decode b_En_init 103 = .ok (.aload_n 0, 1) := by decide +kernel
theorem d_En_init_104 : decode b_En_init 104 = .ok (.new 63, 3) := by decide +kernel
theorem d_En_init_107 : decode b_En_init 107 = .ok (.dup, 1) := by decide +kernel
theorem d_En_init_108 : decode b_En_init 108 = .ok (.invokespecial 65, 3) := by decide +kernel
theorem d_En_init_111 : decode b_En_init 111 = .ok (.putfield 70, 3) := by decide +kernel
theorem d_En_init_114 : decode b_En_init 114 = .ok (.aload_n 0, 1) := by decide +kernel
theorem d_En_init_115 : decode b_En_init 115 = .ok (.new 63, 3) := by decide +kernel
theorem d_En_init_118 : decode b_En_init 118 = .ok (.dup, 1) := by decide +kernel
theorem d_En_init_119 : decode b_En_init 119 = .ok (.invokespecial 65, 3) := by decide +kernel
theorem d_En_init_122 : decode b_En_init 122 = .ok (.putfield 73, 3) := by decide +kernel
theorem d_En_init_125 : decode b_En_init 125 = .ok (.aload_n 0, 1) := by decide +kernel
theorem d_En_init_126 : decode b_En_init 126 = .ok (.new 76, 3) := by decide +kernel
theorem d_En_init_129 : decode b_En_init 129 = .ok (.dup, 1) := by decide +kernel
theorem d_En_init_130 : decode b_En_init 130 = .ok (.invokespecial 78, 3) := by decide +kernel
theorem d_En_init_133 : decode b_En_init 133 = .ok (.putfield 79, 3) := by decide +kernel
theorem d_En_init_136 : decode b_En_init 136 = .ok (.aload_n 0, 1) := by decide +kernel
theorem d_En_init_137 : decode b_En_init 137 = .ok (.new 76, 3) := by decide +kernel
theorem d_En_init_140 : decode b_En_init 140 = .ok (.dup, 1) := by decide +kernel
theorem d_En_init_141 : decode b_En_init 141 = .ok (.invokespecial 78, 3) := by decide +kernel
theorem d_En_init_144 : decode b_En_init 144 = .ok (.putfield 83, 3) := by decide +kernel
theorem d_En_init_147 : decode b_En_init 147 = .ok (.aload_n 0, 1) := by decide +kernel
theorem d_En_init_148 : decode b_En_init 148 = .ok (.new 76, 3) := by decide +kernel
theorem d_En_init_151 : decode b_En_init 151 = .ok (.dup, 1) := by decide +kernel
theorem d_En_init_152 : decode b_En_init 152 = .ok (.invokespecial 78, 3) := by decide +kernel
theorem d_En_init_155 : decode b_En_init 155 = .ok (.putfield 86, 3) := by decide +kernel
theorem d_En_init_158 : decode b_En_init 158 = .ok (.return_, 1) := by decide +kernel
theorem d_Md_Di_init_0 : decode b_Md_Di_init 0 = .ok (.aload_n 0, 1) := by decide +kernel
theorem d_Md_Di_init_1 : decode b_Md_Di_init 1 = .ok (.invokespecial 1, 3) := by decide +kernel
theorem d_Md_Di_init_4 : decode b_Md_Di_init 4 = .ok (.aload_n 0, 1) := by decide +kernel
theorem d_Md_Di_init_5 : decode b_Md_Di_init 5 = .ok (.bipush 24, 2) := by decide +kernel
theorem d_Md_Di_init_7 : decode b_Md_Di_init 7 = .ok (.newarray .int, 2) := by decide +kernel
theorem d_Md_Di_init_9 : decode b_Md_Di_init 9 = .ok (.putfield 7, 3) := by decide +kernel
theorem d_Md_Di_init_12 : decode b_Md_Di_init 12 = .ok (.aload_n 0, 1) := by decide +kernel
theorem d_Md_Di_init_13 : decode b_Md_Di_init 13 = .ok (.bipush 96, 2) := by decide +kernel
theorem d_Md_Di_init_15 : decode b_Md_Di_init 15 = .ok (.newarray .int, 2) := by decide +kernel
theorem d_Md_Di_init_17 : decode b_Md_Di_init 17 = .ok (.putfield 13, 3) := by decide +kernel
theorem d_Md_Di_init_20 : decode b_Md_Di_init 20 = .ok (.return_, 1) := by decide +kernel
theorem d_Md_Wo_init_0 : decode b_Md_Wo_init 0 = .ok (.aload_n 0, 1) := by decide +kernel
theorem d_Md_Wo_init_1 : decode b_Md_Wo_init 1 = .ok (.invokespecial 1, 3) := by decide +kernel
theorem d_Md_Wo_init_4 : decode b_Md_Wo_init 4 = .ok (.aload_n 0, 1) := by decide +kernel
theorem d_Md_Wo_init_5 : decode b_Md_Wo_init 5 = .ok (.iconst 1, 1) := by decide +kernel
theorem d_Md_Wo_init_6 : decode b_Md_Wo_init 6 = .ok (.putfield 7, 3) := by decide +kernel
theorem d_Md_Wo_init_9 : decode b_Md_Wo_init 9 = .ok (.aload_n 0, 1) := by decide +kernel
theorem d_Md_Wo_init_10 : decode b_Md_Wo_init 10 = .ok (.bipush 20, 2) := by decide +kernel
theorem d_Md_Wo_init_12 : decode b_Md_Wo_init 12 = .ok (.newarray .int, 2) := by decide +kernel
theorem d_Md_Wo_init_14 : decode b_Md_Wo_init 14 = .ok (.putfield 13, 3) := by decide +kernel
theorem d_Md_Wo_init_17 : decode b_Md_Wo_init 17 = .ok (.aload_n 0, 1) := by decide +kernel
theorem d_Md_Wo_init_18 : decode b_Md_Wo_init 18 = .ok (.sipush 216, 3) := by decide +kernel
theorem d_Md_Wo_init_21 : decode b_Md_Wo_init 21 = .ok (.newarray .int, 2) := by decide +kernel
theorem d_Md_Wo_init_23 : decode b_Md_Wo_init 23 = .ok (.putfield 17, 3) := by decide +kernel
theorem d_Md_Wo_init_26 : decode b_Md_Wo_init 26 = .ok (.return_, 1) := by decide +kernel
theorem d_Md_init_0 : decode b_Md_init 0 = .ok (.aload_n 0, 1) := by decide +kernel
theorem d_Md_init_1 : decode b_Md_init 1 = .ok (.invokespecial 1, 3) := by decide +kernel
theorem d_Md_init_4 : decode b_Md_init 4 = .ok (.aload_n 0, 1) := by decide +kernel
theorem d_Md_init_5 : decode b_Md_init 5 = .ok (.sipush 4000, 3) := by decide +kernel
theorem d_Md_init_8 : decode b_Md_init 8 = .ok (.newarray .byte, 2) := by decide +kernel
theorem d_Md_init_10 : decode b_Md_init 10 = .ok (.putfield 9, 3) := by decide +kernel
theorem d_Md_init_13 : decode b_Md_init 13 = .ok (.aload_n 0, 1) := by decide +kernel
theorem d_Md_init_14 : decode b_Md_init 14 = .ok (.sipush 4000, 3) := by decide +kernel
theorem d_Md_init_17 : decode b_Md_init 17 = .ok (.newarray .byte, 2) := by decide +kernel
theorem d_Md_init_19 : decode b_Md_init 19 = .ok (.putfield 13, 3) := by decide +kernel
theorem d_Md_init_22 : decode b_Md_init 22 = .ok (.aload_n 0, 1) := by decide +kernel
theorem d_Md_init_23 : decode b_Md_init 23 = .ok (.sipush 4000, 3) := by decide +kernel
theorem d_Md_init_26 : decode b_Md_init 26 = .ok (.newarray .byte, 2) := by decide +kernel
theorem d_Md_init_28 : decode b_Md_init 28 = .ok (.putfield 16, 3) := by decide +kernel
theorem d_Md_init_31 : decode b_Md_init 31 = .ok (.aload_n 0, 1) := by decide +kernel
theorem d_Md_init_32 : decode b_Md_init 32 = .ok (.iconst (-1), 1) := by decide +kernel
theorem d_Md_init_33 : decode b_Md_init 33 = .ok (.putfield 19, 3) := by decide +kernel
theorem d_Md_init_36 : decode b_Md_init 36 = .ok (.aload_n 0, 1) := by decide +kernel
theorem d_Md_init_37 : decode b_Md_init 37 = .ok (.bipush 65, 2) := by decide +kernel
theorem d_Md_init_39 : decode b_Md_init 39 = .ok (.newarray .int, 2) := by decide +kernel
theorem d_Md_init_41 : decode b_Md_init 41 = .ok (.putfield 23, 3) := by decide +kernel
theorem d_Md_init_44 : decode b_Md_init 44 = .ok (.aload_n 0, 1) := by decide +kernel
