theorem d_Md_turnOver_43 : decode b_Md_turnOver 43 = .ok (.iaload, 1) := by decide +kernel
theorem d_Md_turnOver_44 : decode b_Md_turnOver 44 = .ok (.istore 5, 2) := by decide +kernel
theorem d_Md_turnOver_46 : decode b_Md_turnOver 46 = .ok (.aload_n 0, 1) := by decide +kernel
theorem d_Md_turnOver_47 : decode b_Md_turnOver 47 = .ok (.getfield 403, 3) := by decide +kernel
theorem d_Md_turnOver_50 : decode b_Md_turnOver 50 = .ok (.bipush 9, 2) := by decide +kernel
theorem d_Md_turnOver_52 : decode b_Md_turnOver 52 = .ok (.iload_n 1, 1) := by decide +kernel
theorem d_Md_turnOver_53 : decode b_Md_turnOver 53 = .ok (.imul, 1) := by decide +kernel
theorem d_Md_turnOver_54 : decode b_Md_turnOver 54 = .ok (.iload_n 3, 1) := by decide +kernel
theorem d_Md_turnOver_55 : decode b_Md_turnOver 55 = .ok (.iadd, 1) := by decide +kernel
theorem d_Md_turnOver_56 : decode b_Md_turnOver 56 = .ok (.iload_n 2, 1) := by decide +kernel
theorem d_Md_turnOver_57 : decode b_Md_turnOver 57 = .ok (.iconst 1, 1) := by decide +kernel
theorem d_Md_turnOver_58 : decode b_Md_turnOver 58 = .ok (.iadd, 1) := by decide +kernel
theorem d_Md_turnOver_59 : decode b_Md_turnOver 59 = .ok (.iload 5, 2) := by decide +kernel
theorem d_Md_turnOver_61 : decode b_Md_turnOver 61 = .ok (.isub, 1) := by decide +kernel
theorem d_Md_turnOver_62 : decode b_Md_turnOver 62 = .ok (.iastore, 1) := by decide +kernel
theorem d_Md_turnOver_63 : decode b_Md_turnOver 63 = .ok (.aload_n 0, 1) := by decide +kernel
theorem d_Md_turnOver_64 : decode b_Md_turnOver 64 = .ok (.getfield 403, 3) := by decide +kernel
theorem d_Md_turnOver_67 : decode b_Md_turnOver 67 = .ok (.bipush 9, 2) := by decide +kernel
theorem d_Md_turnOver_69 : decode b_Md_turnOver 69 = .ok (.iload_n 1, 1) := by decide +kernel
theorem d_Md_turnOver_70 : decode b_Md_turnOver 70 = .ok (.imul, 1) := by decide +kernel
theorem d_Md_turnOver_71 : decode b_Md_turnOver 71 = .ok (.iload_n 2, 1) := by decide +kernel
theorem d_Md_turnOver_72 : decode b_Md_turnOver 72 = .ok (.iadd, 1) := by decide +kernel
theorem d_Md_turnOver_73 : decode b_Md_turnOver 73 = .ok (.iconst 1, 1) := by decide +kernel
theorem d_Md_turnOver_74 : decode b_Md_turnOver 74 = .ok (.iadd, 1) := by decide +kernel
theorem d_Md_turnOver_75 : decode b_Md_turnOver 75 = .ok (.iload_n 3, 1) := by decide +kernel
theorem d_Md_turnOver_76 : decode b_Md_turnOver 76 = .ok (.isub, 1) := by decide +kernel
theorem d_Md_turnOver_77 : decode b_Md_turnOver 77 = .ok (.iload_n 2, 1) := by decide +kernel
theorem d_Md_turnOver_78 : decode b_Md_turnOver 78 = .ok (.iconst 1, 1) := by decide +kernel
theorem d_Md_turnOver_79 : decode b_Md_turnOver 79 = .ok (.iadd, 1) := by decide +kernel
theorem d_Md_turnOver_80 : decode b_Md_turnOver 80 = .ok (.iload 4, 2) := by decide +kernel
theorem d_Md_turnOver_82 : decode b_Md_turnOver 82 = .ok (.isub, 1) := by decide +kernel
theorem d_Md_turnOver_83 : decode b_Md_turnOver 83 = .ok (.iastore, 1) := by decide +kernel
theorem d_Md_turnOver_84 : decode b_Md_turnOver 84 = .ok (.iinc 3 1, 3) := by decide +kernel
theorem d_Md_turnOver_87 : decode b_Md_turnOver 87 = .ok (.goto (-80), 3) := by decide +kernel
theorem d_Md_turnOver_0 : decode b_Md_turnOver 0 = .ok (.aload_n 0, 1) := by decide +kernel
theorem d_Md_turnOver_1 : decode b_Md_turnOver 1 = .ok (.getfield 395, 3) := by decide +kernel
theorem d_Md_turnOver_4 : decode b_Md_turnOver 4 = .ok (.istore_n 2, 1) := by decide +kernel
theorem d_Md_turnOver_5 : decode b_Md_turnOver 5 = .ok (.iconst 1, 1) := by decide +kernel
theorem d_Md_turnOver_6 : decode b_Md_turnOver 6 = .ok (.istore_n 3, 1) := by decide +kernel
theorem d_Md_crossAbove_0 : decode b_Md_crossAbove 0 = .ok (.aload_n 0, 1) := by decide +kernel
theorem d_Md_crossAbove_1 : decode b_Md_crossAbove 1 = .ok (.getfield 403, 3) := by decide +kernel
theorem d_Md_crossAbove_4 : decode b_Md_crossAbove 4 = .ok (.bipush 9, 2) := by decide +kernel
theorem d_Md_crossAbove_6 : decode b_Md_crossAbove 6 = .ok (.iload_n 1, 1) := by decide +kernel
theorem d_Md_crossAbove_7 : decode b_Md_crossAbove 7 = .ok (.imul, 1) := by decide +kernel
theorem d_Md_crossAbove_8 : decode b_Md_crossAbove 8 = .ok (.iload_n 2, 1) := by decide +kernel
theorem d_Md_crossAbove_9 : decode b_Md_crossAbove 9 = .ok (.iadd, 1) := by decide +kernel
theorem d_Md_crossAbove_10 : decode b_Md_crossAbove 10 = .ok (.iaload, 1) := by decide +kernel
theorem d_Md_crossAbove_11 : decode b_Md_crossAbove 11 = .ok (.aload_n 0, 1) := by decide +kernel
theorem d_Md_crossAbove_12 : decode b_Md_crossAbove 12 = .ok (.getfield 403, 3) := by decide +kernel
theorem d_Md_crossAbove_15 : decode b_Md_crossAbove 15 = .ok (.bipush 9, 2) := by decide +kernel
theorem d_Md_crossAbove_17 : decode b_Md_crossAbove 17 = .ok (.iload_n 1, 1) := by decide +kernel
theorem d_Md_crossAbove_18 : decode b_Md_crossAbove 18 = .ok (.imul, 1) := by decide +kernel
theorem d_Md_crossAbove_19 : decode b_Md_crossAbove 19 = .ok (.iload_n 2, 1) := by decide +kernel
theorem d_Md_crossAbove_20 : decode b_Md_crossAbove 20 = .ok (.iadd, 1) := by decide +kernel
theorem d_Md_crossAbove_21 : decode b_Md_crossAbove 21 = .ok (.iconst 1, 1) := by decide +kernel
theorem d_Md_crossAbove_22 : decode b_Md_crossAbove 22 = .ok (.iadd, 1) := by decide +kernel
theorem d_Md_crossAbove_23 : decode b_Md_crossAbove 23 = .ok (.iaload, 1) := by decide +kernel
theorem d_Md_crossAbove_24 : decode b_Md_crossAbove 24 = .ok (.if_icmp .le 7, 3) := by decide +kernel
theorem d_Md_crossAbove_31 : decode b_Md_crossAbove 31 = .ok (.iconst 0, 1) := by decide +kernel
theorem d_Md_crossAbove_32 : decode b_Md_crossAbove 32 = .ok (.ireturn, 1) := by decide +kernel
theorem d_Md_crossAbove_27 : decode b_Md_crossAbove 27 = .ok (.iconst 1, 1) := by decide +kernel
theorem d_Md_crossAbove_28 : decode b_Md_crossAbove 28 = .ok (.goto 4, 3) := by decide +kernel
theorem d_Md_crossBelow_65 : decode b_Md_crossBelow 65 = .ok (.istore 4, 2) := by decide +kernel
theorem d_Md_crossBelow_67 : decode b_Md_crossBelow 67 = .ok (.iinc 5 1, 3) := by decide +kernel
theorem d_Md_crossBelow_70 : decode b_Md_crossBelow 70 = .ok (.goto (-62), 3) := by decide +kernel
theorem d_Md_crossBelow_39 : decode b_Md_crossBelow 39 = .ok (.istore_n 3, 1) := by decide +kernel
theorem d_Md_crossBelow_40 : decode b_Md_crossBelow 40 = .ok (.aload_n 0, 1) := by decide +kernel
theorem d_Md_crossBelow_41 : decode b_Md_crossBelow 41 = .ok (.getfield 403, 3) := by decide +kernel
theorem d_Md_crossBelow_44 : decode b_Md_crossBelow 44 = .ok (.bipush 9, 2) := by decide +kernel
theorem d_Md_crossBelow_46 : decode b_Md_crossBelow 46 = .ok (.iload_n 1, 1) := by decide +kernel
theorem d_Md_crossBelow_47 : decode b_Md_crossBelow 47 = .ok (.imul, 1) := by decide +kernel
theorem d_Md_crossBelow_48 : decode b_Md_crossBelow 48 = .ok (.iload 5, 2) := by decide +kernel
theorem d_Md_crossBelow_50 : decode b_Md_crossBelow 50 = .ok (.iadd, 1) := by decide +kernel
theorem d_Md_crossBelow_51 : decode b_Md_crossBelow 51 = .ok (.iaload, 1) := by decide +kernel
theorem d_Md_crossBelow_52 : decode b_Md_crossBelow 52 = .ok (.iload_n 2, 1) := by decide +kernel
theorem d_Md_crossBelow_53 : decode b_Md_crossBelow 53 = .ok (.iconst 1, 1) := by decide +kernel
theorem d_Md_crossBelow_54 : decode b_Md_crossBelow 54 = .ok (.iadd, 1) := by decide +kernel
theorem d_Md_crossBelow_55 : decode b_Md_crossBelow 55 = .ok (.if_icmp .ne 8, 3) := by decide +kernel
theorem d_Md_crossBelow_63 : decode b_Md_crossBelow 63 = .ok (.iload 4, 2) := by decide +kernel
theorem d_Md_crossBelow_58 : decode b_Md_crossBelow 58 = .ok (.iload 5, 2) := by decide +kernel
theorem d_Md_crossBelow_60 : decode b_Md_crossBelow 60 = .ok (.goto 5, 3) := by decide +kernel
theorem d_Md_crossBelow_8 : decode b_Md_crossBelow 8 = .ok (.iload 5, 2) := by decide +kernel
theorem d_Md_crossBelow_10 : decode b_Md_crossBelow 10 = .ok (.aload_n 0, 1) := by decide +kernel
theorem d_Md_crossBelow_11 : decode b_Md_crossBelow 11 = .ok (.getfield 395, 3) := by decide +kernel
theorem d_Md_crossBelow_14 : decode b_Md_crossBelow 14 = .ok (.if_icmp .gt 59, 3) := by decide +kernel
theorem d_Md_crossBelow_73 : decode b_Md_crossBelow 73 = .ok (.iload_n 3, 1) := by decide +kernel
theorem d_Md_crossBelow_74 : decode b_Md_crossBelow 74 = .ok (.iload 4, 2) := by decide +kernel
theorem d_Md_crossBelow_76 : decode b_Md_crossBelow 76 = .ok (.if_icmp .le 7, 3) := by decide +kernel
theorem d_Md_crossBelow_83 : decode b_Md_crossBelow 83 = .ok (.iconst 0, 1) := by decide +kernel
theorem d_Md_crossBelow_84 : decode b_Md_crossBelow 84 = .ok (.ireturn, 1) := by decide +kernel
theorem d_Md_crossBelow_79 : decode b_Md_crossBelow 79 = .ok (.iconst 1, 1) := by decide +kernel
theorem d_Md_crossBelow_80 : decode b_Md_crossBelow 80 = .ok (.goto 4, 3) := by decide +kernel
theorem d_Md_crossBelow_17 : decode b_Md_crossBelow 17 = .ok (.aload_n 0, 1) := by decide +kernel
theorem d_Md_crossBelow_18 : decode b_Md_crossBelow 18 = .ok (.getfield 403, 3) := by decide +kernel
theorem d_Md_crossBelow_21 : decode b_Md_crossBelow 21 = .ok (.bipush 9, 2) := by decide +kernel
theorem d_Md_crossBelow_23 : decode b_Md_crossBelow 23 = .ok (.iload_n 1, 1) := by decide +kernel
theorem d_Md_crossBelow_24 : decode b_Md_crossBelow 24 = .ok (.imul, 1) := by decide +kernel
theorem d_Md_crossBelow_25 : decode b_Md_crossBelow 25 = .ok (.iload 5, 2) := by decide +kernel
theorem d_Md_crossBelow_27 : decode b_Md_crossBelow 27 = .ok (.iadd, 1) := by decide +kernel
theorem d_Md_crossBelow_28 : decode b_Md_crossBelow 28 = .ok (.iaload, 1) := by decide +kernel
theorem d_Md_crossBelow_29 : decode b_Md_crossBelow 29 = .ok (.iload_n 2, 1) := by decide +kernel
theorem d_Md_crossBelow_30 : decode b_Md_crossBelow 30 = .ok (.if_icmp .ne 8, 3) := by decide +kernel
theorem d_Md_crossBelow_38 : decode b_Md_crossBelow 38 = .ok (.iload_n 3, 1) := by decide +kernel
theorem d_Md_crossBelow_33 : decode b_Md_crossBelow 33 = .ok (.iload 5, 2) := by decide +kernel
theorem d_Md_crossBelow_35 : decode b_Md_crossBelow 35 = .ok (.goto 4, 3) := by decide +kernel
theorem d_Md_crossBelow_0 : decode b_Md_crossBelow 0 = .ok (.iconst 0, 1) := by decide +kernel
theorem d_Md_crossBelow_1 : decode b_Md_crossBelow 1 = .ok (.istore_n 3, 1) := by decide +kernel
theorem d_Md_crossBelow_2 : decode b_Md_crossBelow 2 = .ok (.iconst 0, 1) := by decide +kernel
theorem d_Md_crossBelow_3 : decode b_Md_crossBelow 3 = .ok (.istore 4, 2) := by decide +kernel
theorem d_Md_crossBelow_5 : decode b_Md_crossBelow 5 = .ok (.iconst 1, 1) := by decide +kernel
theorem d_Md_crossBelow_6 : decode b_Md_crossBelow 6 = .ok (.istore 5, 2) := by decide +kernel
theorem d_Md_pass_65 : decode b_Md_pass 65 = .ok (.iastore, 1) := by decide +kernel
theorem d_Md_pass_66 : decode b_Md_pass 66 = .ok (.iinc 3 1, 3) := by decide +kernel
theorem d_Md_pass_69 : decode b_Md_pass 69 = .ok (.goto (-67), 3) := by decide +kernel
theorem d_Md_pass_2 : decode b_Md_pass 2 = .ok (.iload_n 3, 1) := by decide +kernel
theorem d_Md_pass_3 : decode b_Md_pass 3 = .ok (.aload_n 0, 1) := by decide +kernel
theorem d_Md_pass_4 : decode b_Md_pass 4 = .ok (.getfield 395, 3) := by decide +kernel
theorem d_Md_pass_7 : decode b_Md_pass 7 = .ok (.if_icmp .gt 65, 3) := by decide +kernel
theorem d_Md_pass_72 : decode b_Md_pass 72 = .ok (.aload_n 0, 1) := by decide +kernel
theorem d_Md_pass_73 : decode b_Md_pass 73 = .ok (.getfield 403, 3) := by decide +kernel
theorem d_Md_pass_76 : decode b_Md_pass 76 = .ok (.bipush 9, 2) := by decide +kernel
theorem d_Md_pass_78 : decode b_Md_pass 78 = .ok (.iload_n 1, 1) := by decide +kernel
theorem d_Md_pass_79 : decode b_Md_pass 79 = .ok (.imul, 1) := by decide +kernel
theorem d_Md_pass_80 : decode b_Md_pass 80 = .ok (.iload_n 2, 1) := by decide +kernel
theorem d_Md_pass_81 : decode b_Md_pass 81 = .ok (.iadd, 1) := by decide +kernel
theorem d_Md_pass_82 : decode b_Md_pass 82 = .ok (.iaload, 1) := by decide +kernel
theorem d_Md_pass_83 : decode b_Md_pass 83 = .ok (.istore_n 3, 1) := by decide +kernel
theorem d_Md_pass_84 : decode b_Md_pass 84 = .ok (.aload_n 0, 1) := by decide +kernel
theorem d_Md_pass_85 : decode b_Md_pass 85 = .ok (.getfield 403, 3) := by decide +kernel
theorem d_Md_pass_88 : decode b_Md_pass 88 = .ok (.bipush 9, 2) := by decide +kernel
theorem d_Md_pass_90 : decode b_Md_pass 90 = .ok (.iload_n 1, 1) := by decide +kernel
theorem d_Md_pass_91 : decode b_Md_pass 91 = .ok (.imul, 1) := by decide +kernel
theorem d_Md_pass_92 : decode b_Md_pass 92 = .ok (.iload_n 2, 1) := by decide +kernel
theorem d_Md_pass_93 : decode b_Md_pass 93 = .ok (.iadd, 1) := by decide +kernel
theorem d_Md_pass_94 : decode b_Md_pass 94 = .ok (.aload_n 0, 1) := by decide +kernel
theorem d_Md_pass_95 : decode b_Md_pass 95 = .ok (.getfield 403, 3) := by decide +kernel
theorem d_Md_pass_98 : decode b_Md_pass 98 = .ok (.bipush 9, 2) := by decide +kernel
theorem d_Md_pass_100 : decode b_Md_pass 100 = .ok (.iload_n 1, 1) := by decide +kernel
theorem d_Md_pass_101 : decode b_Md_pass 101 = .ok (.imul, 1) := by decide +kernel
theorem d_Md_pass_102 : decode b_Md_pass 102 = .ok (.iload_n 2, 1) := by decide +kernel
theorem d_Md_pass_103 : decode b_Md_pass 103 = .ok (.iadd, 1) := by decide +kernel
theorem d_Md_pass_104 : decode b_Md_pass 104 = .ok (.iconst 1, 1) := by decide +kernel
theorem d_Md_pass_105 : decode b_Md_pass 105 = .ok (.iadd, 1) := by decide +kernel
theorem d_Md_pass_106 : decode b_Md_pass 106 = .ok (.iaload, 1) := by decide +kernel
theorem d_Md_pass_107 : decode b_Md_pass 107 = .ok (.iastore, 1) := by decide +kernel
theorem d_Md_pass_108 : decode b_Md_pass 108 = .ok (.aload_n 0, 1) := by decide +kernel
theorem d_Md_pass_109 : decode b_Md_pass 109 = .ok (.getfield 403, 3) := by decide +kernel
theorem d_Md_pass_112 : decode b_Md_pass 112 = .ok (.bipush 9, 2) := by decide +kernel
theorem d_Md_pass_114 : decode b_Md_pass 114 = .ok (.iload_n 1, 1) := by decide +kernel
theorem d_Md_pass_115 : decode b_Md_pass 115 = .ok (.imul, 1) := by decide +kernel
theorem d_Md_pass_116 : decode b_Md_pass 116 = .ok (.iload_n 2, 1) := by decide +kernel
theorem d_Md_pass_117 : decode b_Md_pass 117 = .ok (.iadd, 1) := by decide +kernel
theorem d_Md_pass_118 : decode b_Md_pass 118 = .ok (.iconst 1, 1) := by decide +kernel
theorem d_Md_pass_119 : decode b_Md_pass 119 = .ok (.iadd, 1) := by decide +kernel
theorem d_Md_pass_120 : decode b_Md_pass 120 = .ok (.iload_n 3, 1) := by decide +kernel
theorem d_Md_pass_121 : decode b_Md_pass 121 = .ok (.iastore, 1) := by decide +kernel
theorem d_Md_pass_122 : decode b_Md_pass 122 = .ok (.return_, 1) := by decide +kernel
theorem d_Md_pass_10 : decode b_Md_pass 10 = .ok (.aload_n 0, 1) := by decide +kernel
theorem d_Md_pass_11 : decode b_Md_pass 11 = .ok (.getfield 403, 3) := by decide +kernel
theorem d_Md_pass_14 : decode b_Md_pass 14 = .ok (.bipush 9, 2) := by decide +kernel
theorem d_Md_pass_16 : decode b_Md_pass 16 = .ok (.iload_n 1, 1) := by decide +kernel
theorem d_Md_pass_17 : decode b_Md_pass 17 = .ok (.imul, 1) := by decide +kernel
theorem d_Md_pass_18 : decode b_Md_pass 18 = .ok (.bipush 9, 2) := by decide +kernel
theorem d_Md_pass_20 : decode b_Md_pass 20 = .ok (.isub, 1) := by decide +kernel
theorem d_Md_pass_21 : decode b_Md_pass 21 = .ok (.iload_n 3, 1) := by decide +kernel
theorem d_Md_pass_22 : decode b_Md_pass 22 = .ok (.iadd, 1) := by decide +kernel
theorem d_Md_pass_23 : decode b_Md_pass 23 = .ok (.iaload, 1) := by decide +kernel
theorem d_Md_pass_24 : decode b_Md_pass 24 = .ok (.istore 4, 2) := by decide +kernel
theorem d_Md_pass_26 : decode b_Md_pass 26 = .ok (.aload_n 0, 1) := by decide +kernel
theorem d_Md_pass_27 : decode b_Md_pass 27 = .ok (.getfield 403, 3) := by decide +kernel
theorem d_Md_pass_30 : decode b_Md_pass 30 = .ok (.bipush 9, 2) := by decide +kernel
theorem d_Md_pass_32 : decode b_Md_pass 32 = .ok (.iload_n 1, 1) := by decide +kernel
theorem d_Md_pass_33 : decode b_Md_pass 33 = .ok (.imul, 1) := by decide +kernel
theorem d_Md_pass_34 : decode b_Md_pass 34 = .ok (.bipush 9, 2) := by decide +kernel
theorem d_Md_pass_36 : decode b_Md_pass 36 = .ok (.isub, 1) := by decide +kernel
theorem d_Md_pass_37 : decode b_Md_pass 37 = .ok (.iload_n 3, 1) := by decide +kernel
theorem d_Md_pass_38 : decode b_Md_pass 38 = .ok (.iadd, 1) := by decide +kernel
theorem d_Md_pass_39 : decode b_Md_pass 39 = .ok (.iload 4, 2) := by decide +kernel
theorem d_Md_pass_41 : decode b_Md_pass 41 = .ok (.iload_n 2, 1) := by decide +kernel
theorem d_Md_pass_42 : decode b_Md_pass 42 = .ok (.if_icmp .ne 9, 3) := by decide +kernel
theorem d_Md_pass_51 : decode b_Md_pass 51 = .ok (.iload 4, 2) := by decide +kernel
theorem d_Md_pass_53 : decode b_Md_pass 53 = .ok (.iload_n 2, 1) := by decide +kernel
theorem d_Md_pass_54 : decode b_Md_pass 54 = .ok (.iconst 1, 1) := by decide +kernel
theorem d_Md_pass_55 : decode b_Md_pass 55 = .ok (.iadd, 1) := by decide +kernel
theorem d_Md_pass_56 : decode b_Md_pass 56 = .ok (.if_icmp .ne 7, 3) := by decide +kernel
theorem d_Md_pass_63 : decode b_Md_pass 63 = .ok (.iload 4, 2) := by decide +kernel
theorem d_Md_pass_59 : decode b_Md_pass 59 = .ok (.iload_n 2, 1) := by decide +kernel
theorem d_Md_pass_60 : decode b_Md_pass 60 = .ok (.goto 5, 3) := by decide +kernel
theorem d_Md_pass_45 : decode b_Md_pass 45 = .ok (.iload_n 2, 1) := by decide +kernel
theorem d_Md_pass_46 : decode b_Md_pass 46 = .ok (.iconst 1, 1) := by decide +kernel
theorem d_Md_pass_47 : decode b_Md_pass 47 = .ok (.iadd, 1) := by decide +kernel
theorem d_Md_pass_48 : decode b_Md_pass 48 = .ok (.goto 17, 3) := by decide +kernel
theorem d_Md_pass_0 : decode b_Md_pass 0 = .ok (.iconst 1, 1) := by decide +kernel
theorem d_Md_pass_1 : decode b_Md_pass 1 = .ok (.istore_n 3, 1) := by decide +kernel
theorem d_Md_isTurn_43 : decode b_Md_isTurn 43 = .ok (.istore_n 2, 1) := by decide +kernel
theorem d_Md_isTurn_44 : decode b_Md_isTurn 44 = .ok (.iinc 3 1, 3) := by decide +kernel
theorem d_Md_isTurn_47 : decode b_Md_isTurn 47 = .ok (.goto (-43), 3) := by decide +kernel
theorem d_Md_isTurn_42 : decode b_Md_isTurn 42 = .ok (.iconst 0, 1) := by decide +kernel
theorem d_Md_isTurn_4 : decode b_Md_isTurn 4 = .ok (.iload_n 3, 1) := by decide +kernel
theorem d_Md_isTurn_5 : decode b_Md_isTurn 5 = .ok (.aload_n 0, 1) := by decide +kernel
