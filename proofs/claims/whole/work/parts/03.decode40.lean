theorem d_Md_findMinors_135 : decode b_Md_findMinors 135 = .ok (.istore 6, 2) := by decide +kernel
theorem d_Md_findMinors_137 : decode b_Md_findMinors 137 = .ok (.iload_n 2, 1) := by decide +kernel
theorem d_Md_findMinors_138 : decode b_Md_findMinors 138 = .ok (.iconst 1, 1) := by decide +kernel
theorem d_Md_findMinors_139 : decode b_Md_findMinors 139 = .ok (.isub, 1) := by decide +kernel
theorem d_Md_findMinors_140 : decode b_Md_findMinors 140 = .ok (.istore 7, 2) := by decide +kernel
theorem d_Md_findMinors_131 : decode b_Md_findMinors 131 = .ok (.goto 70, 3) := by decide +kernel
theorem d_Md_findMinors_113 : decode b_Md_findMinors 113 = .ok (.iload 4, 2) := by decide +kernel
theorem d_Md_findMinors_115 : decode b_Md_findMinors 115 = .ok (.iconst 1, 1) := by decide +kernel
theorem d_Md_findMinors_116 : decode b_Md_findMinors 116 = .ok (.isub, 1) := by decide +kernel
theorem d_Md_findMinors_70 : decode b_Md_findMinors 70 = .ok (.iload 5, 2) := by decide +kernel
theorem d_Md_findMinors_72 : decode b_Md_findMinors 72 = .ok (.bipush 12, 2) := by decide +kernel
theorem d_Md_findMinors_74 : decode b_Md_findMinors 74 = .ok (.if_icmp .ge 22, 3) := by decide +kernel
theorem d_Md_findMinors_96 : decode b_Md_findMinors 96 = .ok (.iload_n 1, 1) := by decide +kernel
theorem d_Md_findMinors_97 : decode b_Md_findMinors 97 = .ok (.ifCond .lt 16, 3) := by decide +kernel
theorem d_Md_findMinors_100 : decode b_Md_findMinors 100 = .ok (.iload 4, 2) := by decide +kernel
theorem d_Md_findMinors_102 : decode b_Md_findMinors 102 = .ok (.iconst 1, 1) := by decide +kernel
theorem d_Md_findMinors_103 : decode b_Md_findMinors 103 = .ok (.isub, 1) := by decide +kernel
theorem d_Md_findMinors_104 : decode b_Md_findMinors 104 = .ok (.iload_n 1, 1) := by decide +kernel
theorem d_Md_findMinors_105 : decode b_Md_findMinors 105 = .ok (.if_icmp .lt 8, 3) := by decide +kernel
theorem d_Md_findMinors_108 : decode b_Md_findMinors 108 = .ok (.iload 4, 2) := by decide +kernel
theorem d_Md_findMinors_110 : decode b_Md_findMinors 110 = .ok (.goto 7, 3) := by decide +kernel
theorem d_Md_findMinors_77 : decode b_Md_findMinors 77 = .ok (.aload_n 0, 1) := by decide +kernel
theorem d_Md_findMinors_78 : decode b_Md_findMinors 78 = .ok (.getfield 117, 3) := by decide +kernel
theorem d_Md_findMinors_81 : decode b_Md_findMinors 81 = .ok (.bipush 12, 2) := by decide +kernel
theorem d_Md_findMinors_83 : decode b_Md_findMinors 83 = .ok (.iload_n 3, 1) := by decide +kernel
theorem d_Md_findMinors_84 : decode b_Md_findMinors 84 = .ok (.imul, 1) := by decide +kernel
theorem d_Md_findMinors_85 : decode b_Md_findMinors 85 = .ok (.iload 5, 2) := by decide +kernel
theorem d_Md_findMinors_87 : decode b_Md_findMinors 87 = .ok (.iadd, 1) := by decide +kernel
theorem d_Md_findMinors_88 : decode b_Md_findMinors 88 = .ok (.lconst 0, 1) := by decide +kernel
theorem d_Md_findMinors_89 : decode b_Md_findMinors 89 = .ok (.lastore, 1) := by decide +kernel
theorem d_Md_findMinors_90 : decode b_Md_findMinors 90 = .ok (.iinc 5 1, 3) := by decide +kernel
theorem d_Md_findMinors_93 : decode b_Md_findMinors 93 = .ok (.goto (-23), 3) := by decide +kernel
theorem d_Md_findMinors_44 : decode b_Md_findMinors 44 = .ok (.iload 5, 2) := by decide +kernel
theorem d_Md_findMinors_46 : decode b_Md_findMinors 46 = .ok (.iload_n 2, 1) := by decide +kernel
theorem d_Md_findMinors_47 : decode b_Md_findMinors 47 = .ok (.if_icmp .ge 20, 3) := by decide +kernel
theorem d_Md_findMinors_67 : decode b_Md_findMinors 67 = .ok (.iconst 0, 1) := by decide +kernel
theorem d_Md_findMinors_68 : decode b_Md_findMinors 68 = .ok (.istore 5, 2) := by decide +kernel
theorem d_Md_findMinors_50 : decode b_Md_findMinors 50 = .ok (.iload 4, 2) := by decide +kernel
theorem d_Md_findMinors_52 : decode b_Md_findMinors 52 = .ok (.iload_n 3, 1) := by decide +kernel
theorem d_Md_findMinors_53 : decode b_Md_findMinors 53 = .ok (.iload 5, 2) := by decide +kernel
theorem d_Md_findMinors_55 : decode b_Md_findMinors 55 = .ok (.ishr, 1) := by decide +kernel
theorem d_Md_findMinors_56 : decode b_Md_findMinors 56 = .ok (.iconst 1, 1) := by decide +kernel
theorem d_Md_findMinors_57 : decode b_Md_findMinors 57 = .ok (.iand, 1) := by decide +kernel
theorem d_Md_findMinors_58 : decode b_Md_findMinors 58 = .ok (.iadd, 1) := by decide +kernel
theorem d_Md_findMinors_59 : decode b_Md_findMinors 59 = .ok (.istore 4, 2) := by decide +kernel
theorem d_Md_findMinors_61 : decode b_Md_findMinors 61 = .ok (.iinc 5 1, 3) := by decide +kernel
theorem d_Md_findMinors_64 : decode b_Md_findMinors 64 = .ok (.goto (-20), 3) := by decide +kernel
theorem d_Md_findMinors_31 : decode b_Md_findMinors 31 = .ok (.iload_n 3, 1) := by decide +kernel
theorem d_Md_findMinors_32 : decode b_Md_findMinors 32 = .ok (.iconst 1, 1) := by decide +kernel
theorem d_Md_findMinors_33 : decode b_Md_findMinors 33 = .ok (.iload_n 2, 1) := by decide +kernel
theorem d_Md_findMinors_34 : decode b_Md_findMinors 34 = .ok (.ishl, 1) := by decide +kernel
theorem d_Md_findMinors_35 : decode b_Md_findMinors 35 = .ok (.if_icmp .ge 172, 3) := by decide +kernel
theorem d_Md_findMinors_207 : decode b_Md_findMinors 207 = .ok (.return_, 1) := by decide +kernel
theorem d_Md_findMinors_38 : decode b_Md_findMinors 38 = .ok (.iconst 0, 1) := by decide +kernel
theorem d_Md_findMinors_39 : decode b_Md_findMinors 39 = .ok (.istore 4, 2) := by decide +kernel
theorem d_Md_findMinors_41 : decode b_Md_findMinors 41 = .ok (.iconst 0, 1) := by decide +kernel
theorem d_Md_findMinors_42 : decode b_Md_findMinors 42 = .ok (.istore 5, 2) := by decide +kernel
theorem d_Md_findMinors_22 : decode b_Md_findMinors 22 = .ok (.lastore, 1) := by decide +kernel
theorem d_Md_findMinors_23 : decode b_Md_findMinors 23 = .ok (.iinc 3 1, 3) := by decide +kernel
theorem d_Md_findMinors_26 : decode b_Md_findMinors 26 = .ok (.goto (-24), 3) := by decide +kernel
theorem d_Md_findMinors_2 : decode b_Md_findMinors 2 = .ok (.iload_n 3, 1) := by decide +kernel
theorem d_Md_findMinors_3 : decode b_Md_findMinors 3 = .ok (.bipush 12, 2) := by decide +kernel
theorem d_Md_findMinors_5 : decode b_Md_findMinors 5 = .ok (.if_icmp .ge 24, 3) := by decide +kernel
theorem d_Md_findMinors_29 : decode b_Md_findMinors 29 = .ok (.iconst 1, 1) := by decide +kernel
theorem d_Md_findMinors_30 : decode b_Md_findMinors 30 = .ok (.istore_n 3, 1) := by decide +kernel
theorem d_Md_findMinors_8 : decode b_Md_findMinors 8 = .ok (.aload_n 0, 1) := by decide +kernel
theorem d_Md_findMinors_9 : decode b_Md_findMinors 9 = .ok (.getfield 117, 3) := by decide +kernel
theorem d_Md_findMinors_12 : decode b_Md_findMinors 12 = .ok (.iload_n 3, 1) := by decide +kernel
theorem d_Md_findMinors_13 : decode b_Md_findMinors 13 = .ok (.iload_n 3, 1) := by decide +kernel
theorem d_Md_findMinors_14 : decode b_Md_findMinors 14 = .ok (.ifCond .ne 7, 3) := by decide +kernel
theorem d_Md_findMinors_21 : decode b_Md_findMinors 21 = .ok (.lconst 0, 1) := by decide +kernel
theorem d_Md_findMinors_17 : decode b_Md_findMinors 17 = .ok (.lconst 1, 1) := by decide +kernel
theorem d_Md_findMinors_18 : decode b_Md_findMinors 18 = .ok (.goto 4, 3) := by decide +kernel
theorem d_Md_findMinors_0 : decode b_Md_findMinors 0 = .ok (.iconst 0, 1) := by decide +kernel
theorem d_Md_findMinors_1 : decode b_Md_findMinors 1 = .ok (.istore_n 3, 1) := by decide +kernel
theorem d_Md_lower_18 : decode b_Md_lower 18 = .ok (.iload_n 1, 1) := by decide +kernel
theorem d_Md_lower_19 : decode b_Md_lower 19 = .ok (.bipush 15, 2) := by decide +kernel
theorem d_Md_lower_21 : decode b_Md_lower 21 = .ok (.if_icmp .ge 17, 3) := by decide +kernel
theorem d_Md_lower_38 : decode b_Md_lower 38 = .ok (.aload_n 0, 1) := by decide +kernel
theorem d_Md_lower_39 : decode b_Md_lower 39 = .ok (.bipush 15, 2) := by decide +kernel
theorem d_Md_lower_41 : decode b_Md_lower 41 = .ok (.lconst 0, 1) := by decide +kernel
theorem d_Md_lower_42 : decode b_Md_lower 42 = .ok (.lastore, 1) := by decide +kernel
theorem d_Md_lower_43 : decode b_Md_lower 43 = .ok (.goto (-35), 3) := by decide +kernel
theorem d_Md_lower_24 : decode b_Md_lower 24 = .ok (.aload_n 0, 1) := by decide +kernel
theorem d_Md_lower_25 : decode b_Md_lower 25 = .ok (.iload_n 1, 1) := by decide +kernel
theorem d_Md_lower_26 : decode b_Md_lower 26 = .ok (.aload_n 0, 1) := by decide +kernel
theorem d_Md_lower_27 : decode b_Md_lower 27 = .ok (.iload_n 1, 1) := by decide +kernel
theorem d_Md_lower_28 : decode b_Md_lower 28 = .ok (.iconst 1, 1) := by decide +kernel
theorem d_Md_lower_29 : decode b_Md_lower 29 = .ok (.iadd, 1) := by decide +kernel
theorem d_Md_lower_30 : decode b_Md_lower 30 = .ok (.laload, 1) := by decide +kernel
theorem d_Md_lower_31 : decode b_Md_lower 31 = .ok (.lastore, 1) := by decide +kernel
theorem d_Md_lower_32 : decode b_Md_lower 32 = .ok (.iinc 1 1, 3) := by decide +kernel
theorem d_Md_lower_35 : decode b_Md_lower 35 = .ok (.goto (-17), 3) := by decide +kernel
theorem d_Md_lower_8 : decode b_Md_lower 8 = .ok (.aload_n 0, 1) := by decide +kernel
theorem d_Md_lower_9 : decode b_Md_lower 9 = .ok (.iconst 0, 1) := by decide +kernel
theorem d_Md_lower_10 : decode b_Md_lower 10 = .ok (.laload, 1) := by decide +kernel
theorem d_Md_lower_11 : decode b_Md_lower 11 = .ok (.lconst 0, 1) := by decide +kernel
theorem d_Md_lower_12 : decode b_Md_lower 12 = .ok (.lcmp, 1) := by decide +kernel
theorem d_Md_lower_13 : decode b_Md_lower 13 = .ok (.ifCond .ne 33, 3) := by decide +kernel
theorem d_Md_lower_46 : decode b_Md_lower 46 = .ok (.return_, 1) := by decide +kernel
theorem d_Md_lower_16 : decode b_Md_lower 16 = .ok (.iconst 0, 1) := by decide +kernel
theorem d_Md_lower_17 : decode b_Md_lower 17 = .ok (.istore_n 1, 1) := by decide +kernel
theorem d_Md_lower_0 : decode b_Md_lower 0 = .ok (.aload_n 0, 1) := by decide +kernel
theorem d_Md_lower_1 : decode b_Md_lower 1 = .ok (.invokestatic 466, 3) := by decide +kernel
theorem d_Md_lower_4 : decode b_Md_lower 4 = .ok (.ifCond .ge 4, 3) := by decide +kernel
theorem d_Md_lower_7 : decode b_Md_lower 7 = .ok (.return_, 1) := by decide +kernel
theorem d_Md_content_4 : decode b_Md_content 4 = .ok (.iload_n 3, 1) := by decide +kernel
theorem d_Md_content_5 : decode b_Md_content 5 = .ok (.bipush 16, 2) := by decide +kernel
theorem d_Md_content_7 : decode b_Md_content 7 = .ok (.if_icmp .ge 17, 3) := by decide +kernel
theorem d_Md_content_24 : decode b_Md_content 24 = .ok (.lload_n 1, 1) := by decide +kernel
theorem d_Md_content_25 : decode b_Md_content 25 = .ok (.lreturn, 1) := by decide +kernel
theorem d_Md_content_10 : decode b_Md_content 10 = .ok (.lload_n 1, 1) := by decide +kernel
theorem d_Md_content_11 : decode b_Md_content 11 = .ok (.aload_n 0, 1) := by decide +kernel
theorem d_Md_content_12 : decode b_Md_content 12 = .ok (.iload_n 3, 1) := by decide +kernel
theorem d_Md_content_13 : decode b_Md_content 13 = .ok (.laload, 1) := by decide +kernel
theorem d_Md_content_14 : decode b_Md_content 14 = .ok (.invokestatic 470, 3) := by decide +kernel
theorem d_Md_content_17 : decode b_Md_content 17 = .ok (.lstore_n 1, 1) := by decide +kernel
theorem d_Md_content_18 : decode b_Md_content 18 = .ok (.iinc 3 1, 3) := by decide +kernel
theorem d_Md_content_21 : decode b_Md_content 21 = .ok (.goto (-17), 3) := by decide +kernel
theorem d_Md_content_0 : decode b_Md_content 0 = .ok (.lconst 0, 1) := by decide +kernel
theorem d_Md_content_1 : decode b_Md_content 1 = .ok (.lstore_n 1, 1) := by decide +kernel
theorem d_Md_content_2 : decode b_Md_content 2 = .ok (.iconst 0, 1) := by decide +kernel
theorem d_Md_content_3 : decode b_Md_content 3 = .ok (.istore_n 3, 1) := by decide +kernel
theorem d_Md_reduce_67 : decode b_Md_reduce 67 = .ok (.iload 10, 2) := by decide +kernel
theorem d_Md_reduce_69 : decode b_Md_reduce 69 = .ok (.iload_n 3, 1) := by decide +kernel
theorem d_Md_reduce_70 : decode b_Md_reduce 70 = .ok (.if_icmp .gt 27, 3) := by decide +kernel
theorem d_Md_reduce_97 : decode b_Md_reduce 97 = .ok (.aload_n 0, 1) := by decide +kernel
theorem d_Md_reduce_98 : decode b_Md_reduce 98 = .ok (.invokestatic 466, 3) := by decide +kernel
theorem d_Md_reduce_101 : decode b_Md_reduce 101 = .ok (.ifCond .ge 4, 3) := by decide +kernel
theorem d_Md_reduce_105 : decode b_Md_reduce 105 = .ok (.aload_n 0, 1) := by decide +kernel
theorem d_Md_reduce_106 : decode b_Md_reduce 106 = .ok (.invokestatic 474, 3) := by decide +kernel
theorem d_Md_reduce_109 : decode b_Md_reduce 109 = .ok (.aload_n 0, 1) := by decide +kernel
theorem d_Md_reduce_110 : decode b_Md_reduce 110 = .ok (.aload_n 0, 1) := by decide +kernel
theorem d_Md_reduce_111 : decode b_Md_reduce 111 = .ok (.invokestatic 478, 3) := by decide +kernel
theorem d_Md_reduce_114 : decode b_Md_reduce 114 = .ok (.invokestatic 482, 3) := by decide +kernel
theorem d_Md_reduce_117 : decode b_Md_reduce 117 = .ok (.return_, 1) := by decide +kernel
theorem d_Md_reduce_104 : decode b_Md_reduce 104 = .ok (.return_, 1) := by decide +kernel
theorem d_Md_reduce_73 : decode b_Md_reduce 73 = .ok (.aload_n 0, 1) := by decide +kernel
theorem d_Md_reduce_74 : decode b_Md_reduce 74 = .ok (.iload 10, 2) := by decide +kernel
theorem d_Md_reduce_76 : decode b_Md_reduce 76 = .ok (.iload_n 2, 1) := by decide +kernel
theorem d_Md_reduce_77 : decode b_Md_reduce 77 = .ok (.iadd, 1) := by decide +kernel
theorem d_Md_reduce_78 : decode b_Md_reduce 78 = .ok (.iload_n 3, 1) := by decide +kernel
theorem d_Md_reduce_79 : decode b_Md_reduce 79 = .ok (.isub, 1) := by decide +kernel
theorem d_Md_reduce_80 : decode b_Md_reduce 80 = .ok (.dup2, 1) := by decide +kernel
theorem d_Md_reduce_81 : decode b_Md_reduce 81 = .ok (.laload, 1) := by decide +kernel
theorem d_Md_reduce_82 : decode b_Md_reduce 82 = .ok (.lload 8, 2) := by decide +kernel
theorem d_Md_reduce_84 : decode b_Md_reduce 84 = .ok (.aload_n 1, 1) := by decide +kernel
theorem d_Md_reduce_85 : decode b_Md_reduce 85 = .ok (.iload 10, 2) := by decide +kernel
theorem d_Md_reduce_87 : decode b_Md_reduce 87 = .ok (.laload, 1) := by decide +kernel
theorem d_Md_reduce_88 : decode b_Md_reduce 88 = .ok (.lmul, 1) := by decide +kernel
theorem d_Md_reduce_89 : decode b_Md_reduce 89 = .ok (.lsub, 1) := by decide +kernel
theorem d_Md_reduce_90 : decode b_Md_reduce 90 = .ok (.lastore, 1) := by decide +kernel
theorem d_Md_reduce_91 : decode b_Md_reduce 91 = .ok (.iinc 10 1, 3) := by decide +kernel
theorem d_Md_reduce_94 : decode b_Md_reduce 94 = .ok (.goto (-27), 3) := by decide +kernel
theorem d_Md_reduce_40 : decode b_Md_reduce 40 = .ok (.iload 10, 2) := by decide +kernel
theorem d_Md_reduce_42 : decode b_Md_reduce 42 = .ok (.bipush 16, 2) := by decide +kernel
theorem d_Md_reduce_44 : decode b_Md_reduce 44 = .ok (.if_icmp .ge 20, 3) := by decide +kernel
theorem d_Md_reduce_64 : decode b_Md_reduce 64 = .ok (.iconst 0, 1) := by decide +kernel
theorem d_Md_reduce_65 : decode b_Md_reduce 65 = .ok (.istore 10, 2) := by decide +kernel
theorem d_Md_reduce_47 : decode b_Md_reduce 47 = .ok (.aload_n 0, 1) := by decide +kernel
theorem d_Md_reduce_48 : decode b_Md_reduce 48 = .ok (.iload 10, 2) := by decide +kernel
theorem d_Md_reduce_50 : decode b_Md_reduce 50 = .ok (.lload 6, 2) := by decide +kernel
theorem d_Md_reduce_52 : decode b_Md_reduce 52 = .ok (.aload_n 0, 1) := by decide +kernel
theorem d_Md_reduce_53 : decode b_Md_reduce 53 = .ok (.iload 10, 2) := by decide +kernel
theorem d_Md_reduce_55 : decode b_Md_reduce 55 = .ok (.laload, 1) := by decide +kernel
theorem d_Md_reduce_56 : decode b_Md_reduce 56 = .ok (.lmul, 1) := by decide +kernel
theorem d_Md_reduce_57 : decode b_Md_reduce 57 = .ok (.lastore, 1) := by decide +kernel
theorem d_Md_reduce_58 : decode b_Md_reduce 58 = .ok (.iinc 10 1, 3) := by decide +kernel
theorem d_Md_reduce_61 : decode b_Md_reduce 61 = .ok (.goto (-21), 3) := by decide +kernel
theorem d_Md_reduce_0 : decode b_Md_reduce 0 = .ok (.aload_n 0, 1) := by decide +kernel
theorem d_Md_reduce_1 : decode b_Md_reduce 1 = .ok (.invokestatic 466, 3) := by decide +kernel
theorem d_Md_reduce_4 : decode b_Md_reduce 4 = .ok (.istore_n 2, 1) := by decide +kernel
theorem d_Md_reduce_5 : decode b_Md_reduce 5 = .ok (.aload_n 1, 1) := by decide +kernel
theorem d_Md_reduce_6 : decode b_Md_reduce 6 = .ok (.invokestatic 466, 3) := by decide +kernel
theorem d_Md_reduce_9 : decode b_Md_reduce 9 = .ok (.istore_n 3, 1) := by decide +kernel
theorem d_Md_reduce_10 : decode b_Md_reduce 10 = .ok (.aload_n 0, 1) := by decide +kernel
theorem d_Md_reduce_11 : decode b_Md_reduce 11 = .ok (.iload_n 2, 1) := by decide +kernel
theorem d_Md_reduce_12 : decode b_Md_reduce 12 = .ok (.laload, 1) := by decide +kernel
theorem d_Md_reduce_13 : decode b_Md_reduce 13 = .ok (.aload_n 1, 1) := by decide +kernel
theorem d_Md_reduce_14 : decode b_Md_reduce 14 = .ok (.iload_n 3, 1) := by decide +kernel
theorem d_Md_reduce_15 : decode b_Md_reduce 15 = .ok (.laload, 1) := by decide +kernel
theorem d_Md_reduce_16 : decode b_Md_reduce 16 = .ok (.invokestatic 470, 3) := by decide +kernel
theorem d_Md_reduce_19 : decode b_Md_reduce 19 = .ok (.lstore 4, 2) := by decide +kernel
theorem d_Md_reduce_21 : decode b_Md_reduce 21 = .ok (.aload_n 1, 1) := by decide +kernel
theorem d_Md_reduce_22 : decode b_Md_reduce 22 = .ok (.iload_n 3, 1) := by decide +kernel
theorem d_Md_reduce_23 : decode b_Md_reduce 23 = .ok (.laload, 1) := by decide +kernel
theorem d_Md_reduce_24 : decode b_Md_reduce 24 = .ok (.lload 4, 2) := by decide +kernel
theorem d_Md_reduce_26 : decode b_Md_reduce 26 = .ok (.ldiv, 1) := by decide +kernel
theorem d_Md_reduce_27 : decode b_Md_reduce 27 = .ok (.lstore 6, 2) := by decide +kernel
theorem d_Md_reduce_29 : decode b_Md_reduce 29 = .ok (.aload_n 0, 1) := by decide +kernel
theorem d_Md_reduce_30 : decode b_Md_reduce 30 = .ok (.iload_n 2, 1) := by decide +kernel
theorem d_Md_reduce_31 : decode b_Md_reduce 31 = .ok (.laload, 1) := by decide +kernel
theorem d_Md_reduce_32 : decode b_Md_reduce 32 = .ok (.lload 4, 2) := by decide +kernel
theorem d_Md_reduce_34 : decode b_Md_reduce 34 = .ok (.ldiv, 1) := by decide +kernel
theorem d_Md_reduce_35 : decode b_Md_reduce 35 = .ok (.lstore 8, 2) := by decide +kernel
theorem d_Md_reduce_37 : decode b_Md_reduce 37 = .ok (.iconst 0, 1) := by decide +kernel
theorem d_Md_reduce_38 : decode b_Md_reduce 38 = .ok (.istore 10, 2) := by decide +kernel
theorem d_Md_isPoly_115 : decode b_Md_isPoly 115 = .ok (.istore_n 3, 1) := by decide +kernel
theorem d_Md_isPoly_116 : decode b_Md_isPoly 116 = .ok (.iinc 4 2, 3) := by decide +kernel
theorem d_Md_isPoly_119 : decode b_Md_isPoly 119 = .ok (.goto (-47), 3) := by decide +kernel
