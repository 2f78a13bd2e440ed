theorem d_Mo_pushCrossing_128 : decode b_Mo_pushCrossing 128 = .ok (.istore 12, 2) := by decide +kernel
theorem d_Mo_pushCrossing_130 : decode b_Mo_pushCrossing 130 = .ok (.aload_n 1, 1) := by decide +kernel
theorem d_Mo_pushCrossing_131 : decode b_Mo_pushCrossing 131 = .ok (.iload_n 2, 1) := by decide +kernel
theorem d_Mo_pushCrossing_132 : decode b_Mo_pushCrossing 132 = .ok (.iload_n 3, 1) := by decide +kernel
theorem d_Mo_pushCrossing_133 : decode b_Mo_pushCrossing 133 = .ok (.iload 9, 2) := by decide +kernel
theorem d_Mo_pushCrossing_135 : decode b_Mo_pushCrossing 135 = .ok (.iload 10, 2) := by decide +kernel
theorem d_Mo_pushCrossing_137 : decode b_Mo_pushCrossing 137 = .ok (.iload 11, 2) := by decide +kernel
theorem d_Mo_pushCrossing_139 : decode b_Mo_pushCrossing 139 = .ok (.iload 12, 2) := by decide +kernel
theorem d_Mo_pushCrossing_141 : decode b_Mo_pushCrossing 141 = .ok (.invokevirtual 82, 3) := by decide +kernel
theorem d_Mo_pushCrossing_144 : decode b_Mo_pushCrossing 144 = .ok (.return_, 1) := by decide +kernel
theorem d_Mo_renumber_0 : decode b_Mo_renumber 0 = .ok (.iconst 1, 1) := by decide +kernel
theorem d_Mo_renumber_1 : decode b_Mo_renumber 1 = .ok (.istore_n 3, 1) := by decide +kernel
theorem d_Mo_renumber_2 : decode b_Mo_renumber 2 = .ok (.iconst 0, 1) := by decide +kernel
theorem d_Mo_renumber_3 : decode b_Mo_renumber 3 = .ok (.istore 4, 2) := by decide +kernel
theorem d_Mo_renumber_5 : decode b_Mo_renumber 5 = .ok (.iconst 0, 1) := by decide +kernel
theorem d_Mo_renumber_6 : decode b_Mo_renumber 6 = .ok (.istore 5, 2) := by decide +kernel
theorem d_Mo_renumber_8 : decode b_Mo_renumber 8 = .ok (.iload 5, 2) := by decide +kernel
theorem d_Mo_renumber_10 : decode b_Mo_renumber 10 = .ok (.aload_n 1, 1) := by decide +kernel
theorem d_Mo_renumber_11 : decode b_Mo_renumber 11 = .ok (.getfield 119, 3) := by decide +kernel
theorem d_Mo_renumber_14 : decode b_Mo_renumber 14 = .ok (.if_icmp .ge 95, 3) := by decide +kernel
theorem d_Mo_renumber_17 : decode b_Mo_renumber 17 = .ok (.aload_n 1, 1) := by decide +kernel
theorem d_Mo_renumber_18 : decode b_Mo_renumber 18 = .ok (.getfield 109, 3) := by decide +kernel
theorem d_Mo_renumber_21 : decode b_Mo_renumber 21 = .ok (.iload 5, 2) := by decide +kernel
theorem d_Mo_renumber_23 : decode b_Mo_renumber 23 = .ok (.iaload, 1) := by decide +kernel
theorem d_Mo_renumber_24 : decode b_Mo_renumber 24 = .ok (.iload 4, 2) := by decide +kernel
theorem d_Mo_renumber_26 : decode b_Mo_renumber 26 = .ok (.if_icmp .ne 77, 3) := by decide +kernel
theorem d_Mo_renumber_29 : decode b_Mo_renumber 29 = .ok (.iload 5, 2) := by decide +kernel
theorem d_Mo_renumber_31 : decode b_Mo_renumber 31 = .ok (.istore 6, 2) := by decide +kernel
theorem d_Mo_renumber_33 : decode b_Mo_renumber 33 = .ok (.iconst 0, 1) := by decide +kernel
theorem d_Mo_renumber_34 : decode b_Mo_renumber 34 = .ok (.istore 7, 2) := by decide +kernel
theorem d_Mo_renumber_36 : decode b_Mo_renumber 36 = .ok (.iload 7, 2) := by decide +kernel
theorem d_Mo_renumber_38 : decode b_Mo_renumber 38 = .ok (.aload_n 1, 1) := by decide +kernel
theorem d_Mo_renumber_39 : decode b_Mo_renumber 39 = .ok (.getfield 119, 3) := by decide +kernel
theorem d_Mo_renumber_42 : decode b_Mo_renumber 42 = .ok (.if_icmp .ge 58, 3) := by decide +kernel
theorem d_Mo_renumber_45 : decode b_Mo_renumber 45 = .ok (.iload 7, 2) := by decide +kernel
theorem d_Mo_renumber_47 : decode b_Mo_renumber 47 = .ok (.ifCond .eq 10, 3) := by decide +kernel
theorem d_Mo_renumber_50 : decode b_Mo_renumber 50 = .ok (.iload 6, 2) := by decide +kernel
theorem d_Mo_renumber_52 : decode b_Mo_renumber 52 = .ok (.iload 5, 2) := by decide +kernel
theorem d_Mo_renumber_54 : decode b_Mo_renumber 54 = .ok (.if_icmp .eq 46, 3) := by decide +kernel
theorem d_Mo_renumber_57 : decode b_Mo_renumber 57 = .ok (.aload_n 2, 1) := by decide +kernel
theorem d_Mo_renumber_58 : decode b_Mo_renumber 58 = .ok (.getfield 72, 3) := by decide +kernel
theorem d_Mo_renumber_61 : decode b_Mo_renumber 61 = .ok (.aload_n 1, 1) := by decide +kernel
theorem d_Mo_renumber_62 : decode b_Mo_renumber 62 = .ok (.getfield 60, 3) := by decide +kernel
theorem d_Mo_renumber_65 : decode b_Mo_renumber 65 = .ok (.iload 6, 2) := by decide +kernel
theorem d_Mo_renumber_67 : decode b_Mo_renumber 67 = .ok (.iaload, 1) := by decide +kernel
theorem d_Mo_renumber_68 : decode b_Mo_renumber 68 = .ok (.iload_n 3, 1) := by decide +kernel
theorem d_Mo_renumber_69 : decode b_Mo_renumber 69 = .ok (.iastore, 1) := by decide +kernel
theorem d_Mo_renumber_70 : decode b_Mo_renumber 70 = .ok (.aload_n 2, 1) := by decide +kernel
theorem d_Mo_renumber_71 : decode b_Mo_renumber 71 = .ok (.getfield 72, 3) := by decide +kernel
theorem d_Mo_renumber_74 : decode b_Mo_renumber 74 = .ok (.aload_n 1, 1) := by decide +kernel
theorem d_Mo_renumber_75 : decode b_Mo_renumber 75 = .ok (.getfield 63, 3) := by decide +kernel
theorem d_Mo_renumber_78 : decode b_Mo_renumber 78 = .ok (.iload 6, 2) := by decide +kernel
theorem d_Mo_renumber_80 : decode b_Mo_renumber 80 = .ok (.iaload, 1) := by decide +kernel
theorem d_Mo_renumber_81 : decode b_Mo_renumber 81 = .ok (.iload_n 3, 1) := by decide +kernel
theorem d_Mo_renumber_82 : decode b_Mo_renumber 82 = .ok (.iastore, 1) := by decide +kernel
theorem d_Mo_renumber_83 : decode b_Mo_renumber 83 = .ok (.iinc 3 1, 3) := by decide +kernel
theorem d_Mo_renumber_86 : decode b_Mo_renumber 86 = .ok (.aload_n 1, 1) := by decide +kernel
theorem d_Mo_renumber_87 : decode b_Mo_renumber 87 = .ok (.iload 6, 2) := by decide +kernel
theorem d_Mo_renumber_89 : decode b_Mo_renumber 89 = .ok (.invokevirtual 122, 3) := by decide +kernel
theorem d_Mo_renumber_92 : decode b_Mo_renumber 92 = .ok (.istore 6, 2) := by decide +kernel
theorem d_Mo_renumber_94 : decode b_Mo_renumber 94 = .ok (.iinc 7 1, 3) := by decide +kernel
theorem d_Mo_renumber_97 : decode b_Mo_renumber 97 = .ok (.goto (-61), 3) := by decide +kernel
theorem d_Mo_renumber_100 : decode b_Mo_renumber 100 = .ok (.iinc 4 1, 3) := by decide +kernel
theorem d_Mo_renumber_103 : decode b_Mo_renumber 103 = .ok (.iinc 5 1, 3) := by decide +kernel
theorem d_Mo_renumber_106 : decode b_Mo_renumber 106 = .ok (.goto (-98), 3) := by decide +kernel
theorem d_Mo_renumber_109 : decode b_Mo_renumber 109 = .ok (.iconst 1, 1) := by decide +kernel
theorem d_Mo_renumber_110 : decode b_Mo_renumber 110 = .ok (.ireturn, 1) := by decide +kernel
theorem d_Mo_reverse_0 : decode b_Mo_reverse 0 = .ok (.iload_n 3, 1) := by decide +kernel
theorem d_Mo_reverse_1 : decode b_Mo_reverse 1 = .ok (.ifCond .lt 16, 3) := by decide +kernel
theorem d_Mo_reverse_4 : decode b_Mo_reverse 4 = .ok (.iload_n 3, 1) := by decide +kernel
theorem d_Mo_reverse_5 : decode b_Mo_reverse 5 = .ok (.aload_n 1, 1) := by decide +kernel
theorem d_Mo_reverse_6 : decode b_Mo_reverse 6 = .ok (.getfield 106, 3) := by decide +kernel
theorem d_Mo_reverse_9 : decode b_Mo_reverse 9 = .ok (.aload_n 2, 1) := by decide +kernel
theorem d_Mo_reverse_10 : decode b_Mo_reverse 10 = .ok (.getfield 53, 3) := by decide +kernel
theorem d_Mo_reverse_13 : decode b_Mo_reverse 13 = .ok (.iadd, 1) := by decide +kernel
theorem d_Mo_reverse_14 : decode b_Mo_reverse 14 = .ok (.if_icmp .lt 5, 3) := by decide +kernel
theorem d_Mo_reverse_17 : decode b_Mo_reverse 17 = .ok (.iconst 0, 1) := by decide +kernel
theorem d_Mo_reverse_18 : decode b_Mo_reverse 18 = .ok (.ireturn, 1) := by decide +kernel
theorem d_Mo_reverse_19 : decode b_Mo_reverse 19 = .ok (.iconst 0, 1) := by decide +kernel
theorem d_Mo_reverse_20 : decode b_Mo_reverse 20 = .ok (.istore 4, 2) := by decide +kernel
theorem d_Mo_reverse_22 : decode b_Mo_reverse 22 = .ok (.iload 4, 2) := by decide +kernel
theorem d_Mo_reverse_24 : decode b_Mo_reverse 24 = .ok (.aload_n 2, 1) := by decide +kernel
theorem d_Mo_reverse_25 : decode b_Mo_reverse 25 = .ok (.getfield 75, 3) := by decide +kernel
theorem d_Mo_reverse_28 : decode b_Mo_reverse 28 = .ok (.if_icmp .ge 95, 3) := by decide +kernel
theorem d_Mo_reverse_31 : decode b_Mo_reverse 31 = .ok (.aload_n 1, 1) := by decide +kernel
theorem d_Mo_reverse_32 : decode b_Mo_reverse 32 = .ok (.getfield 109, 3) := by decide +kernel
theorem d_Mo_reverse_35 : decode b_Mo_reverse 35 = .ok (.aload_n 1, 1) := by decide +kernel
theorem d_Mo_reverse_36 : decode b_Mo_reverse 36 = .ok (.getfield 69, 3) := by decide +kernel
theorem d_Mo_reverse_39 : decode b_Mo_reverse 39 = .ok (.iconst 4, 1) := by decide +kernel
theorem d_Mo_reverse_40 : decode b_Mo_reverse 40 = .ok (.iload 4, 2) := by decide +kernel
theorem d_Mo_reverse_42 : decode b_Mo_reverse 42 = .ok (.imul, 1) := by decide +kernel
theorem d_Mo_reverse_43 : decode b_Mo_reverse 43 = .ok (.iaload, 1) := by decide +kernel
theorem d_Mo_reverse_44 : decode b_Mo_reverse 44 = .ok (.iaload, 1) := by decide +kernel
theorem d_Mo_reverse_45 : decode b_Mo_reverse 45 = .ok (.iload_n 3, 1) := by decide +kernel
theorem d_Mo_reverse_46 : decode b_Mo_reverse 46 = .ok (.if_icmp .ne 7, 3) := by decide +kernel
theorem d_Mo_reverse_49 : decode b_Mo_reverse 49 = .ok (.iconst 1, 1) := by decide +kernel
theorem d_Mo_reverse_50 : decode b_Mo_reverse 50 = .ok (.goto 4, 3) := by decide +kernel
theorem d_Mo_reverse_53 : decode b_Mo_reverse 53 = .ok (.iconst 0, 1) := by decide +kernel
theorem d_Mo_reverse_54 : decode b_Mo_reverse 54 = .ok (.istore 5, 2) := by decide +kernel
theorem d_Mo_reverse_56 : decode b_Mo_reverse 56 = .ok (.aload_n 1, 1) := by decide +kernel
theorem d_Mo_reverse_57 : decode b_Mo_reverse 57 = .ok (.getfield 109, 3) := by decide +kernel
theorem d_Mo_reverse_60 : decode b_Mo_reverse 60 = .ok (.aload_n 1, 1) := by decide +kernel
theorem d_Mo_reverse_61 : decode b_Mo_reverse 61 = .ok (.getfield 69, 3) := by decide +kernel
theorem d_Mo_reverse_64 : decode b_Mo_reverse 64 = .ok (.iconst 4, 1) := by decide +kernel
theorem d_Mo_reverse_65 : decode b_Mo_reverse 65 = .ok (.iload 4, 2) := by decide +kernel
theorem d_Mo_reverse_67 : decode b_Mo_reverse 67 = .ok (.imul, 1) := by decide +kernel
theorem d_Mo_reverse_68 : decode b_Mo_reverse 68 = .ok (.iconst 1, 1) := by decide +kernel
theorem d_Mo_reverse_69 : decode b_Mo_reverse 69 = .ok (.iadd, 1) := by decide +kernel
theorem d_Mo_reverse_70 : decode b_Mo_reverse 70 = .ok (.iaload, 1) := by decide +kernel
theorem d_Mo_reverse_71 : decode b_Mo_reverse 71 = .ok (.iaload, 1) := by decide +kernel
theorem d_Mo_reverse_72 : decode b_Mo_reverse 72 = .ok (.iload_n 3, 1) := by decide +kernel
theorem d_Mo_reverse_73 : decode b_Mo_reverse 73 = .ok (.if_icmp .ne 7, 3) := by decide +kernel
theorem d_Mo_reverse_76 : decode b_Mo_reverse 76 = .ok (.iconst 1, 1) := by decide +kernel
theorem d_Mo_reverse_77 : decode b_Mo_reverse 77 = .ok (.goto 4, 3) := by decide +kernel
theorem d_Mo_reverse_80 : decode b_Mo_reverse 80 = .ok (.iconst 0, 1) := by decide +kernel
theorem d_Mo_reverse_81 : decode b_Mo_reverse 81 = .ok (.istore 6, 2) := by decide +kernel
theorem d_Mo_reverse_83 : decode b_Mo_reverse 83 = .ok (.iload 5, 2) := by decide +kernel
theorem d_Mo_reverse_85 : decode b_Mo_reverse 85 = .ok (.ifCond .eq 10, 3) := by decide +kernel
theorem d_Mo_reverse_88 : decode b_Mo_reverse 88 = .ok (.aload_n 2, 1) := by decide +kernel
theorem d_Mo_reverse_89 : decode b_Mo_reverse 89 = .ok (.iload 4, 2) := by decide +kernel
theorem d_Mo_reverse_91 : decode b_Mo_reverse 91 = .ok (.iconst 2, 1) := by decide +kernel
theorem d_Mo_reverse_92 : decode b_Mo_reverse 92 = .ok (.invokevirtual 112, 3) := by decide +kernel
theorem d_Mo_reverse_95 : decode b_Mo_reverse 95 = .ok (.iload 5, 2) := by decide +kernel
theorem d_Mo_reverse_97 : decode b_Mo_reverse 97 = .ok (.iload 6, 2) := by decide +kernel
theorem d_Mo_reverse_99 : decode b_Mo_reverse 99 = .ok (.if_icmp .eq 18, 3) := by decide +kernel
theorem d_Mo_reverse_102 : decode b_Mo_reverse 102 = .ok (.aload_n 2, 1) := by decide +kernel
theorem d_Mo_reverse_103 : decode b_Mo_reverse 103 = .ok (.getfield 116, 3) := by decide +kernel
theorem d_Mo_reverse_106 : decode b_Mo_reverse 106 = .ok (.iload 4, 2) := by decide +kernel
theorem d_Mo_reverse_108 : decode b_Mo_reverse 108 = .ok (.aload_n 2, 1) := by decide +kernel
theorem d_Mo_reverse_109 : decode b_Mo_reverse 109 = .ok (.getfield 116, 3) := by decide +kernel
theorem d_Mo_reverse_112 : decode b_Mo_reverse 112 = .ok (.iload 4, 2) := by decide +kernel
theorem d_Mo_reverse_114 : decode b_Mo_reverse 114 = .ok (.iaload, 1) := by decide +kernel
theorem d_Mo_reverse_115 : decode b_Mo_reverse 115 = .ok (.ineg, 1) := by decide +kernel
theorem d_Mo_reverse_116 : decode b_Mo_reverse 116 = .ok (.iastore, 1) := by decide +kernel
theorem d_Mo_reverse_117 : decode b_Mo_reverse 117 = .ok (.iinc 4 1, 3) := by decide +kernel
theorem d_Mo_reverse_120 : decode b_Mo_reverse 120 = .ok (.goto (-98), 3) := by decide +kernel
theorem d_Mo_reverse_123 : decode b_Mo_reverse 123 = .ok (.iconst 1, 1) := by decide +kernel
theorem d_Mo_reverse_124 : decode b_Mo_reverse 124 = .ok (.ireturn, 1) := by decide +kernel
theorem d_Mo_slide_0 : decode b_Mo_slide 0 = .ok (.iload_n 3, 1) := by decide +kernel
theorem d_Mo_slide_1 : decode b_Mo_slide 1 = .ok (.ifCond .lt 20, 3) := by decide +kernel
theorem d_Mo_slide_4 : decode b_Mo_slide 4 = .ok (.iload_n 3, 1) := by decide +kernel
theorem d_Mo_slide_5 : decode b_Mo_slide 5 = .ok (.aload_n 1, 1) := by decide +kernel
theorem d_Mo_slide_6 : decode b_Mo_slide 6 = .ok (.getfield 15, 3) := by decide +kernel
theorem d_Mo_slide_9 : decode b_Mo_slide 9 = .ok (.if_icmp .ge 12, 3) := by decide +kernel
theorem d_Mo_slide_12 : decode b_Mo_slide 12 = .ok (.aload_n 1, 1) := by decide +kernel
theorem d_Mo_slide_13 : decode b_Mo_slide 13 = .ok (.iload_n 3, 1) := by decide +kernel
theorem d_Mo_slide_14 : decode b_Mo_slide 14 = .ok (.invokevirtual 21, 3) := by decide +kernel
theorem d_Mo_slide_17 : decode b_Mo_slide 17 = .ok (.iconst 3, 1) := by decide +kernel
theorem d_Mo_slide_18 : decode b_Mo_slide 18 = .ok (.if_icmp .eq 5, 3) := by decide +kernel
theorem d_Mo_slide_21 : decode b_Mo_slide 21 = .ok (.iconst 0, 1) := by decide +kernel
theorem d_Mo_slide_22 : decode b_Mo_slide 22 = .ok (.ireturn, 1) := by decide +kernel
theorem d_Mo_slide_23 : decode b_Mo_slide 23 = .ok (.aload_n 1, 1) := by decide +kernel
theorem d_Mo_slide_24 : decode b_Mo_slide 24 = .ok (.getfield 25, 3) := by decide +kernel
theorem d_Mo_slide_27 : decode b_Mo_slide 27 = .ok (.iload_n 3, 1) := by decide +kernel
theorem d_Mo_slide_28 : decode b_Mo_slide 28 = .ok (.iaload, 1) := by decide +kernel
theorem d_Mo_slide_29 : decode b_Mo_slide 29 = .ok (.istore 4, 2) := by decide +kernel
theorem d_Mo_slide_31 : decode b_Mo_slide 31 = .ok (.iconst 0, 1) := by decide +kernel
theorem d_Mo_slide_32 : decode b_Mo_slide 32 = .ok (.istore 5, 2) := by decide +kernel
theorem d_Mo_slide_34 : decode b_Mo_slide 34 = .ok (.iload 5, 2) := by decide +kernel
theorem d_Mo_slide_36 : decode b_Mo_slide 36 = .ok (.iconst 3, 1) := by decide +kernel
theorem d_Mo_slide_37 : decode b_Mo_slide 37 = .ok (.if_icmp .ge 27, 3) := by decide +kernel
theorem d_Mo_slide_40 : decode b_Mo_slide 40 = .ok (.aload_n 0, 1) := by decide +kernel
theorem d_Mo_slide_41 : decode b_Mo_slide 41 = .ok (.aload_n 1, 1) := by decide +kernel
theorem d_Mo_slide_42 : decode b_Mo_slide 42 = .ok (.aload_n 2, 1) := by decide +kernel
theorem d_Mo_slide_43 : decode b_Mo_slide 43 = .ok (.iload 4, 2) := by decide +kernel
theorem d_Mo_slide_45 : decode b_Mo_slide 45 = .ok (.iconst 1, 1) := by decide +kernel
theorem d_Mo_slide_46 : decode b_Mo_slide 46 = .ok (.ishr, 1) := by decide +kernel
theorem d_Mo_slide_47 : decode b_Mo_slide 47 = .ok (.invokevirtual 56, 3) := by decide +kernel
theorem d_Mo_slide_50 : decode b_Mo_slide 50 = .ok (.aload_n 1, 1) := by decide +kernel
theorem d_Mo_slide_51 : decode b_Mo_slide 51 = .ok (.iload 4, 2) := by decide +kernel
theorem d_Mo_slide_53 : decode b_Mo_slide 53 = .ok (.invokevirtual 31, 3) := by decide +kernel
theorem d_Mo_slide_56 : decode b_Mo_slide 56 = .ok (.istore 4, 2) := by decide +kernel
theorem d_Mo_slide_58 : decode b_Mo_slide 58 = .ok (.iinc 5 1, 3) := by decide +kernel
theorem d_Mo_slide_61 : decode b_Mo_slide 61 = .ok (.goto (-27), 3) := by decide +kernel
theorem d_Mo_slide_64 : decode b_Mo_slide 64 = .ok (.iconst 1, 1) := by decide +kernel
theorem d_Mo_slide_65 : decode b_Mo_slide 65 = .ok (.ireturn, 1) := by decide +kernel
theorem d_Mo_slideEdge_0 : decode b_Mo_slideEdge 0 = .ok (.aload_n 1, 1) := by decide +kernel
theorem d_Mo_slideEdge_1 : decode b_Mo_slideEdge 1 = .ok (.getfield 60, 3) := by decide +kernel
theorem d_Mo_slideEdge_4 : decode b_Mo_slideEdge 4 = .ok (.iload_n 3, 1) := by decide +kernel
theorem d_Mo_slideEdge_5 : decode b_Mo_slideEdge 5 = .ok (.iaload, 1) := by decide +kernel
theorem d_Mo_slideEdge_6 : decode b_Mo_slideEdge 6 = .ok (.istore 4, 2) := by decide +kernel
theorem d_Mo_slideEdge_8 : decode b_Mo_slideEdge 8 = .ok (.aload_n 1, 1) := by decide +kernel
theorem d_Mo_slideEdge_9 : decode b_Mo_slideEdge 9 = .ok (.getfield 63, 3) := by decide +kernel
theorem d_Mo_slideEdge_12 : decode b_Mo_slideEdge 12 = .ok (.iload_n 3, 1) := by decide +kernel
theorem d_Mo_slideEdge_13 : decode b_Mo_slideEdge 13 = .ok (.iaload, 1) := by decide +kernel
theorem d_Mo_slideEdge_14 : decode b_Mo_slideEdge 14 = .ok (.istore 5, 2) := by decide +kernel
theorem d_Mo_slideEdge_16 : decode b_Mo_slideEdge 16 = .ok (.aload_n 1, 1) := by decide +kernel
theorem d_Mo_slideEdge_17 : decode b_Mo_slideEdge 17 = .ok (.getfield 66, 3) := by decide +kernel
theorem d_Mo_slideEdge_20 : decode b_Mo_slideEdge 20 = .ok (.aload_n 1, 1) := by decide +kernel
theorem d_Mo_slideEdge_21 : decode b_Mo_slideEdge 21 = .ok (.getfield 69, 3) := by decide +kernel
theorem d_Mo_slideEdge_24 : decode b_Mo_slideEdge 24 = .ok (.iload 4, 2) := by decide +kernel
theorem d_Mo_slideEdge_26 : decode b_Mo_slideEdge 26 = .ok (.iconst 2, 1) := by decide +kernel
theorem d_Mo_slideEdge_27 : decode b_Mo_slideEdge 27 = .ok (.ixor, 1) := by decide +kernel
theorem d_Mo_slideEdge_28 : decode b_Mo_slideEdge 28 = .ok (.iaload, 1) := by decide +kernel
theorem d_Mo_slideEdge_29 : decode b_Mo_slideEdge 29 = .ok (.iaload, 1) := by decide +kernel
theorem d_Mo_slideEdge_30 : decode b_Mo_slideEdge 30 = .ok (.istore 6, 2) := by decide +kernel
theorem d_Mo_slideEdge_32 : decode b_Mo_slideEdge 32 = .ok (.aload_n 1, 1) := by decide +kernel
theorem d_Mo_slideEdge_33 : decode b_Mo_slideEdge 33 = .ok (.getfield 66, 3) := by decide +kernel
theorem d_Mo_slideEdge_36 : decode b_Mo_slideEdge 36 = .ok (.aload_n 1, 1) := by decide +kernel
theorem d_Mo_slideEdge_37 : decode b_Mo_slideEdge 37 = .ok (.getfield 69, 3) := by decide +kernel
