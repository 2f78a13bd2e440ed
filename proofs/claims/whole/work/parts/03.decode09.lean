theorem d_Li_longNumber_58 : decode b_Li_longNumber 58 = .ok (.lreturn, 1) := by decide +kernel
theorem d_Pa_put_0 : decode b_Pa_put 0 = .ok (.aload_n 0, 1) := by decide +kernel
theorem d_Pa_put_1 : decode b_Pa_put 1 = .ok (.getfield 18, 3) := by decide +kernel
theorem d_Pa_put_4 : decode b_Pa_put 4 = .ok (.sipush 4000, 3) := by decide +kernel
theorem d_Pa_put_7 : decode b_Pa_put 7 = .ok (.if_icmp .ge 26, 3) := by decide +kernel
theorem d_Pa_put_33 : decode b_Pa_put 33 = .ok (.aload_n 0, 1) := by decide +kernel
theorem d_Pa_put_34 : decode b_Pa_put 34 = .ok (.iconst 1, 1) := by decide +kernel
theorem d_Pa_put_35 : decode b_Pa_put 35 = .ok (.putfield 22, 3) := by decide +kernel
theorem d_Pa_put_38 : decode b_Pa_put 38 = .ok (.return_, 1) := by decide +kernel
theorem d_Pa_put_10 : decode b_Pa_put 10 = .ok (.aload_n 0, 1) := by decide +kernel
theorem d_Pa_put_11 : decode b_Pa_put 11 = .ok (.getfield 9, 3) := by decide +kernel
theorem d_Pa_put_14 : decode b_Pa_put 14 = .ok (.aload_n 0, 1) := by decide +kernel
theorem d_Pa_put_15 : decode b_Pa_put 15 = .ok (.getfield 18, 3) := by decide +kernel
theorem d_Pa_put_18 : decode b_Pa_put 18 = .ok (.iload_n 1, 1) := by decide +kernel
theorem d_Pa_put_19 : decode b_Pa_put 19 = .ok (.iastore, 1) := by decide +kernel
theorem d_Pa_put_20 : decode b_Pa_put 20 = .ok (.aload_n 0, 1) := by decide +kernel
theorem d_Pa_put_21 : decode b_Pa_put 21 = .ok (.dup, 1) := by decide +kernel
theorem d_Pa_put_22 : decode b_Pa_put 22 = .ok (.getfield 18, 3) := by decide +kernel
theorem d_Pa_put_25 : decode b_Pa_put 25 = .ok (.iconst 1, 1) := by decide +kernel
theorem d_Pa_put_26 : decode b_Pa_put 26 = .ok (.iadd, 1) := by decide +kernel
theorem d_Pa_put_27 : decode b_Pa_put 27 = .ok (.putfield 18, 3) := by decide +kernel
theorem d_Pa_put_30 : decode b_Pa_put 30 = .ok (.goto 8, 3) := by decide +kernel
theorem d_Pa_putEnd_0 : decode b_Pa_putEnd 0 = .ok (.aload_n 0, 1) := by decide +kernel
theorem d_Pa_putEnd_1 : decode b_Pa_putEnd 1 = .ok (.bipush 10, 2) := by decide +kernel
theorem d_Pa_putEnd_3 : decode b_Pa_putEnd 3 = .ok (.invokevirtual 26, 3) := by decide +kernel
theorem d_Pa_putEnd_6 : decode b_Pa_putEnd 6 = .ok (.return_, 1) := by decide +kernel
theorem d_Sh_sortPlaces_67 : decode b_Sh_sortPlaces 67 = .ok (.aload_n 0, 1) := by decide +kernel
theorem d_Sh_sortPlaces_68 : decode b_Sh_sortPlaces 68 = .ok (.getfield 9, 3) := by decide +kernel
theorem d_Sh_sortPlaces_71 : decode b_Sh_sortPlaces 71 = .ok (.iload 4, 2) := by decide +kernel
theorem d_Sh_sortPlaces_73 : decode b_Sh_sortPlaces 73 = .ok (.iload_n 3, 1) := by decide +kernel
theorem d_Sh_sortPlaces_74 : decode b_Sh_sortPlaces 74 = .ok (.iastore, 1) := by decide +kernel
theorem d_Sh_sortPlaces_75 : decode b_Sh_sortPlaces 75 = .ok (.iinc 2 1, 3) := by decide +kernel
theorem d_Sh_sortPlaces_78 : decode b_Sh_sortPlaces 78 = .ok (.goto (-76), 3) := by decide +kernel
theorem d_Sh_sortPlaces_27 : decode b_Sh_sortPlaces 27 = .ok (.iload 4, 2) := by decide +kernel
theorem d_Sh_sortPlaces_29 : decode b_Sh_sortPlaces 29 = .ok (.ifCond .le 38, 3) := by decide +kernel
theorem d_Sh_sortPlaces_32 : decode b_Sh_sortPlaces 32 = .ok (.aload_n 0, 1) := by decide +kernel
theorem d_Sh_sortPlaces_33 : decode b_Sh_sortPlaces 33 = .ok (.getfield 9, 3) := by decide +kernel
theorem d_Sh_sortPlaces_36 : decode b_Sh_sortPlaces 36 = .ok (.iload 4, 2) := by decide +kernel
theorem d_Sh_sortPlaces_38 : decode b_Sh_sortPlaces 38 = .ok (.iconst 1, 1) := by decide +kernel
theorem d_Sh_sortPlaces_39 : decode b_Sh_sortPlaces 39 = .ok (.isub, 1) := by decide +kernel
theorem d_Sh_sortPlaces_40 : decode b_Sh_sortPlaces 40 = .ok (.iaload, 1) := by decide +kernel
theorem d_Sh_sortPlaces_41 : decode b_Sh_sortPlaces 41 = .ok (.iload_n 3, 1) := by decide +kernel
theorem d_Sh_sortPlaces_42 : decode b_Sh_sortPlaces 42 = .ok (.if_icmp .le 25, 3) := by decide +kernel
theorem d_Sh_sortPlaces_45 : decode b_Sh_sortPlaces 45 = .ok (.aload_n 0, 1) := by decide +kernel
theorem d_Sh_sortPlaces_46 : decode b_Sh_sortPlaces 46 = .ok (.getfield 9, 3) := by decide +kernel
theorem d_Sh_sortPlaces_49 : decode b_Sh_sortPlaces 49 = .ok (.iload 4, 2) := by decide +kernel
theorem d_Sh_sortPlaces_51 : decode b_Sh_sortPlaces 51 = .ok (.aload_n 0, 1) := by decide +kernel
theorem d_Sh_sortPlaces_52 : decode b_Sh_sortPlaces 52 = .ok (.getfield 9, 3) := by decide +kernel
theorem d_Sh_sortPlaces_55 : decode b_Sh_sortPlaces 55 = .ok (.iload 4, 2) := by decide +kernel
theorem d_Sh_sortPlaces_57 : decode b_Sh_sortPlaces 57 = .ok (.iconst 1, 1) := by decide +kernel
theorem d_Sh_sortPlaces_58 : decode b_Sh_sortPlaces 58 = .ok (.isub, 1) := by decide +kernel
theorem d_Sh_sortPlaces_59 : decode b_Sh_sortPlaces 59 = .ok (.iaload, 1) := by decide +kernel
theorem d_Sh_sortPlaces_60 : decode b_Sh_sortPlaces 60 = .ok (.iastore, 1) := by decide +kernel
theorem d_Sh_sortPlaces_61 : decode b_Sh_sortPlaces 61 = .ok (.iinc 4 (-1), 3) := by decide +kernel
theorem d_Sh_sortPlaces_64 : decode b_Sh_sortPlaces 64 = .ok (.goto (-37), 3) := by decide +kernel
theorem d_Sh_sortPlaces_12 : decode b_Sh_sortPlaces 12 = .ok (.aload_n 1, 1) := by decide +kernel
theorem d_Sh_sortPlaces_13 : decode b_Sh_sortPlaces 13 = .ok (.getfield 72, 3) := by decide +kernel
theorem d_Sh_sortPlaces_16 : decode b_Sh_sortPlaces 16 = .ok (.iload_n 2, 1) := by decide +kernel
theorem d_Sh_sortPlaces_17 : decode b_Sh_sortPlaces 17 = .ok (.iaload, 1) := by decide +kernel
theorem d_Sh_sortPlaces_18 : decode b_Sh_sortPlaces 18 = .ok (.bipush 7, 2) := by decide +kernel
theorem d_Sh_sortPlaces_20 : decode b_Sh_sortPlaces 20 = .ok (.ishl, 1) := by decide +kernel
theorem d_Sh_sortPlaces_21 : decode b_Sh_sortPlaces 21 = .ok (.iload_n 2, 1) := by decide +kernel
theorem d_Sh_sortPlaces_22 : decode b_Sh_sortPlaces 22 = .ok (.ior, 1) := by decide +kernel
theorem d_Sh_sortPlaces_23 : decode b_Sh_sortPlaces 23 = .ok (.istore_n 3, 1) := by decide +kernel
theorem d_Sh_sortPlaces_24 : decode b_Sh_sortPlaces 24 = .ok (.iload_n 2, 1) := by decide +kernel
theorem d_Sh_sortPlaces_25 : decode b_Sh_sortPlaces 25 = .ok (.istore 4, 2) := by decide +kernel
theorem d_Sh_labelOfKey_0 : decode b_Sh_labelOfKey 0 = .ok (.aload_n 0, 1) := by decide +kernel
theorem d_Sh_labelOfKey_1 : decode b_Sh_labelOfKey 1 = .ok (.getfield 9, 3) := by decide +kernel
theorem d_Sh_labelOfKey_4 : decode b_Sh_labelOfKey 4 = .ok (.iload_n 1, 1) := by decide +kernel
theorem d_Sh_labelOfKey_5 : decode b_Sh_labelOfKey 5 = .ok (.iaload, 1) := by decide +kernel
theorem d_Sh_labelOfKey_6 : decode b_Sh_labelOfKey 6 = .ok (.bipush 7, 2) := by decide +kernel
theorem d_Sh_labelOfKey_8 : decode b_Sh_labelOfKey 8 = .ok (.ishr, 1) := by decide +kernel
theorem d_Sh_labelOfKey_9 : decode b_Sh_labelOfKey 9 = .ok (.ireturn, 1) := by decide +kernel
theorem d_Sh_breaks_0 : decode b_Sh_breaks 0 = .ok (.aload_n 0, 1) := by decide +kernel
theorem d_Sh_breaks_1 : decode b_Sh_breaks 1 = .ok (.iload_n 1, 1) := by decide +kernel
theorem d_Sh_breaks_2 : decode b_Sh_breaks 2 = .ok (.putfield 61, 3) := by decide +kernel
theorem d_Sh_breaks_5 : decode b_Sh_breaks 5 = .ok (.aload_n 0, 1) := by decide +kernel
theorem d_Sh_breaks_6 : decode b_Sh_breaks 6 = .ok (.iload_n 2, 1) := by decide +kernel
theorem d_Sh_breaks_7 : decode b_Sh_breaks 7 = .ok (.putfield 64, 3) := by decide +kernel
theorem d_Sh_breaks_10 : decode b_Sh_breaks 10 = .ok (.iconst 0, 1) := by decide +kernel
theorem d_Sh_breaks_11 : decode b_Sh_breaks 11 = .ok (.ireturn, 1) := by decide +kernel
theorem d_Sh_placeOfKey_0 : decode b_Sh_placeOfKey 0 = .ok (.aload_n 0, 1) := by decide +kernel
theorem d_Sh_placeOfKey_1 : decode b_Sh_placeOfKey 1 = .ok (.getfield 9, 3) := by decide +kernel
theorem d_Sh_placeOfKey_4 : decode b_Sh_placeOfKey 4 = .ok (.iload_n 1, 1) := by decide +kernel
theorem d_Sh_placeOfKey_5 : decode b_Sh_placeOfKey 5 = .ok (.iaload, 1) := by decide +kernel
theorem d_Sh_placeOfKey_6 : decode b_Sh_placeOfKey 6 = .ok (.bipush 127, 2) := by decide +kernel
theorem d_Sh_placeOfKey_8 : decode b_Sh_placeOfKey 8 = .ok (.iand, 1) := by decide +kernel
theorem d_Sh_placeOfKey_9 : decode b_Sh_placeOfKey 9 = .ok (.ireturn, 1) := by decide +kernel
theorem d_Di_upperOut_0 : decode b_Di_upperOut 0 = .ok (.iconst 4, 1) := by decide +kernel
theorem d_Di_upperOut_1 : decode b_Di_upperOut 1 = .ok (.iload_n 1, 1) := by decide +kernel
theorem d_Di_upperOut_2 : decode b_Di_upperOut 2 = .ok (.imul, 1) := by decide +kernel
theorem d_Di_upperOut_3 : decode b_Di_upperOut 3 = .ok (.aload_n 0, 1) := by decide +kernel
theorem d_Di_upperOut_4 : decode b_Di_upperOut 4 = .ok (.getfield 9, 3) := by decide +kernel
theorem d_Di_upperOut_7 : decode b_Di_upperOut 7 = .ok (.iload_n 1, 1) := by decide +kernel
theorem d_Di_upperOut_8 : decode b_Di_upperOut 8 = .ok (.iaload, 1) := by decide +kernel
theorem d_Di_upperOut_9 : decode b_Di_upperOut 9 = .ok (.ifCond .le 7, 3) := by decide +kernel
theorem d_Di_upperOut_16 : decode b_Di_upperOut 16 = .ok (.iconst 3, 1) := by decide +kernel
theorem d_Di_upperOut_17 : decode b_Di_upperOut 17 = .ok (.iadd, 1) := by decide +kernel
theorem d_Di_upperOut_18 : decode b_Di_upperOut 18 = .ok (.ireturn, 1) := by decide +kernel
theorem d_Di_upperOut_12 : decode b_Di_upperOut 12 = .ok (.iconst 1, 1) := by decide +kernel
theorem d_Di_upperOut_13 : decode b_Di_upperOut 13 = .ok (.goto 4, 3) := by decide +kernel
theorem d_Sh_findPieces_145 : decode b_Sh_findPieces 145 = .ok (.iinc 2 1, 3) := by decide +kernel
theorem d_Sh_findPieces_148 : decode b_Sh_findPieces 148 = .ok (.goto (-121), 3) := by decide +kernel
theorem d_Sh_findPieces_128 : decode b_Sh_findPieces 128 = .ok (.iastore, 1) := by decide +kernel
theorem d_Sh_findPieces_129 : decode b_Sh_findPieces 129 = .ok (.iinc 6 1, 3) := by decide +kernel
theorem d_Sh_findPieces_132 : decode b_Sh_findPieces 132 = .ok (.goto (-51), 3) := by decide +kernel
theorem d_Sh_findPieces_116 : decode b_Sh_findPieces 116 = .ok (.iload 5, 2) := by decide +kernel
theorem d_Sh_findPieces_118 : decode b_Sh_findPieces 118 = .ok (.goto 10, 3) := by decide +kernel
theorem d_Sh_findPieces_81 : decode b_Sh_findPieces 81 = .ok (.iload 6, 2) := by decide +kernel
theorem d_Sh_findPieces_83 : decode b_Sh_findPieces 83 = .ok (.iload_n 1, 1) := by decide +kernel
theorem d_Sh_findPieces_84 : decode b_Sh_findPieces 84 = .ok (.if_icmp .ge 51, 3) := by decide +kernel
theorem d_Sh_findPieces_135 : decode b_Sh_findPieces 135 = .ok (.aload_n 0, 1) := by decide +kernel
theorem d_Sh_findPieces_136 : decode b_Sh_findPieces 136 = .ok (.dup, 1) := by decide +kernel
theorem d_Sh_findPieces_137 : decode b_Sh_findPieces 137 = .ok (.getfield 55, 3) := by decide +kernel
theorem d_Sh_findPieces_140 : decode b_Sh_findPieces 140 = .ok (.iconst 1, 1) := by decide +kernel
theorem d_Sh_findPieces_141 : decode b_Sh_findPieces 141 = .ok (.isub, 1) := by decide +kernel
theorem d_Sh_findPieces_142 : decode b_Sh_findPieces 142 = .ok (.putfield 55, 3) := by decide +kernel
theorem d_Sh_findPieces_87 : decode b_Sh_findPieces 87 = .ok (.aload_n 0, 1) := by decide +kernel
theorem d_Sh_findPieces_88 : decode b_Sh_findPieces 88 = .ok (.getfield 33, 3) := by decide +kernel
theorem d_Sh_findPieces_91 : decode b_Sh_findPieces 91 = .ok (.iload 6, 2) := by decide +kernel
theorem d_Sh_findPieces_93 : decode b_Sh_findPieces 93 = .ok (.aload_n 0, 1) := by decide +kernel
theorem d_Sh_findPieces_94 : decode b_Sh_findPieces 94 = .ok (.getfield 33, 3) := by decide +kernel
theorem d_Sh_findPieces_97 : decode b_Sh_findPieces 97 = .ok (.iload 6, 2) := by decide +kernel
theorem d_Sh_findPieces_99 : decode b_Sh_findPieces 99 = .ok (.iaload, 1) := by decide +kernel
theorem d_Sh_findPieces_100 : decode b_Sh_findPieces 100 = .ok (.iload_n 3, 1) := by decide +kernel
theorem d_Sh_findPieces_101 : decode b_Sh_findPieces 101 = .ok (.if_icmp .eq 15, 3) := by decide +kernel
theorem d_Sh_findPieces_104 : decode b_Sh_findPieces 104 = .ok (.aload_n 0, 1) := by decide +kernel
theorem d_Sh_findPieces_105 : decode b_Sh_findPieces 105 = .ok (.getfield 33, 3) := by decide +kernel
theorem d_Sh_findPieces_108 : decode b_Sh_findPieces 108 = .ok (.iload 6, 2) := by decide +kernel
theorem d_Sh_findPieces_110 : decode b_Sh_findPieces 110 = .ok (.iaload, 1) := by decide +kernel
theorem d_Sh_findPieces_111 : decode b_Sh_findPieces 111 = .ok (.iload 4, 2) := by decide +kernel
theorem d_Sh_findPieces_113 : decode b_Sh_findPieces 113 = .ok (.if_icmp .ne 8, 3) := by decide +kernel
theorem d_Sh_findPieces_121 : decode b_Sh_findPieces 121 = .ok (.aload_n 0, 1) := by decide +kernel
theorem d_Sh_findPieces_122 : decode b_Sh_findPieces 122 = .ok (.getfield 33, 3) := by decide +kernel
theorem d_Sh_findPieces_125 : decode b_Sh_findPieces 125 = .ok (.iload 6, 2) := by decide +kernel
theorem d_Sh_findPieces_127 : decode b_Sh_findPieces 127 = .ok (.iaload, 1) := by decide +kernel
theorem d_Sh_findPieces_35 : decode b_Sh_findPieces 35 = .ok (.aload_n 0, 1) := by decide +kernel
theorem d_Sh_findPieces_36 : decode b_Sh_findPieces 36 = .ok (.getfield 33, 3) := by decide +kernel
theorem d_Sh_findPieces_39 : decode b_Sh_findPieces 39 = .ok (.aload_n 0, 1) := by decide +kernel
theorem d_Sh_findPieces_40 : decode b_Sh_findPieces 40 = .ok (.getfield 18, 3) := by decide +kernel
theorem d_Sh_findPieces_43 : decode b_Sh_findPieces 43 = .ok (.iload_n 2, 1) := by decide +kernel
theorem d_Sh_findPieces_44 : decode b_Sh_findPieces 44 = .ok (.iaload, 1) := by decide +kernel
theorem d_Sh_findPieces_45 : decode b_Sh_findPieces 45 = .ok (.iconst 2, 1) := by decide +kernel
theorem d_Sh_findPieces_46 : decode b_Sh_findPieces 46 = .ok (.ishr, 1) := by decide +kernel
theorem d_Sh_findPieces_47 : decode b_Sh_findPieces 47 = .ok (.iaload, 1) := by decide +kernel
theorem d_Sh_findPieces_48 : decode b_Sh_findPieces 48 = .ok (.istore_n 3, 1) := by decide +kernel
theorem d_Sh_findPieces_49 : decode b_Sh_findPieces 49 = .ok (.aload_n 0, 1) := by decide +kernel
theorem d_Sh_findPieces_50 : decode b_Sh_findPieces 50 = .ok (.getfield 33, 3) := by decide +kernel
theorem d_Sh_findPieces_53 : decode b_Sh_findPieces 53 = .ok (.aload_n 0, 1) := by decide +kernel
theorem d_Sh_findPieces_54 : decode b_Sh_findPieces 54 = .ok (.getfield 21, 3) := by decide +kernel
theorem d_Sh_findPieces_57 : decode b_Sh_findPieces 57 = .ok (.iload_n 2, 1) := by decide +kernel
theorem d_Sh_findPieces_58 : decode b_Sh_findPieces 58 = .ok (.iaload, 1) := by decide +kernel
theorem d_Sh_findPieces_59 : decode b_Sh_findPieces 59 = .ok (.iconst 2, 1) := by decide +kernel
theorem d_Sh_findPieces_60 : decode b_Sh_findPieces 60 = .ok (.ishr, 1) := by decide +kernel
theorem d_Sh_findPieces_61 : decode b_Sh_findPieces 61 = .ok (.iaload, 1) := by decide +kernel
theorem d_Sh_findPieces_62 : decode b_Sh_findPieces 62 = .ok (.istore 4, 2) := by decide +kernel
theorem d_Sh_findPieces_64 : decode b_Sh_findPieces 64 = .ok (.iload_n 3, 1) := by decide +kernel
theorem d_Sh_findPieces_65 : decode b_Sh_findPieces 65 = .ok (.iload 4, 2) := by decide +kernel
theorem d_Sh_findPieces_67 : decode b_Sh_findPieces 67 = .ok (.if_icmp .eq 78, 3) := by decide +kernel
theorem d_Sh_findPieces_70 : decode b_Sh_findPieces 70 = .ok (.iload_n 3, 1) := by decide +kernel
theorem d_Sh_findPieces_71 : decode b_Sh_findPieces 71 = .ok (.iload 4, 2) := by decide +kernel
theorem d_Sh_findPieces_73 : decode b_Sh_findPieces 73 = .ok (.invokestatic 90, 3) := by decide +kernel
theorem d_Sh_findPieces_76 : decode b_Sh_findPieces 76 = .ok (.istore 5, 2) := by decide +kernel
theorem d_Sh_findPieces_78 : decode b_Sh_findPieces 78 = .ok (.iconst 0, 1) := by decide +kernel
theorem d_Sh_findPieces_79 : decode b_Sh_findPieces 79 = .ok (.istore 6, 2) := by decide +kernel
theorem d_Sh_findPieces_7 : decode b_Sh_findPieces 7 = .ok (.aload_n 0, 1) := by decide +kernel
theorem d_Sh_findPieces_8 : decode b_Sh_findPieces 8 = .ok (.getfield 33, 3) := by decide +kernel
theorem d_Sh_findPieces_11 : decode b_Sh_findPieces 11 = .ok (.iload_n 2, 1) := by decide +kernel
theorem d_Sh_findPieces_12 : decode b_Sh_findPieces 12 = .ok (.iload_n 2, 1) := by decide +kernel
theorem d_Sh_findPieces_13 : decode b_Sh_findPieces 13 = .ok (.iastore, 1) := by decide +kernel
theorem d_Sh_findPieces_14 : decode b_Sh_findPieces 14 = .ok (.iinc 2 1, 3) := by decide +kernel
theorem d_Sh_findPieces_17 : decode b_Sh_findPieces 17 = .ok (.goto (-15), 3) := by decide +kernel
theorem d_Sh_arrival_0 : decode b_Sh_arrival 0 = .ok (.iload_n 1, 1) := by decide +kernel
theorem d_Sh_arrival_1 : decode b_Sh_arrival 1 = .ok (.iconst 1, 1) := by decide +kernel
theorem d_Sh_arrival_2 : decode b_Sh_arrival 2 = .ok (.iand, 1) := by decide +kernel
theorem d_Sh_arrival_3 : decode b_Sh_arrival 3 = .ok (.ifCond .ne 14, 3) := by decide +kernel
theorem d_Sh_arrival_17 : decode b_Sh_arrival 17 = .ok (.aload_n 0, 1) := by decide +kernel
theorem d_Sh_arrival_18 : decode b_Sh_arrival 18 = .ok (.getfield 18, 3) := by decide +kernel
theorem d_Sh_arrival_21 : decode b_Sh_arrival 21 = .ok (.iload_n 1, 1) := by decide +kernel
theorem d_Sh_arrival_22 : decode b_Sh_arrival 22 = .ok (.iconst 1, 1) := by decide +kernel
theorem d_Sh_arrival_23 : decode b_Sh_arrival 23 = .ok (.ishr, 1) := by decide +kernel
theorem d_Sh_arrival_24 : decode b_Sh_arrival 24 = .ok (.iaload, 1) := by decide +kernel
theorem d_Sh_arrival_25 : decode b_Sh_arrival 25 = .ok (.ireturn, 1) := by decide +kernel
theorem d_Sh_arrival_6 : decode b_Sh_arrival 6 = .ok (.aload_n 0, 1) := by decide +kernel
theorem d_Sh_arrival_7 : decode b_Sh_arrival 7 = .ok (.getfield 21, 3) := by decide +kernel
theorem d_Sh_arrival_10 : decode b_Sh_arrival 10 = .ok (.iload_n 1, 1) := by decide +kernel
theorem d_Sh_arrival_11 : decode b_Sh_arrival 11 = .ok (.iconst 1, 1) := by decide +kernel
theorem d_Sh_arrival_12 : decode b_Sh_arrival 12 = .ok (.ishr, 1) := by decide +kernel
theorem d_Sh_arrival_13 : decode b_Sh_arrival 13 = .ok (.iaload, 1) := by decide +kernel
theorem d_Sh_arrival_14 : decode b_Sh_arrival 14 = .ok (.goto 11, 3) := by decide +kernel
theorem d_Sh_nextEdge_0 : decode b_Sh_nextEdge 0 = .ok (.aload_n 0, 1) := by decide +kernel
theorem d_Sh_nextEdge_1 : decode b_Sh_nextEdge 1 = .ok (.getfield 24, 3) := by decide +kernel
theorem d_Sh_nextEdge_4 : decode b_Sh_nextEdge 4 = .ok (.aload_n 0, 1) := by decide +kernel
theorem d_Sh_nextEdge_5 : decode b_Sh_nextEdge 5 = .ok (.getfield 21, 3) := by decide +kernel
theorem d_Sh_nextEdge_8 : decode b_Sh_nextEdge 8 = .ok (.iload_n 1, 1) := by decide +kernel
theorem d_Sh_nextEdge_9 : decode b_Sh_nextEdge 9 = .ok (.iaload, 1) := by decide +kernel
theorem d_Sh_nextEdge_10 : decode b_Sh_nextEdge 10 = .ok (.iconst 2, 1) := by decide +kernel
theorem d_Sh_nextEdge_11 : decode b_Sh_nextEdge 11 = .ok (.ixor, 1) := by decide +kernel
theorem d_Sh_nextEdge_12 : decode b_Sh_nextEdge 12 = .ok (.iaload, 1) := by decide +kernel
theorem d_Sh_nextEdge_13 : decode b_Sh_nextEdge 13 = .ok (.ireturn, 1) := by decide +kernel
