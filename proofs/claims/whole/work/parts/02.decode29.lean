theorem d_Sh_labelsArePaired_23 : decode b_Sh_labelsArePaired 23 = .ok (.iadd, 1) := by decide +kernel
theorem d_Sh_labelsArePaired_24 : decode b_Sh_labelsArePaired 24 = .ok (.invokevirtual 75, 3) := by decide +kernel
theorem d_Sh_labelsArePaired_27 : decode b_Sh_labelsArePaired 27 = .ok (.iload_n 3, 1) := by decide +kernel
theorem d_Sh_labelsArePaired_28 : decode b_Sh_labelsArePaired 28 = .ok (.if_icmp .eq 7, 3) := by decide +kernel
theorem d_Sh_labelsArePaired_31 : decode b_Sh_labelsArePaired 31 = .ok (.iconst 1, 1) := by decide +kernel
theorem d_Sh_labelsArePaired_32 : decode b_Sh_labelsArePaired 32 = .ok (.goto 4, 3) := by decide +kernel
theorem d_Sh_labelsArePaired_35 : decode b_Sh_labelsArePaired 35 = .ok (.iconst 0, 1) := by decide +kernel
theorem d_Sh_labelsArePaired_36 : decode b_Sh_labelsArePaired 36 = .ok (.istore 4, 2) := by decide +kernel
theorem d_Sh_labelsArePaired_38 : decode b_Sh_labelsArePaired 38 = .ok (.iload_n 2, 1) := by decide +kernel
theorem d_Sh_labelsArePaired_39 : decode b_Sh_labelsArePaired 39 = .ok (.iconst 2, 1) := by decide +kernel
theorem d_Sh_labelsArePaired_40 : decode b_Sh_labelsArePaired 40 = .ok (.iadd, 1) := by decide +kernel
theorem d_Sh_labelsArePaired_41 : decode b_Sh_labelsArePaired 41 = .ok (.iload_n 1, 1) := by decide +kernel
theorem d_Sh_labelsArePaired_42 : decode b_Sh_labelsArePaired 42 = .ok (.if_icmp .ge 18, 3) := by decide +kernel
theorem d_Sh_labelsArePaired_45 : decode b_Sh_labelsArePaired 45 = .ok (.aload_n 0, 1) := by decide +kernel
theorem d_Sh_labelsArePaired_46 : decode b_Sh_labelsArePaired 46 = .ok (.iload_n 2, 1) := by decide +kernel
theorem d_Sh_labelsArePaired_47 : decode b_Sh_labelsArePaired 47 = .ok (.iconst 2, 1) := by decide +kernel
theorem d_Sh_labelsArePaired_48 : decode b_Sh_labelsArePaired 48 = .ok (.iadd, 1) := by decide +kernel
theorem d_Sh_labelsArePaired_49 : decode b_Sh_labelsArePaired 49 = .ok (.invokevirtual 75, 3) := by decide +kernel
theorem d_Sh_labelsArePaired_52 : decode b_Sh_labelsArePaired 52 = .ok (.iload_n 3, 1) := by decide +kernel
theorem d_Sh_labelsArePaired_53 : decode b_Sh_labelsArePaired 53 = .ok (.if_icmp .ne 7, 3) := by decide +kernel
theorem d_Sh_labelsArePaired_56 : decode b_Sh_labelsArePaired 56 = .ok (.iconst 1, 1) := by decide +kernel
theorem d_Sh_labelsArePaired_57 : decode b_Sh_labelsArePaired 57 = .ok (.goto 4, 3) := by decide +kernel
theorem d_Sh_labelsArePaired_60 : decode b_Sh_labelsArePaired 60 = .ok (.iconst 0, 1) := by decide +kernel
theorem d_Sh_labelsArePaired_61 : decode b_Sh_labelsArePaired 61 = .ok (.istore 5, 2) := by decide +kernel
theorem d_Sh_labelsArePaired_63 : decode b_Sh_labelsArePaired 63 = .ok (.iload 4, 2) := by decide +kernel
theorem d_Sh_labelsArePaired_65 : decode b_Sh_labelsArePaired 65 = .ok (.ifCond .ne 8, 3) := by decide +kernel
theorem d_Sh_labelsArePaired_68 : decode b_Sh_labelsArePaired 68 = .ok (.iload 5, 2) := by decide +kernel
theorem d_Sh_labelsArePaired_70 : decode b_Sh_labelsArePaired 70 = .ok (.ifCond .eq 10, 3) := by decide +kernel
theorem d_Sh_labelsArePaired_73 : decode b_Sh_labelsArePaired 73 = .ok (.aload_n 0, 1) := by decide +kernel
theorem d_Sh_labelsArePaired_74 : decode b_Sh_labelsArePaired 74 = .ok (.iconst 1, 1) := by decide +kernel
theorem d_Sh_labelsArePaired_75 : decode b_Sh_labelsArePaired 75 = .ok (.iload_n 3, 1) := by decide +kernel
theorem d_Sh_labelsArePaired_76 : decode b_Sh_labelsArePaired 76 = .ok (.invokevirtual 79, 3) := by decide +kernel
theorem d_Sh_labelsArePaired_79 : decode b_Sh_labelsArePaired 79 = .ok (.ireturn, 1) := by decide +kernel
theorem d_Sh_labelsArePaired_80 : decode b_Sh_labelsArePaired 80 = .ok (.iinc 2 2, 3) := by decide +kernel
theorem d_Sh_labelsArePaired_83 : decode b_Sh_labelsArePaired 83 = .ok (.goto (-81), 3) := by decide +kernel
theorem d_Sh_labelsArePaired_86 : decode b_Sh_labelsArePaired 86 = .ok (.iconst 1, 1) := by decide +kernel
theorem d_Sh_labelsArePaired_87 : decode b_Sh_labelsArePaired 87 = .ok (.ireturn, 1) := by decide +kernel
theorem d_Sh_nextDart_0 : decode b_Sh_nextDart 0 = .ok (.aload_n 0, 1) := by decide +kernel
theorem d_Sh_nextDart_1 : decode b_Sh_nextDart 1 = .ok (.iload_n 1, 1) := by decide +kernel
theorem d_Sh_nextDart_2 : decode b_Sh_nextDart 2 = .ok (.invokevirtual 111, 3) := by decide +kernel
theorem d_Sh_nextDart_5 : decode b_Sh_nextDart 5 = .ok (.istore_n 2, 1) := by decide +kernel
theorem d_Sh_nextDart_6 : decode b_Sh_nextDart 6 = .ok (.iload_n 2, 1) := by decide +kernel
theorem d_Sh_nextDart_7 : decode b_Sh_nextDart 7 = .ok (.bipush (-4), 2) := by decide +kernel
theorem d_Sh_nextDart_9 : decode b_Sh_nextDart 9 = .ok (.iand, 1) := by decide +kernel
theorem d_Sh_nextDart_10 : decode b_Sh_nextDart 10 = .ok (.iload_n 2, 1) := by decide +kernel
theorem d_Sh_nextDart_11 : decode b_Sh_nextDart 11 = .ok (.iconst 3, 1) := by decide +kernel
theorem d_Sh_nextDart_12 : decode b_Sh_nextDart 12 = .ok (.iadd, 1) := by decide +kernel
theorem d_Sh_nextDart_13 : decode b_Sh_nextDart 13 = .ok (.iconst 3, 1) := by decide +kernel
theorem d_Sh_nextDart_14 : decode b_Sh_nextDart 14 = .ok (.iand, 1) := by decide +kernel
theorem d_Sh_nextDart_15 : decode b_Sh_nextDart 15 = .ok (.ior, 1) := by decide +kernel
theorem d_Sh_nextDart_16 : decode b_Sh_nextDart 16 = .ok (.istore_n 3, 1) := by decide +kernel
theorem d_Sh_nextDart_17 : decode b_Sh_nextDart 17 = .ok (.aload_n 0, 1) := by decide +kernel
theorem d_Sh_nextDart_18 : decode b_Sh_nextDart 18 = .ok (.getfield 24, 3) := by decide +kernel
theorem d_Sh_nextDart_21 : decode b_Sh_nextDart 21 = .ok (.iload_n 3, 1) := by decide +kernel
theorem d_Sh_nextDart_22 : decode b_Sh_nextDart 22 = .ok (.iaload, 1) := by decide +kernel
theorem d_Sh_nextDart_23 : decode b_Sh_nextDart 23 = .ok (.istore 4, 2) := by decide +kernel
theorem d_Sh_nextDart_25 : decode b_Sh_nextDart 25 = .ok (.aload_n 0, 1) := by decide +kernel
theorem d_Sh_nextDart_26 : decode b_Sh_nextDart 26 = .ok (.getfield 18, 3) := by decide +kernel
theorem d_Sh_nextDart_29 : decode b_Sh_nextDart 29 = .ok (.iload 4, 2) := by decide +kernel
theorem d_Sh_nextDart_31 : decode b_Sh_nextDart 31 = .ok (.iaload, 1) := by decide +kernel
theorem d_Sh_nextDart_32 : decode b_Sh_nextDart 32 = .ok (.iload_n 3, 1) := by decide +kernel
theorem d_Sh_nextDart_33 : decode b_Sh_nextDart 33 = .ok (.if_icmp .ne 10, 3) := by decide +kernel
theorem d_Sh_nextDart_36 : decode b_Sh_nextDart 36 = .ok (.iconst 2, 1) := by decide +kernel
theorem d_Sh_nextDart_37 : decode b_Sh_nextDart 37 = .ok (.iload 4, 2) := by decide +kernel
theorem d_Sh_nextDart_39 : decode b_Sh_nextDart 39 = .ok (.imul, 1) := by decide +kernel
theorem d_Sh_nextDart_40 : decode b_Sh_nextDart 40 = .ok (.goto 9, 3) := by decide +kernel
theorem d_Sh_nextDart_43 : decode b_Sh_nextDart 43 = .ok (.iconst 2, 1) := by decide +kernel
theorem d_Sh_nextDart_44 : decode b_Sh_nextDart 44 = .ok (.iload 4, 2) := by decide +kernel
theorem d_Sh_nextDart_46 : decode b_Sh_nextDart 46 = .ok (.imul, 1) := by decide +kernel
theorem d_Sh_nextDart_47 : decode b_Sh_nextDart 47 = .ok (.iconst 1, 1) := by decide +kernel
theorem d_Sh_nextDart_48 : decode b_Sh_nextDart 48 = .ok (.iadd, 1) := by decide +kernel
theorem d_Sh_nextDart_49 : decode b_Sh_nextDart 49 = .ok (.ireturn, 1) := by decide +kernel
theorem d_Sh_nextEdge_0 : decode b_Sh_nextEdge 0 = .ok (.aload_n 0, 1) := by decide +kernel
theorem d_Sh_nextEdge_1 : decode b_Sh_nextEdge 1 = .ok (.getfield 24, 3) := by decide +kernel
theorem d_Sh_nextEdge_4 : decode b_Sh_nextEdge 4 = .ok (.aload_n 0, 1) := by decide +kernel
theorem d_Sh_nextEdge_5 : decode b_Sh_nextEdge 5 = .ok (.getfield 21, 3) := by decide +kernel
theorem d_Sh_nextEdge_8 : decode b_Sh_nextEdge 8 = .ok (.iload_n 1, 1) := by decide +kernel
theorem d_Sh_nextEdge_9 : decode b_Sh_nextEdge 9 = .ok (.iaload, 1) := by decide +kernel
theorem d_Sh_nextEdge_10 : decode b_Sh_nextEdge 10 = .ok (.iconst 2, 1) := by decide +kernel
theorem d_Sh_nextEdge_11 : decode b_Sh_nextEdge 11 = .ok (.ixor, 1) := by decide +kernel
theorem d_Sh_nextEdge_12 : decode b_Sh_nextEdge 12 = .ok (.iaload, 1) := by decide +kernel
theorem d_Sh_nextEdge_13 : decode b_Sh_nextEdge 13 = .ok (.ireturn, 1) := by decide +kernel
theorem d_Sh_pieceOfEdge_0 : decode b_Sh_pieceOfEdge 0 = .ok (.aload_n 0, 1) := by decide +kernel
theorem d_Sh_pieceOfEdge_1 : decode b_Sh_pieceOfEdge 1 = .ok (.getfield 33, 3) := by decide +kernel
theorem d_Sh_pieceOfEdge_4 : decode b_Sh_pieceOfEdge 4 = .ok (.aload_n 0, 1) := by decide +kernel
theorem d_Sh_pieceOfEdge_5 : decode b_Sh_pieceOfEdge 5 = .ok (.getfield 18, 3) := by decide +kernel
theorem d_Sh_pieceOfEdge_8 : decode b_Sh_pieceOfEdge 8 = .ok (.iload_n 1, 1) := by decide +kernel
theorem d_Sh_pieceOfEdge_9 : decode b_Sh_pieceOfEdge 9 = .ok (.iaload, 1) := by decide +kernel
theorem d_Sh_pieceOfEdge_10 : decode b_Sh_pieceOfEdge 10 = .ok (.iconst 2, 1) := by decide +kernel
theorem d_Sh_pieceOfEdge_11 : decode b_Sh_pieceOfEdge 11 = .ok (.ishr, 1) := by decide +kernel
theorem d_Sh_pieceOfEdge_12 : decode b_Sh_pieceOfEdge 12 = .ok (.iaload, 1) := by decide +kernel
theorem d_Sh_pieceOfEdge_13 : decode b_Sh_pieceOfEdge 13 = .ok (.ireturn, 1) := by decide +kernel
theorem d_Sh_placeOfKey_0 : decode b_Sh_placeOfKey 0 = .ok (.aload_n 0, 1) := by decide +kernel
theorem d_Sh_placeOfKey_1 : decode b_Sh_placeOfKey 1 = .ok (.getfield 9, 3) := by decide +kernel
theorem d_Sh_placeOfKey_4 : decode b_Sh_placeOfKey 4 = .ok (.iload_n 1, 1) := by decide +kernel
theorem d_Sh_placeOfKey_5 : decode b_Sh_placeOfKey 5 = .ok (.iaload, 1) := by decide +kernel
theorem d_Sh_placeOfKey_6 : decode b_Sh_placeOfKey 6 = .ok (.bipush 127, 2) := by decide +kernel
theorem d_Sh_placeOfKey_8 : decode b_Sh_placeOfKey 8 = .ok (.iand, 1) := by decide +kernel
theorem d_Sh_placeOfKey_9 : decode b_Sh_placeOfKey 9 = .ok (.ireturn, 1) := by decide +kernel
theorem d_Sh_seifertRounds_0 : decode b_Sh_seifertRounds 0 = .ok (.iconst 0, 1) := by decide +kernel
theorem d_Sh_seifertRounds_1 : decode b_Sh_seifertRounds 1 = .ok (.istore_n 2, 1) := by decide +kernel
theorem d_Sh_seifertRounds_2 : decode b_Sh_seifertRounds 2 = .ok (.aload_n 0, 1) := by decide +kernel
theorem d_Sh_seifertRounds_3 : decode b_Sh_seifertRounds 3 = .ok (.getfield 45, 3) := by decide +kernel
theorem d_Sh_seifertRounds_6 : decode b_Sh_seifertRounds 6 = .ok (.iconst 0, 1) := by decide +kernel
theorem d_Sh_seifertRounds_7 : decode b_Sh_seifertRounds 7 = .ok (.invokestatic 96, 3) := by decide +kernel
theorem d_Sh_seifertRounds_10 : decode b_Sh_seifertRounds 10 = .ok (.iconst 0, 1) := by decide +kernel
theorem d_Sh_seifertRounds_11 : decode b_Sh_seifertRounds 11 = .ok (.istore_n 3, 1) := by decide +kernel
theorem d_Sh_seifertRounds_12 : decode b_Sh_seifertRounds 12 = .ok (.iload_n 3, 1) := by decide +kernel
theorem d_Sh_seifertRounds_13 : decode b_Sh_seifertRounds 13 = .ok (.aload_n 0, 1) := by decide +kernel
theorem d_Sh_seifertRounds_14 : decode b_Sh_seifertRounds 14 = .ok (.getfield 48, 3) := by decide +kernel
theorem d_Sh_seifertRounds_17 : decode b_Sh_seifertRounds 17 = .ok (.if_icmp .ge 106, 3) := by decide +kernel
theorem d_Sh_seifertRounds_20 : decode b_Sh_seifertRounds 20 = .ok (.aload_n 0, 1) := by decide +kernel
theorem d_Sh_seifertRounds_21 : decode b_Sh_seifertRounds 21 = .ok (.getfield 45, 3) := by decide +kernel
theorem d_Sh_seifertRounds_24 : decode b_Sh_seifertRounds 24 = .ok (.iload_n 3, 1) := by decide +kernel
theorem d_Sh_seifertRounds_25 : decode b_Sh_seifertRounds 25 = .ok (.iaload, 1) := by decide +kernel
theorem d_Sh_seifertRounds_26 : decode b_Sh_seifertRounds 26 = .ok (.ifCond .ne 91, 3) := by decide +kernel
theorem d_Sh_seifertRounds_29 : decode b_Sh_seifertRounds 29 = .ok (.iload_n 3, 1) := by decide +kernel
theorem d_Sh_seifertRounds_30 : decode b_Sh_seifertRounds 30 = .ok (.istore 4, 2) := by decide +kernel
theorem d_Sh_seifertRounds_32 : decode b_Sh_seifertRounds 32 = .ok (.iconst 0, 1) := by decide +kernel
theorem d_Sh_seifertRounds_33 : decode b_Sh_seifertRounds 33 = .ok (.istore 5, 2) := by decide +kernel
theorem d_Sh_seifertRounds_35 : decode b_Sh_seifertRounds 35 = .ok (.iload 5, 2) := by decide +kernel
theorem d_Sh_seifertRounds_37 : decode b_Sh_seifertRounds 37 = .ok (.aload_n 0, 1) := by decide +kernel
theorem d_Sh_seifertRounds_38 : decode b_Sh_seifertRounds 38 = .ok (.getfield 48, 3) := by decide +kernel
theorem d_Sh_seifertRounds_41 : decode b_Sh_seifertRounds 41 = .ok (.if_icmp .ge 73, 3) := by decide +kernel
theorem d_Sh_seifertRounds_44 : decode b_Sh_seifertRounds 44 = .ok (.aload_n 0, 1) := by decide +kernel
theorem d_Sh_seifertRounds_45 : decode b_Sh_seifertRounds 45 = .ok (.getfield 45, 3) := by decide +kernel
theorem d_Sh_seifertRounds_48 : decode b_Sh_seifertRounds 48 = .ok (.iload 4, 2) := by decide +kernel
theorem d_Sh_seifertRounds_50 : decode b_Sh_seifertRounds 50 = .ok (.iaload, 1) := by decide +kernel
theorem d_Sh_seifertRounds_51 : decode b_Sh_seifertRounds 51 = .ok (.ifCond .ne 63, 3) := by decide +kernel
theorem d_Sh_seifertRounds_54 : decode b_Sh_seifertRounds 54 = .ok (.aload_n 0, 1) := by decide +kernel
theorem d_Sh_seifertRounds_55 : decode b_Sh_seifertRounds 55 = .ok (.getfield 45, 3) := by decide +kernel
theorem d_Sh_seifertRounds_58 : decode b_Sh_seifertRounds 58 = .ok (.iload 4, 2) := by decide +kernel
theorem d_Sh_seifertRounds_60 : decode b_Sh_seifertRounds 60 = .ok (.iconst 1, 1) := by decide +kernel
theorem d_Sh_seifertRounds_61 : decode b_Sh_seifertRounds 61 = .ok (.iastore, 1) := by decide +kernel
theorem d_Sh_seifertRounds_62 : decode b_Sh_seifertRounds 62 = .ok (.aload_n 0, 1) := by decide +kernel
theorem d_Sh_seifertRounds_63 : decode b_Sh_seifertRounds 63 = .ok (.getfield 21, 3) := by decide +kernel
theorem d_Sh_seifertRounds_66 : decode b_Sh_seifertRounds 66 = .ok (.iload 4, 2) := by decide +kernel
theorem d_Sh_seifertRounds_68 : decode b_Sh_seifertRounds 68 = .ok (.iaload, 1) := by decide +kernel
theorem d_Sh_seifertRounds_69 : decode b_Sh_seifertRounds 69 = .ok (.iconst 2, 1) := by decide +kernel
theorem d_Sh_seifertRounds_70 : decode b_Sh_seifertRounds 70 = .ok (.ishr, 1) := by decide +kernel
theorem d_Sh_seifertRounds_71 : decode b_Sh_seifertRounds 71 = .ok (.istore 6, 2) := by decide +kernel
theorem d_Sh_seifertRounds_73 : decode b_Sh_seifertRounds 73 = .ok (.aload_n 0, 1) := by decide +kernel
theorem d_Sh_seifertRounds_74 : decode b_Sh_seifertRounds 74 = .ok (.getfield 24, 3) := by decide +kernel
theorem d_Sh_seifertRounds_77 : decode b_Sh_seifertRounds 77 = .ok (.aload_n 0, 1) := by decide +kernel
theorem d_Sh_seifertRounds_78 : decode b_Sh_seifertRounds 78 = .ok (.getfield 21, 3) := by decide +kernel
theorem d_Sh_seifertRounds_81 : decode b_Sh_seifertRounds 81 = .ok (.iload 4, 2) := by decide +kernel
theorem d_Sh_seifertRounds_83 : decode b_Sh_seifertRounds 83 = .ok (.iaload, 1) := by decide +kernel
theorem d_Sh_seifertRounds_84 : decode b_Sh_seifertRounds 84 = .ok (.invokestatic 114, 3) := by decide +kernel
theorem d_Sh_seifertRounds_87 : decode b_Sh_seifertRounds 87 = .ok (.ifCond .eq 12, 3) := by decide +kernel
theorem d_Sh_seifertRounds_90 : decode b_Sh_seifertRounds 90 = .ok (.iconst 4, 1) := by decide +kernel
theorem d_Sh_seifertRounds_91 : decode b_Sh_seifertRounds 91 = .ok (.iload 6, 2) := by decide +kernel
theorem d_Sh_seifertRounds_93 : decode b_Sh_seifertRounds 93 = .ok (.imul, 1) := by decide +kernel
theorem d_Sh_seifertRounds_94 : decode b_Sh_seifertRounds 94 = .ok (.iconst 2, 1) := by decide +kernel
theorem d_Sh_seifertRounds_95 : decode b_Sh_seifertRounds 95 = .ok (.iadd, 1) := by decide +kernel
theorem d_Sh_seifertRounds_96 : decode b_Sh_seifertRounds 96 = .ok (.goto 9, 3) := by decide +kernel
theorem d_Sh_seifertRounds_99 : decode b_Sh_seifertRounds 99 = .ok (.aload_n 1, 1) := by decide +kernel
theorem d_Sh_seifertRounds_100 : decode b_Sh_seifertRounds 100 = .ok (.iload 6, 2) := by decide +kernel
theorem d_Sh_seifertRounds_102 : decode b_Sh_seifertRounds 102 = .ok (.invokevirtual 126, 3) := by decide +kernel
theorem d_Sh_seifertRounds_105 : decode b_Sh_seifertRounds 105 = .ok (.iaload, 1) := by decide +kernel
theorem d_Sh_seifertRounds_106 : decode b_Sh_seifertRounds 106 = .ok (.istore 4, 2) := by decide +kernel
theorem d_Sh_seifertRounds_108 : decode b_Sh_seifertRounds 108 = .ok (.iinc 5 1, 3) := by decide +kernel
theorem d_Sh_seifertRounds_111 : decode b_Sh_seifertRounds 111 = .ok (.goto (-76), 3) := by decide +kernel
theorem d_Sh_seifertRounds_114 : decode b_Sh_seifertRounds 114 = .ok (.iinc 2 1, 3) := by decide +kernel
theorem d_Sh_seifertRounds_117 : decode b_Sh_seifertRounds 117 = .ok (.iinc 3 1, 3) := by decide +kernel
theorem d_Sh_seifertRounds_120 : decode b_Sh_seifertRounds 120 = .ok (.goto (-108), 3) := by decide +kernel
theorem d_Sh_seifertRounds_123 : decode b_Sh_seifertRounds 123 = .ok (.iload_n 2, 1) := by decide +kernel
theorem d_Sh_seifertRounds_124 : decode b_Sh_seifertRounds 124 = .ok (.ireturn, 1) := by decide +kernel
theorem d_Sh_sortPlaces_0 : decode b_Sh_sortPlaces 0 = .ok (.iconst 0, 1) := by decide +kernel
theorem d_Sh_sortPlaces_1 : decode b_Sh_sortPlaces 1 = .ok (.istore_n 2, 1) := by decide +kernel
theorem d_Sh_sortPlaces_2 : decode b_Sh_sortPlaces 2 = .ok (.iload_n 2, 1) := by decide +kernel
theorem d_Sh_sortPlaces_3 : decode b_Sh_sortPlaces 3 = .ok (.iconst 4, 1) := by decide +kernel
theorem d_Sh_sortPlaces_4 : decode b_Sh_sortPlaces 4 = .ok (.aload_n 1, 1) := by decide +kernel
theorem d_Sh_sortPlaces_5 : decode b_Sh_sortPlaces 5 = .ok (.getfield 67, 3) := by decide +kernel
theorem d_Sh_sortPlaces_8 : decode b_Sh_sortPlaces 8 = .ok (.imul, 1) := by decide +kernel
theorem d_Sh_sortPlaces_9 : decode b_Sh_sortPlaces 9 = .ok (.if_icmp .ge 72, 3) := by decide +kernel
theorem d_Sh_sortPlaces_12 : decode b_Sh_sortPlaces 12 = .ok (.aload_n 1, 1) := by decide +kernel
theorem d_Sh_sortPlaces_13 : decode b_Sh_sortPlaces 13 = .ok (.getfield 72, 3) := by decide +kernel
theorem d_Sh_sortPlaces_16 : decode b_Sh_sortPlaces 16 = .ok (.iload_n 2, 1) := by decide +kernel
theorem d_Sh_sortPlaces_17 : decode b_Sh_sortPlaces 17 = .ok (.iaload, 1) := by decide +kernel
theorem d_Sh_sortPlaces_18 : decode b_Sh_sortPlaces 18 = .ok (.bipush 7, 2) := by decide +kernel
theorem d_Sh_sortPlaces_20 : decode b_Sh_sortPlaces 20 = .ok (.ishl, 1) := by decide +kernel
theorem d_Sh_sortPlaces_21 : decode b_Sh_sortPlaces 21 = .ok (.iload_n 2, 1) := by decide +kernel
theorem d_Sh_sortPlaces_22 : decode b_Sh_sortPlaces 22 = .ok (.ior, 1) := by decide +kernel
theorem d_Sh_sortPlaces_23 : decode b_Sh_sortPlaces 23 = .ok (.istore_n 3, 1) := by decide +kernel
theorem d_Sh_sortPlaces_24 : decode b_Sh_sortPlaces 24 = .ok (.iload_n 2, 1) := by decide +kernel
theorem d_Sh_sortPlaces_25 : decode b_Sh_sortPlaces 25 = .ok (.istore 4, 2) := by decide +kernel
theorem d_Sh_sortPlaces_27 : decode b_Sh_sortPlaces 27 = .ok (.iload 4, 2) := by decide +kernel
theorem d_Sh_sortPlaces_29 : decode b_Sh_sortPlaces 29 = .ok (.ifCond .le 38, 3) := by decide +kernel
theorem d_Sh_sortPlaces_32 : decode b_Sh_sortPlaces 32 = .ok (.aload_n 0, 1) := by decide +kernel
theorem d_Sh_sortPlaces_33 : decode b_Sh_sortPlaces 33 = .ok (.getfield 9, 3) := by decide +kernel
theorem d_Sh_sortPlaces_36 : decode b_Sh_sortPlaces 36 = .ok (.iload 4, 2) := by decide +kernel
theorem d_Sh_sortPlaces_38 : decode b_Sh_sortPlaces 38 = .ok (.iconst 1, 1) := by decide +kernel
theorem d_Sh_sortPlaces_39 : decode b_Sh_sortPlaces 39 = .ok (.isub, 1) := by decide +kernel
theorem d_Sh_sortPlaces_40 : decode b_Sh_sortPlaces 40 = .ok (.iaload, 1) := by decide +kernel
theorem d_Sh_sortPlaces_41 : decode b_Sh_sortPlaces 41 = .ok (.iload_n 3, 1) := by decide +kernel
theorem d_Sh_sortPlaces_42 : decode b_Sh_sortPlaces 42 = .ok (.if_icmp .le 25, 3) := by decide +kernel
theorem d_Sh_sortPlaces_45 : decode b_Sh_sortPlaces 45 = .ok (.aload_n 0, 1) := by decide +kernel
theorem d_Sh_sortPlaces_46 : decode b_Sh_sortPlaces 46 = .ok (.getfield 9, 3) := by decide +kernel
theorem d_Sh_sortPlaces_49 : decode b_Sh_sortPlaces 49 = .ok (.iload 4, 2) := by decide +kernel
theorem d_Sh_sortPlaces_51 : decode b_Sh_sortPlaces 51 = .ok (.aload_n 0, 1) := by decide +kernel
