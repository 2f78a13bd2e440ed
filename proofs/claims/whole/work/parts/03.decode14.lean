theorem d_Di_turnPlaces_58 : decode b_Di_turnPlaces 58 = .ok (.iconst 4, 1) := by decide +kernel
theorem d_Di_turnPlaces_59 : decode b_Di_turnPlaces 59 = .ok (.iload_n 1, 1) := by decide +kernel
theorem d_Di_turnPlaces_60 : decode b_Di_turnPlaces 60 = .ok (.imul, 1) := by decide +kernel
theorem d_Di_turnPlaces_61 : decode b_Di_turnPlaces 61 = .ok (.iconst 2, 1) := by decide +kernel
theorem d_Di_turnPlaces_62 : decode b_Di_turnPlaces 62 = .ok (.iadd, 1) := by decide +kernel
theorem d_Di_turnPlaces_63 : decode b_Di_turnPlaces 63 = .ok (.iaload, 1) := by decide +kernel
theorem d_Di_turnPlaces_64 : decode b_Di_turnPlaces 64 = .ok (.iastore, 1) := by decide +kernel
theorem d_Di_turnPlaces_65 : decode b_Di_turnPlaces 65 = .ok (.aload_n 0, 1) := by decide +kernel
theorem d_Di_turnPlaces_66 : decode b_Di_turnPlaces 66 = .ok (.getfield 15, 3) := by decide +kernel
theorem d_Di_turnPlaces_69 : decode b_Di_turnPlaces 69 = .ok (.iconst 4, 1) := by decide +kernel
theorem d_Di_turnPlaces_70 : decode b_Di_turnPlaces 70 = .ok (.iload_n 1, 1) := by decide +kernel
theorem d_Di_turnPlaces_71 : decode b_Di_turnPlaces 71 = .ok (.imul, 1) := by decide +kernel
theorem d_Di_turnPlaces_72 : decode b_Di_turnPlaces 72 = .ok (.iconst 2, 1) := by decide +kernel
theorem d_Di_turnPlaces_73 : decode b_Di_turnPlaces 73 = .ok (.iadd, 1) := by decide +kernel
theorem d_Di_turnPlaces_74 : decode b_Di_turnPlaces 74 = .ok (.aload_n 0, 1) := by decide +kernel
theorem d_Di_turnPlaces_75 : decode b_Di_turnPlaces 75 = .ok (.getfield 15, 3) := by decide +kernel
theorem d_Di_turnPlaces_78 : decode b_Di_turnPlaces 78 = .ok (.iconst 4, 1) := by decide +kernel
theorem d_Di_turnPlaces_79 : decode b_Di_turnPlaces 79 = .ok (.iload_n 1, 1) := by decide +kernel
theorem d_Di_turnPlaces_80 : decode b_Di_turnPlaces 80 = .ok (.imul, 1) := by decide +kernel
theorem d_Di_turnPlaces_81 : decode b_Di_turnPlaces 81 = .ok (.iconst 3, 1) := by decide +kernel
theorem d_Di_turnPlaces_82 : decode b_Di_turnPlaces 82 = .ok (.iadd, 1) := by decide +kernel
theorem d_Di_turnPlaces_83 : decode b_Di_turnPlaces 83 = .ok (.iaload, 1) := by decide +kernel
theorem d_Di_turnPlaces_84 : decode b_Di_turnPlaces 84 = .ok (.iastore, 1) := by decide +kernel
theorem d_Di_turnPlaces_85 : decode b_Di_turnPlaces 85 = .ok (.aload_n 0, 1) := by decide +kernel
theorem d_Di_turnPlaces_86 : decode b_Di_turnPlaces 86 = .ok (.getfield 15, 3) := by decide +kernel
theorem d_Di_turnPlaces_89 : decode b_Di_turnPlaces 89 = .ok (.iconst 4, 1) := by decide +kernel
theorem d_Di_turnPlaces_90 : decode b_Di_turnPlaces 90 = .ok (.iload_n 1, 1) := by decide +kernel
theorem d_Di_turnPlaces_91 : decode b_Di_turnPlaces 91 = .ok (.imul, 1) := by decide +kernel
theorem d_Di_turnPlaces_92 : decode b_Di_turnPlaces 92 = .ok (.iconst 3, 1) := by decide +kernel
theorem d_Di_turnPlaces_93 : decode b_Di_turnPlaces 93 = .ok (.iadd, 1) := by decide +kernel
theorem d_Di_turnPlaces_94 : decode b_Di_turnPlaces 94 = .ok (.iload 4, 2) := by decide +kernel
theorem d_Di_turnPlaces_96 : decode b_Di_turnPlaces 96 = .ok (.iastore, 1) := by decide +kernel
theorem d_Di_turnPlaces_97 : decode b_Di_turnPlaces 97 = .ok (.iinc 3 1, 3) := by decide +kernel
theorem d_Di_turnPlaces_100 : decode b_Di_turnPlaces 100 = .ok (.goto (-93), 3) := by decide +kernel
theorem d_Di_turnPlaces_0 : decode b_Di_turnPlaces 0 = .ok (.aload_n 0, 1) := by decide +kernel
theorem d_Di_turnPlaces_1 : decode b_Di_turnPlaces 1 = .ok (.iconst 0, 1) := by decide +kernel
theorem d_Di_turnPlaces_2 : decode b_Di_turnPlaces 2 = .ok (.putfield 25, 3) := by decide +kernel
theorem d_Di_turnPlaces_5 : decode b_Di_turnPlaces 5 = .ok (.iconst 0, 1) := by decide +kernel
theorem d_Di_turnPlaces_6 : decode b_Di_turnPlaces 6 = .ok (.istore_n 3, 1) := by decide +kernel
theorem d_Mo_reverse_117 : decode b_Mo_reverse 117 = .ok (.iinc 4 1, 3) := by decide +kernel
theorem d_Mo_reverse_120 : decode b_Mo_reverse 120 = .ok (.goto (-98), 3) := by decide +kernel
theorem d_Mo_reverse_95 : decode b_Mo_reverse 95 = .ok (.iload 5, 2) := by decide +kernel
theorem d_Mo_reverse_97 : decode b_Mo_reverse 97 = .ok (.iload 6, 2) := by decide +kernel
theorem d_Mo_reverse_99 : decode b_Mo_reverse 99 = .ok (.if_icmp .eq 18, 3) := by decide +kernel
theorem d_Mo_reverse_102 : decode b_Mo_reverse 102 = .ok (.aload_n 2, 1) := by decide +kernel
theorem d_Mo_reverse_103 : decode b_Mo_reverse 103 = .ok (.getfield 116, 3) := by decide +kernel
theorem d_Mo_reverse_106 : decode b_Mo_reverse 106 = .ok (.iload 4, 2) := by decide +kernel
theorem d_Mo_reverse_108 : decode b_Mo_reverse 108 = .ok (.aload_n 2, 1) := by decide +kernel
theorem d_Mo_reverse_109 : decode b_Mo_reverse 109 = .ok (.getfield 116, 3) := by decide +kernel
theorem d_Mo_reverse_112 : decode b_Mo_reverse 112 = .ok (.iload 4, 2) := by decide +kernel
theorem d_Mo_reverse_114 : decode b_Mo_reverse 114 = .ok (.iaload, 1) := by decide +kernel
theorem d_Mo_reverse_115 : decode b_Mo_reverse 115 = .ok (.ineg, 1) := by decide +kernel
theorem d_Mo_reverse_116 : decode b_Mo_reverse 116 = .ok (.iastore, 1) := by decide +kernel
theorem d_Mo_reverse_81 : decode b_Mo_reverse 81 = .ok (.istore 6, 2) := by decide +kernel
theorem d_Mo_reverse_83 : decode b_Mo_reverse 83 = .ok (.iload 5, 2) := by decide +kernel
theorem d_Mo_reverse_85 : decode b_Mo_reverse 85 = .ok (.ifCond .eq 10, 3) := by decide +kernel
theorem d_Mo_reverse_88 : decode b_Mo_reverse 88 = .ok (.aload_n 2, 1) := by decide +kernel
theorem d_Mo_reverse_89 : decode b_Mo_reverse 89 = .ok (.iload 4, 2) := by decide +kernel
theorem d_Mo_reverse_91 : decode b_Mo_reverse 91 = .ok (.iconst 2, 1) := by decide +kernel
theorem d_Mo_reverse_92 : decode b_Mo_reverse 92 = .ok (.invokevirtual 112, 3) := by decide +kernel
theorem d_Mo_reverse_54 : decode b_Mo_reverse 54 = .ok (.istore 5, 2) := by decide +kernel
theorem d_Mo_reverse_56 : decode b_Mo_reverse 56 = .ok (.aload_n 1, 1) := by decide +kernel
theorem d_Mo_reverse_57 : decode b_Mo_reverse 57 = .ok (.getfield 109, 3) := by decide +kernel
theorem d_Mo_reverse_60 : decode b_Mo_reverse 60 = .ok (.aload_n 1, 1) := by decide +kernel
theorem d_Mo_reverse_61 : decode b_Mo_reverse 61 = .ok (.getfield 69, 3) := by decide +kernel
theorem d_Mo_reverse_64 : decode b_Mo_reverse 64 = .ok (.iconst 4, 1) := by decide +kernel
theorem d_Mo_reverse_65 : decode b_Mo_reverse 65 = .ok (.iload 4, 2) := by decide +kernel
theorem d_Mo_reverse_67 : decode b_Mo_reverse 67 = .ok (.imul, 1) := by decide +kernel
theorem d_Mo_reverse_68 : decode b_Mo_reverse 68 = .ok (.iconst 1, 1) := by decide +kernel
theorem d_Mo_reverse_69 : decode b_Mo_reverse 69 = .ok (.iadd, 1) := by decide +kernel
theorem d_Mo_reverse_70 : decode b_Mo_reverse 70 = .ok (.iaload, 1) := by decide +kernel
theorem d_Mo_reverse_71 : decode b_Mo_reverse 71 = .ok (.iaload, 1) := by decide +kernel
theorem d_Mo_reverse_72 : decode b_Mo_reverse 72 = .ok (.iload_n 3, 1) := by decide +kernel
theorem d_Mo_reverse_73 : decode b_Mo_reverse 73 = .ok (.if_icmp .ne 7, 3) := by decide +kernel
theorem d_Mo_reverse_80 : decode b_Mo_reverse 80 = .ok (.iconst 0, 1) := by decide +kernel
theorem d_Mo_reverse_76 : decode b_Mo_reverse 76 = .ok (.iconst 1, 1) := by decide +kernel
theorem d_Mo_reverse_77 : decode b_Mo_reverse 77 = .ok (.goto 4, 3) := by decide +kernel
theorem d_Mo_reverse_22 : decode b_Mo_reverse 22 = .ok (.iload 4, 2) := by decide +kernel
theorem d_Mo_reverse_24 : decode b_Mo_reverse 24 = .ok (.aload_n 2, 1) := by decide +kernel
theorem d_Mo_reverse_25 : decode b_Mo_reverse 25 = .ok (.getfield 75, 3) := by decide +kernel
theorem d_Mo_reverse_28 : decode b_Mo_reverse 28 = .ok (.if_icmp .ge 95, 3) := by decide +kernel
theorem d_Mo_reverse_123 : decode b_Mo_reverse 123 = .ok (.iconst 1, 1) := by decide +kernel
theorem d_Mo_reverse_124 : decode b_Mo_reverse 124 = .ok (.ireturn, 1) := by decide +kernel
theorem d_Mo_reverse_31 : decode b_Mo_reverse 31 = .ok (.aload_n 1, 1) := by decide +kernel
theorem d_Mo_reverse_32 : decode b_Mo_reverse 32 = .ok (.getfield 109, 3) := by decide +kernel
theorem d_Mo_reverse_35 : decode b_Mo_reverse 35 = .ok (.aload_n 1, 1) := by decide +kernel
theorem d_Mo_reverse_36 : decode b_Mo_reverse 36 = .ok (.getfield 69, 3) := by decide +kernel
theorem d_Mo_reverse_39 : decode b_Mo_reverse 39 = .ok (.iconst 4, 1) := by decide +kernel
theorem d_Mo_reverse_40 : decode b_Mo_reverse 40 = .ok (.iload 4, 2) := by decide +kernel
theorem d_Mo_reverse_42 : decode b_Mo_reverse 42 = .ok (.imul, 1) := by decide +kernel
theorem d_Mo_reverse_43 : decode b_Mo_reverse 43 = .ok (.iaload, 1) := by decide +kernel
theorem d_Mo_reverse_44 : decode b_Mo_reverse 44 = .ok (.iaload, 1) := by decide +kernel
theorem d_Mo_reverse_45 : decode b_Mo_reverse 45 = .ok (.iload_n 3, 1) := by decide +kernel
theorem d_Mo_reverse_46 : decode b_Mo_reverse 46 = .ok (.if_icmp .ne 7, 3) := by decide +kernel
theorem d_Mo_reverse_53 : decode b_Mo_reverse 53 = .ok (.iconst 0, 1) := by decide +kernel
theorem d_Mo_reverse_49 : decode b_Mo_reverse 49 = .ok (.iconst 1, 1) := by decide +kernel
theorem d_Mo_reverse_50 : decode b_Mo_reverse 50 = .ok (.goto 4, 3) := by decide +kernel
theorem d_Mo_reverse_0 : decode b_Mo_reverse 0 = .ok (.iload_n 3, 1) := by decide +kernel
theorem d_Mo_reverse_1 : decode b_Mo_reverse 1 = .ok (.ifCond .lt 16, 3) := by decide +kernel
theorem d_Mo_reverse_17 : decode b_Mo_reverse 17 = .ok (.iconst 0, 1) := by decide +kernel
theorem d_Mo_reverse_18 : decode b_Mo_reverse 18 = .ok (.ireturn, 1) := by decide +kernel
theorem d_Mo_reverse_4 : decode b_Mo_reverse 4 = .ok (.iload_n 3, 1) := by decide +kernel
theorem d_Mo_reverse_5 : decode b_Mo_reverse 5 = .ok (.aload_n 1, 1) := by decide +kernel
theorem d_Mo_reverse_6 : decode b_Mo_reverse 6 = .ok (.getfield 106, 3) := by decide +kernel
theorem d_Mo_reverse_9 : decode b_Mo_reverse 9 = .ok (.aload_n 2, 1) := by decide +kernel
theorem d_Mo_reverse_10 : decode b_Mo_reverse 10 = .ok (.getfield 53, 3) := by decide +kernel
theorem d_Mo_reverse_13 : decode b_Mo_reverse 13 = .ok (.iadd, 1) := by decide +kernel
theorem d_Mo_reverse_14 : decode b_Mo_reverse 14 = .ok (.if_icmp .lt 5, 3) := by decide +kernel
theorem d_Mo_reverse_19 : decode b_Mo_reverse 19 = .ok (.iconst 0, 1) := by decide +kernel
theorem d_Mo_reverse_20 : decode b_Mo_reverse 20 = .ok (.istore 4, 2) := by decide +kernel
theorem d_Di_smooth_0 : decode b_Di_smooth 0 = .ok (.iload_n 1, 1) := by decide +kernel
theorem d_Di_smooth_1 : decode b_Di_smooth 1 = .ok (.ifCond .lt 11, 3) := by decide +kernel
theorem d_Di_smooth_12 : decode b_Di_smooth 12 = .ok (.iconst 0, 1) := by decide +kernel
theorem d_Di_smooth_13 : decode b_Di_smooth 13 = .ok (.ireturn, 1) := by decide +kernel
theorem d_Di_smooth_4 : decode b_Di_smooth 4 = .ok (.iload_n 1, 1) := by decide +kernel
theorem d_Di_smooth_5 : decode b_Di_smooth 5 = .ok (.aload_n 0, 1) := by decide +kernel
theorem d_Di_smooth_6 : decode b_Di_smooth 6 = .ok (.getfield 36, 3) := by decide +kernel
theorem d_Di_smooth_9 : decode b_Di_smooth 9 = .ok (.if_icmp .lt 5, 3) := by decide +kernel
theorem d_Di_smooth_14 : decode b_Di_smooth 14 = .ok (.aload_n 0, 1) := by decide +kernel
theorem d_Di_smooth_15 : decode b_Di_smooth 15 = .ok (.iload_n 1, 1) := by decide +kernel
theorem d_Di_smooth_16 : decode b_Di_smooth 16 = .ok (.invokevirtual 87, 3) := by decide +kernel
theorem d_Di_smooth_19 : decode b_Di_smooth 19 = .ok (.istore_n 2, 1) := by decide +kernel
theorem d_Di_smooth_20 : decode b_Di_smooth 20 = .ok (.aload_n 0, 1) := by decide +kernel
theorem d_Di_smooth_21 : decode b_Di_smooth 21 = .ok (.iconst 4, 1) := by decide +kernel
theorem d_Di_smooth_22 : decode b_Di_smooth 22 = .ok (.iload_n 2, 1) := by decide +kernel
theorem d_Di_smooth_23 : decode b_Di_smooth 23 = .ok (.imul, 1) := by decide +kernel
theorem d_Di_smooth_24 : decode b_Di_smooth 24 = .ok (.aload_n 0, 1) := by decide +kernel
theorem d_Di_smooth_25 : decode b_Di_smooth 25 = .ok (.iload_n 2, 1) := by decide +kernel
theorem d_Di_smooth_26 : decode b_Di_smooth 26 = .ok (.invokevirtual 81, 3) := by decide +kernel
theorem d_Di_smooth_29 : decode b_Di_smooth 29 = .ok (.invokevirtual 90, 3) := by decide +kernel
theorem d_Di_smooth_32 : decode b_Di_smooth 32 = .ok (.aload_n 0, 1) := by decide +kernel
theorem d_Di_smooth_33 : decode b_Di_smooth 33 = .ok (.aload_n 0, 1) := by decide +kernel
theorem d_Di_smooth_34 : decode b_Di_smooth 34 = .ok (.iload_n 2, 1) := by decide +kernel
theorem d_Di_smooth_35 : decode b_Di_smooth 35 = .ok (.invokevirtual 84, 3) := by decide +kernel
theorem d_Di_smooth_38 : decode b_Di_smooth 38 = .ok (.iconst 4, 1) := by decide +kernel
theorem d_Di_smooth_39 : decode b_Di_smooth 39 = .ok (.iload_n 2, 1) := by decide +kernel
theorem d_Di_smooth_40 : decode b_Di_smooth 40 = .ok (.imul, 1) := by decide +kernel
theorem d_Di_smooth_41 : decode b_Di_smooth 41 = .ok (.iconst 2, 1) := by decide +kernel
theorem d_Di_smooth_42 : decode b_Di_smooth 42 = .ok (.iadd, 1) := by decide +kernel
theorem d_Di_smooth_43 : decode b_Di_smooth 43 = .ok (.invokevirtual 90, 3) := by decide +kernel
theorem d_Di_smooth_46 : decode b_Di_smooth 46 = .ok (.aload_n 0, 1) := by decide +kernel
theorem d_Di_smooth_47 : decode b_Di_smooth 47 = .ok (.dup, 1) := by decide +kernel
theorem d_Di_smooth_48 : decode b_Di_smooth 48 = .ok (.getfield 36, 3) := by decide +kernel
theorem d_Di_smooth_51 : decode b_Di_smooth 51 = .ok (.iconst 1, 1) := by decide +kernel
theorem d_Di_smooth_52 : decode b_Di_smooth 52 = .ok (.isub, 1) := by decide +kernel
theorem d_Di_smooth_53 : decode b_Di_smooth 53 = .ok (.putfield 36, 3) := by decide +kernel
theorem d_Di_smooth_56 : decode b_Di_smooth 56 = .ok (.aload_n 0, 1) := by decide +kernel
theorem d_Di_smooth_57 : decode b_Di_smooth 57 = .ok (.getfield 61, 3) := by decide +kernel
theorem d_Di_smooth_60 : decode b_Di_smooth 60 = .ok (.bipush 20, 2) := by decide +kernel
theorem d_Di_smooth_62 : decode b_Di_smooth 62 = .ok (.if_icmp .gt 7, 3) := by decide +kernel
theorem d_Di_smooth_69 : decode b_Di_smooth 69 = .ok (.iconst 0, 1) := by decide +kernel
theorem d_Di_smooth_70 : decode b_Di_smooth 70 = .ok (.ireturn, 1) := by decide +kernel
theorem d_Di_smooth_65 : decode b_Di_smooth 65 = .ok (.iconst 1, 1) := by decide +kernel
theorem d_Di_smooth_66 : decode b_Di_smooth 66 = .ok (.goto 4, 3) := by decide +kernel
theorem d_Mo_renumber_103 : decode b_Mo_renumber 103 = .ok (.iinc 5 1, 3) := by decide +kernel
theorem d_Mo_renumber_106 : decode b_Mo_renumber 106 = .ok (.goto (-98), 3) := by decide +kernel
theorem d_Mo_renumber_100 : decode b_Mo_renumber 100 = .ok (.iinc 4 1, 3) := by decide +kernel
theorem d_Mo_renumber_57 : decode b_Mo_renumber 57 = .ok (.aload_n 2, 1) := by decide +kernel
theorem d_Mo_renumber_58 : decode b_Mo_renumber 58 = .ok (.getfield 72, 3) := by decide +kernel
theorem d_Mo_renumber_61 : decode b_Mo_renumber 61 = .ok (.aload_n 1, 1) := by decide +kernel
theorem d_Mo_renumber_62 : decode b_Mo_renumber 62 = .ok (.getfield 60, 3) := by decide +kernel
theorem d_Mo_renumber_65 : decode b_Mo_renumber 65 = .ok (.iload 6, 2) := by decide +kernel
theorem d_Mo_renumber_67 : decode b_Mo_renumber 67 = .ok (.iaload, 1) := by decide +kernel
theorem d_Mo_renumber_68 : decode b_Mo_renumber 68 = .ok (.iload_n 3, 1) := by decide +kernel
theorem d_Mo_renumber_69 : decode b_Mo_renumber 69 = .ok (.iastore, 1) := by decide +kernel
theorem d_Mo_renumber_70 : decode b_Mo_renumber 70 = .ok (.aload_n 2, 1) := by decide +kernel
theorem d_Mo_renumber_71 : decode b_Mo_renumber 71 = .ok (.getfield 72, 3) := by decide +kernel
theorem d_Mo_renumber_74 : decode b_Mo_renumber 74 = .ok (.aload_n 1, 1) := by decide +kernel
theorem d_Mo_renumber_75 : decode b_Mo_renumber 75 = .ok (.getfield 63, 3) := by decide +kernel
theorem d_Mo_renumber_78 : decode b_Mo_renumber 78 = .ok (.iload 6, 2) := by decide +kernel
theorem d_Mo_renumber_80 : decode b_Mo_renumber 80 = .ok (.iaload, 1) := by decide +kernel
theorem d_Mo_renumber_81 : decode b_Mo_renumber 81 = .ok (.iload_n 3, 1) := by decide +kernel
theorem d_Mo_renumber_82 : decode b_Mo_renumber 82 = .ok (.iastore, 1) := by decide +kernel
theorem d_Mo_renumber_83 : decode b_Mo_renumber 83 = .ok (.iinc 3 1, 3) := by decide +kernel
theorem d_Mo_renumber_86 : decode b_Mo_renumber 86 = .ok (.aload_n 1, 1) := by decide +kernel
theorem d_Mo_renumber_87 : decode b_Mo_renumber 87 = .ok (.iload 6, 2) := by decide +kernel
theorem d_Mo_renumber_89 : decode b_Mo_renumber 89 = .ok (.invokevirtual 122, 3) := by decide +kernel
theorem d_Mo_renumber_92 : decode b_Mo_renumber 92 = .ok (.istore 6, 2) := by decide +kernel
theorem d_Mo_renumber_94 : decode b_Mo_renumber 94 = .ok (.iinc 7 1, 3) := by decide +kernel
theorem d_Mo_renumber_97 : decode b_Mo_renumber 97 = .ok (.goto (-61), 3) := by decide +kernel
theorem d_Mo_renumber_36 : decode b_Mo_renumber 36 = .ok (.iload 7, 2) := by decide +kernel
theorem d_Mo_renumber_38 : decode b_Mo_renumber 38 = .ok (.aload_n 1, 1) := by decide +kernel
theorem d_Mo_renumber_39 : decode b_Mo_renumber 39 = .ok (.getfield 119, 3) := by decide +kernel
theorem d_Mo_renumber_42 : decode b_Mo_renumber 42 = .ok (.if_icmp .ge 58, 3) := by decide +kernel
theorem d_Mo_renumber_45 : decode b_Mo_renumber 45 = .ok (.iload 7, 2) := by decide +kernel
theorem d_Mo_renumber_47 : decode b_Mo_renumber 47 = .ok (.ifCond .eq 10, 3) := by decide +kernel
theorem d_Mo_renumber_50 : decode b_Mo_renumber 50 = .ok (.iload 6, 2) := by decide +kernel
theorem d_Mo_renumber_52 : decode b_Mo_renumber 52 = .ok (.iload 5, 2) := by decide +kernel
theorem d_Mo_renumber_54 : decode b_Mo_renumber 54 = .ok (.if_icmp .eq 46, 3) := by decide +kernel
theorem d_Mo_renumber_8 : decode b_Mo_renumber 8 = .ok (.iload 5, 2) := by decide +kernel
theorem d_Mo_renumber_10 : decode b_Mo_renumber 10 = .ok (.aload_n 1, 1) := by decide +kernel
theorem d_Mo_renumber_11 : decode b_Mo_renumber 11 = .ok (.getfield 119, 3) := by decide +kernel
theorem d_Mo_renumber_14 : decode b_Mo_renumber 14 = .ok (.if_icmp .ge 95, 3) := by decide +kernel
theorem d_Mo_renumber_109 : decode b_Mo_renumber 109 = .ok (.iconst 1, 1) := by decide +kernel
theorem d_Mo_renumber_110 : decode b_Mo_renumber 110 = .ok (.ireturn, 1) := by decide +kernel
theorem d_Mo_renumber_17 : decode b_Mo_renumber 17 = .ok (.aload_n 1, 1) := by decide +kernel
theorem d_Mo_renumber_18 : decode b_Mo_renumber 18 = .ok (.getfield 109, 3) := by decide +kernel
theorem d_Mo_renumber_21 : decode b_Mo_renumber 21 = .ok (.iload 5, 2) := by decide +kernel
theorem d_Mo_renumber_23 : decode b_Mo_renumber 23 = .ok (.iaload, 1) := by decide +kernel
theorem d_Mo_renumber_24 : decode b_Mo_renumber 24 = .ok (.iload 4, 2) := by decide +kernel
