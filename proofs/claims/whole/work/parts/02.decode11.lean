theorem d_Di_setCode_14 : decode b_Di_setCode 14 = .ok (.istore 4, 2) := by decide +kernel
theorem d_Di_setCode_16 : decode b_Di_setCode 16 = .ok (.iload 4, 2) := by decide +kernel
theorem d_Di_setCode_18 : decode b_Di_setCode 18 = .ok (.iload_n 2, 1) := by decide +kernel
theorem d_Di_setCode_19 : decode b_Di_setCode 19 = .ok (.if_icmp .ge 106, 3) := by decide +kernel
theorem d_Di_setCode_22 : decode b_Di_setCode 22 = .ok (.iload 4, 2) := by decide +kernel
theorem d_Di_setCode_24 : decode b_Di_setCode 24 = .ok (.bipush 20, 2) := by decide +kernel
theorem d_Di_setCode_26 : decode b_Di_setCode 26 = .ok (.if_icmp .ge 99, 3) := by decide +kernel
theorem d_Di_setCode_29 : decode b_Di_setCode 29 = .ok (.aload_n 0, 1) := by decide +kernel
theorem d_Di_setCode_30 : decode b_Di_setCode 30 = .ok (.getfield 9, 3) := by decide +kernel
theorem d_Di_setCode_33 : decode b_Di_setCode 33 = .ok (.iload 4, 2) := by decide +kernel
theorem d_Di_setCode_35 : decode b_Di_setCode 35 = .ok (.aload_n 1, 1) := by decide +kernel
theorem d_Di_setCode_36 : decode b_Di_setCode 36 = .ok (.iconst 5, 1) := by decide +kernel
theorem d_Di_setCode_37 : decode b_Di_setCode 37 = .ok (.iload 4, 2) := by decide +kernel
theorem d_Di_setCode_39 : decode b_Di_setCode 39 = .ok (.imul, 1) := by decide +kernel
theorem d_Di_setCode_40 : decode b_Di_setCode 40 = .ok (.invokevirtual 77, 3) := by decide +kernel
theorem d_Di_setCode_43 : decode b_Di_setCode 43 = .ok (.iastore, 1) := by decide +kernel
theorem d_Di_setCode_44 : decode b_Di_setCode 44 = .ok (.iconst 0, 1) := by decide +kernel
theorem d_Di_setCode_45 : decode b_Di_setCode 45 = .ok (.istore 5, 2) := by decide +kernel
theorem d_Di_setCode_47 : decode b_Di_setCode 47 = .ok (.iload 5, 2) := by decide +kernel
theorem d_Di_setCode_49 : decode b_Di_setCode 49 = .ok (.iconst 4, 1) := by decide +kernel
theorem d_Di_setCode_50 : decode b_Di_setCode 50 = .ok (.if_icmp .ge 59, 3) := by decide +kernel
theorem d_Di_setCode_53 : decode b_Di_setCode 53 = .ok (.aload_n 0, 1) := by decide +kernel
theorem d_Di_setCode_54 : decode b_Di_setCode 54 = .ok (.getfield 15, 3) := by decide +kernel
theorem d_Di_setCode_57 : decode b_Di_setCode 57 = .ok (.iconst 4, 1) := by decide +kernel
theorem d_Di_setCode_58 : decode b_Di_setCode 58 = .ok (.iload 4, 2) := by decide +kernel
theorem d_Di_setCode_60 : decode b_Di_setCode 60 = .ok (.imul, 1) := by decide +kernel
theorem d_Di_setCode_61 : decode b_Di_setCode 61 = .ok (.iload 5, 2) := by decide +kernel
theorem d_Di_setCode_63 : decode b_Di_setCode 63 = .ok (.iadd, 1) := by decide +kernel
theorem d_Di_setCode_64 : decode b_Di_setCode 64 = .ok (.aload_n 1, 1) := by decide +kernel
theorem d_Di_setCode_65 : decode b_Di_setCode 65 = .ok (.iconst 5, 1) := by decide +kernel
theorem d_Di_setCode_66 : decode b_Di_setCode 66 = .ok (.iload 4, 2) := by decide +kernel
theorem d_Di_setCode_68 : decode b_Di_setCode 68 = .ok (.imul, 1) := by decide +kernel
theorem d_Di_setCode_69 : decode b_Di_setCode 69 = .ok (.iconst 1, 1) := by decide +kernel
theorem d_Di_setCode_70 : decode b_Di_setCode 70 = .ok (.iadd, 1) := by decide +kernel
theorem d_Di_setCode_71 : decode b_Di_setCode 71 = .ok (.iload 5, 2) := by decide +kernel
theorem d_Di_setCode_73 : decode b_Di_setCode 73 = .ok (.iadd, 1) := by decide +kernel
theorem d_Di_setCode_74 : decode b_Di_setCode 74 = .ok (.invokevirtual 77, 3) := by decide +kernel
theorem d_Di_setCode_77 : decode b_Di_setCode 77 = .ok (.iastore, 1) := by decide +kernel
theorem d_Di_setCode_78 : decode b_Di_setCode 78 = .ok (.iload_n 3, 1) := by decide +kernel
theorem d_Di_setCode_79 : decode b_Di_setCode 79 = .ok (.ifCond .eq 22, 3) := by decide +kernel
theorem d_Di_setCode_82 : decode b_Di_setCode 82 = .ok (.aload_n 0, 1) := by decide +kernel
theorem d_Di_setCode_83 : decode b_Di_setCode 83 = .ok (.getfield 15, 3) := by decide +kernel
theorem d_Di_setCode_86 : decode b_Di_setCode 86 = .ok (.iconst 4, 1) := by decide +kernel
theorem d_Di_setCode_87 : decode b_Di_setCode 87 = .ok (.iload 4, 2) := by decide +kernel
theorem d_Di_setCode_89 : decode b_Di_setCode 89 = .ok (.imul, 1) := by decide +kernel
theorem d_Di_setCode_90 : decode b_Di_setCode 90 = .ok (.iload 5, 2) := by decide +kernel
theorem d_Di_setCode_92 : decode b_Di_setCode 92 = .ok (.iadd, 1) := by decide +kernel
theorem d_Di_setCode_93 : decode b_Di_setCode 93 = .ok (.iaload, 1) := by decide +kernel
theorem d_Di_setCode_94 : decode b_Di_setCode 94 = .ok (.ifCond .eq 7, 3) := by decide +kernel
theorem d_Di_setCode_97 : decode b_Di_setCode 97 = .ok (.iconst 1, 1) := by decide +kernel
theorem d_Di_setCode_98 : decode b_Di_setCode 98 = .ok (.goto 4, 3) := by decide +kernel
theorem d_Di_setCode_101 : decode b_Di_setCode 101 = .ok (.iconst 0, 1) := by decide +kernel
theorem d_Di_setCode_102 : decode b_Di_setCode 102 = .ok (.istore_n 3, 1) := by decide +kernel
theorem d_Di_setCode_103 : decode b_Di_setCode 103 = .ok (.iinc 5 1, 3) := by decide +kernel
theorem d_Di_setCode_106 : decode b_Di_setCode 106 = .ok (.goto (-59), 3) := by decide +kernel
theorem d_Di_setCode_109 : decode b_Di_setCode 109 = .ok (.aload_n 0, 1) := by decide +kernel
theorem d_Di_setCode_110 : decode b_Di_setCode 110 = .ok (.dup, 1) := by decide +kernel
theorem d_Di_setCode_111 : decode b_Di_setCode 111 = .ok (.getfield 36, 3) := by decide +kernel
theorem d_Di_setCode_114 : decode b_Di_setCode 114 = .ok (.iconst 1, 1) := by decide +kernel
theorem d_Di_setCode_115 : decode b_Di_setCode 115 = .ok (.iadd, 1) := by decide +kernel
theorem d_Di_setCode_116 : decode b_Di_setCode 116 = .ok (.putfield 36, 3) := by decide +kernel
theorem d_Di_setCode_119 : decode b_Di_setCode 119 = .ok (.iinc 4 1, 3) := by decide +kernel
theorem d_Di_setCode_122 : decode b_Di_setCode 122 = .ok (.goto (-106), 3) := by decide +kernel
theorem d_Di_setCode_125 : decode b_Di_setCode 125 = .ok (.aload_n 0, 1) := by decide +kernel
theorem d_Di_setCode_126 : decode b_Di_setCode 126 = .ok (.aload_n 1, 1) := by decide +kernel
theorem d_Di_setCode_127 : decode b_Di_setCode 127 = .ok (.iconst 5, 1) := by decide +kernel
theorem d_Di_setCode_128 : decode b_Di_setCode 128 = .ok (.iload_n 2, 1) := by decide +kernel
theorem d_Di_setCode_129 : decode b_Di_setCode 129 = .ok (.imul, 1) := by decide +kernel
theorem d_Di_setCode_130 : decode b_Di_setCode 130 = .ok (.invokevirtual 77, 3) := by decide +kernel
theorem d_Di_setCode_133 : decode b_Di_setCode 133 = .ok (.putfield 61, 3) := by decide +kernel
theorem d_Di_setCode_136 : decode b_Di_setCode 136 = .ok (.iload_n 3, 1) := by decide +kernel
theorem d_Di_setCode_137 : decode b_Di_setCode 137 = .ok (.ifCond .eq 16, 3) := by decide +kernel
theorem d_Di_setCode_140 : decode b_Di_setCode 140 = .ok (.aload_n 0, 1) := by decide +kernel
theorem d_Di_setCode_141 : decode b_Di_setCode 141 = .ok (.getfield 61, 3) := by decide +kernel
theorem d_Di_setCode_144 : decode b_Di_setCode 144 = .ok (.bipush 20, 2) := by decide +kernel
theorem d_Di_setCode_146 : decode b_Di_setCode 146 = .ok (.if_icmp .gt 7, 3) := by decide +kernel
theorem d_Di_setCode_149 : decode b_Di_setCode 149 = .ok (.iconst 1, 1) := by decide +kernel
theorem d_Di_setCode_150 : decode b_Di_setCode 150 = .ok (.goto 4, 3) := by decide +kernel
theorem d_Di_setCode_153 : decode b_Di_setCode 153 = .ok (.iconst 0, 1) := by decide +kernel
theorem d_Di_setCode_154 : decode b_Di_setCode 154 = .ok (.ireturn, 1) := by decide +kernel
theorem d_Di_shape_0 : decode b_Di_shape 0 = .ok (.aload_n 0, 1) := by decide +kernel
theorem d_Di_shape_1 : decode b_Di_shape 1 = .ok (.getfield 25, 3) := by decide +kernel
theorem d_Di_shape_4 : decode b_Di_shape 4 = .ok (.ifCond .ne 86, 3) := by decide +kernel
theorem d_Di_shape_7 : decode b_Di_shape 7 = .ok (.aload_n 0, 1) := by decide +kernel
theorem d_Di_shape_8 : decode b_Di_shape 8 = .ok (.iconst 1, 1) := by decide +kernel
theorem d_Di_shape_9 : decode b_Di_shape 9 = .ok (.putfield 25, 3) := by decide +kernel
theorem d_Di_shape_12 : decode b_Di_shape 12 = .ok (.aload_n 0, 1) := by decide +kernel
theorem d_Di_shape_13 : decode b_Di_shape 13 = .ok (.getfield 21, 3) := by decide +kernel
theorem d_Di_shape_16 : decode b_Di_shape 16 = .ok (.invokevirtual 29, 3) := by decide +kernel
theorem d_Di_shape_19 : decode b_Di_shape 19 = .ok (.aload_n 0, 1) := by decide +kernel
theorem d_Di_shape_20 : decode b_Di_shape 20 = .ok (.getfield 21, 3) := by decide +kernel
theorem d_Di_shape_23 : decode b_Di_shape 23 = .ok (.aload_n 0, 1) := by decide +kernel
theorem d_Di_shape_24 : decode b_Di_shape 24 = .ok (.invokevirtual 32, 3) := by decide +kernel
theorem d_Di_shape_27 : decode b_Di_shape 27 = .ok (.aload_n 0, 1) := by decide +kernel
theorem d_Di_shape_28 : decode b_Di_shape 28 = .ok (.getfield 21, 3) := by decide +kernel
theorem d_Di_shape_31 : decode b_Di_shape 31 = .ok (.iconst 4, 1) := by decide +kernel
theorem d_Di_shape_32 : decode b_Di_shape 32 = .ok (.aload_n 0, 1) := by decide +kernel
theorem d_Di_shape_33 : decode b_Di_shape 33 = .ok (.getfield 36, 3) := by decide +kernel
theorem d_Di_shape_36 : decode b_Di_shape 36 = .ok (.imul, 1) := by decide +kernel
theorem d_Di_shape_37 : decode b_Di_shape 37 = .ok (.invokevirtual 40, 3) := by decide +kernel
theorem d_Di_shape_40 : decode b_Di_shape 40 = .ok (.ifCond .eq 50, 3) := by decide +kernel
theorem d_Di_shape_43 : decode b_Di_shape 43 = .ok (.aload_n 0, 1) := by decide +kernel
theorem d_Di_shape_44 : decode b_Di_shape 44 = .ok (.getfield 21, 3) := by decide +kernel
theorem d_Di_shape_47 : decode b_Di_shape 47 = .ok (.aload_n 0, 1) := by decide +kernel
theorem d_Di_shape_48 : decode b_Di_shape 48 = .ok (.invokevirtual 44, 3) := by decide +kernel
theorem d_Di_shape_51 : decode b_Di_shape 51 = .ok (.ifCond .eq 39, 3) := by decide +kernel
theorem d_Di_shape_54 : decode b_Di_shape 54 = .ok (.aload_n 0, 1) := by decide +kernel
theorem d_Di_shape_55 : decode b_Di_shape 55 = .ok (.getfield 21, 3) := by decide +kernel
theorem d_Di_shape_58 : decode b_Di_shape 58 = .ok (.aload_n 0, 1) := by decide +kernel
theorem d_Di_shape_59 : decode b_Di_shape 59 = .ok (.getfield 36, 3) := by decide +kernel
theorem d_Di_shape_62 : decode b_Di_shape 62 = .ok (.invokevirtual 48, 3) := by decide +kernel
theorem d_Di_shape_65 : decode b_Di_shape 65 = .ok (.aload_n 0, 1) := by decide +kernel
theorem d_Di_shape_66 : decode b_Di_shape 66 = .ok (.getfield 21, 3) := by decide +kernel
theorem d_Di_shape_69 : decode b_Di_shape 69 = .ok (.invokevirtual 52, 3) := by decide +kernel
theorem d_Di_shape_72 : decode b_Di_shape 72 = .ok (.aload_n 0, 1) := by decide +kernel
theorem d_Di_shape_73 : decode b_Di_shape 73 = .ok (.getfield 21, 3) := by decide +kernel
theorem d_Di_shape_76 : decode b_Di_shape 76 = .ok (.invokevirtual 55, 3) := by decide +kernel
theorem d_Di_shape_79 : decode b_Di_shape 79 = .ok (.aload_n 0, 1) := by decide +kernel
theorem d_Di_shape_80 : decode b_Di_shape 80 = .ok (.getfield 21, 3) := by decide +kernel
theorem d_Di_shape_83 : decode b_Di_shape 83 = .ok (.aload_n 0, 1) := by decide +kernel
theorem d_Di_shape_84 : decode b_Di_shape 84 = .ok (.getfield 36, 3) := by decide +kernel
theorem d_Di_shape_87 : decode b_Di_shape 87 = .ok (.invokevirtual 58, 3) := by decide +kernel
theorem d_Di_shape_90 : decode b_Di_shape 90 = .ok (.aload_n 0, 1) := by decide +kernel
theorem d_Di_shape_91 : decode b_Di_shape 91 = .ok (.getfield 21, 3) := by decide +kernel
theorem d_Di_shape_94 : decode b_Di_shape 94 = .ok (.areturn, 1) := by decide +kernel
theorem d_Di_smooth_0 : decode b_Di_smooth 0 = .ok (.iload_n 1, 1) := by decide +kernel
theorem d_Di_smooth_1 : decode b_Di_smooth 1 = .ok (.ifCond .lt 11, 3) := by decide +kernel
theorem d_Di_smooth_4 : decode b_Di_smooth 4 = .ok (.iload_n 1, 1) := by decide +kernel
theorem d_Di_smooth_5 : decode b_Di_smooth 5 = .ok (.aload_n 0, 1) := by decide +kernel
theorem d_Di_smooth_6 : decode b_Di_smooth 6 = .ok (.getfield 36, 3) := by decide +kernel
theorem d_Di_smooth_9 : decode b_Di_smooth 9 = .ok (.if_icmp .lt 5, 3) := by decide +kernel
theorem d_Di_smooth_12 : decode b_Di_smooth 12 = .ok (.iconst 0, 1) := by decide +kernel
theorem d_Di_smooth_13 : decode b_Di_smooth 13 = .ok (.ireturn, 1) := by decide +kernel
theorem d_Di_smooth_14 : decode b_Di_smooth 14 = .ok (.aload_n 0, 1) := by decide +kernel
theorem d_Di_smooth_15 : decode b_Di_smooth 15 = .ok (.iload_n 1, 1) := by decide +kernel
theorem d_Di_smooth_16 : decode b_Di_smooth 16 = .ok (.invokevirtual 87, 3) := by decide +kernel
theorem d_Di_smooth_19 : decode b_Di_smooth 19 = .ok (.istore_n 2, 1) := by decide +kernel
theorem d_Di_smooth_20 : decode b_Di_smooth 20 = .ok (.aload_n 0, 1) := by decide +kernel
theorem d_Di_smooth_21 : decode b_Di_smooth 21 = .ok (.iconst 4, 1) := by decide +kernel
theorem d_Di_smooth_22 : decode b_Di_smooth 22 = .ok (.iload_n 2, 1) := by decide +kernel
theorem d_Di_smooth_23 : decode b_Di_smooth 23 = .ok (.imul, 1) := by decide +kernel
theorem d_Di_smooth_24 : decode b_Di_smooth 24 = .ok (.aload_n 0, 1) := by decide +kernel
theorem d_Di_smooth_25 : decode b_Di_smooth 25 = .ok (.iload_n 2, 1) := by decide +kernel
theorem d_Di_smooth_26 : decode b_Di_smooth 26 = .ok (.invokevirtual 81, 3) := by decide +kernel
theorem d_Di_smooth_29 : decode b_Di_smooth 29 = .ok (.invokevirtual 90, 3) := by decide +kernel
theorem d_Di_smooth_32 : decode b_Di_smooth 32 = .ok (.aload_n 0, 1) := by decide +kernel
theorem d_Di_smooth_33 : decode b_Di_smooth 33 = .ok (.aload_n 0, 1) := by decide +kernel
theorem d_Di_smooth_34 : decode b_Di_smooth 34 = .ok (.iload_n 2, 1) := by decide +kernel
theorem d_Di_smooth_35 : decode b_Di_smooth 35 = .ok (.invokevirtual 84, 3) := by decide +kernel
theorem d_Di_smooth_38 : decode b_Di_smooth 38 = .ok (.iconst 4, 1) := by decide +kernel
theorem d_Di_smooth_39 : decode b_Di_smooth 39 = .ok (.iload_n 2, 1) := by decide +kernel
theorem d_Di_smooth_40 : decode b_Di_smooth 40 = .ok (.imul, 1) := by decide +kernel
theorem d_Di_smooth_41 : decode b_Di_smooth 41 = .ok (.iconst 2, 1) := by decide +kernel
theorem d_Di_smooth_42 : decode b_Di_smooth 42 = .ok (.iadd, 1) := by decide +kernel
theorem d_Di_smooth_43 : decode b_Di_smooth 43 = .ok (.invokevirtual 90, 3) := by decide +kernel
theorem d_Di_smooth_46 : decode b_Di_smooth 46 = .ok (.aload_n 0, 1) := by decide +kernel
theorem d_Di_smooth_47 : decode b_Di_smooth 47 = .ok (.dup, 1) := by decide +kernel
theorem d_Di_smooth_48 : decode b_Di_smooth 48 = .ok (.getfield 36, 3) := by decide +kernel
theorem d_Di_smooth_51 : decode b_Di_smooth 51 = .ok (.iconst 1, 1) := by decide +kernel
theorem d_Di_smooth_52 : decode b_Di_smooth 52 = .ok (.isub, 1) := by decide +kernel
theorem d_Di_smooth_53 : decode b_Di_smooth 53 = .ok (.putfield 36, 3) := by decide +kernel
theorem d_Di_smooth_56 : decode b_Di_smooth 56 = .ok (.aload_n 0, 1) := by decide +kernel
theorem d_Di_smooth_57 : decode b_Di_smooth 57 = .ok (.getfield 61, 3) := by decide +kernel
theorem d_Di_smooth_60 : decode b_Di_smooth 60 = .ok (.bipush 20, 2) := by decide +kernel
theorem d_Di_smooth_62 : decode b_Di_smooth 62 = .ok (.if_icmp .gt 7, 3) := by decide +kernel
theorem d_Di_smooth_65 : decode b_Di_smooth 65 = .ok (.iconst 1, 1) := by decide +kernel
theorem d_Di_smooth_66 : decode b_Di_smooth 66 = .ok (.goto 4, 3) := by decide +kernel
theorem d_Di_smooth_69 : decode b_Di_smooth 69 = .ok (.iconst 0, 1) := by decide +kernel
theorem d_Di_smooth_70 : decode b_Di_smooth 70 = .ok (.ireturn, 1) := by decide +kernel
theorem d_Di_sumOfSigns_0 : decode b_Di_sumOfSigns 0 = .ok (.iconst 0, 1) := by decide +kernel
theorem d_Di_sumOfSigns_1 : decode b_Di_sumOfSigns 1 = .ok (.istore_n 1, 1) := by decide +kernel
theorem d_Di_sumOfSigns_2 : decode b_Di_sumOfSigns 2 = .ok (.iconst 0, 1) := by decide +kernel
theorem d_Di_sumOfSigns_3 : decode b_Di_sumOfSigns 3 = .ok (.istore_n 2, 1) := by decide +kernel
theorem d_Di_sumOfSigns_4 : decode b_Di_sumOfSigns 4 = .ok (.iload_n 2, 1) := by decide +kernel
theorem d_Di_sumOfSigns_5 : decode b_Di_sumOfSigns 5 = .ok (.aload_n 0, 1) := by decide +kernel
theorem d_Di_sumOfSigns_6 : decode b_Di_sumOfSigns 6 = .ok (.getfield 36, 3) := by decide +kernel
theorem d_Di_sumOfSigns_9 : decode b_Di_sumOfSigns 9 = .ok (.if_icmp .ge 18, 3) := by decide +kernel
theorem d_Di_sumOfSigns_12 : decode b_Di_sumOfSigns 12 = .ok (.iload_n 1, 1) := by decide +kernel
theorem d_Di_sumOfSigns_13 : decode b_Di_sumOfSigns 13 = .ok (.aload_n 0, 1) := by decide +kernel
theorem d_Di_sumOfSigns_14 : decode b_Di_sumOfSigns 14 = .ok (.getfield 9, 3) := by decide +kernel
theorem d_Di_sumOfSigns_17 : decode b_Di_sumOfSigns 17 = .ok (.iload_n 2, 1) := by decide +kernel
theorem d_Di_sumOfSigns_18 : decode b_Di_sumOfSigns 18 = .ok (.iaload, 1) := by decide +kernel
theorem d_Di_sumOfSigns_19 : decode b_Di_sumOfSigns 19 = .ok (.iadd, 1) := by decide +kernel
theorem d_Di_sumOfSigns_20 : decode b_Di_sumOfSigns 20 = .ok (.istore_n 1, 1) := by decide +kernel
theorem d_Di_sumOfSigns_21 : decode b_Di_sumOfSigns 21 = .ok (.iinc 2 1, 3) := by decide +kernel
theorem d_Di_sumOfSigns_24 : decode b_Di_sumOfSigns 24 = .ok (.goto (-20), 3) := by decide +kernel
theorem d_Di_sumOfSigns_27 : decode b_Di_sumOfSigns 27 = .ok (.iload_n 1, 1) := by decide +kernel
theorem d_Di_sumOfSigns_28 : decode b_Di_sumOfSigns 28 = .ok (.ireturn, 1) := by decide +kernel
theorem d_Di_turnPlaces_0 : decode b_Di_turnPlaces 0 = .ok (.aload_n 0, 1) := by decide +kernel
theorem d_Di_turnPlaces_1 : decode b_Di_turnPlaces 1 = .ok (.iconst 0, 1) := by decide +kernel
theorem d_Di_turnPlaces_2 : decode b_Di_turnPlaces 2 = .ok (.putfield 25, 3) := by decide +kernel
theorem d_Di_turnPlaces_5 : decode b_Di_turnPlaces 5 = .ok (.iconst 0, 1) := by decide +kernel
theorem d_Di_turnPlaces_6 : decode b_Di_turnPlaces 6 = .ok (.istore_n 3, 1) := by decide +kernel
theorem d_Di_turnPlaces_7 : decode b_Di_turnPlaces 7 = .ok (.iload_n 3, 1) := by decide +kernel
theorem d_Di_turnPlaces_8 : decode b_Di_turnPlaces 8 = .ok (.iload_n 2, 1) := by decide +kernel
theorem d_Di_turnPlaces_9 : decode b_Di_turnPlaces 9 = .ok (.if_icmp .ge 94, 3) := by decide +kernel
theorem d_Di_turnPlaces_12 : decode b_Di_turnPlaces 12 = .ok (.iload_n 3, 1) := by decide +kernel
theorem d_Di_turnPlaces_13 : decode b_Di_turnPlaces 13 = .ok (.iconst 4, 1) := by decide +kernel
theorem d_Di_turnPlaces_14 : decode b_Di_turnPlaces 14 = .ok (.if_icmp .ge 89, 3) := by decide +kernel
theorem d_Di_turnPlaces_17 : decode b_Di_turnPlaces 17 = .ok (.aload_n 0, 1) := by decide +kernel
