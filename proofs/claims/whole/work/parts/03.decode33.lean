theorem d_Di_change_35 : decode b_Di_change 35 = .ok (.iload_n 1, 1) := by decide +kernel
theorem d_Di_change_36 : decode b_Di_change 36 = .ok (.iaload, 1) := by decide +kernel
theorem d_Di_change_37 : decode b_Di_change 37 = .ok (.ineg, 1) := by decide +kernel
theorem d_Di_change_38 : decode b_Di_change 38 = .ok (.iastore, 1) := by decide +kernel
theorem d_Di_change_39 : decode b_Di_change 39 = .ok (.iconst 1, 1) := by decide +kernel
theorem d_Di_change_40 : decode b_Di_change 40 = .ok (.ireturn, 1) := by decide +kernel
theorem d_En_leaveLine_0 : decode b_En_leaveLine 0 = .ok (.aload_n 0, 1) := by decide +kernel
theorem d_En_leaveLine_1 : decode b_En_leaveLine 1 = .ok (.getfield 27, 3) := by decide +kernel
theorem d_En_leaveLine_4 : decode b_En_leaveLine 4 = .ok (.invokevirtual 207, 3) := by decide +kernel
theorem d_En_leaveLine_7 : decode b_En_leaveLine 7 = .ok (.aload_n 0, 1) := by decide +kernel
theorem d_En_leaveLine_8 : decode b_En_leaveLine 8 = .ok (.dup, 1) := by decide +kernel
theorem d_En_leaveLine_9 : decode b_En_leaveLine 9 = .ok (.getfield 201, 3) := by decide +kernel
theorem d_En_leaveLine_12 : decode b_En_leaveLine 12 = .ok (.iconst 1, 1) := by decide +kernel
theorem d_En_leaveLine_13 : decode b_En_leaveLine 13 = .ok (.iadd, 1) := by decide +kernel
theorem d_En_leaveLine_14 : decode b_En_leaveLine 14 = .ok (.putfield 201, 3) := by decide +kernel
theorem d_En_leaveLine_17 : decode b_En_leaveLine 17 = .ok (.iload_n 1, 1) := by decide +kernel
theorem d_En_leaveLine_18 : decode b_En_leaveLine 18 = .ok (.bipush 16, 2) := by decide +kernel
theorem d_En_leaveLine_20 : decode b_En_leaveLine 20 = .ok (.if_icmp .lt 13, 3) := by decide +kernel
theorem d_En_leaveLine_33 : decode b_En_leaveLine 33 = .ok (.return_, 1) := by decide +kernel
theorem d_En_leaveLine_23 : decode b_En_leaveLine 23 = .ok (.aload_n 0, 1) := by decide +kernel
theorem d_En_leaveLine_24 : decode b_En_leaveLine 24 = .ok (.dup, 1) := by decide +kernel
theorem d_En_leaveLine_25 : decode b_En_leaveLine 25 = .ok (.getfield 204, 3) := by decide +kernel
theorem d_En_leaveLine_28 : decode b_En_leaveLine 28 = .ok (.iconst 1, 1) := by decide +kernel
theorem d_En_leaveLine_29 : decode b_En_leaveLine 29 = .ok (.iadd, 1) := by decide +kernel
theorem d_En_leaveLine_30 : decode b_En_leaveLine 30 = .ok (.putfield 204, 3) := by decide +kernel
theorem d_Br_appendInverseSwap_44 : decode b_Br_appendInverseSwap 44 = .ok (.iload_n 3, 1) := by decide +kernel
theorem d_Br_appendInverseSwap_45 : decode b_Br_appendInverseSwap 45 = .ok (.aload_n 0, 1) := by decide +kernel
theorem d_Br_appendInverseSwap_46 : decode b_Br_appendInverseSwap 46 = .ok (.getfield 21, 3) := by decide +kernel
theorem d_Br_appendInverseSwap_49 : decode b_Br_appendInverseSwap 49 = .ok (.if_icmp .ge 25, 3) := by decide +kernel
theorem d_Br_appendInverseSwap_74 : decode b_Br_appendInverseSwap 74 = .ok (.aload_n 0, 1) := by decide +kernel
theorem d_Br_appendInverseSwap_75 : decode b_Br_appendInverseSwap 75 = .ok (.getfield 15, 3) := by decide +kernel
theorem d_Br_appendInverseSwap_78 : decode b_Br_appendInverseSwap 78 = .ok (.iload_n 2, 1) := by decide +kernel
theorem d_Br_appendInverseSwap_79 : decode b_Br_appendInverseSwap 79 = .ok (.aload_n 0, 1) := by decide +kernel
theorem d_Br_appendInverseSwap_80 : decode b_Br_appendInverseSwap 80 = .ok (.getfield 21, 3) := by decide +kernel
theorem d_Br_appendInverseSwap_83 : decode b_Br_appendInverseSwap 83 = .ok (.iadd, 1) := by decide +kernel
theorem d_Br_appendInverseSwap_84 : decode b_Br_appendInverseSwap 84 = .ok (.iconst 1, 1) := by decide +kernel
theorem d_Br_appendInverseSwap_85 : decode b_Br_appendInverseSwap 85 = .ok (.isub, 1) := by decide +kernel
theorem d_Br_appendInverseSwap_86 : decode b_Br_appendInverseSwap 86 = .ok (.iload_n 1, 1) := by decide +kernel
theorem d_Br_appendInverseSwap_87 : decode b_Br_appendInverseSwap 87 = .ok (.isub, 1) := by decide +kernel
theorem d_Br_appendInverseSwap_88 : decode b_Br_appendInverseSwap 88 = .ok (.iload_n 1, 1) := by decide +kernel
theorem d_Br_appendInverseSwap_89 : decode b_Br_appendInverseSwap 89 = .ok (.iconst 1, 1) := by decide +kernel
theorem d_Br_appendInverseSwap_90 : decode b_Br_appendInverseSwap 90 = .ok (.iadd, 1) := by decide +kernel
theorem d_Br_appendInverseSwap_91 : decode b_Br_appendInverseSwap 91 = .ok (.iastore, 1) := by decide +kernel
theorem d_Br_appendInverseSwap_92 : decode b_Br_appendInverseSwap 92 = .ok (.aload_n 0, 1) := by decide +kernel
theorem d_Br_appendInverseSwap_93 : decode b_Br_appendInverseSwap 93 = .ok (.getfield 15, 3) := by decide +kernel
theorem d_Br_appendInverseSwap_96 : decode b_Br_appendInverseSwap 96 = .ok (.iload_n 2, 1) := by decide +kernel
theorem d_Br_appendInverseSwap_97 : decode b_Br_appendInverseSwap 97 = .ok (.aload_n 0, 1) := by decide +kernel
theorem d_Br_appendInverseSwap_98 : decode b_Br_appendInverseSwap 98 = .ok (.getfield 21, 3) := by decide +kernel
theorem d_Br_appendInverseSwap_101 : decode b_Br_appendInverseSwap 101 = .ok (.iadd, 1) := by decide +kernel
theorem d_Br_appendInverseSwap_102 : decode b_Br_appendInverseSwap 102 = .ok (.iconst 2, 1) := by decide +kernel
theorem d_Br_appendInverseSwap_103 : decode b_Br_appendInverseSwap 103 = .ok (.isub, 1) := by decide +kernel
theorem d_Br_appendInverseSwap_104 : decode b_Br_appendInverseSwap 104 = .ok (.iload_n 1, 1) := by decide +kernel
theorem d_Br_appendInverseSwap_105 : decode b_Br_appendInverseSwap 105 = .ok (.isub, 1) := by decide +kernel
theorem d_Br_appendInverseSwap_106 : decode b_Br_appendInverseSwap 106 = .ok (.iload_n 1, 1) := by decide +kernel
theorem d_Br_appendInverseSwap_107 : decode b_Br_appendInverseSwap 107 = .ok (.iastore, 1) := by decide +kernel
theorem d_Br_appendInverseSwap_108 : decode b_Br_appendInverseSwap 108 = .ok (.aload_n 0, 1) := by decide +kernel
theorem d_Br_appendInverseSwap_109 : decode b_Br_appendInverseSwap 109 = .ok (.dup, 1) := by decide +kernel
theorem d_Br_appendInverseSwap_110 : decode b_Br_appendInverseSwap 110 = .ok (.getfield 66, 3) := by decide +kernel
theorem d_Br_appendInverseSwap_113 : decode b_Br_appendInverseSwap 113 = .ok (.iconst 1, 1) := by decide +kernel
theorem d_Br_appendInverseSwap_114 : decode b_Br_appendInverseSwap 114 = .ok (.iadd, 1) := by decide +kernel
theorem d_Br_appendInverseSwap_115 : decode b_Br_appendInverseSwap 115 = .ok (.putfield 66, 3) := by decide +kernel
theorem d_Br_appendInverseSwap_118 : decode b_Br_appendInverseSwap 118 = .ok (.return_, 1) := by decide +kernel
theorem d_Br_appendInverseSwap_52 : decode b_Br_appendInverseSwap 52 = .ok (.aload_n 0, 1) := by decide +kernel
theorem d_Br_appendInverseSwap_53 : decode b_Br_appendInverseSwap 53 = .ok (.getfield 15, 3) := by decide +kernel
theorem d_Br_appendInverseSwap_56 : decode b_Br_appendInverseSwap 56 = .ok (.iload_n 2, 1) := by decide +kernel
theorem d_Br_appendInverseSwap_57 : decode b_Br_appendInverseSwap 57 = .ok (.iload_n 3, 1) := by decide +kernel
theorem d_Br_appendInverseSwap_58 : decode b_Br_appendInverseSwap 58 = .ok (.iadd, 1) := by decide +kernel
theorem d_Br_appendInverseSwap_59 : decode b_Br_appendInverseSwap 59 = .ok (.aload_n 0, 1) := by decide +kernel
theorem d_Br_appendInverseSwap_60 : decode b_Br_appendInverseSwap 60 = .ok (.getfield 21, 3) := by decide +kernel
theorem d_Br_appendInverseSwap_63 : decode b_Br_appendInverseSwap 63 = .ok (.iconst 1, 1) := by decide +kernel
theorem d_Br_appendInverseSwap_64 : decode b_Br_appendInverseSwap 64 = .ok (.isub, 1) := by decide +kernel
theorem d_Br_appendInverseSwap_65 : decode b_Br_appendInverseSwap 65 = .ok (.iload_n 3, 1) := by decide +kernel
theorem d_Br_appendInverseSwap_66 : decode b_Br_appendInverseSwap 66 = .ok (.isub, 1) := by decide +kernel
theorem d_Br_appendInverseSwap_67 : decode b_Br_appendInverseSwap 67 = .ok (.iastore, 1) := by decide +kernel
theorem d_Br_appendInverseSwap_68 : decode b_Br_appendInverseSwap 68 = .ok (.iinc 3 1, 3) := by decide +kernel
theorem d_Br_appendInverseSwap_71 : decode b_Br_appendInverseSwap 71 = .ok (.goto (-27), 3) := by decide +kernel
theorem d_Br_appendInverseSwap_2 : decode b_Br_appendInverseSwap 2 = .ok (.iload_n 2, 1) := by decide +kernel
theorem d_Br_appendInverseSwap_3 : decode b_Br_appendInverseSwap 3 = .ok (.aload_n 0, 1) := by decide +kernel
theorem d_Br_appendInverseSwap_4 : decode b_Br_appendInverseSwap 4 = .ok (.getfield 66, 3) := by decide +kernel
theorem d_Br_appendInverseSwap_7 : decode b_Br_appendInverseSwap 7 = .ok (.if_icmp .ge 17, 3) := by decide +kernel
theorem d_Br_appendInverseSwap_24 : decode b_Br_appendInverseSwap 24 = .ok (.aload_n 0, 1) := by decide +kernel
theorem d_Br_appendInverseSwap_25 : decode b_Br_appendInverseSwap 25 = .ok (.dup, 1) := by decide +kernel
theorem d_Br_appendInverseSwap_26 : decode b_Br_appendInverseSwap 26 = .ok (.getfield 69, 3) := by decide +kernel
theorem d_Br_appendInverseSwap_29 : decode b_Br_appendInverseSwap 29 = .ok (.iconst 1, 1) := by decide +kernel
theorem d_Br_appendInverseSwap_30 : decode b_Br_appendInverseSwap 30 = .ok (.isub, 1) := by decide +kernel
theorem d_Br_appendInverseSwap_31 : decode b_Br_appendInverseSwap 31 = .ok (.putfield 69, 3) := by decide +kernel
theorem d_Br_appendInverseSwap_34 : decode b_Br_appendInverseSwap 34 = .ok (.aload_n 0, 1) := by decide +kernel
theorem d_Br_appendInverseSwap_35 : decode b_Br_appendInverseSwap 35 = .ok (.getfield 66, 3) := by decide +kernel
theorem d_Br_appendInverseSwap_38 : decode b_Br_appendInverseSwap 38 = .ok (.bipush 8, 2) := by decide +kernel
theorem d_Br_appendInverseSwap_40 : decode b_Br_appendInverseSwap 40 = .ok (.imul, 1) := by decide +kernel
theorem d_Br_appendInverseSwap_41 : decode b_Br_appendInverseSwap 41 = .ok (.istore_n 2, 1) := by decide +kernel
theorem d_Br_appendInverseSwap_42 : decode b_Br_appendInverseSwap 42 = .ok (.iconst 0, 1) := by decide +kernel
theorem d_Br_appendInverseSwap_43 : decode b_Br_appendInverseSwap 43 = .ok (.istore_n 3, 1) := by decide +kernel
theorem d_Br_appendInverseSwap_10 : decode b_Br_appendInverseSwap 10 = .ok (.aload_n 0, 1) := by decide +kernel
theorem d_Br_appendInverseSwap_11 : decode b_Br_appendInverseSwap 11 = .ok (.iload_n 2, 1) := by decide +kernel
theorem d_Br_appendInverseSwap_12 : decode b_Br_appendInverseSwap 12 = .ok (.bipush 8, 2) := by decide +kernel
theorem d_Br_appendInverseSwap_14 : decode b_Br_appendInverseSwap 14 = .ok (.imul, 1) := by decide +kernel
theorem d_Br_appendInverseSwap_15 : decode b_Br_appendInverseSwap 15 = .ok (.invokevirtual 82, 3) := by decide +kernel
theorem d_Br_appendInverseSwap_18 : decode b_Br_appendInverseSwap 18 = .ok (.iinc 2 1, 3) := by decide +kernel
theorem d_Br_appendInverseSwap_21 : decode b_Br_appendInverseSwap 21 = .ok (.goto (-19), 3) := by decide +kernel
theorem d_Br_appendInverseSwap_0 : decode b_Br_appendInverseSwap 0 = .ok (.iconst 0, 1) := by decide +kernel
theorem d_Br_appendInverseSwap_1 : decode b_Br_appendInverseSwap 1 = .ok (.istore_n 2, 1) := by decide +kernel
theorem d_Br_shiftCrossings_127 : decode b_Br_shiftCrossings 127 = .ok (.iinc 6 1, 3) := by decide +kernel
theorem d_Br_shiftCrossings_130 : decode b_Br_shiftCrossings 130 = .ok (.goto (-69), 3) := by decide +kernel
theorem d_Br_shiftCrossings_61 : decode b_Br_shiftCrossings 61 = .ok (.iload 6, 2) := by decide +kernel
theorem d_Br_shiftCrossings_63 : decode b_Br_shiftCrossings 63 = .ok (.iconst 1, 1) := by decide +kernel
theorem d_Br_shiftCrossings_64 : decode b_Br_shiftCrossings 64 = .ok (.iadd, 1) := by decide +kernel
theorem d_Br_shiftCrossings_65 : decode b_Br_shiftCrossings 65 = .ok (.aload_n 0, 1) := by decide +kernel
theorem d_Br_shiftCrossings_66 : decode b_Br_shiftCrossings 66 = .ok (.getfield 21, 3) := by decide +kernel
theorem d_Br_shiftCrossings_69 : decode b_Br_shiftCrossings 69 = .ok (.if_icmp .ge 64, 3) := by decide +kernel
theorem d_Br_shiftCrossings_133 : decode b_Br_shiftCrossings 133 = .ok (.iinc 5 1, 3) := by decide +kernel
theorem d_Br_shiftCrossings_136 : decode b_Br_shiftCrossings 136 = .ok (.goto (-93), 3) := by decide +kernel
theorem d_Br_shiftCrossings_72 : decode b_Br_shiftCrossings 72 = .ok (.aload_n 0, 1) := by decide +kernel
theorem d_Br_shiftCrossings_73 : decode b_Br_shiftCrossings 73 = .ok (.getfield 15, 3) := by decide +kernel
theorem d_Br_shiftCrossings_76 : decode b_Br_shiftCrossings 76 = .ok (.iload_n 2, 1) := by decide +kernel
theorem d_Br_shiftCrossings_77 : decode b_Br_shiftCrossings 77 = .ok (.iload 6, 2) := by decide +kernel
theorem d_Br_shiftCrossings_79 : decode b_Br_shiftCrossings 79 = .ok (.iadd, 1) := by decide +kernel
theorem d_Br_shiftCrossings_80 : decode b_Br_shiftCrossings 80 = .ok (.iaload, 1) := by decide +kernel
theorem d_Br_shiftCrossings_81 : decode b_Br_shiftCrossings 81 = .ok (.aload_n 0, 1) := by decide +kernel
theorem d_Br_shiftCrossings_82 : decode b_Br_shiftCrossings 82 = .ok (.getfield 15, 3) := by decide +kernel
theorem d_Br_shiftCrossings_85 : decode b_Br_shiftCrossings 85 = .ok (.iload_n 2, 1) := by decide +kernel
theorem d_Br_shiftCrossings_86 : decode b_Br_shiftCrossings 86 = .ok (.iload 6, 2) := by decide +kernel
theorem d_Br_shiftCrossings_88 : decode b_Br_shiftCrossings 88 = .ok (.iadd, 1) := by decide +kernel
theorem d_Br_shiftCrossings_89 : decode b_Br_shiftCrossings 89 = .ok (.iconst 1, 1) := by decide +kernel
theorem d_Br_shiftCrossings_90 : decode b_Br_shiftCrossings 90 = .ok (.iadd, 1) := by decide +kernel
theorem d_Br_shiftCrossings_91 : decode b_Br_shiftCrossings 91 = .ok (.iaload, 1) := by decide +kernel
theorem d_Br_shiftCrossings_92 : decode b_Br_shiftCrossings 92 = .ok (.if_icmp .le 35, 3) := by decide +kernel
theorem d_Br_shiftCrossings_95 : decode b_Br_shiftCrossings 95 = .ok (.aload_n 0, 1) := by decide +kernel
theorem d_Br_shiftCrossings_96 : decode b_Br_shiftCrossings 96 = .ok (.getfield 18, 3) := by decide +kernel
theorem d_Br_shiftCrossings_99 : decode b_Br_shiftCrossings 99 = .ok (.iload 6, 2) := by decide +kernel
theorem d_Br_shiftCrossings_101 : decode b_Br_shiftCrossings 101 = .ok (.iaload, 1) := by decide +kernel
theorem d_Br_shiftCrossings_102 : decode b_Br_shiftCrossings 102 = .ok (.aload_n 0, 1) := by decide +kernel
theorem d_Br_shiftCrossings_103 : decode b_Br_shiftCrossings 103 = .ok (.getfield 18, 3) := by decide +kernel
theorem d_Br_shiftCrossings_106 : decode b_Br_shiftCrossings 106 = .ok (.iload 6, 2) := by decide +kernel
theorem d_Br_shiftCrossings_108 : decode b_Br_shiftCrossings 108 = .ok (.iconst 1, 1) := by decide +kernel
theorem d_Br_shiftCrossings_109 : decode b_Br_shiftCrossings 109 = .ok (.iadd, 1) := by decide +kernel
theorem d_Br_shiftCrossings_110 : decode b_Br_shiftCrossings 110 = .ok (.iaload, 1) := by decide +kernel
theorem d_Br_shiftCrossings_111 : decode b_Br_shiftCrossings 111 = .ok (.if_icmp .ge 16, 3) := by decide +kernel
theorem d_Br_shiftCrossings_114 : decode b_Br_shiftCrossings 114 = .ok (.aload_n 0, 1) := by decide +kernel
theorem d_Br_shiftCrossings_115 : decode b_Br_shiftCrossings 115 = .ok (.iload_n 1, 1) := by decide +kernel
theorem d_Br_shiftCrossings_116 : decode b_Br_shiftCrossings 116 = .ok (.iload_n 2, 1) := by decide +kernel
theorem d_Br_shiftCrossings_117 : decode b_Br_shiftCrossings 117 = .ok (.iload 6, 2) := by decide +kernel
theorem d_Br_shiftCrossings_119 : decode b_Br_shiftCrossings 119 = .ok (.invokevirtual 101, 3) := by decide +kernel
theorem d_Br_shiftCrossings_122 : decode b_Br_shiftCrossings 122 = .ok (.iconst 1, 1) := by decide +kernel
theorem d_Br_shiftCrossings_123 : decode b_Br_shiftCrossings 123 = .ok (.istore 4, 2) := by decide +kernel
theorem d_Br_shiftCrossings_125 : decode b_Br_shiftCrossings 125 = .ok (.iconst 1, 1) := by decide +kernel
theorem d_Br_shiftCrossings_126 : decode b_Br_shiftCrossings 126 = .ok (.istore_n 3, 1) := by decide +kernel
theorem d_Br_shiftCrossings_43 : decode b_Br_shiftCrossings 43 = .ok (.iload 5, 2) := by decide +kernel
theorem d_Br_shiftCrossings_45 : decode b_Br_shiftCrossings 45 = .ok (.bipush 64, 2) := by decide +kernel
theorem d_Br_shiftCrossings_47 : decode b_Br_shiftCrossings 47 = .ok (.if_icmp .ge 92, 3) := by decide +kernel
theorem d_Br_shiftCrossings_139 : decode b_Br_shiftCrossings 139 = .ok (.iload_n 3, 1) := by decide +kernel
theorem d_Br_shiftCrossings_140 : decode b_Br_shiftCrossings 140 = .ok (.ireturn, 1) := by decide +kernel
theorem d_Br_shiftCrossings_50 : decode b_Br_shiftCrossings 50 = .ok (.iload 4, 2) := by decide +kernel
theorem d_Br_shiftCrossings_52 : decode b_Br_shiftCrossings 52 = .ok (.ifCond .eq 87, 3) := by decide +kernel
theorem d_Br_shiftCrossings_55 : decode b_Br_shiftCrossings 55 = .ok (.iconst 0, 1) := by decide +kernel
theorem d_Br_shiftCrossings_56 : decode b_Br_shiftCrossings 56 = .ok (.istore 4, 2) := by decide +kernel
theorem d_Br_shiftCrossings_58 : decode b_Br_shiftCrossings 58 = .ok (.iconst 0, 1) := by decide +kernel
theorem d_Br_shiftCrossings_59 : decode b_Br_shiftCrossings 59 = .ok (.istore 6, 2) := by decide +kernel
theorem d_Br_shiftCrossings_7 : decode b_Br_shiftCrossings 7 = .ok (.iload_n 3, 1) := by decide +kernel
theorem d_Br_shiftCrossings_8 : decode b_Br_shiftCrossings 8 = .ok (.aload_n 0, 1) := by decide +kernel
theorem d_Br_shiftCrossings_9 : decode b_Br_shiftCrossings 9 = .ok (.getfield 21, 3) := by decide +kernel
theorem d_Br_shiftCrossings_12 : decode b_Br_shiftCrossings 12 = .ok (.if_icmp .ge 23, 3) := by decide +kernel
theorem d_Br_shiftCrossings_35 : decode b_Br_shiftCrossings 35 = .ok (.iconst 0, 1) := by decide +kernel
theorem d_Br_shiftCrossings_36 : decode b_Br_shiftCrossings 36 = .ok (.istore_n 3, 1) := by decide +kernel
theorem d_Br_shiftCrossings_37 : decode b_Br_shiftCrossings 37 = .ok (.iconst 1, 1) := by decide +kernel
theorem d_Br_shiftCrossings_38 : decode b_Br_shiftCrossings 38 = .ok (.istore 4, 2) := by decide +kernel
theorem d_Br_shiftCrossings_40 : decode b_Br_shiftCrossings 40 = .ok (.iconst 0, 1) := by decide +kernel
theorem d_Br_shiftCrossings_41 : decode b_Br_shiftCrossings 41 = .ok (.istore 5, 2) := by decide +kernel
theorem d_Br_shiftCrossings_15 : decode b_Br_shiftCrossings 15 = .ok (.aload_n 0, 1) := by decide +kernel
theorem d_Br_shiftCrossings_16 : decode b_Br_shiftCrossings 16 = .ok (.getfield 18, 3) := by decide +kernel
theorem d_Br_shiftCrossings_19 : decode b_Br_shiftCrossings 19 = .ok (.aload_n 0, 1) := by decide +kernel
theorem d_Br_shiftCrossings_20 : decode b_Br_shiftCrossings 20 = .ok (.getfield 15, 3) := by decide +kernel
theorem d_Br_shiftCrossings_23 : decode b_Br_shiftCrossings 23 = .ok (.iload_n 1, 1) := by decide +kernel
theorem d_Br_shiftCrossings_24 : decode b_Br_shiftCrossings 24 = .ok (.iload_n 3, 1) := by decide +kernel
theorem d_Br_shiftCrossings_25 : decode b_Br_shiftCrossings 25 = .ok (.iadd, 1) := by decide +kernel
theorem d_Br_shiftCrossings_26 : decode b_Br_shiftCrossings 26 = .ok (.iaload, 1) := by decide +kernel
theorem d_Br_shiftCrossings_27 : decode b_Br_shiftCrossings 27 = .ok (.iload_n 3, 1) := by decide +kernel
theorem d_Br_shiftCrossings_28 : decode b_Br_shiftCrossings 28 = .ok (.iastore, 1) := by decide +kernel
theorem d_Br_shiftCrossings_29 : decode b_Br_shiftCrossings 29 = .ok (.iinc 3 1, 3) := by decide +kernel
theorem d_Br_shiftCrossings_32 : decode b_Br_shiftCrossings 32 = .ok (.goto (-25), 3) := by decide +kernel
theorem d_Br_shiftCrossings_0 : decode b_Br_shiftCrossings 0 = .ok (.iload_n 1, 1) := by decide +kernel
theorem d_Br_shiftCrossings_1 : decode b_Br_shiftCrossings 1 = .ok (.bipush 8, 2) := by decide +kernel
theorem d_Br_shiftCrossings_3 : decode b_Br_shiftCrossings 3 = .ok (.iadd, 1) := by decide +kernel
theorem d_Br_shiftCrossings_4 : decode b_Br_shiftCrossings 4 = .ok (.istore_n 2, 1) := by decide +kernel
theorem d_Br_shiftCrossings_5 : decode b_Br_shiftCrossings 5 = .ok (.iconst 0, 1) := by decide +kernel
theorem d_Br_shiftCrossings_6 : decode b_Br_shiftCrossings 6 = .ok (.istore_n 3, 1) := by decide +kernel
theorem d_Md_look_254 : decode b_Md_look 254 = .ok (.aload_n 0, 1) := by decide +kernel
theorem d_Md_look_255 : decode b_Md_look 255 = .ok (.dup, 1) := by decide +kernel
theorem d_Md_look_256 : decode b_Md_look 256 = .ok (.getfield 132, 3) := by decide +kernel
theorem d_Md_look_259 : decode b_Md_look 259 = .ok (.iconst 1, 1) := by decide +kernel
theorem d_Md_look_260 : decode b_Md_look 260 = .ok (.iadd, 1) := by decide +kernel
theorem d_Md_look_261 : decode b_Md_look 261 = .ok (.putfield 132, 3) := by decide +kernel
theorem d_Md_look_264 : decode b_Md_look 264 = .ok (.goto (-67), 3) := by decide +kernel
theorem d_Md_look_231 : decode b_Md_look 231 = .ok (.aload_n 0, 1) := by decide +kernel
theorem d_Md_look_232 : decode b_Md_look 232 = .ok (.getfield 129, 3) := by decide +kernel
theorem d_Md_look_235 : decode b_Md_look 235 = .ok (.iconst 2, 1) := by decide +kernel
theorem d_Md_look_236 : decode b_Md_look 236 = .ok (.if_icmp .ne 31, 3) := by decide +kernel
theorem d_Md_look_267 : decode b_Md_look 267 = .ok (.return_, 1) := by decide +kernel
theorem d_Md_look_239 : decode b_Md_look 239 = .ok (.aload_n 0, 1) := by decide +kernel
theorem d_Md_look_240 : decode b_Md_look 240 = .ok (.getfield 16, 3) := by decide +kernel
