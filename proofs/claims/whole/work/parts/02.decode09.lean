theorem d_Br_shiftCrossings_66 : decode b_Br_shiftCrossings 66 = .ok (.getfield 21, 3) := by decide +kernel
theorem d_Br_shiftCrossings_69 : decode b_Br_shiftCrossings 69 = .ok (.if_icmp .ge 64, 3) := by decide +kernel
theorem d_Br_shiftCrossings_72 : decode b_Br_shiftCrossings 72 = .ok (.aload_n 0, 1) := by decide +kernel
theorem d_Br_shiftCrossings_73 : decode b_Br_shiftCrossings 73 = .ok (.getfield 15, 3) := by decide +kernel
theorem d_Br_shiftCrossings_76 : decode b_Br_shiftCrossings 76 = .ok (.iload_n 2, 1) := by decide +kernel
theorem d_Br_shiftCrossings_77 : decode b_Br_shiftCrossings 77 = .ok (.iload 6, 2) := by decide +kernel
theorem d_Br_shiftCrossings_79 : decode b_Br_shiftCrossings 79 = .ok (.iadd, 1) := by decide +kernel
theorem d_Br_shiftCrossings_80 : decode b_Br_shiftCrossings 80 = .ok (.iaload, 1) := by decide +kernel
theorem d_Br_shiftCrossings_81 : decode b_Br_shiftCrossings 81 = .ok (.aload_n 0, 1) := by decide +kernel
theorem d_Br_shiftCrossings_82 : decode b_Br_shiftCrossings 82 = .ok (.getfield 15, 3) := by decide +kernel
theorem d_Br_shiftCrossings_85 : decode b_Br_shiftCrossings 85 = .ok (.iload_n 2, 1) := by decide +kernel
theorem d_Br_shiftCrossings_86 : decode b_Br_shiftCrossings 86 = .ok (.iload 6, 2) := by decide +kernel
theorem d_Br_shiftCrossings_88 : decode b_Br_shiftCrossings 88 = .ok (.iadd, 1) := by decide +kernel
theorem d_Br_shiftCrossings_89 : decode b_Br_shiftCrossings 89 = .ok (.iconst 1, 1) := by decide +kernel
theorem d_Br_shiftCrossings_90 : decode b_Br_shiftCrossings 90 = .ok (.iadd, 1) := by decide +kernel
theorem d_Br_shiftCrossings_91 : decode b_Br_shiftCrossings 91 = .ok (.iaload, 1) := by decide +kernel
theorem d_Br_shiftCrossings_92 : decode b_Br_shiftCrossings 92 = .ok (.if_icmp .le 35, 3) := by decide +kernel
theorem d_Br_shiftCrossings_95 : decode b_Br_shiftCrossings 95 = .ok (.aload_n 0, 1) := by decide +kernel
theorem d_Br_shiftCrossings_96 : decode b_Br_shiftCrossings 96 = .ok (.getfield 18, 3) := by decide +kernel
theorem d_Br_shiftCrossings_99 : decode b_Br_shiftCrossings 99 = .ok (.iload 6, 2) := by decide +kernel
theorem d_Br_shiftCrossings_101 : decode b_Br_shiftCrossings 101 = .ok (.iaload, 1) := by decide +kernel
theorem d_Br_shiftCrossings_102 : decode b_Br_shiftCrossings 102 = .ok (.aload_n 0, 1) := by decide +kernel
theorem d_Br_shiftCrossings_103 : decode b_Br_shiftCrossings 103 = .ok (.getfield 18, 3) := by decide +kernel
theorem d_Br_shiftCrossings_106 : decode b_Br_shiftCrossings 106 = .ok (.iload 6, 2) := by decide +kernel
theorem d_Br_shiftCrossings_108 : decode b_Br_shiftCrossings 108 = .ok (.iconst 1, 1) := by decide +kernel
theorem d_Br_shiftCrossings_109 : decode b_Br_shiftCrossings 109 = .ok (.iadd, 1) := by decide +kernel
theorem d_Br_shiftCrossings_110 : decode b_Br_shiftCrossings 110 = .ok (.iaload, 1) := by decide +kernel
theorem d_Br_shiftCrossings_111 : decode b_Br_shiftCrossings 111 = .ok (.if_icmp .ge 16, 3) := by decide +kernel
theorem d_Br_shiftCrossings_114 : decode b_Br_shiftCrossings 114 = .ok (.aload_n 0, 1) := by decide +kernel
theorem d_Br_shiftCrossings_115 : decode b_Br_shiftCrossings 115 = .ok (.iload_n 1, 1) := by decide +kernel
theorem d_Br_shiftCrossings_116 : decode b_Br_shiftCrossings 116 = .ok (.iload_n 2, 1) := by decide +kernel
theorem d_Br_shiftCrossings_117 : decode b_Br_shiftCrossings 117 = .ok (.iload 6, 2) := by decide +kernel
theorem d_Br_shiftCrossings_119 : decode b_Br_shiftCrossings 119 = .ok (.invokevirtual 101, 3) := by decide +kernel
theorem d_Br_shiftCrossings_122 : decode b_Br_shiftCrossings 122 = .ok (.iconst 1, 1) := by decide +kernel
theorem d_Br_shiftCrossings_123 : decode b_Br_shiftCrossings 123 = .ok (.istore 4, 2) := by decide +kernel
theorem d_Br_shiftCrossings_125 : decode b_Br_shiftCrossings 125 = .ok (.iconst 1, 1) := by decide +kernel
theorem d_Br_shiftCrossings_126 : decode b_Br_shiftCrossings 126 = .ok (.istore_n 3, 1) := by decide +kernel
theorem d_Br_shiftCrossings_127 : decode b_Br_shiftCrossings 127 = .ok (.iinc 6 1, 3) := by decide +kernel
theorem d_Br_shiftCrossings_130 : decode b_Br_shiftCrossings 130 = .ok (.goto (-69), 3) := by decide +kernel
theorem d_Br_shiftCrossings_133 : decode b_Br_shiftCrossings 133 = .ok (.iinc 5 1, 3) := by decide +kernel
theorem d_Br_shiftCrossings_136 : decode b_Br_shiftCrossings 136 = .ok (.goto (-93), 3) := by decide +kernel
theorem d_Br_shiftCrossings_139 : decode b_Br_shiftCrossings 139 = .ok (.iload_n 3, 1) := by decide +kernel
theorem d_Br_shiftCrossings_140 : decode b_Br_shiftCrossings 140 = .ok (.ireturn, 1) := by decide +kernel
theorem d_Br_simpleBraids_0 : decode b_Br_simpleBraids 0 = .ok (.aload_n 0, 1) := by decide +kernel
theorem d_Br_simpleBraids_1 : decode b_Br_simpleBraids 1 = .ok (.invokevirtual 63, 3) := by decide +kernel
theorem d_Br_simpleBraids_4 : decode b_Br_simpleBraids 4 = .ok (.aload_n 0, 1) := by decide +kernel
theorem d_Br_simpleBraids_5 : decode b_Br_simpleBraids 5 = .ok (.getfield 66, 3) := by decide +kernel
theorem d_Br_simpleBraids_8 : decode b_Br_simpleBraids 8 = .ok (.ireturn, 1) := by decide +kernel
theorem d_Di_init_0 : decode b_Di_init 0 = .ok (.aload_n 0, 1) := by decide +kernel
theorem d_Di_init_1 : decode b_Di_init 1 = .ok (.invokespecial 3, 3) := by decide +kernel
theorem d_Di_init_4 : decode b_Di_init 4 = .ok (.aload_n 0, 1) := by decide +kernel
theorem d_Di_init_5 : decode b_Di_init 5 = .ok (.bipush 20, 2) := by decide +kernel
theorem d_Di_init_7 : decode b_Di_init 7 = .ok (.newarray .int, 2) := by decide +kernel
theorem d_Di_init_9 : decode b_Di_init 9 = .ok (.putfield 9, 3) := by decide +kernel
theorem d_Di_init_12 : decode b_Di_init 12 = .ok (.aload_n 0, 1) := by decide +kernel
theorem d_Di_init_13 : decode b_Di_init 13 = .ok (.bipush 80, 2) := by decide +kernel
theorem d_Di_init_15 : decode b_Di_init 15 = .ok (.newarray .int, 2) := by decide +kernel
theorem d_Di_init_17 : decode b_Di_init 17 = .ok (.putfield 15, 3) := by decide +kernel
theorem d_Di_init_20 : decode b_Di_init 20 = .ok (.aload_n 0, 1) := by decide +kernel
theorem d_Di_init_21 : decode b_Di_init 21 = .ok (.new 18, 3) := by decide +kernel
theorem d_Di_init_24 : decode b_Di_init 24 = .ok (.dup, 1) := by decide +kernel
theorem d_Di_init_25 : decode b_Di_init 25 = .ok (.invokespecial 20, 3) := by decide +kernel
theorem d_Di_init_28 : decode b_Di_init 28 = .ok (.putfield 21, 3) := by decide +kernel
theorem d_Di_init_31 : decode b_Di_init 31 = .ok (.return_, 1) := by decide +kernel
theorem d_Di_addCrossing_0 : decode b_Di_addCrossing 0 = .ok (.aload_n 0, 1) := by decide +kernel
theorem d_Di_addCrossing_1 : decode b_Di_addCrossing 1 = .ok (.getfield 36, 3) := by decide +kernel
theorem d_Di_addCrossing_4 : decode b_Di_addCrossing 4 = .ok (.bipush 20, 2) := by decide +kernel
theorem d_Di_addCrossing_6 : decode b_Di_addCrossing 6 = .ok (.if_icmp .lt 4, 3) := by decide +kernel
theorem d_Di_addCrossing_9 : decode b_Di_addCrossing 9 = .ok (.return_, 1) := by decide +kernel
theorem d_Di_addCrossing_10 : decode b_Di_addCrossing 10 = .ok (.aload_n 0, 1) := by decide +kernel
theorem d_Di_addCrossing_11 : decode b_Di_addCrossing 11 = .ok (.getfield 36, 3) := by decide +kernel
theorem d_Di_addCrossing_14 : decode b_Di_addCrossing 14 = .ok (.istore 7, 2) := by decide +kernel
theorem d_Di_addCrossing_16 : decode b_Di_addCrossing 16 = .ok (.aload_n 0, 1) := by decide +kernel
theorem d_Di_addCrossing_17 : decode b_Di_addCrossing 17 = .ok (.dup, 1) := by decide +kernel
theorem d_Di_addCrossing_18 : decode b_Di_addCrossing 18 = .ok (.getfield 36, 3) := by decide +kernel
theorem d_Di_addCrossing_21 : decode b_Di_addCrossing 21 = .ok (.iconst 1, 1) := by decide +kernel
theorem d_Di_addCrossing_22 : decode b_Di_addCrossing 22 = .ok (.iadd, 1) := by decide +kernel
theorem d_Di_addCrossing_23 : decode b_Di_addCrossing 23 = .ok (.putfield 36, 3) := by decide +kernel
theorem d_Di_addCrossing_26 : decode b_Di_addCrossing 26 = .ok (.aload_n 0, 1) := by decide +kernel
theorem d_Di_addCrossing_27 : decode b_Di_addCrossing 27 = .ok (.iconst 0, 1) := by decide +kernel
theorem d_Di_addCrossing_28 : decode b_Di_addCrossing 28 = .ok (.putfield 25, 3) := by decide +kernel
theorem d_Di_addCrossing_31 : decode b_Di_addCrossing 31 = .ok (.aload_n 0, 1) := by decide +kernel
theorem d_Di_addCrossing_32 : decode b_Di_addCrossing 32 = .ok (.getfield 9, 3) := by decide +kernel
theorem d_Di_addCrossing_35 : decode b_Di_addCrossing 35 = .ok (.iload 7, 2) := by decide +kernel
theorem d_Di_addCrossing_37 : decode b_Di_addCrossing 37 = .ok (.iload_n 1, 1) := by decide +kernel
theorem d_Di_addCrossing_38 : decode b_Di_addCrossing 38 = .ok (.iastore, 1) := by decide +kernel
theorem d_Di_addCrossing_39 : decode b_Di_addCrossing 39 = .ok (.aload_n 0, 1) := by decide +kernel
theorem d_Di_addCrossing_40 : decode b_Di_addCrossing 40 = .ok (.getfield 15, 3) := by decide +kernel
theorem d_Di_addCrossing_43 : decode b_Di_addCrossing 43 = .ok (.iconst 4, 1) := by decide +kernel
theorem d_Di_addCrossing_44 : decode b_Di_addCrossing 44 = .ok (.iload 7, 2) := by decide +kernel
theorem d_Di_addCrossing_46 : decode b_Di_addCrossing 46 = .ok (.imul, 1) := by decide +kernel
theorem d_Di_addCrossing_47 : decode b_Di_addCrossing 47 = .ok (.iload_n 2, 1) := by decide +kernel
theorem d_Di_addCrossing_48 : decode b_Di_addCrossing 48 = .ok (.ifCond .eq 8, 3) := by decide +kernel
theorem d_Di_addCrossing_51 : decode b_Di_addCrossing 51 = .ok (.iload 5, 2) := by decide +kernel
theorem d_Di_addCrossing_53 : decode b_Di_addCrossing 53 = .ok (.goto 4, 3) := by decide +kernel
theorem d_Di_addCrossing_56 : decode b_Di_addCrossing 56 = .ok (.iload_n 3, 1) := by decide +kernel
theorem d_Di_addCrossing_57 : decode b_Di_addCrossing 57 = .ok (.iastore, 1) := by decide +kernel
theorem d_Di_addCrossing_58 : decode b_Di_addCrossing 58 = .ok (.aload_n 0, 1) := by decide +kernel
theorem d_Di_addCrossing_59 : decode b_Di_addCrossing 59 = .ok (.getfield 15, 3) := by decide +kernel
theorem d_Di_addCrossing_62 : decode b_Di_addCrossing 62 = .ok (.iconst 4, 1) := by decide +kernel
theorem d_Di_addCrossing_63 : decode b_Di_addCrossing 63 = .ok (.iload 7, 2) := by decide +kernel
theorem d_Di_addCrossing_65 : decode b_Di_addCrossing 65 = .ok (.imul, 1) := by decide +kernel
theorem d_Di_addCrossing_66 : decode b_Di_addCrossing 66 = .ok (.iconst 2, 1) := by decide +kernel
theorem d_Di_addCrossing_67 : decode b_Di_addCrossing 67 = .ok (.iadd, 1) := by decide +kernel
theorem d_Di_addCrossing_68 : decode b_Di_addCrossing 68 = .ok (.iload_n 2, 1) := by decide +kernel
theorem d_Di_addCrossing_69 : decode b_Di_addCrossing 69 = .ok (.ifCond .eq 8, 3) := by decide +kernel
theorem d_Di_addCrossing_72 : decode b_Di_addCrossing 72 = .ok (.iload 6, 2) := by decide +kernel
theorem d_Di_addCrossing_74 : decode b_Di_addCrossing 74 = .ok (.goto 5, 3) := by decide +kernel
theorem d_Di_addCrossing_77 : decode b_Di_addCrossing 77 = .ok (.iload 4, 2) := by decide +kernel
theorem d_Di_addCrossing_79 : decode b_Di_addCrossing 79 = .ok (.iastore, 1) := by decide +kernel
theorem d_Di_addCrossing_80 : decode b_Di_addCrossing 80 = .ok (.aload_n 0, 1) := by decide +kernel
theorem d_Di_addCrossing_81 : decode b_Di_addCrossing 81 = .ok (.getfield 15, 3) := by decide +kernel
theorem d_Di_addCrossing_84 : decode b_Di_addCrossing 84 = .ok (.aload_n 0, 1) := by decide +kernel
theorem d_Di_addCrossing_85 : decode b_Di_addCrossing 85 = .ok (.iload 7, 2) := by decide +kernel
theorem d_Di_addCrossing_87 : decode b_Di_addCrossing 87 = .ok (.invokevirtual 84, 3) := by decide +kernel
theorem d_Di_addCrossing_90 : decode b_Di_addCrossing 90 = .ok (.iload_n 2, 1) := by decide +kernel
theorem d_Di_addCrossing_91 : decode b_Di_addCrossing 91 = .ok (.ifCond .eq 7, 3) := by decide +kernel
theorem d_Di_addCrossing_94 : decode b_Di_addCrossing 94 = .ok (.iload_n 3, 1) := by decide +kernel
theorem d_Di_addCrossing_95 : decode b_Di_addCrossing 95 = .ok (.goto 5, 3) := by decide +kernel
theorem d_Di_addCrossing_98 : decode b_Di_addCrossing 98 = .ok (.iload 5, 2) := by decide +kernel
theorem d_Di_addCrossing_100 : decode b_Di_addCrossing 100 = .ok (.iastore, 1) := by decide +kernel
theorem d_Di_addCrossing_101 : decode b_Di_addCrossing 101 = .ok (.aload_n 0, 1) := by decide +kernel
theorem d_Di_addCrossing_102 : decode b_Di_addCrossing 102 = .ok (.getfield 15, 3) := by decide +kernel
theorem d_Di_addCrossing_105 : decode b_Di_addCrossing 105 = .ok (.aload_n 0, 1) := by decide +kernel
theorem d_Di_addCrossing_106 : decode b_Di_addCrossing 106 = .ok (.iload 7, 2) := by decide +kernel
theorem d_Di_addCrossing_108 : decode b_Di_addCrossing 108 = .ok (.invokevirtual 81, 3) := by decide +kernel
theorem d_Di_addCrossing_111 : decode b_Di_addCrossing 111 = .ok (.iload_n 2, 1) := by decide +kernel
theorem d_Di_addCrossing_112 : decode b_Di_addCrossing 112 = .ok (.ifCond .eq 8, 3) := by decide +kernel
theorem d_Di_addCrossing_115 : decode b_Di_addCrossing 115 = .ok (.iload 4, 2) := by decide +kernel
theorem d_Di_addCrossing_117 : decode b_Di_addCrossing 117 = .ok (.goto 5, 3) := by decide +kernel
theorem d_Di_addCrossing_120 : decode b_Di_addCrossing 120 = .ok (.iload 6, 2) := by decide +kernel
theorem d_Di_addCrossing_122 : decode b_Di_addCrossing 122 = .ok (.iastore, 1) := by decide +kernel
theorem d_Di_addCrossing_123 : decode b_Di_addCrossing 123 = .ok (.return_, 1) := by decide +kernel
theorem d_Di_change_0 : decode b_Di_change 0 = .ok (.iload_n 1, 1) := by decide +kernel
theorem d_Di_change_1 : decode b_Di_change 1 = .ok (.ifCond .lt 11, 3) := by decide +kernel
theorem d_Di_change_4 : decode b_Di_change 4 = .ok (.iload_n 1, 1) := by decide +kernel
theorem d_Di_change_5 : decode b_Di_change 5 = .ok (.aload_n 0, 1) := by decide +kernel
theorem d_Di_change_6 : decode b_Di_change 6 = .ok (.getfield 36, 3) := by decide +kernel
theorem d_Di_change_9 : decode b_Di_change 9 = .ok (.if_icmp .lt 5, 3) := by decide +kernel
theorem d_Di_change_12 : decode b_Di_change 12 = .ok (.iconst 0, 1) := by decide +kernel
theorem d_Di_change_13 : decode b_Di_change 13 = .ok (.ireturn, 1) := by decide +kernel
theorem d_Di_change_14 : decode b_Di_change 14 = .ok (.aload_n 0, 1) := by decide +kernel
theorem d_Di_change_15 : decode b_Di_change 15 = .ok (.iload_n 1, 1) := by decide +kernel
theorem d_Di_change_16 : decode b_Di_change 16 = .ok (.aload_n 0, 1) := by decide +kernel
theorem d_Di_change_17 : decode b_Di_change 17 = .ok (.iload_n 1, 1) := by decide +kernel
theorem d_Di_change_18 : decode b_Di_change 18 = .ok (.invokevirtual 84, 3) := by decide +kernel
theorem d_Di_change_21 : decode b_Di_change 21 = .ok (.iconst 3, 1) := by decide +kernel
theorem d_Di_change_22 : decode b_Di_change 22 = .ok (.iand, 1) := by decide +kernel
theorem d_Di_change_23 : decode b_Di_change 23 = .ok (.invokevirtual 97, 3) := by decide +kernel
theorem d_Di_change_26 : decode b_Di_change 26 = .ok (.aload_n 0, 1) := by decide +kernel
theorem d_Di_change_27 : decode b_Di_change 27 = .ok (.getfield 9, 3) := by decide +kernel
theorem d_Di_change_30 : decode b_Di_change 30 = .ok (.iload_n 1, 1) := by decide +kernel
theorem d_Di_change_31 : decode b_Di_change 31 = .ok (.aload_n 0, 1) := by decide +kernel
theorem d_Di_change_32 : decode b_Di_change 32 = .ok (.getfield 9, 3) := by decide +kernel
theorem d_Di_change_35 : decode b_Di_change 35 = .ok (.iload_n 1, 1) := by decide +kernel
theorem d_Di_change_36 : decode b_Di_change 36 = .ok (.iaload, 1) := by decide +kernel
theorem d_Di_change_37 : decode b_Di_change 37 = .ok (.ineg, 1) := by decide +kernel
theorem d_Di_change_38 : decode b_Di_change 38 = .ok (.iastore, 1) := by decide +kernel
theorem d_Di_change_39 : decode b_Di_change 39 = .ok (.iconst 1, 1) := by decide +kernel
theorem d_Di_change_40 : decode b_Di_change 40 = .ok (.ireturn, 1) := by decide +kernel
theorem d_Di_clear_0 : decode b_Di_clear 0 = .ok (.aload_n 0, 1) := by decide +kernel
theorem d_Di_clear_1 : decode b_Di_clear 1 = .ok (.iconst 0, 1) := by decide +kernel
theorem d_Di_clear_2 : decode b_Di_clear 2 = .ok (.putfield 36, 3) := by decide +kernel
theorem d_Di_clear_5 : decode b_Di_clear 5 = .ok (.aload_n 0, 1) := by decide +kernel
theorem d_Di_clear_6 : decode b_Di_clear 6 = .ok (.iconst 0, 1) := by decide +kernel
theorem d_Di_clear_7 : decode b_Di_clear 7 = .ok (.putfield 61, 3) := by decide +kernel
theorem d_Di_clear_10 : decode b_Di_clear 10 = .ok (.aload_n 0, 1) := by decide +kernel
theorem d_Di_clear_11 : decode b_Di_clear 11 = .ok (.iconst 0, 1) := by decide +kernel
theorem d_Di_clear_12 : decode b_Di_clear 12 = .ok (.putfield 25, 3) := by decide +kernel
theorem d_Di_clear_15 : decode b_Di_clear 15 = .ok (.return_, 1) := by decide +kernel
theorem d_Di_copy_0 : decode b_Di_copy 0 = .ok (.aload_n 0, 1) := by decide +kernel
theorem d_Di_copy_1 : decode b_Di_copy 1 = .ok (.aload_n 1, 1) := by decide +kernel
theorem d_Di_copy_2 : decode b_Di_copy 2 = .ok (.getfield 36, 3) := by decide +kernel
theorem d_Di_copy_5 : decode b_Di_copy 5 = .ok (.putfield 36, 3) := by decide +kernel
theorem d_Di_copy_8 : decode b_Di_copy 8 = .ok (.aload_n 0, 1) := by decide +kernel
theorem d_Di_copy_9 : decode b_Di_copy 9 = .ok (.aload_n 1, 1) := by decide +kernel
theorem d_Di_copy_10 : decode b_Di_copy 10 = .ok (.getfield 61, 3) := by decide +kernel
theorem d_Di_copy_13 : decode b_Di_copy 13 = .ok (.putfield 61, 3) := by decide +kernel
theorem d_Di_copy_16 : decode b_Di_copy 16 = .ok (.aload_n 0, 1) := by decide +kernel
theorem d_Di_copy_17 : decode b_Di_copy 17 = .ok (.iconst 0, 1) := by decide +kernel
theorem d_Di_copy_18 : decode b_Di_copy 18 = .ok (.putfield 25, 3) := by decide +kernel
theorem d_Di_copy_21 : decode b_Di_copy 21 = .ok (.aload_n 1, 1) := by decide +kernel
theorem d_Di_copy_22 : decode b_Di_copy 22 = .ok (.getfield 9, 3) := by decide +kernel
theorem d_Di_copy_25 : decode b_Di_copy 25 = .ok (.iconst 0, 1) := by decide +kernel
theorem d_Di_copy_26 : decode b_Di_copy 26 = .ok (.aload_n 0, 1) := by decide +kernel
theorem d_Di_copy_27 : decode b_Di_copy 27 = .ok (.getfield 9, 3) := by decide +kernel
theorem d_Di_copy_30 : decode b_Di_copy 30 = .ok (.iconst 0, 1) := by decide +kernel
theorem d_Di_copy_31 : decode b_Di_copy 31 = .ok (.aload_n 0, 1) := by decide +kernel
theorem d_Di_copy_32 : decode b_Di_copy 32 = .ok (.getfield 36, 3) := by decide +kernel
theorem d_Di_copy_35 : decode b_Di_copy 35 = .ok (.invokestatic 64, 3) := by decide +kernel
theorem d_Di_copy_38 : decode b_Di_copy 38 = .ok (.aload_n 1, 1) := by decide +kernel
theorem d_Di_copy_39 : decode b_Di_copy 39 = .ok (.getfield 15, 3) := by decide +kernel
theorem d_Di_copy_42 : decode b_Di_copy 42 = .ok (.iconst 0, 1) := by decide +kernel
theorem d_Di_copy_43 : decode b_Di_copy 43 = .ok (.aload_n 0, 1) := by decide +kernel
theorem d_Di_copy_44 : decode b_Di_copy 44 = .ok (.getfield 15, 3) := by decide +kernel
theorem d_Di_copy_47 : decode b_Di_copy 47 = .ok (.iconst 0, 1) := by decide +kernel
theorem d_Di_copy_48 : decode b_Di_copy 48 = .ok (.iconst 4, 1) := by decide +kernel
theorem d_Di_copy_49 : decode b_Di_copy 49 = .ok (.aload_n 0, 1) := by decide +kernel
theorem d_Di_copy_50 : decode b_Di_copy 50 = .ok (.getfield 36, 3) := by decide +kernel
theorem d_Di_copy_53 : decode b_Di_copy 53 = .ok (.imul, 1) := by decide +kernel
