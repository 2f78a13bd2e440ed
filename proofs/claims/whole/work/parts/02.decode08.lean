theorem d_Br_moveSwap_73 : decode b_Br_moveSwap 73 = .ok (.iload_n 3, 1) := by decide +kernel
theorem d_Br_moveSwap_74 : decode b_Br_moveSwap 74 = .ok (.iadd, 1) := by decide +kernel
theorem d_Br_moveSwap_75 : decode b_Br_moveSwap 75 = .ok (.aload_n 0, 1) := by decide +kernel
theorem d_Br_moveSwap_76 : decode b_Br_moveSwap 76 = .ok (.getfield 15, 3) := by decide +kernel
theorem d_Br_moveSwap_79 : decode b_Br_moveSwap 79 = .ok (.iload_n 2, 1) := by decide +kernel
theorem d_Br_moveSwap_80 : decode b_Br_moveSwap 80 = .ok (.iload_n 3, 1) := by decide +kernel
theorem d_Br_moveSwap_81 : decode b_Br_moveSwap 81 = .ok (.iadd, 1) := by decide +kernel
theorem d_Br_moveSwap_82 : decode b_Br_moveSwap 82 = .ok (.iconst 1, 1) := by decide +kernel
theorem d_Br_moveSwap_83 : decode b_Br_moveSwap 83 = .ok (.iadd, 1) := by decide +kernel
theorem d_Br_moveSwap_84 : decode b_Br_moveSwap 84 = .ok (.iaload, 1) := by decide +kernel
theorem d_Br_moveSwap_85 : decode b_Br_moveSwap 85 = .ok (.iastore, 1) := by decide +kernel
theorem d_Br_moveSwap_86 : decode b_Br_moveSwap 86 = .ok (.aload_n 0, 1) := by decide +kernel
theorem d_Br_moveSwap_87 : decode b_Br_moveSwap 87 = .ok (.getfield 15, 3) := by decide +kernel
theorem d_Br_moveSwap_90 : decode b_Br_moveSwap 90 = .ok (.iload_n 2, 1) := by decide +kernel
theorem d_Br_moveSwap_91 : decode b_Br_moveSwap 91 = .ok (.iload_n 3, 1) := by decide +kernel
theorem d_Br_moveSwap_92 : decode b_Br_moveSwap 92 = .ok (.iadd, 1) := by decide +kernel
theorem d_Br_moveSwap_93 : decode b_Br_moveSwap 93 = .ok (.iconst 1, 1) := by decide +kernel
theorem d_Br_moveSwap_94 : decode b_Br_moveSwap 94 = .ok (.iadd, 1) := by decide +kernel
theorem d_Br_moveSwap_95 : decode b_Br_moveSwap 95 = .ok (.iload 6, 2) := by decide +kernel
theorem d_Br_moveSwap_97 : decode b_Br_moveSwap 97 = .ok (.iastore, 1) := by decide +kernel
theorem d_Br_moveSwap_98 : decode b_Br_moveSwap 98 = .ok (.return_, 1) := by decide +kernel
theorem d_Br_setWord_0 : decode b_Br_setWord 0 = .ok (.aload_n 1, 1) := by decide +kernel
theorem d_Br_setWord_1 : decode b_Br_setWord 1 = .ok (.iconst 0, 1) := by decide +kernel
theorem d_Br_setWord_2 : decode b_Br_setWord 2 = .ok (.invokevirtual 25, 3) := by decide +kernel
theorem d_Br_setWord_5 : decode b_Br_setWord 5 = .ok (.istore_n 2, 1) := by decide +kernel
theorem d_Br_setWord_6 : decode b_Br_setWord 6 = .ok (.aload_n 1, 1) := by decide +kernel
theorem d_Br_setWord_7 : decode b_Br_setWord 7 = .ok (.invokevirtual 31, 3) := by decide +kernel
theorem d_Br_setWord_10 : decode b_Br_setWord 10 = .ok (.iconst 1, 1) := by decide +kernel
theorem d_Br_setWord_11 : decode b_Br_setWord 11 = .ok (.isub, 1) := by decide +kernel
theorem d_Br_setWord_12 : decode b_Br_setWord 12 = .ok (.istore_n 3, 1) := by decide +kernel
theorem d_Br_setWord_13 : decode b_Br_setWord 13 = .ok (.iload_n 2, 1) := by decide +kernel
theorem d_Br_setWord_14 : decode b_Br_setWord 14 = .ok (.iconst 1, 1) := by decide +kernel
theorem d_Br_setWord_15 : decode b_Br_setWord 15 = .ok (.if_icmp .lt 15, 3) := by decide +kernel
theorem d_Br_setWord_18 : decode b_Br_setWord 18 = .ok (.iload_n 2, 1) := by decide +kernel
theorem d_Br_setWord_19 : decode b_Br_setWord 19 = .ok (.bipush 8, 2) := by decide +kernel
theorem d_Br_setWord_21 : decode b_Br_setWord 21 = .ok (.if_icmp .gt 9, 3) := by decide +kernel
theorem d_Br_setWord_24 : decode b_Br_setWord 24 = .ok (.iload_n 3, 1) := by decide +kernel
theorem d_Br_setWord_25 : decode b_Br_setWord 25 = .ok (.bipush 20, 2) := by decide +kernel
theorem d_Br_setWord_27 : decode b_Br_setWord 27 = .ok (.if_icmp .le 5, 3) := by decide +kernel
theorem d_Br_setWord_30 : decode b_Br_setWord 30 = .ok (.iconst 0, 1) := by decide +kernel
theorem d_Br_setWord_31 : decode b_Br_setWord 31 = .ok (.ireturn, 1) := by decide +kernel
theorem d_Br_setWord_32 : decode b_Br_setWord 32 = .ok (.iconst 0, 1) := by decide +kernel
theorem d_Br_setWord_33 : decode b_Br_setWord 33 = .ok (.istore 4, 2) := by decide +kernel
theorem d_Br_setWord_35 : decode b_Br_setWord 35 = .ok (.iload 4, 2) := by decide +kernel
theorem d_Br_setWord_37 : decode b_Br_setWord 37 = .ok (.iload_n 3, 1) := by decide +kernel
theorem d_Br_setWord_38 : decode b_Br_setWord 38 = .ok (.if_icmp .ge 50, 3) := by decide +kernel
theorem d_Br_setWord_41 : decode b_Br_setWord 41 = .ok (.aload_n 0, 1) := by decide +kernel
theorem d_Br_setWord_42 : decode b_Br_setWord 42 = .ok (.getfield 9, 3) := by decide +kernel
theorem d_Br_setWord_45 : decode b_Br_setWord 45 = .ok (.iload 4, 2) := by decide +kernel
theorem d_Br_setWord_47 : decode b_Br_setWord 47 = .ok (.aload_n 1, 1) := by decide +kernel
theorem d_Br_setWord_48 : decode b_Br_setWord 48 = .ok (.iload 4, 2) := by decide +kernel
theorem d_Br_setWord_50 : decode b_Br_setWord 50 = .ok (.iconst 1, 1) := by decide +kernel
theorem d_Br_setWord_51 : decode b_Br_setWord 51 = .ok (.iadd, 1) := by decide +kernel
theorem d_Br_setWord_52 : decode b_Br_setWord 52 = .ok (.invokevirtual 25, 3) := by decide +kernel
theorem d_Br_setWord_55 : decode b_Br_setWord 55 = .ok (.iastore, 1) := by decide +kernel
theorem d_Br_setWord_56 : decode b_Br_setWord 56 = .ok (.aload_n 0, 1) := by decide +kernel
theorem d_Br_setWord_57 : decode b_Br_setWord 57 = .ok (.getfield 9, 3) := by decide +kernel
theorem d_Br_setWord_60 : decode b_Br_setWord 60 = .ok (.iload 4, 2) := by decide +kernel
theorem d_Br_setWord_62 : decode b_Br_setWord 62 = .ok (.iaload, 1) := by decide +kernel
theorem d_Br_setWord_63 : decode b_Br_setWord 63 = .ok (.invokestatic 35, 3) := by decide +kernel
theorem d_Br_setWord_66 : decode b_Br_setWord 66 = .ok (.istore 5, 2) := by decide +kernel
theorem d_Br_setWord_68 : decode b_Br_setWord 68 = .ok (.iload 5, 2) := by decide +kernel
theorem d_Br_setWord_70 : decode b_Br_setWord 70 = .ok (.iconst 1, 1) := by decide +kernel
theorem d_Br_setWord_71 : decode b_Br_setWord 71 = .ok (.if_icmp .lt 9, 3) := by decide +kernel
theorem d_Br_setWord_74 : decode b_Br_setWord 74 = .ok (.iload 5, 2) := by decide +kernel
theorem d_Br_setWord_76 : decode b_Br_setWord 76 = .ok (.iload_n 2, 1) := by decide +kernel
theorem d_Br_setWord_77 : decode b_Br_setWord 77 = .ok (.if_icmp .lt 5, 3) := by decide +kernel
theorem d_Br_setWord_80 : decode b_Br_setWord 80 = .ok (.iconst 0, 1) := by decide +kernel
theorem d_Br_setWord_81 : decode b_Br_setWord 81 = .ok (.ireturn, 1) := by decide +kernel
theorem d_Br_setWord_82 : decode b_Br_setWord 82 = .ok (.iinc 4 1, 3) := by decide +kernel
theorem d_Br_setWord_85 : decode b_Br_setWord 85 = .ok (.goto (-50), 3) := by decide +kernel
theorem d_Br_setWord_88 : decode b_Br_setWord 88 = .ok (.aload_n 0, 1) := by decide +kernel
theorem d_Br_setWord_89 : decode b_Br_setWord 89 = .ok (.iload_n 2, 1) := by decide +kernel
theorem d_Br_setWord_90 : decode b_Br_setWord 90 = .ok (.putfield 21, 3) := by decide +kernel
theorem d_Br_setWord_93 : decode b_Br_setWord 93 = .ok (.aload_n 0, 1) := by decide +kernel
theorem d_Br_setWord_94 : decode b_Br_setWord 94 = .ok (.iload_n 3, 1) := by decide +kernel
theorem d_Br_setWord_95 : decode b_Br_setWord 95 = .ok (.putfield 40, 3) := by decide +kernel
theorem d_Br_setWord_98 : decode b_Br_setWord 98 = .ok (.aload_n 0, 1) := by decide +kernel
theorem d_Br_setWord_99 : decode b_Br_setWord 99 = .ok (.iconst 0, 1) := by decide +kernel
theorem d_Br_setWord_100 : decode b_Br_setWord 100 = .ok (.putfield 43, 3) := by decide +kernel
theorem d_Br_setWord_103 : decode b_Br_setWord 103 = .ok (.iconst 1, 1) := by decide +kernel
theorem d_Br_setWord_104 : decode b_Br_setWord 104 = .ok (.ireturn, 1) := by decide +kernel
theorem d_Br_settle_0 : decode b_Br_settle 0 = .ok (.aload_n 0, 1) := by decide +kernel
theorem d_Br_settle_1 : decode b_Br_settle 1 = .ok (.getfield 66, 3) := by decide +kernel
theorem d_Br_settle_4 : decode b_Br_settle 4 = .ok (.iconst 2, 1) := by decide +kernel
theorem d_Br_settle_5 : decode b_Br_settle 5 = .ok (.isub, 1) := by decide +kernel
theorem d_Br_settle_6 : decode b_Br_settle 6 = .ok (.istore_n 1, 1) := by decide +kernel
theorem d_Br_settle_7 : decode b_Br_settle 7 = .ok (.iload_n 1, 1) := by decide +kernel
theorem d_Br_settle_8 : decode b_Br_settle 8 = .ok (.ifCond .lt 23, 3) := by decide +kernel
theorem d_Br_settle_11 : decode b_Br_settle 11 = .ok (.aload_n 0, 1) := by decide +kernel
theorem d_Br_settle_12 : decode b_Br_settle 12 = .ok (.iload_n 1, 1) := by decide +kernel
theorem d_Br_settle_13 : decode b_Br_settle 13 = .ok (.bipush 8, 2) := by decide +kernel
theorem d_Br_settle_15 : decode b_Br_settle 15 = .ok (.imul, 1) := by decide +kernel
theorem d_Br_settle_16 : decode b_Br_settle 16 = .ok (.invokevirtual 85, 3) := by decide +kernel
theorem d_Br_settle_19 : decode b_Br_settle 19 = .ok (.ifCond .ne 6, 3) := by decide +kernel
theorem d_Br_settle_22 : decode b_Br_settle 22 = .ok (.goto 9, 3) := by decide +kernel
theorem d_Br_settle_25 : decode b_Br_settle 25 = .ok (.iinc 1 (-1), 3) := by decide +kernel
theorem d_Br_settle_28 : decode b_Br_settle 28 = .ok (.goto (-21), 3) := by decide +kernel
theorem d_Br_settle_31 : decode b_Br_settle 31 = .ok (.aload_n 0, 1) := by decide +kernel
theorem d_Br_settle_32 : decode b_Br_settle 32 = .ok (.getfield 66, 3) := by decide +kernel
theorem d_Br_settle_35 : decode b_Br_settle 35 = .ok (.iconst 1, 1) := by decide +kernel
theorem d_Br_settle_36 : decode b_Br_settle 36 = .ok (.isub, 1) := by decide +kernel
theorem d_Br_settle_37 : decode b_Br_settle 37 = .ok (.istore_n 1, 1) := by decide +kernel
theorem d_Br_settle_38 : decode b_Br_settle 38 = .ok (.iload_n 1, 1) := by decide +kernel
theorem d_Br_settle_39 : decode b_Br_settle 39 = .ok (.ifCond .lt 30, 3) := by decide +kernel
theorem d_Br_settle_42 : decode b_Br_settle 42 = .ok (.aload_n 0, 1) := by decide +kernel
theorem d_Br_settle_43 : decode b_Br_settle 43 = .ok (.iload_n 1, 1) := by decide +kernel
theorem d_Br_settle_44 : decode b_Br_settle 44 = .ok (.bipush 8, 2) := by decide +kernel
theorem d_Br_settle_46 : decode b_Br_settle 46 = .ok (.imul, 1) := by decide +kernel
theorem d_Br_settle_47 : decode b_Br_settle 47 = .ok (.invokevirtual 89, 3) := by decide +kernel
theorem d_Br_settle_50 : decode b_Br_settle 50 = .ok (.ifCond .eq 19, 3) := by decide +kernel
theorem d_Br_settle_53 : decode b_Br_settle 53 = .ok (.aload_n 0, 1) := by decide +kernel
theorem d_Br_settle_54 : decode b_Br_settle 54 = .ok (.dup, 1) := by decide +kernel
theorem d_Br_settle_55 : decode b_Br_settle 55 = .ok (.getfield 66, 3) := by decide +kernel
theorem d_Br_settle_58 : decode b_Br_settle 58 = .ok (.iconst 1, 1) := by decide +kernel
theorem d_Br_settle_59 : decode b_Br_settle 59 = .ok (.isub, 1) := by decide +kernel
theorem d_Br_settle_60 : decode b_Br_settle 60 = .ok (.putfield 66, 3) := by decide +kernel
theorem d_Br_settle_63 : decode b_Br_settle 63 = .ok (.iinc 1 (-1), 3) := by decide +kernel
theorem d_Br_settle_66 : decode b_Br_settle 66 = .ok (.goto (-28), 3) := by decide +kernel
theorem d_Br_settle_69 : decode b_Br_settle 69 = .ok (.iconst 0, 1) := by decide +kernel
theorem d_Br_settle_70 : decode b_Br_settle 70 = .ok (.istore_n 1, 1) := by decide +kernel
theorem d_Br_settle_71 : decode b_Br_settle 71 = .ok (.iload_n 1, 1) := by decide +kernel
theorem d_Br_settle_72 : decode b_Br_settle 72 = .ok (.aload_n 0, 1) := by decide +kernel
theorem d_Br_settle_73 : decode b_Br_settle 73 = .ok (.getfield 66, 3) := by decide +kernel
theorem d_Br_settle_76 : decode b_Br_settle 76 = .ok (.if_icmp .ge 20, 3) := by decide +kernel
theorem d_Br_settle_79 : decode b_Br_settle 79 = .ok (.aload_n 0, 1) := by decide +kernel
theorem d_Br_settle_80 : decode b_Br_settle 80 = .ok (.iload_n 1, 1) := by decide +kernel
theorem d_Br_settle_81 : decode b_Br_settle 81 = .ok (.bipush 8, 2) := by decide +kernel
theorem d_Br_settle_83 : decode b_Br_settle 83 = .ok (.imul, 1) := by decide +kernel
theorem d_Br_settle_84 : decode b_Br_settle 84 = .ok (.invokevirtual 92, 3) := by decide +kernel
theorem d_Br_settle_87 : decode b_Br_settle 87 = .ok (.ifCond .eq 9, 3) := by decide +kernel
theorem d_Br_settle_90 : decode b_Br_settle 90 = .ok (.iinc 1 1, 3) := by decide +kernel
theorem d_Br_settle_93 : decode b_Br_settle 93 = .ok (.goto (-22), 3) := by decide +kernel
theorem d_Br_settle_96 : decode b_Br_settle 96 = .ok (.aload_n 0, 1) := by decide +kernel
theorem d_Br_settle_97 : decode b_Br_settle 97 = .ok (.dup, 1) := by decide +kernel
theorem d_Br_settle_98 : decode b_Br_settle 98 = .ok (.getfield 69, 3) := by decide +kernel
theorem d_Br_settle_101 : decode b_Br_settle 101 = .ok (.iload_n 1, 1) := by decide +kernel
theorem d_Br_settle_102 : decode b_Br_settle 102 = .ok (.iadd, 1) := by decide +kernel
theorem d_Br_settle_103 : decode b_Br_settle 103 = .ok (.putfield 69, 3) := by decide +kernel
theorem d_Br_settle_106 : decode b_Br_settle 106 = .ok (.aload_n 0, 1) := by decide +kernel
theorem d_Br_settle_107 : decode b_Br_settle 107 = .ok (.dup, 1) := by decide +kernel
theorem d_Br_settle_108 : decode b_Br_settle 108 = .ok (.getfield 66, 3) := by decide +kernel
theorem d_Br_settle_111 : decode b_Br_settle 111 = .ok (.iload_n 1, 1) := by decide +kernel
theorem d_Br_settle_112 : decode b_Br_settle 112 = .ok (.isub, 1) := by decide +kernel
theorem d_Br_settle_113 : decode b_Br_settle 113 = .ok (.putfield 66, 3) := by decide +kernel
theorem d_Br_settle_116 : decode b_Br_settle 116 = .ok (.aload_n 0, 1) := by decide +kernel
theorem d_Br_settle_117 : decode b_Br_settle 117 = .ok (.getfield 15, 3) := by decide +kernel
theorem d_Br_settle_120 : decode b_Br_settle 120 = .ok (.iload_n 1, 1) := by decide +kernel
theorem d_Br_settle_121 : decode b_Br_settle 121 = .ok (.bipush 8, 2) := by decide +kernel
theorem d_Br_settle_123 : decode b_Br_settle 123 = .ok (.imul, 1) := by decide +kernel
theorem d_Br_settle_124 : decode b_Br_settle 124 = .ok (.aload_n 0, 1) := by decide +kernel
theorem d_Br_settle_125 : decode b_Br_settle 125 = .ok (.getfield 15, 3) := by decide +kernel
theorem d_Br_settle_128 : decode b_Br_settle 128 = .ok (.iconst 0, 1) := by decide +kernel
theorem d_Br_settle_129 : decode b_Br_settle 129 = .ok (.aload_n 0, 1) := by decide +kernel
theorem d_Br_settle_130 : decode b_Br_settle 130 = .ok (.getfield 66, 3) := by decide +kernel
theorem d_Br_settle_133 : decode b_Br_settle 133 = .ok (.bipush 8, 2) := by decide +kernel
theorem d_Br_settle_135 : decode b_Br_settle 135 = .ok (.imul, 1) := by decide +kernel
theorem d_Br_settle_136 : decode b_Br_settle 136 = .ok (.invokestatic 95, 3) := by decide +kernel
theorem d_Br_settle_139 : decode b_Br_settle 139 = .ok (.return_, 1) := by decide +kernel
theorem d_Br_shiftCrossings_0 : decode b_Br_shiftCrossings 0 = .ok (.iload_n 1, 1) := by decide +kernel
theorem d_Br_shiftCrossings_1 : decode b_Br_shiftCrossings 1 = .ok (.bipush 8, 2) := by decide +kernel
theorem d_Br_shiftCrossings_3 : decode b_Br_shiftCrossings 3 = .ok (.iadd, 1) := by decide +kernel
theorem d_Br_shiftCrossings_4 : decode b_Br_shiftCrossings 4 = .ok (.istore_n 2, 1) := by decide +kernel
theorem d_Br_shiftCrossings_5 : decode b_Br_shiftCrossings 5 = .ok (.iconst 0, 1) := by decide +kernel
theorem d_Br_shiftCrossings_6 : decode b_Br_shiftCrossings 6 = .ok (.istore_n 3, 1) := by decide +kernel
theorem d_Br_shiftCrossings_7 : decode b_Br_shiftCrossings 7 = .ok (.iload_n 3, 1) := by decide +kernel
theorem d_Br_shiftCrossings_8 : decode b_Br_shiftCrossings 8 = .ok (.aload_n 0, 1) := by decide +kernel
theorem d_Br_shiftCrossings_9 : decode b_Br_shiftCrossings 9 = .ok (.getfield 21, 3) := by decide +kernel
theorem d_Br_shiftCrossings_12 : decode b_Br_shiftCrossings 12 = .ok (.if_icmp .ge 23, 3) := by decide +kernel
theorem d_Br_shiftCrossings_15 : decode b_Br_shiftCrossings 15 = .ok (.aload_n 0, 1) := by decide +kernel
theorem d_Br_shiftCrossings_16 : decode b_Br_shiftCrossings 16 = .ok (.getfield 18, 3) := by decide +kernel
theorem d_Br_shiftCrossings_19 : decode b_Br_shiftCrossings 19 = .ok (.aload_n 0, 1) := by decide +kernel
theorem d_Br_shiftCrossings_20 : decode b_Br_shiftCrossings 20 = .ok (.getfield 15, 3) := by decide +kernel
theorem d_Br_shiftCrossings_23 : decode b_Br_shiftCrossings 23 = .ok (.iload_n 1, 1) := by decide +kernel
theorem d_Br_shiftCrossings_24 : decode b_Br_shiftCrossings 24 = .ok (.iload_n 3, 1) := by decide +kernel
theorem d_Br_shiftCrossings_25 : decode b_Br_shiftCrossings 25 = .ok (.iadd, 1) := by decide +kernel
theorem d_Br_shiftCrossings_26 : decode b_Br_shiftCrossings 26 = .ok (.iaload, 1) := by decide +kernel
theorem d_Br_shiftCrossings_27 : decode b_Br_shiftCrossings 27 = .ok (.iload_n 3, 1) := by decide +kernel
theorem d_Br_shiftCrossings_28 : decode b_Br_shiftCrossings 28 = .ok (.iastore, 1) := by decide +kernel
theorem d_Br_shiftCrossings_29 : decode b_Br_shiftCrossings 29 = .ok (.iinc 3 1, 3) := by decide +kernel
theorem d_Br_shiftCrossings_32 : decode b_Br_shiftCrossings 32 = .ok (.goto (-25), 3) := by decide +kernel
theorem d_Br_shiftCrossings_35 : decode b_Br_shiftCrossings 35 = .ok (.iconst 0, 1) := by decide +kernel
theorem d_Br_shiftCrossings_36 : decode b_Br_shiftCrossings 36 = .ok (.istore_n 3, 1) := by decide +kernel
theorem d_Br_shiftCrossings_37 : decode b_Br_shiftCrossings 37 = .ok (.iconst 1, 1) := by decide +kernel
theorem d_Br_shiftCrossings_38 : decode b_Br_shiftCrossings 38 = .ok (.istore 4, 2) := by decide +kernel
theorem d_Br_shiftCrossings_40 : decode b_Br_shiftCrossings 40 = .ok (.iconst 0, 1) := by decide +kernel
theorem d_Br_shiftCrossings_41 : decode b_Br_shiftCrossings 41 = .ok (.istore 5, 2) := by decide +kernel
theorem d_Br_shiftCrossings_43 : decode b_Br_shiftCrossings 43 = .ok (.iload 5, 2) := by decide +kernel
theorem d_Br_shiftCrossings_45 : decode b_Br_shiftCrossings 45 = .ok (.bipush 64, 2) := by decide +kernel
theorem d_Br_shiftCrossings_47 : decode b_Br_shiftCrossings 47 = .ok (.if_icmp .ge 92, 3) := by decide +kernel
theorem d_Br_shiftCrossings_50 : decode b_Br_shiftCrossings 50 = .ok (.iload 4, 2) := by decide +kernel
theorem d_Br_shiftCrossings_52 : decode b_Br_shiftCrossings 52 = .ok (.ifCond .eq 87, 3) := by decide +kernel
theorem d_Br_shiftCrossings_55 : decode b_Br_shiftCrossings 55 = .ok (.iconst 0, 1) := by decide +kernel
theorem d_Br_shiftCrossings_56 : decode b_Br_shiftCrossings 56 = .ok (.istore 4, 2) := by decide +kernel
theorem d_Br_shiftCrossings_58 : decode b_Br_shiftCrossings 58 = .ok (.iconst 0, 1) := by decide +kernel
theorem d_Br_shiftCrossings_59 : decode b_Br_shiftCrossings 59 = .ok (.istore 6, 2) := by decide +kernel
theorem d_Br_shiftCrossings_61 : decode b_Br_shiftCrossings 61 = .ok (.iload 6, 2) := by decide +kernel
theorem d_Br_shiftCrossings_63 : decode b_Br_shiftCrossings 63 = .ok (.iconst 1, 1) := by decide +kernel
theorem d_Br_shiftCrossings_64 : decode b_Br_shiftCrossings 64 = .ok (.iadd, 1) := by decide +kernel
theorem d_Br_shiftCrossings_65 : decode b_Br_shiftCrossings 65 = .ok (.aload_n 0, 1) := by decide +kernel
