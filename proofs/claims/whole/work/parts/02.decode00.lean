theorem d_En_init_0 : decode b_En_init 0 = .ok (.aload_n 0, 1) := by decide +kernel
theorem d_En_init_1 : decode b_En_init 1 = .ok (.invokespecial 3, 3) := by decide +kernel
theorem d_En_init_4 : decode b_En_init 4 = .ok (.aload_n 0, 1) := by decide +kernel
theorem d_En_init_5 : decode b_En_init 5 = .ok (.new 9, 3) := by decide +kernel
theorem d_En_init_8 : decode b_En_init 8 = .ok (.dup, 1) := by decide +kernel
theorem d_En_init_9 : decode b_En_init 9 = .ok (.invokespecial 11, 3) := by decide +kernel
theorem d_En_init_12 : decode b_En_init 12 = .ok (.putfield 12, 3) := by decide +kernel
theorem d_En_init_15 : decode b_En_init 15 = .ok (.aload_n 0, 1) := by decide +kernel
theorem d_En_init_16 : decode b_En_init 16 = .ok (.aload_n 0, 1) := by decide +kernel
theorem d_En_init_17 : decode b_En_init 17 = .ok (.getfield 12, 3) := by decide +kernel
theorem d_En_init_20 : decode b_En_init 20 = .ok (.getfield 16, 3) := by decide +kernel
theorem d_En_init_23 : decode b_En_init 23 = .ok (.putfield 20, 3) := by decide +kernel
theorem d_En_init_26 : decode b_En_init 26 = .ok (.aload_n 0, 1) := by decide +kernel
theorem d_En_init_27 : decode b_En_init 27 = .ok (.aload_n 0, 1) := by decide +kernel
theorem d_En_init_28 : decode b_En_init 28 = .ok (.getfield 12, 3) := by decide +kernel
theorem d_En_init_31 : decode b_En_init 31 = .ok (.getfield 23, 3) := by decide +kernel
theorem d_En_init_34 : decode b_En_init 34 = .ok (.putfield 27, 3) := by decide +kernel
theorem d_En_init_37 : decode b_En_init 37 = .ok (.aload_n 0, 1) := by decide +kernel
theorem d_En_init_38 : decode b_En_init 38 = .ok (.new 28, 3) := by decide +kernel
theorem d_En_init_41 : decode b_En_init 41 = .ok (.dup, 1) := by decide +kernel
theorem d_En_init_42 : decode b_En_init 42 = .ok (.invokespecial 30, 3) := by decide +kernel
theorem d_En_init_45 : decode b_En_init 45 = .ok (.putfield 31, 3) := by decide +kernel
theorem d_En_init_48 : decode b_En_init 48 = .ok (.aload_n 0, 1) := by decide +kernel
theorem d_En_init_49 : decode b_En_init 49 = .ok (.new 35, 3) := by decide +kernel
theorem d_En_init_52 : decode b_En_init 52 = .ok (.dup, 1) := by decide +kernel
theorem d_En_init_53 : decode b_En_init 53 = .ok (.invokespecial 37, 3) := by decide +kernel
theorem d_En_init_56 : decode b_En_init 56 = .ok (.putfield 38, 3) := by decide +kernel
theorem d_En_init_59 : decode b_En_init 59 = .ok (.aload_n 0, 1) := by decide +kernel
theorem d_En_init_60 : decode b_En_init 60 = .ok (.new 42, 3) := by decide +kernel
theorem d_En_init_63 : decode b_En_init 63 = .ok (.dup, 1) := by decide +kernel
theorem d_En_init_64 : decode b_En_init 64 = .ok (.invokespecial 44, 3) := by decide +kernel
theorem d_En_init_67 : decode b_En_init 67 = .ok (.putfield 45, 3) := by decide +kernel
theorem d_En_init_70 : decode b_En_init 70 = .ok (.aload_n 0, 1) := by decide +kernel
theorem d_En_init_71 : decode b_En_init 71 = .ok (.new 49, 3) := by decide +kernel
theorem d_En_init_74 : decode b_En_init 74 = .ok (.dup, 1) := by decide +kernel
theorem d_En_init_75 : decode b_En_init 75 = .ok (.invokespecial 51, 3) := by decide +kernel
theorem d_En_init_78 : decode b_En_init 78 = .ok (.putfield 52, 3) := by decide +kernel
theorem d_En_init_81 : decode b_En_init 81 = .ok (.aload_n 0, 1) := by decide +kernel
theorem d_En_init_82 : decode b_En_init 82 = .ok (.new 56, 3) := by decide +kernel
theorem d_En_init_85 : decode b_En_init 85 = .ok (.dup, 1) := by decide +kernel
theorem d_En_init_86 : decode b_En_init 86 = .ok (.invokespecial 58, 3) := by decide +kernel
theorem d_En_init_89 : decode b_En_init 89 = .ok (.putfield 59, 3) := by decide +kernel
theorem d_En_init_92 : decode b_En_init 92 = .ok (.aload_n 0, 1) := by decide +kernel
theorem d_En_init_93 : decode b_En_init 93 = .ok (.new 63, 3) := by decide +kernel
theorem d_En_init_96 : decode b_En_init 96 = .ok (.dup, 1) := by decide +kernel
theorem d_En_init_97 : decode b_En_init 97 = .ok (.invokespecial 65, 3) := by decide +kernel
theorem d_En_init_100 : decode b_En_init 100 = .ok (.putfield 66, 3) := by decide +kernel
theorem d_En_init_103 : decode b_En_init 103 = .ok (.aload_n 0, 1) := by decide +kernel
theorem d_En_init_104 : decode b_En_init 104 = .ok (.new 63, 3) := by decide +kernel
theorem d_En_init_107 : decode b_En_init 107 = .ok (.dup, 1) := by decide +kernel
theorem d_En_init_108 : decode b_En_init 108 = .ok (.invokespecial 65, 3) := by decide +kernel
theorem d_En_init_111 : decode b_En_init 111 = .ok (.putfield 70, 3) := by decide +kernel
theorem d_En_init_114 : decode b_En_init 114 = .ok (.aload_n 0, 1) := by decide +kernel
theorem d_En_init_115 : decode b_En_init 115 = .ok (.new 63, 3) := by decide +kernel
theorem d_En_init_118 : decode b_En_init 118 = .ok (.dup, 1) := by decide +kernel
theorem d_En_init_119 : decode b_En_init 119 = .ok (.invokespecial 65, 3) := by decide +kernel
theorem d_En_init_122 : decode b_En_init 122 = .ok (.putfield 73, 3) := by decide +kernel
theorem d_En_init_125 : decode b_En_init 125 = .ok (.aload_n 0, 1) := by decide +kernel
theorem d_En_init_126 : decode b_En_init 126 = .ok (.new 76, 3) := by decide +kernel
theorem d_En_init_129 : decode b_En_init 129 = .ok (.dup, 1) := by decide +kernel
theorem d_En_init_130 : decode b_En_init 130 = .ok (.invokespecial 78, 3) := by decide +kernel
theorem d_En_init_133 : decode b_En_init 133 = .ok (.putfield 79, 3) := by decide +kernel
theorem d_En_init_136 : decode b_En_init 136 = .ok (.aload_n 0, 1) := by decide +kernel
theorem d_En_init_137 : decode b_En_init 137 = .ok (.new 76, 3) := by decide +kernel
theorem d_En_init_140 : decode b_En_init 140 = .ok (.dup, 1) := by decide +kernel
theorem d_En_init_141 : decode b_En_init 141 = .ok (.invokespecial 78, 3) := by decide +kernel
theorem d_En_init_144 : decode b_En_init 144 = .ok (.putfield 83, 3) := by decide +kernel
theorem d_En_init_147 : decode b_En_init 147 = .ok (.aload_n 0, 1) := by decide +kernel
theorem d_En_init_148 : decode b_En_init 148 = .ok (.new 76, 3) := by decide +kernel
theorem d_En_init_151 : decode b_En_init 151 = .ok (.dup, 1) := by decide +kernel
theorem d_En_init_152 : decode b_En_init 152 = .ok (.invokespecial 78, 3) := by decide +kernel
theorem d_En_init_155 : decode b_En_init 155 = .ok (.putfield 86, 3) := by decide +kernel
theorem d_En_init_158 : decode b_En_init 158 = .ok (.return_, 1) := by decide +kernel
theorem d_En_crossing_0 : decode b_En_crossing 0 = .ok (.iload_n 1, 1) := by decide +kernel
theorem d_En_crossing_1 : decode b_En_crossing 1 = .ok (.ifCond .lt 23, 3) := by decide +kernel
theorem d_En_crossing_4 : decode b_En_crossing 4 = .ok (.iload_n 1, 1) := by decide +kernel
theorem d_En_crossing_5 : decode b_En_crossing 5 = .ok (.aload_n 0, 1) := by decide +kernel
theorem d_En_crossing_6 : decode b_En_crossing 6 = .ok (.getfield 66, 3) := by decide +kernel
theorem d_En_crossing_9 : decode b_En_crossing 9 = .ok (.getfield 157, 3) := by decide +kernel
theorem d_En_crossing_12 : decode b_En_crossing 12 = .ok (.if_icmp .ge 12, 3) := by decide +kernel
theorem d_En_crossing_15 : decode b_En_crossing 15 = .ok (.iload_n 2, 1) := by decide +kernel
theorem d_En_crossing_16 : decode b_En_crossing 16 = .ok (.ifCond .lt 8, 3) := by decide +kernel
theorem d_En_crossing_19 : decode b_En_crossing 19 = .ok (.iload_n 2, 1) := by decide +kernel
theorem d_En_crossing_20 : decode b_En_crossing 20 = .ok (.iconst 4, 1) := by decide +kernel
theorem d_En_crossing_21 : decode b_En_crossing 21 = .ok (.if_icmp .le 5, 3) := by decide +kernel
theorem d_En_crossing_24 : decode b_En_crossing 24 = .ok (.iconst 0, 1) := by decide +kernel
theorem d_En_crossing_25 : decode b_En_crossing 25 = .ok (.ireturn, 1) := by decide +kernel
theorem d_En_crossing_26 : decode b_En_crossing 26 = .ok (.iload_n 2, 1) := by decide +kernel
theorem d_En_crossing_27 : decode b_En_crossing 27 = .ok (.iconst 4, 1) := by decide +kernel
theorem d_En_crossing_28 : decode b_En_crossing 28 = .ok (.if_icmp .ne 15, 3) := by decide +kernel
theorem d_En_crossing_31 : decode b_En_crossing 31 = .ok (.aload_n 0, 1) := by decide +kernel
theorem d_En_crossing_32 : decode b_En_crossing 32 = .ok (.getfield 66, 3) := by decide +kernel
theorem d_En_crossing_35 : decode b_En_crossing 35 = .ok (.getfield 175, 3) := by decide +kernel
theorem d_En_crossing_38 : decode b_En_crossing 38 = .ok (.iload_n 1, 1) := by decide +kernel
theorem d_En_crossing_39 : decode b_En_crossing 39 = .ok (.iaload, 1) := by decide +kernel
theorem d_En_crossing_40 : decode b_En_crossing 40 = .ok (.goto 16, 3) := by decide +kernel
theorem d_En_crossing_43 : decode b_En_crossing 43 = .ok (.aload_n 0, 1) := by decide +kernel
theorem d_En_crossing_44 : decode b_En_crossing 44 = .ok (.getfield 66, 3) := by decide +kernel
theorem d_En_crossing_47 : decode b_En_crossing 47 = .ok (.getfield 178, 3) := by decide +kernel
theorem d_En_crossing_50 : decode b_En_crossing 50 = .ok (.iconst 4, 1) := by decide +kernel
theorem d_En_crossing_51 : decode b_En_crossing 51 = .ok (.iload_n 1, 1) := by decide +kernel
theorem d_En_crossing_52 : decode b_En_crossing 52 = .ok (.imul, 1) := by decide +kernel
theorem d_En_crossing_53 : decode b_En_crossing 53 = .ok (.iload_n 2, 1) := by decide +kernel
theorem d_En_crossing_54 : decode b_En_crossing 54 = .ok (.iadd, 1) := by decide +kernel
theorem d_En_crossing_55 : decode b_En_crossing 55 = .ok (.iaload, 1) := by decide +kernel
theorem d_En_crossing_56 : decode b_En_crossing 56 = .ok (.ireturn, 1) := by decide +kernel
theorem d_En_fault_0 : decode b_En_fault 0 = .ok (.aload_n 0, 1) := by decide +kernel
theorem d_En_fault_1 : decode b_En_fault 1 = .ok (.getfield 97, 3) := by decide +kernel
theorem d_En_fault_4 : decode b_En_fault 4 = .ok (.ifCond .ne 5, 3) := by decide +kernel
theorem d_En_fault_7 : decode b_En_fault 7 = .ok (.iconst (-1), 1) := by decide +kernel
theorem d_En_fault_8 : decode b_En_fault 8 = .ok (.ireturn, 1) := by decide +kernel
theorem d_En_fault_9 : decode b_En_fault 9 = .ok (.iload_n 1, 1) := by decide +kernel
theorem d_En_fault_10 : decode b_En_fault 10 = .ok (.lookupswitch 42 #[(0, 26), (1, 34)], 26) := by decide +kernel
theorem d_En_fault_36 : decode b_En_fault 36 = .ok (.aload_n 0, 1) := by decide +kernel
theorem d_En_fault_37 : decode b_En_fault 37 = .ok (.getfield 12, 3) := by decide +kernel
theorem d_En_fault_40 : decode b_En_fault 40 = .ok (.getfield 120, 3) := by decide +kernel
theorem d_En_fault_43 : decode b_En_fault 43 = .ok (.ireturn, 1) := by decide +kernel
theorem d_En_fault_44 : decode b_En_fault 44 = .ok (.aload_n 0, 1) := by decide +kernel
theorem d_En_fault_45 : decode b_En_fault 45 = .ok (.getfield 12, 3) := by decide +kernel
theorem d_En_fault_48 : decode b_En_fault 48 = .ok (.getfield 129, 3) := by decide +kernel
theorem d_En_fault_51 : decode b_En_fault 51 = .ok (.ireturn, 1) := by decide +kernel
theorem d_En_fault_52 : decode b_En_fault 52 = .ok (.iconst (-1), 1) := by decide +kernel
theorem d_En_fault_53 : decode b_En_fault 53 = .ok (.ireturn, 1) := by decide +kernel
theorem d_En_feed_0 : decode b_En_feed 0 = .ok (.aload_n 0, 1) := by decide +kernel
theorem d_En_feed_1 : decode b_En_feed 1 = .ok (.getfield 89, 3) := by decide +kernel
theorem d_En_feed_4 : decode b_En_feed 4 = .ok (.bipush 20, 2) := by decide +kernel
theorem d_En_feed_6 : decode b_En_feed 6 = .ok (.iadd, 1) := by decide +kernel
theorem d_En_feed_7 : decode b_En_feed 7 = .ok (.sipush 4000, 3) := by decide +kernel
theorem d_En_feed_10 : decode b_En_feed 10 = .ok (.if_icmp .le 5, 3) := by decide +kernel
theorem d_En_feed_13 : decode b_En_feed 13 = .ok (.iconst (-1), 1) := by decide +kernel
theorem d_En_feed_14 : decode b_En_feed 14 = .ok (.ireturn, 1) := by decide +kernel
theorem d_En_feed_15 : decode b_En_feed 15 = .ok (.aload_n 0, 1) := by decide +kernel
theorem d_En_feed_16 : decode b_En_feed 16 = .ok (.iload_n 1, 1) := by decide +kernel
theorem d_En_feed_17 : decode b_En_feed 17 = .ok (.invokevirtual 93, 3) := by decide +kernel
theorem d_En_feed_20 : decode b_En_feed 20 = .ok (.aload_n 0, 1) := by decide +kernel
theorem d_En_feed_21 : decode b_En_feed 21 = .ok (.iload_n 2, 1) := by decide +kernel
theorem d_En_feed_22 : decode b_En_feed 22 = .ok (.invokevirtual 93, 3) := by decide +kernel
theorem d_En_feed_25 : decode b_En_feed 25 = .ok (.aload_n 0, 1) := by decide +kernel
theorem d_En_feed_26 : decode b_En_feed 26 = .ok (.iload_n 3, 1) := by decide +kernel
theorem d_En_feed_27 : decode b_En_feed 27 = .ok (.invokevirtual 93, 3) := by decide +kernel
theorem d_En_feed_30 : decode b_En_feed 30 = .ok (.aload_n 0, 1) := by decide +kernel
theorem d_En_feed_31 : decode b_En_feed 31 = .ok (.iload 4, 2) := by decide +kernel
theorem d_En_feed_33 : decode b_En_feed 33 = .ok (.invokevirtual 93, 3) := by decide +kernel
theorem d_En_feed_36 : decode b_En_feed 36 = .ok (.aload_n 0, 1) := by decide +kernel
theorem d_En_feed_37 : decode b_En_feed 37 = .ok (.iload 5, 2) := by decide +kernel
theorem d_En_feed_39 : decode b_En_feed 39 = .ok (.invokevirtual 93, 3) := by decide +kernel
theorem d_En_feed_42 : decode b_En_feed 42 = .ok (.aload_n 0, 1) := by decide +kernel
theorem d_En_feed_43 : decode b_En_feed 43 = .ok (.getfield 89, 3) := by decide +kernel
theorem d_En_feed_46 : decode b_En_feed 46 = .ok (.ireturn, 1) := by decide +kernel
theorem d_En_form_0 : decode b_En_form 0 = .ok (.iload_n 1, 1) := by decide +kernel
theorem d_En_form_1 : decode b_En_form 1 = .ok (.ifCond .eq 10, 3) := by decide +kernel
theorem d_En_form_4 : decode b_En_form 4 = .ok (.aload_n 0, 1) := by decide +kernel
theorem d_En_form_5 : decode b_En_form 5 = .ok (.getfield 83, 3) := by decide +kernel
theorem d_En_form_8 : decode b_En_form 8 = .ok (.goto 7, 3) := by decide +kernel
theorem d_En_form_11 : decode b_En_form 11 = .ok (.aload_n 0, 1) := by decide +kernel
theorem d_En_form_12 : decode b_En_form 12 = .ok (.getfield 79, 3) := by decide +kernel
theorem d_En_form_15 : decode b_En_form 15 = .ok (.iload_n 2, 1) := by decide +kernel
theorem d_En_form_16 : decode b_En_form 16 = .ok (.iload_n 3, 1) := by decide +kernel
theorem d_En_form_17 : decode b_En_form 17 = .ok (.invokevirtual 194, 3) := by decide +kernel
theorem d_En_form_20 : decode b_En_form 20 = .ok (.ireturn, 1) := by decide +kernel
theorem d_En_keepChange_0 : decode b_En_keepChange 0 = .ok (.aload_n 0, 1) := by decide +kernel
theorem d_En_keepChange_1 : decode b_En_keepChange 1 = .ok (.getfield 66, 3) := by decide +kernel
theorem d_En_keepChange_4 : decode b_En_keepChange 4 = .ok (.astore_n 2, 1) := by decide +kernel
theorem d_En_keepChange_5 : decode b_En_keepChange 5 = .ok (.aload_n 0, 1) := by decide +kernel
theorem d_En_keepChange_6 : decode b_En_keepChange 6 = .ok (.aload_n 0, 1) := by decide +kernel
theorem d_En_keepChange_7 : decode b_En_keepChange 7 = .ok (.getfield 70, 3) := by decide +kernel
theorem d_En_keepChange_10 : decode b_En_keepChange 10 = .ok (.putfield 66, 3) := by decide +kernel
theorem d_En_keepChange_13 : decode b_En_keepChange 13 = .ok (.aload_n 0, 1) := by decide +kernel
theorem d_En_keepChange_14 : decode b_En_keepChange 14 = .ok (.aload_n 2, 1) := by decide +kernel
theorem d_En_keepChange_15 : decode b_En_keepChange 15 = .ok (.putfield 70, 3) := by decide +kernel
theorem d_En_keepChange_18 : decode b_En_keepChange 18 = .ok (.iload_n 1, 1) := by decide +kernel
theorem d_En_keepChange_19 : decode b_En_keepChange 19 = .ok (.iconst 2, 1) := by decide +kernel
theorem d_En_keepChange_20 : decode b_En_keepChange 20 = .ok (.if_icmp .ne 29, 3) := by decide +kernel
theorem d_En_keepChange_23 : decode b_En_keepChange 23 = .ok (.aload_n 0, 1) := by decide +kernel
theorem d_En_keepChange_24 : decode b_En_keepChange 24 = .ok (.getfield 83, 3) := by decide +kernel
theorem d_En_keepChange_27 : decode b_En_keepChange 27 = .ok (.astore_n 3, 1) := by decide +kernel
theorem d_En_keepChange_28 : decode b_En_keepChange 28 = .ok (.aload_n 0, 1) := by decide +kernel
theorem d_En_keepChange_29 : decode b_En_keepChange 29 = .ok (.aload_n 0, 1) := by decide +kernel
theorem d_En_keepChange_30 : decode b_En_keepChange 30 = .ok (.getfield 79, 3) := by decide +kernel
theorem d_En_keepChange_33 : decode b_En_keepChange 33 = .ok (.putfield 83, 3) := by decide +kernel
theorem d_En_keepChange_36 : decode b_En_keepChange 36 = .ok (.aload_n 0, 1) := by decide +kernel
theorem d_En_keepChange_37 : decode b_En_keepChange 37 = .ok (.aload_n 0, 1) := by decide +kernel
theorem d_En_keepChange_38 : decode b_En_keepChange 38 = .ok (.getfield 86, 3) := by decide +kernel
theorem d_En_keepChange_41 : decode b_En_keepChange 41 = .ok (.putfield 79, 3) := by decide +kernel
theorem d_En_keepChange_44 : decode b_En_keepChange 44 = .ok (.aload_n 0, 1) := by decide +kernel
theorem d_En_keepChange_45 : decode b_En_keepChange 45 = .ok (.aload_n 3, 1) := by decide +kernel
theorem d_En_keepChange_46 : decode b_En_keepChange 46 = .ok (.putfield 86, 3) := by decide +kernel
theorem d_En_keepChange_49 : decode b_En_keepChange 49 = .ok (.return_, 1) := by decide +kernel
theorem d_En_leaveLine_0 : decode b_En_leaveLine 0 = .ok (.aload_n 0, 1) := by decide +kernel
theorem d_En_leaveLine_1 : decode b_En_leaveLine 1 = .ok (.getfield 27, 3) := by decide +kernel
theorem d_En_leaveLine_4 : decode b_En_leaveLine 4 = .ok (.invokevirtual 207, 3) := by decide +kernel
theorem d_En_leaveLine_7 : decode b_En_leaveLine 7 = .ok (.aload_n 0, 1) := by decide +kernel
theorem d_En_leaveLine_8 : decode b_En_leaveLine 8 = .ok (.dup, 1) := by decide +kernel
theorem d_En_leaveLine_9 : decode b_En_leaveLine 9 = .ok (.getfield 201, 3) := by decide +kernel
theorem d_En_leaveLine_12 : decode b_En_leaveLine 12 = .ok (.iconst 1, 1) := by decide +kernel
theorem d_En_leaveLine_13 : decode b_En_leaveLine 13 = .ok (.iadd, 1) := by decide +kernel
theorem d_En_leaveLine_14 : decode b_En_leaveLine 14 = .ok (.putfield 201, 3) := by decide +kernel
theorem d_En_leaveLine_17 : decode b_En_leaveLine 17 = .ok (.iload_n 1, 1) := by decide +kernel
theorem d_En_leaveLine_18 : decode b_En_leaveLine 18 = .ok (.bipush 16, 2) := by decide +kernel
theorem d_En_leaveLine_20 : decode b_En_leaveLine 20 = .ok (.if_icmp .lt 13, 3) := by decide +kernel
