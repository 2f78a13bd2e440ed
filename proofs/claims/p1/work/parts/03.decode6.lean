theorem d_En_state_99 : decode b_En_state 99 = .ok (.getfield 66, 3) := by decide +kernel
theorem d_En_state_102 : decode b_En_state 102 = .ok (.getfield 160, 3) := by decide +kernel
theorem d_En_state_105 : decode b_En_state 105 = .ok (.iadd, 1) := by decide +kernel
theorem d_En_state_106 : decode b_En_state 106 = .ok (.ireturn, 1) := by decide +kernel
theorem d_En_state_107 : decode b_En_state 107 = .ok (.aload_n 0, 1) := by decide +kernel
theorem d_En_state_108 : decode b_En_state 108 = .ok (.getfield 31, 3) := by decide +kernel
theorem d_En_state_111 : decode b_En_state 111 = .ok (.getfield 138, 3) := by decide +kernel
theorem d_En_state_114 : decode b_En_state 114 = .ok (.ireturn, 1) := by decide +kernel
theorem d_En_state_115 : decode b_En_state 115 = .ok (.aload_n 0, 1) := by decide +kernel
theorem d_En_state_116 : decode b_En_state 116 = .ok (.getfield 89, 3) := by decide +kernel
theorem d_En_state_119 : decode b_En_state 119 = .ok (.ireturn, 1) := by decide +kernel
theorem d_En_state_120 : decode b_En_state 120 = .ok (.sipush (-1000), 3) := by decide +kernel
theorem d_En_state_123 : decode b_En_state 123 = .ok (.ireturn, 1) := by decide +kernel
theorem d_Md_feedOne_0 : decode b_Md_feedOne 0 = .ok (.bipush 24, 2) := by decide +kernel
theorem d_Md_feedOne_2 : decode b_Md_feedOne 2 = .ok (.istore_n 2, 1) := by decide +kernel
theorem d_Md_feedOne_3 : decode b_Md_feedOne 3 = .ok (.iload_n 2, 1) := by decide +kernel
theorem d_Md_feedOne_4 : decode b_Md_feedOne 4 = .ok (.ifCond .lt 32, 3) := by decide +kernel
theorem d_Md_feedOne_7 : decode b_Md_feedOne 7 = .ok (.aload_n 0, 1) := by decide +kernel
theorem d_Md_feedOne_8 : decode b_Md_feedOne 8 = .ok (.getfield 9, 3) := by decide +kernel
theorem d_Md_feedOne_11 : decode b_Md_feedOne 11 = .ok (.aload_n 0, 1) := by decide +kernel
theorem d_Md_feedOne_12 : decode b_Md_feedOne 12 = .ok (.getfield 296, 3) := by decide +kernel
theorem d_Md_feedOne_15 : decode b_Md_feedOne 15 = .ok (.iload_n 1, 1) := by decide +kernel
theorem d_Md_feedOne_16 : decode b_Md_feedOne 16 = .ok (.iload_n 2, 1) := by decide +kernel
theorem d_Md_feedOne_17 : decode b_Md_feedOne 17 = .ok (.ishr, 1) := by decide +kernel
theorem d_Md_feedOne_18 : decode b_Md_feedOne 18 = .ok (.i2b, 1) := by decide +kernel
theorem d_Md_feedOne_19 : decode b_Md_feedOne 19 = .ok (.bastore, 1) := by decide +kernel
theorem d_Md_feedOne_20 : decode b_Md_feedOne 20 = .ok (.aload_n 0, 1) := by decide +kernel
theorem d_Md_feedOne_21 : decode b_Md_feedOne 21 = .ok (.dup, 1) := by decide +kernel
theorem d_Md_feedOne_22 : decode b_Md_feedOne 22 = .ok (.getfield 296, 3) := by decide +kernel
theorem d_Md_feedOne_25 : decode b_Md_feedOne 25 = .ok (.iconst 1, 1) := by decide +kernel
theorem d_Md_feedOne_26 : decode b_Md_feedOne 26 = .ok (.iadd, 1) := by decide +kernel
theorem d_Md_feedOne_27 : decode b_Md_feedOne 27 = .ok (.putfield 296, 3) := by decide +kernel
theorem d_Md_feedOne_30 : decode b_Md_feedOne 30 = .ok (.iinc 2 (-8), 3) := by decide +kernel
theorem d_Md_feedOne_33 : decode b_Md_feedOne 33 = .ok (.goto (-30), 3) := by decide +kernel
theorem d_Md_feedOne_36 : decode b_Md_feedOne 36 = .ok (.return_, 1) := by decide +kernel
theorem d_Md_feed_0 : decode b_Md_feed 0 = .ok (.aload_n 0, 1) := by decide +kernel
theorem d_Md_feed_1 : decode b_Md_feed 1 = .ok (.getfield 296, 3) := by decide +kernel
theorem d_Md_feed_4 : decode b_Md_feed 4 = .ok (.bipush 20, 2) := by decide +kernel
theorem d_Md_feed_6 : decode b_Md_feed 6 = .ok (.iadd, 1) := by decide +kernel
theorem d_Md_feed_7 : decode b_Md_feed 7 = .ok (.sipush 4000, 3) := by decide +kernel
theorem d_Md_feed_10 : decode b_Md_feed 10 = .ok (.if_icmp .le 5, 3) := by decide +kernel
theorem d_Md_feed_15 : decode b_Md_feed 15 = .ok (.aload_n 0, 1) := by decide +kernel
theorem d_Md_feed_16 : decode b_Md_feed 16 = .ok (.iload_n 1, 1) := by decide +kernel
theorem d_Md_feed_17 : decode b_Md_feed 17 = .ok (.invokevirtual 680, 3) := by decide +kernel
theorem d_Md_feed_20 : decode b_Md_feed 20 = .ok (.aload_n 0, 1) := by decide +kernel
theorem d_Md_feed_21 : decode b_Md_feed 21 = .ok (.iload_n 2, 1) := by decide +kernel
theorem d_Md_feed_22 : decode b_Md_feed 22 = .ok (.invokevirtual 680, 3) := by decide +kernel
theorem d_Md_feed_25 : decode b_Md_feed 25 = .ok (.aload_n 0, 1) := by decide +kernel
theorem d_Md_feed_26 : decode b_Md_feed 26 = .ok (.iload_n 3, 1) := by decide +kernel
theorem d_Md_feed_27 : decode b_Md_feed 27 = .ok (.invokevirtual 680, 3) := by decide +kernel
theorem d_Md_feed_30 : decode b_Md_feed 30 = .ok (.aload_n 0, 1) := by decide +kernel
theorem d_Md_feed_31 : decode b_Md_feed 31 = .ok (.iload 4, 2) := by decide +kernel
theorem d_Md_feed_33 : decode b_Md_feed 33 = .ok (.invokevirtual 680, 3) := by decide +kernel
theorem d_Md_feed_36 : decode b_Md_feed 36 = .ok (.aload_n 0, 1) := by decide +kernel
theorem d_Md_feed_37 : decode b_Md_feed 37 = .ok (.iload 5, 2) := by decide +kernel
theorem d_Md_feed_39 : decode b_Md_feed 39 = .ok (.invokevirtual 680, 3) := by decide +kernel
theorem d_Md_feed_42 : decode b_Md_feed 42 = .ok (.aload_n 0, 1) := by decide +kernel
theorem d_Md_feed_43 : decode b_Md_feed 43 = .ok (.getfield 296, 3) := by decide +kernel
theorem d_Md_feed_46 : decode b_Md_feed 46 = .ok (.ireturn, 1) := by decide +kernel
theorem d_Md_fault_0 : decode b_Md_fault 0 = .ok (.aload_n 0, 1) := by decide +kernel
theorem d_Md_fault_1 : decode b_Md_fault 1 = .ok (.getfield 299, 3) := by decide +kernel
theorem d_Md_fault_4 : decode b_Md_fault 4 = .ok (.ifCond .ne 7, 3) := by decide +kernel
theorem d_Md_fault_7 : decode b_Md_fault 7 = .ok (.iconst (-1), 1) := by decide +kernel
theorem d_Md_fault_8 : decode b_Md_fault 8 = .ok (.goto 27, 3) := by decide +kernel
theorem d_Md_fault_35 : decode b_Md_fault 35 = .ok (.ireturn, 1) := by decide +kernel
theorem d_Md_look_0 : decode b_Md_look 0 = .ok (.aload_n 0, 1) := by decide +kernel
theorem d_Md_look_1 : decode b_Md_look 1 = .ok (.iconst 0, 1) := by decide +kernel
theorem d_Md_look_2 : decode b_Md_look 2 = .ok (.putfield 129, 3) := by decide +kernel
theorem d_Md_look_5 : decode b_Md_look 5 = .ok (.aload_n 0, 1) := by decide +kernel
theorem d_Md_look_6 : decode b_Md_look 6 = .ok (.getfield 126, 3) := by decide +kernel
theorem d_Md_look_9 : decode b_Md_look 9 = .ok (.ifCond .eq 4, 3) := by decide +kernel
theorem d_Md_look_13 : decode b_Md_look 13 = .ok (.iconst 0, 1) := by decide +kernel
theorem d_Md_look_14 : decode b_Md_look 14 = .ok (.istore_n 1, 1) := by decide +kernel
theorem d_Md_look_15 : decode b_Md_look 15 = .ok (.iconst 0, 1) := by decide +kernel
theorem d_Md_look_16 : decode b_Md_look 16 = .ok (.istore_n 2, 1) := by decide +kernel
theorem d_Md_look_17 : decode b_Md_look 17 = .ok (.aload_n 0, 1) := by decide +kernel
theorem d_Md_look_18 : decode b_Md_look 18 = .ok (.getfield 132, 3) := by decide +kernel
theorem d_Md_look_21 : decode b_Md_look 21 = .ok (.aload_n 0, 1) := by decide +kernel
theorem d_Md_look_22 : decode b_Md_look 22 = .ok (.getfield 135, 3) := by decide +kernel
theorem d_Md_look_25 : decode b_Md_look 25 = .ok (.if_icmp .ge 106, 3) := by decide +kernel
theorem d_Md_look_131 : decode b_Md_look 131 = .ok (.aload_n 0, 1) := by decide +kernel
theorem d_Md_look_132 : decode b_Md_look 132 = .ok (.aload_n 0, 1) := by decide +kernel
theorem d_Md_look_133 : decode b_Md_look 133 = .ok (.getfield 132, 3) := by decide +kernel
theorem d_Md_look_136 : decode b_Md_look 136 = .ok (.putfield 142, 3) := by decide +kernel
theorem d_Md_look_139 : decode b_Md_look 139 = .ok (.iload_n 2, 1) := by decide +kernel
theorem d_Md_look_140 : decode b_Md_look 140 = .ok (.ifCond .ne 4, 3) := by decide +kernel
theorem d_Md_look_143 : decode b_Md_look 143 = .ok (.return_, 1) := by decide +kernel
theorem d_Md_readText_0 : decode b_Md_readText 0 = .ok (.aload_n 0, 1) := by decide +kernel
theorem d_Md_readText_1 : decode b_Md_readText 1 = .ok (.iconst 0, 1) := by decide +kernel
theorem d_Md_readText_2 : decode b_Md_readText 2 = .ok (.putfield 132, 3) := by decide +kernel
theorem d_Md_readText_5 : decode b_Md_readText 5 = .ok (.aload_n 0, 1) := by decide +kernel
theorem d_Md_readText_6 : decode b_Md_readText 6 = .ok (.iconst 0, 1) := by decide +kernel
theorem d_Md_readText_7 : decode b_Md_readText 7 = .ok (.putfield 284, 3) := by decide +kernel
theorem d_Md_readText_10 : decode b_Md_readText 10 = .ok (.aload_n 0, 1) := by decide +kernel
theorem d_Md_readText_11 : decode b_Md_readText 11 = .ok (.iconst 0, 1) := by decide +kernel
theorem d_Md_readText_12 : decode b_Md_readText 12 = .ok (.putfield 290, 3) := by decide +kernel
theorem d_Md_readText_15 : decode b_Md_readText 15 = .ok (.aload_n 0, 1) := by decide +kernel
theorem d_Md_readText_16 : decode b_Md_readText 16 = .ok (.iconst 0, 1) := by decide +kernel
theorem d_Md_readText_17 : decode b_Md_readText 17 = .ok (.putfield 189, 3) := by decide +kernel
theorem d_Md_readText_20 : decode b_Md_readText 20 = .ok (.aload_n 0, 1) := by decide +kernel
theorem d_Md_readText_21 : decode b_Md_readText 21 = .ok (.iconst 0, 1) := by decide +kernel
theorem d_Md_readText_22 : decode b_Md_readText 22 = .ok (.putfield 126, 3) := by decide +kernel
theorem d_Md_readText_25 : decode b_Md_readText 25 = .ok (.aload_n 0, 1) := by decide +kernel
theorem d_Md_readText_26 : decode b_Md_readText 26 = .ok (.iconst (-1), 1) := by decide +kernel
theorem d_Md_readText_27 : decode b_Md_readText 27 = .ok (.putfield 19, 3) := by decide +kernel
theorem d_Md_readText_30 : decode b_Md_readText 30 = .ok (.iconst 1, 1) := by decide +kernel
theorem d_Md_readText_31 : decode b_Md_readText 31 = .ok (.istore_n 1, 1) := by decide +kernel
theorem d_Md_readText_32 : decode b_Md_readText 32 = .ok (.iload_n 1, 1) := by decide +kernel
theorem d_Md_readText_33 : decode b_Md_readText 33 = .ok (.ifCond .eq 65, 3) := by decide +kernel
theorem d_Md_readText_36 : decode b_Md_readText 36 = .ok (.aload_n 0, 1) := by decide +kernel
theorem d_Md_readText_37 : decode b_Md_readText 37 = .ok (.getfield 126, 3) := by decide +kernel
theorem d_Md_readText_40 : decode b_Md_readText 40 = .ok (.ifCond .ne 58, 3) := by decide +kernel
theorem d_Md_readText_43 : decode b_Md_readText 43 = .ok (.aload_n 0, 1) := by decide +kernel
theorem d_Md_readText_44 : decode b_Md_readText 44 = .ok (.invokevirtual 179, 3) := by decide +kernel
theorem d_Md_readText_47 : decode b_Md_readText 47 = .ok (.aload_n 0, 1) := by decide +kernel
theorem d_Md_readText_48 : decode b_Md_readText 48 = .ok (.getfield 129, 3) := by decide +kernel
theorem d_Md_readText_51 : decode b_Md_readText 51 = .ok (.ifCond .eq 10, 3) := by decide +kernel
theorem d_Md_readText_61 : decode b_Md_readText 61 = .ok (.aload_n 0, 1) := by decide +kernel
theorem d_Md_readText_62 : decode b_Md_readText 62 = .ok (.getfield 126, 3) := by decide +kernel
theorem d_Md_readText_65 : decode b_Md_readText 65 = .ok (.ifCond .ne (-33), 3) := by decide +kernel
theorem d_Md_readText_68 : decode b_Md_readText 68 = .ok (.aload_n 0, 1) := by decide +kernel
theorem d_Md_readText_69 : decode b_Md_readText 69 = .ok (.getfield 132, 3) := by decide +kernel
theorem d_Md_readText_72 : decode b_Md_readText 72 = .ok (.aload_n 0, 1) := by decide +kernel
theorem d_Md_readText_73 : decode b_Md_readText 73 = .ok (.getfield 135, 3) := by decide +kernel
theorem d_Md_readText_76 : decode b_Md_readText 76 = .ok (.if_icmp .ge 7, 3) := by decide +kernel
theorem d_Md_readText_83 : decode b_Md_readText 83 = .ok (.iconst 0, 1) := by decide +kernel
theorem d_Md_readText_84 : decode b_Md_readText 84 = .ok (.istore_n 1, 1) := by decide +kernel
theorem d_Md_readText_85 : decode b_Md_readText 85 = .ok (.aload_n 0, 1) := by decide +kernel
theorem d_Md_readText_86 : decode b_Md_readText 86 = .ok (.dup, 1) := by decide +kernel
theorem d_Md_readText_87 : decode b_Md_readText 87 = .ok (.getfield 132, 3) := by decide +kernel
theorem d_Md_readText_90 : decode b_Md_readText 90 = .ok (.iconst 1, 1) := by decide +kernel
theorem d_Md_readText_91 : decode b_Md_readText 91 = .ok (.iadd, 1) := by decide +kernel
theorem d_Md_readText_92 : decode b_Md_readText 92 = .ok (.putfield 132, 3) := by decide +kernel
theorem d_Md_readText_95 : decode b_Md_readText 95 = .ok (.goto (-63), 3) := by decide +kernel
theorem d_Md_readText_98 : decode b_Md_readText 98 = .ok (.aload_n 0, 1) := by decide +kernel
theorem d_Md_readText_99 : decode b_Md_readText 99 = .ok (.getfield 27, 3) := by decide +kernel
theorem d_Md_readText_102 : decode b_Md_readText 102 = .ok (.aload_n 0, 1) := by decide +kernel
theorem d_Md_readText_103 : decode b_Md_readText 103 = .ok (.getfield 284, 3) := by decide +kernel
theorem d_Md_readText_106 : decode b_Md_readText 106 = .ok (.aload_n 0, 1) := by decide +kernel
theorem d_Md_readText_107 : decode b_Md_readText 107 = .ok (.getfield 189, 3) := by decide +kernel
theorem d_Md_readText_110 : decode b_Md_readText 110 = .ok (.iastore, 1) := by decide +kernel
theorem d_Md_readText_111 : decode b_Md_readText 111 = .ok (.aload_n 0, 1) := by decide +kernel
theorem d_Md_readText_112 : decode b_Md_readText 112 = .ok (.getfield 126, 3) := by decide +kernel
theorem d_Md_readText_115 : decode b_Md_readText 115 = .ok (.ifCond .eq 8, 3) := by decide +kernel
theorem d_Md_readText_123 : decode b_Md_readText 123 = .ok (.return_, 1) := by decide +kernel
theorem d_Md_read_0 : decode b_Md_read 0 = .ok (.iload_n 1, 1) := by decide +kernel
theorem d_Md_read_1 : decode b_Md_read 1 = .ok (.ifCond .lt 11, 3) := by decide +kernel
theorem d_Md_read_12 : decode b_Md_read 12 = .ok (.bipush (-2), 2) := by decide +kernel
theorem d_Md_read_14 : decode b_Md_read 14 = .ok (.ireturn, 1) := by decide +kernel
theorem d_Md_read_4 : decode b_Md_read 4 = .ok (.iload_n 1, 1) := by decide +kernel
