theorem d_Rd_refuse_51 : decode b_Rd_refuse 51 = .ok (.iconst 2, 1) := by decide +kernel
theorem d_Rd_refuse_52 : decode b_Rd_refuse 52 = .ok (.putfield 32, 3) := by decide +kernel
theorem d_Rd_refuse_55 : decode b_Rd_refuse 55 = .ok (.goto 8, 3) := by decide +kernel
theorem d_Rd_refuse_0 : decode b_Rd_refuse 0 = .ok (.aload_n 0, 1) := by decide +kernel
theorem d_Rd_refuse_1 : decode b_Rd_refuse 1 = .ok (.aload_n 0, 1) := by decide +kernel
theorem d_Rd_refuse_2 : decode b_Rd_refuse 2 = .ok (.getfield 44, 3) := by decide +kernel
theorem d_Rd_refuse_5 : decode b_Rd_refuse 5 = .ok (.putfield 22, 3) := by decide +kernel
theorem d_Rd_refuse_8 : decode b_Rd_refuse 8 = .ok (.aload_n 0, 1) := by decide +kernel
theorem d_Rd_refuse_9 : decode b_Rd_refuse 9 = .ok (.getfield 41, 3) := by decide +kernel
theorem d_Rd_refuse_12 : decode b_Rd_refuse 12 = .ok (.iconst 1, 1) := by decide +kernel
theorem d_Rd_refuse_13 : decode b_Rd_refuse 13 = .ok (.if_icmp .ne 11, 3) := by decide +kernel
theorem d_Rd_refuse_24 : decode b_Rd_refuse 24 = .ok (.aload_n 0, 1) := by decide +kernel
theorem d_Rd_refuse_25 : decode b_Rd_refuse 25 = .ok (.getfield 41, 3) := by decide +kernel
theorem d_Rd_refuse_28 : decode b_Rd_refuse 28 = .ok (.iconst 3, 1) := by decide +kernel
theorem d_Rd_refuse_29 : decode b_Rd_refuse 29 = .ok (.if_icmp .ne 29, 3) := by decide +kernel
theorem d_Rd_refuse_32 : decode b_Rd_refuse 32 = .ok (.aload_n 0, 1) := by decide +kernel
theorem d_Rd_refuse_33 : decode b_Rd_refuse 33 = .ok (.getfield 113, 3) := by decide +kernel
theorem d_Rd_refuse_36 : decode b_Rd_refuse 36 = .ok (.ifCond .ne 14, 3) := by decide +kernel
theorem d_Rd_refuse_39 : decode b_Rd_refuse 39 = .ok (.aload_n 0, 1) := by decide +kernel
theorem d_Rd_refuse_40 : decode b_Rd_refuse 40 = .ok (.getfield 117, 3) := by decide +kernel
theorem d_Rd_refuse_43 : decode b_Rd_refuse 43 = .ok (.ldc2_w 121, 3) := by decide +kernel
theorem d_Rd_refuse_46 : decode b_Rd_refuse 46 = .ok (.lcmp, 1) := by decide +kernel
theorem d_Rd_refuse_47 : decode b_Rd_refuse 47 = .ok (.ifCond .le 11, 3) := by decide +kernel
theorem d_Rd_refuse_16 : decode b_Rd_refuse 16 = .ok (.aload_n 0, 1) := by decide +kernel
theorem d_Rd_refuse_17 : decode b_Rd_refuse 17 = .ok (.iconst 1, 1) := by decide +kernel
theorem d_Rd_refuse_18 : decode b_Rd_refuse 18 = .ok (.putfield 32, 3) := by decide +kernel
theorem d_Rd_refuse_21 : decode b_Rd_refuse 21 = .ok (.goto 42, 3) := by decide +kernel
theorem d_Li_isFull_0 : decode b_Li_isFull 0 = .ok (.aload_n 0, 1) := by decide +kernel
theorem d_Li_isFull_1 : decode b_Li_isFull 1 = .ok (.getfield 22, 3) := by decide +kernel
theorem d_Li_isFull_4 : decode b_Li_isFull 4 = .ok (.bipush 64, 2) := by decide +kernel
theorem d_Li_isFull_6 : decode b_Li_isFull 6 = .ok (.if_icmp .lt 7, 3) := by decide +kernel
theorem d_Li_isFull_13 : decode b_Li_isFull 13 = .ok (.iconst 0, 1) := by decide +kernel
theorem d_Li_isFull_14 : decode b_Li_isFull 14 = .ok (.ireturn, 1) := by decide +kernel
theorem d_Li_isFull_9 : decode b_Li_isFull 9 = .ok (.iconst 1, 1) := by decide +kernel
theorem d_Li_isFull_10 : decode b_Li_isFull 10 = .ok (.goto 4, 3) := by decide +kernel
theorem d_Li_open_0 : decode b_Li_open 0 = .ok (.aload_n 0, 1) := by decide +kernel
theorem d_Li_open_1 : decode b_Li_open 1 = .ok (.getfield 22, 3) := by decide +kernel
theorem d_Li_open_4 : decode b_Li_open 4 = .ok (.bipush 64, 2) := by decide +kernel
theorem d_Li_open_6 : decode b_Li_open 6 = .ok (.if_icmp .ge 43, 3) := by decide +kernel
theorem d_Li_open_49 : decode b_Li_open 49 = .ok (.return_, 1) := by decide +kernel
theorem d_Li_open_9 : decode b_Li_open 9 = .ok (.aload_n 0, 1) := by decide +kernel
theorem d_Li_open_10 : decode b_Li_open 10 = .ok (.getfield 9, 3) := by decide +kernel
theorem d_Li_open_13 : decode b_Li_open 13 = .ok (.aload_n 0, 1) := by decide +kernel
theorem d_Li_open_14 : decode b_Li_open 14 = .ok (.getfield 22, 3) := by decide +kernel
theorem d_Li_open_17 : decode b_Li_open 17 = .ok (.iload_n 1, 1) := by decide +kernel
theorem d_Li_open_18 : decode b_Li_open 18 = .ok (.iastore, 1) := by decide +kernel
theorem d_Li_open_19 : decode b_Li_open 19 = .ok (.aload_n 0, 1) := by decide +kernel
theorem d_Li_open_20 : decode b_Li_open 20 = .ok (.getfield 15, 3) := by decide +kernel
theorem d_Li_open_23 : decode b_Li_open 23 = .ok (.aload_n 0, 1) := by decide +kernel
theorem d_Li_open_24 : decode b_Li_open 24 = .ok (.getfield 22, 3) := by decide +kernel
theorem d_Li_open_27 : decode b_Li_open 27 = .ok (.iconst 1, 1) := by decide +kernel
theorem d_Li_open_28 : decode b_Li_open 28 = .ok (.iadd, 1) := by decide +kernel
theorem d_Li_open_29 : decode b_Li_open 29 = .ok (.aload_n 0, 1) := by decide +kernel
theorem d_Li_open_30 : decode b_Li_open 30 = .ok (.getfield 15, 3) := by decide +kernel
theorem d_Li_open_33 : decode b_Li_open 33 = .ok (.aload_n 0, 1) := by decide +kernel
theorem d_Li_open_34 : decode b_Li_open 34 = .ok (.getfield 22, 3) := by decide +kernel
theorem d_Li_open_37 : decode b_Li_open 37 = .ok (.iaload, 1) := by decide +kernel
theorem d_Li_open_38 : decode b_Li_open 38 = .ok (.iastore, 1) := by decide +kernel
theorem d_Li_open_39 : decode b_Li_open 39 = .ok (.aload_n 0, 1) := by decide +kernel
theorem d_Li_open_40 : decode b_Li_open 40 = .ok (.dup, 1) := by decide +kernel
theorem d_Li_open_41 : decode b_Li_open 41 = .ok (.getfield 22, 3) := by decide +kernel
theorem d_Li_open_44 : decode b_Li_open 44 = .ok (.iconst 1, 1) := by decide +kernel
theorem d_Li_open_45 : decode b_Li_open 45 = .ok (.iadd, 1) := by decide +kernel
theorem d_Li_open_46 : decode b_Li_open 46 = .ok (.putfield 22, 3) := by decide +kernel
theorem d_Li_kindOfLast_0 : decode b_Li_kindOfLast 0 = .ok (.aload_n 0, 1) := by decide +kernel
theorem d_Li_kindOfLast_1 : decode b_Li_kindOfLast 1 = .ok (.getfield 22, 3) := by decide +kernel
theorem d_Li_kindOfLast_4 : decode b_Li_kindOfLast 4 = .ok (.ifCond .le 17, 3) := by decide +kernel
theorem d_Li_kindOfLast_21 : decode b_Li_kindOfLast 21 = .ok (.iconst 0, 1) := by decide +kernel
theorem d_Li_kindOfLast_22 : decode b_Li_kindOfLast 22 = .ok (.ireturn, 1) := by decide +kernel
theorem d_Li_kindOfLast_7 : decode b_Li_kindOfLast 7 = .ok (.aload_n 0, 1) := by decide +kernel
theorem d_Li_kindOfLast_8 : decode b_Li_kindOfLast 8 = .ok (.getfield 9, 3) := by decide +kernel
theorem d_Li_kindOfLast_11 : decode b_Li_kindOfLast 11 = .ok (.aload_n 0, 1) := by decide +kernel
theorem d_Li_kindOfLast_12 : decode b_Li_kindOfLast 12 = .ok (.getfield 22, 3) := by decide +kernel
theorem d_Li_kindOfLast_15 : decode b_Li_kindOfLast 15 = .ok (.iconst 1, 1) := by decide +kernel
theorem d_Li_kindOfLast_16 : decode b_Li_kindOfLast 16 = .ok (.isub, 1) := by decide +kernel
theorem d_Li_kindOfLast_17 : decode b_Li_kindOfLast 17 = .ok (.iaload, 1) := by decide +kernel
theorem d_Li_kindOfLast_18 : decode b_Li_kindOfLast 18 = .ok (.goto 4, 3) := by decide +kernel
theorem d_Rd_isMark_0 : decode b_Rd_isMark 0 = .ok (.aload_n 0, 1) := by decide +kernel
theorem d_Rd_isMark_1 : decode b_Rd_isMark 1 = .ok (.getfield 41, 3) := by decide +kernel
theorem d_Rd_isMark_4 : decode b_Rd_isMark 4 = .ok (.iconst 4, 1) := by decide +kernel
theorem d_Rd_isMark_5 : decode b_Rd_isMark 5 = .ok (.if_icmp .ne 17, 3) := by decide +kernel
theorem d_Rd_isMark_22 : decode b_Rd_isMark 22 = .ok (.iconst 0, 1) := by decide +kernel
theorem d_Rd_isMark_23 : decode b_Rd_isMark 23 = .ok (.ireturn, 1) := by decide +kernel
theorem d_Rd_isMark_8 : decode b_Rd_isMark 8 = .ok (.aload_n 0, 1) := by decide +kernel
theorem d_Rd_isMark_9 : decode b_Rd_isMark 9 = .ok (.getfield 117, 3) := by decide +kernel
theorem d_Rd_isMark_12 : decode b_Rd_isMark 12 = .ok (.iload_n 1, 1) := by decide +kernel
theorem d_Rd_isMark_13 : decode b_Rd_isMark 13 = .ok (.i2l, 1) := by decide +kernel
theorem d_Rd_isMark_14 : decode b_Rd_isMark 14 = .ok (.lcmp, 1) := by decide +kernel
theorem d_Rd_isMark_15 : decode b_Rd_isMark 15 = .ok (.ifCond .ne 7, 3) := by decide +kernel
theorem d_Rd_isMark_18 : decode b_Rd_isMark 18 = .ok (.iconst 1, 1) := by decide +kernel
theorem d_Rd_isMark_19 : decode b_Rd_isMark 19 = .ok (.goto 4, 3) := by decide +kernel
theorem d_Li_add_0 : decode b_Li_add 0 = .ok (.aload_n 0, 1) := by decide +kernel
theorem d_Li_add_1 : decode b_Li_add 1 = .ok (.getfield 15, 3) := by decide +kernel
theorem d_Li_add_4 : decode b_Li_add 4 = .ok (.aload_n 0, 1) := by decide +kernel
theorem d_Li_add_5 : decode b_Li_add 5 = .ok (.getfield 22, 3) := by decide +kernel
theorem d_Li_add_8 : decode b_Li_add 8 = .ok (.iaload, 1) := by decide +kernel
theorem d_Li_add_9 : decode b_Li_add 9 = .ok (.istore_n 3, 1) := by decide +kernel
theorem d_Li_add_10 : decode b_Li_add 10 = .ok (.aload_n 0, 1) := by decide +kernel
theorem d_Li_add_11 : decode b_Li_add 11 = .ok (.getfield 22, 3) := by decide +kernel
theorem d_Li_add_14 : decode b_Li_add 14 = .ok (.ifCond .le 29, 3) := by decide +kernel
theorem d_Li_add_43 : decode b_Li_add 43 = .ok (.return_, 1) := by decide +kernel
theorem d_Li_add_17 : decode b_Li_add 17 = .ok (.iload_n 3, 1) := by decide +kernel
theorem d_Li_add_18 : decode b_Li_add 18 = .ok (.sipush 4000, 3) := by decide +kernel
theorem d_Li_add_21 : decode b_Li_add 21 = .ok (.if_icmp .ge 22, 3) := by decide +kernel
theorem d_Li_add_24 : decode b_Li_add 24 = .ok (.aload_n 0, 1) := by decide +kernel
theorem d_Li_add_25 : decode b_Li_add 25 = .ok (.getfield 18, 3) := by decide +kernel
theorem d_Li_add_28 : decode b_Li_add 28 = .ok (.iload_n 3, 1) := by decide +kernel
theorem d_Li_add_29 : decode b_Li_add 29 = .ok (.lload_n 1, 1) := by decide +kernel
theorem d_Li_add_30 : decode b_Li_add 30 = .ok (.lastore, 1) := by decide +kernel
theorem d_Li_add_31 : decode b_Li_add 31 = .ok (.aload_n 0, 1) := by decide +kernel
theorem d_Li_add_32 : decode b_Li_add 32 = .ok (.getfield 15, 3) := by decide +kernel
theorem d_Li_add_35 : decode b_Li_add 35 = .ok (.aload_n 0, 1) := by decide +kernel
theorem d_Li_add_36 : decode b_Li_add 36 = .ok (.getfield 22, 3) := by decide +kernel
theorem d_Li_add_39 : decode b_Li_add 39 = .ok (.iload_n 3, 1) := by decide +kernel
theorem d_Li_add_40 : decode b_Li_add 40 = .ok (.iconst 1, 1) := by decide +kernel
theorem d_Li_add_41 : decode b_Li_add 41 = .ok (.iadd, 1) := by decide +kernel
theorem d_Li_add_42 : decode b_Li_add 42 = .ok (.iastore, 1) := by decide +kernel
theorem d_En_fault_9 : decode b_En_fault 9 = .ok (.iload_n 1, 1) := by decide +kernel
theorem d_En_fault_10 : decode b_En_fault 10 = .ok (.lookupswitch 42 #[(0, 26), (1, 34)], 26) := by decide +kernel
theorem d_En_fault_36 : decode b_En_fault 36 = .ok (.aload_n 0, 1) := by decide +kernel
theorem d_En_fault_37 : decode b_En_fault 37 = .ok (.getfield 12, 3) := by decide +kernel
theorem d_En_fault_40 : decode b_En_fault 40 = .ok (.getfield 120, 3) := by decide +kernel
theorem d_En_fault_43 : decode b_En_fault 43 = .ok (.ireturn, 1) := by decide +kernel
theorem d_En_fault_44 : decode b_En_fault 44 = .ok (.aload_n 0, 1) := by decide +kernel
theorem d_En_fault_45 : decode b_En_fault 45 = .ok (.getfield 12, 3) := by decide +kernel
theorem d_En_fault_48 : decode b_En_fault 48 = .ok (.getfield 129, 3) := by decide +kernel
theorem d_En_fault_51 : decode b_En_fault 51 = .ok (.ireturn, 1) := by decide +kernel
theorem d_En_fault_52 : decode b_En_fault 52 = .ok (.iconst (-1), 1) := by decide +kernel
theorem d_En_fault_53 : decode b_En_fault 53 = .ok (.ireturn, 1) := by decide +kernel
theorem d_Li_kindOfNext_11 : decode b_Li_kindOfNext 11 = .ok (.aload_n 0, 1) := by decide +kernel
theorem d_Li_kindOfNext_12 : decode b_Li_kindOfNext 12 = .ok (.getfield 9, 3) := by decide +kernel
theorem d_Li_kindOfNext_15 : decode b_Li_kindOfNext 15 = .ok (.aload_n 0, 1) := by decide +kernel
theorem d_Li_kindOfNext_16 : decode b_Li_kindOfNext 16 = .ok (.getfield 26, 3) := by decide +kernel
theorem d_Li_kindOfNext_19 : decode b_Li_kindOfNext 19 = .ok (.iaload, 1) := by decide +kernel
theorem d_Li_kindOfNext_20 : decode b_Li_kindOfNext 20 = .ok (.goto 4, 3) := by decide +kernel
theorem d_Di_clear_0 : decode b_Di_clear 0 = .ok (.aload_n 0, 1) := by decide +kernel
theorem d_Di_clear_1 : decode b_Di_clear 1 = .ok (.iconst 0, 1) := by decide +kernel
theorem d_Di_clear_2 : decode b_Di_clear 2 = .ok (.putfield 36, 3) := by decide +kernel
theorem d_Di_clear_5 : decode b_Di_clear 5 = .ok (.aload_n 0, 1) := by decide +kernel
theorem d_Di_clear_6 : decode b_Di_clear 6 = .ok (.iconst 0, 1) := by decide +kernel
theorem d_Di_clear_7 : decode b_Di_clear 7 = .ok (.putfield 61, 3) := by decide +kernel
theorem d_Di_clear_10 : decode b_Di_clear 10 = .ok (.aload_n 0, 1) := by decide +kernel
theorem d_Di_clear_11 : decode b_Di_clear 11 = .ok (.iconst 0, 1) := by decide +kernel
theorem d_Di_clear_12 : decode b_Di_clear 12 = .ok (.putfield 25, 3) := by decide +kernel
theorem d_Di_clear_15 : decode b_Di_clear 15 = .ok (.return_, 1) := by decide +kernel
theorem d_Li_numbers_0 : decode b_Li_numbers 0 = .ok (.aload_n 0, 1) := by decide +kernel
theorem d_Li_numbers_1 : decode b_Li_numbers 1 = .ok (.getfield 26, 3) := by decide +kernel
theorem d_Li_numbers_4 : decode b_Li_numbers 4 = .ok (.aload_n 0, 1) := by decide +kernel
theorem d_Li_numbers_5 : decode b_Li_numbers 5 = .ok (.getfield 22, 3) := by decide +kernel
theorem d_Li_numbers_8 : decode b_Li_numbers 8 = .ok (.if_icmp .ge 27, 3) := by decide +kernel
theorem d_Li_numbers_35 : decode b_Li_numbers 35 = .ok (.iconst 0, 1) := by decide +kernel
theorem d_Li_numbers_36 : decode b_Li_numbers 36 = .ok (.ireturn, 1) := by decide +kernel
theorem d_Li_numbers_11 : decode b_Li_numbers 11 = .ok (.aload_n 0, 1) := by decide +kernel
theorem d_Li_numbers_12 : decode b_Li_numbers 12 = .ok (.getfield 15, 3) := by decide +kernel
theorem d_Li_numbers_15 : decode b_Li_numbers 15 = .ok (.aload_n 0, 1) := by decide +kernel
theorem d_Li_numbers_16 : decode b_Li_numbers 16 = .ok (.getfield 26, 3) := by decide +kernel
theorem d_Li_numbers_19 : decode b_Li_numbers 19 = .ok (.iconst 1, 1) := by decide +kernel
theorem d_Li_numbers_20 : decode b_Li_numbers 20 = .ok (.iadd, 1) := by decide +kernel
theorem d_Li_numbers_21 : decode b_Li_numbers 21 = .ok (.iaload, 1) := by decide +kernel
theorem d_Li_numbers_22 : decode b_Li_numbers 22 = .ok (.aload_n 0, 1) := by decide +kernel
theorem d_Li_numbers_23 : decode b_Li_numbers 23 = .ok (.getfield 15, 3) := by decide +kernel
theorem d_Li_numbers_26 : decode b_Li_numbers 26 = .ok (.aload_n 0, 1) := by decide +kernel
theorem d_Li_numbers_27 : decode b_Li_numbers 27 = .ok (.getfield 26, 3) := by decide +kernel
theorem d_Li_numbers_30 : decode b_Li_numbers 30 = .ok (.iaload, 1) := by decide +kernel
theorem d_Li_numbers_31 : decode b_Li_numbers 31 = .ok (.isub, 1) := by decide +kernel
theorem d_Li_numbers_32 : decode b_Li_numbers 32 = .ok (.goto 4, 3) := by decide +kernel
theorem d_Li_longNumber_0 : decode b_Li_longNumber 0 = .ok (.aload_n 0, 1) := by decide +kernel
theorem d_Li_longNumber_1 : decode b_Li_longNumber 1 = .ok (.getfield 26, 3) := by decide +kernel
theorem d_Li_longNumber_4 : decode b_Li_longNumber 4 = .ok (.aload_n 0, 1) := by decide +kernel
theorem d_Li_longNumber_5 : decode b_Li_longNumber 5 = .ok (.getfield 22, 3) := by decide +kernel
theorem d_Li_longNumber_8 : decode b_Li_longNumber 8 = .ok (.if_icmp .ge 32, 3) := by decide +kernel
theorem d_Li_longNumber_40 : decode b_Li_longNumber 40 = .ok (.lconst 0, 1) := by decide +kernel
theorem d_Li_longNumber_41 : decode b_Li_longNumber 41 = .ok (.lreturn, 1) := by decide +kernel
theorem d_Li_longNumber_11 : decode b_Li_longNumber 11 = .ok (.iload_n 1, 1) := by decide +kernel
theorem d_Li_longNumber_12 : decode b_Li_longNumber 12 = .ok (.ifCond .lt 28, 3) := by decide +kernel
theorem d_Li_longNumber_15 : decode b_Li_longNumber 15 = .ok (.iload_n 1, 1) := by decide +kernel
theorem d_Li_longNumber_16 : decode b_Li_longNumber 16 = .ok (.aload_n 0, 1) := by decide +kernel
theorem d_Li_longNumber_17 : decode b_Li_longNumber 17 = .ok (.getfield 15, 3) := by decide +kernel
theorem d_Li_longNumber_20 : decode b_Li_longNumber 20 = .ok (.aload_n 0, 1) := by decide +kernel
theorem d_Li_longNumber_21 : decode b_Li_longNumber 21 = .ok (.getfield 26, 3) := by decide +kernel
theorem d_Li_longNumber_24 : decode b_Li_longNumber 24 = .ok (.iconst 1, 1) := by decide +kernel
theorem d_Li_longNumber_25 : decode b_Li_longNumber 25 = .ok (.iadd, 1) := by decide +kernel
theorem d_Li_longNumber_26 : decode b_Li_longNumber 26 = .ok (.iaload, 1) := by decide +kernel
theorem d_Li_longNumber_27 : decode b_Li_longNumber 27 = .ok (.aload_n 0, 1) := by decide +kernel
theorem d_Li_longNumber_28 : decode b_Li_longNumber 28 = .ok (.getfield 15, 3) := by decide +kernel
theorem d_Li_longNumber_31 : decode b_Li_longNumber 31 = .ok (.aload_n 0, 1) := by decide +kernel
theorem d_Li_longNumber_32 : decode b_Li_longNumber 32 = .ok (.getfield 26, 3) := by decide +kernel
theorem d_Li_longNumber_35 : decode b_Li_longNumber 35 = .ok (.iaload, 1) := by decide +kernel
theorem d_Li_longNumber_36 : decode b_Li_longNumber 36 = .ok (.isub, 1) := by decide +kernel
theorem d_Li_longNumber_37 : decode b_Li_longNumber 37 = .ok (.if_icmp .lt 5, 3) := by decide +kernel
theorem d_Li_longNumber_42 : decode b_Li_longNumber 42 = .ok (.aload_n 0, 1) := by decide +kernel
theorem d_Li_longNumber_43 : decode b_Li_longNumber 43 = .ok (.getfield 18, 3) := by decide +kernel
theorem d_Li_longNumber_46 : decode b_Li_longNumber 46 = .ok (.aload_n 0, 1) := by decide +kernel
theorem d_Li_longNumber_47 : decode b_Li_longNumber 47 = .ok (.getfield 15, 3) := by decide +kernel
theorem d_Li_longNumber_50 : decode b_Li_longNumber 50 = .ok (.aload_n 0, 1) := by decide +kernel
theorem d_Li_longNumber_51 : decode b_Li_longNumber 51 = .ok (.getfield 26, 3) := by decide +kernel
theorem d_Li_longNumber_54 : decode b_Li_longNumber 54 = .ok (.iaload, 1) := by decide +kernel
theorem d_Li_longNumber_55 : decode b_Li_longNumber 55 = .ok (.iload_n 1, 1) := by decide +kernel
theorem d_Li_longNumber_56 : decode b_Li_longNumber 56 = .ok (.iadd, 1) := by decide +kernel
theorem d_Li_longNumber_57 : decode b_Li_longNumber 57 = .ok (.laload, 1) := by decide +kernel
