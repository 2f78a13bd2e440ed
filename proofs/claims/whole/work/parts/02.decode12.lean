theorem d_Di_turnPlaces_18 : decode b_Di_turnPlaces 18 = .ok (.getfield 15, 3) := by decide +kernel
theorem d_Di_turnPlaces_21 : decode b_Di_turnPlaces 21 = .ok (.iconst 4, 1) := by decide +kernel
theorem d_Di_turnPlaces_22 : decode b_Di_turnPlaces 22 = .ok (.iload_n 1, 1) := by decide +kernel
theorem d_Di_turnPlaces_23 : decode b_Di_turnPlaces 23 = .ok (.imul, 1) := by decide +kernel
theorem d_Di_turnPlaces_24 : decode b_Di_turnPlaces 24 = .ok (.iaload, 1) := by decide +kernel
theorem d_Di_turnPlaces_25 : decode b_Di_turnPlaces 25 = .ok (.istore 4, 2) := by decide +kernel
theorem d_Di_turnPlaces_27 : decode b_Di_turnPlaces 27 = .ok (.aload_n 0, 1) := by decide +kernel
theorem d_Di_turnPlaces_28 : decode b_Di_turnPlaces 28 = .ok (.getfield 15, 3) := by decide +kernel
theorem d_Di_turnPlaces_31 : decode b_Di_turnPlaces 31 = .ok (.iconst 4, 1) := by decide +kernel
theorem d_Di_turnPlaces_32 : decode b_Di_turnPlaces 32 = .ok (.iload_n 1, 1) := by decide +kernel
theorem d_Di_turnPlaces_33 : decode b_Di_turnPlaces 33 = .ok (.imul, 1) := by decide +kernel
theorem d_Di_turnPlaces_34 : decode b_Di_turnPlaces 34 = .ok (.aload_n 0, 1) := by decide +kernel
theorem d_Di_turnPlaces_35 : decode b_Di_turnPlaces 35 = .ok (.getfield 15, 3) := by decide +kernel
theorem d_Di_turnPlaces_38 : decode b_Di_turnPlaces 38 = .ok (.iconst 4, 1) := by decide +kernel
theorem d_Di_turnPlaces_39 : decode b_Di_turnPlaces 39 = .ok (.iload_n 1, 1) := by decide +kernel
theorem d_Di_turnPlaces_40 : decode b_Di_turnPlaces 40 = .ok (.imul, 1) := by decide +kernel
theorem d_Di_turnPlaces_41 : decode b_Di_turnPlaces 41 = .ok (.iconst 1, 1) := by decide +kernel
theorem d_Di_turnPlaces_42 : decode b_Di_turnPlaces 42 = .ok (.iadd, 1) := by decide +kernel
theorem d_Di_turnPlaces_43 : decode b_Di_turnPlaces 43 = .ok (.iaload, 1) := by decide +kernel
theorem d_Di_turnPlaces_44 : decode b_Di_turnPlaces 44 = .ok (.iastore, 1) := by decide +kernel
theorem d_Di_turnPlaces_45 : decode b_Di_turnPlaces 45 = .ok (.aload_n 0, 1) := by decide +kernel
theorem d_Di_turnPlaces_46 : decode b_Di_turnPlaces 46 = .ok (.getfield 15, 3) := by decide +kernel
theorem d_Di_turnPlaces_49 : decode b_Di_turnPlaces 49 = .ok (.iconst 4, 1) := by decide +kernel
theorem d_Di_turnPlaces_50 : decode b_Di_turnPlaces 50 = .ok (.iload_n 1, 1) := by decide +kernel
theorem d_Di_turnPlaces_51 : decode b_Di_turnPlaces 51 = .ok (.imul, 1) := by decide +kernel
theorem d_Di_turnPlaces_52 : decode b_Di_turnPlaces 52 = .ok (.iconst 1, 1) := by decide +kernel
theorem d_Di_turnPlaces_53 : decode b_Di_turnPlaces 53 = .ok (.iadd, 1) := by decide +kernel
theorem d_Di_turnPlaces_54 : decode b_Di_turnPlaces 54 = .ok (.aload_n 0, 1) := by decide +kernel
theorem d_Di_turnPlaces_55 : decode b_Di_turnPlaces 55 = .ok (.getfield 15, 3) := by decide +kernel
theorem d_Di_turnPlaces_58 : decode b_Di_turnPlaces 58 = .ok (.iconst 4, 1) := by decide +kernel
theorem d_Di_turnPlaces_59 : decode b_Di_turnPlaces 59 = .ok (.iload_n 1, 1) := by decide +kernel
theorem d_Di_turnPlaces_60 : decode b_Di_turnPlaces 60 = .ok (.imul, 1) := by decide +kernel
theorem d_Di_turnPlaces_61 : decode b_Di_turnPlaces 61 = .ok (.iconst 2, 1) := by decide +kernel
theorem d_Di_turnPlaces_62 : decode b_Di_turnPlaces 62 = .ok (.iadd, 1) := by decide +kernel
theorem d_Di_turnPlaces_63 : decode b_Di_turnPlaces 63 = .ok (.iaload, 1) := by decide +kernel
theorem d_Di_turnPlaces_64 : decode b_Di_turnPlaces 64 = .ok (.iastore, 1) := by decide +kernel
theorem d_Di_turnPlaces_65 : decode b_Di_turnPlaces 65 = .ok (.aload_n 0, 1) := by decide +kernel
theorem d_Di_turnPlaces_66 : decode b_Di_turnPlaces 66 = .ok (.getfield 15, 3) := by decide +kernel
theorem d_Di_turnPlaces_69 : decode b_Di_turnPlaces 69 = .ok (.iconst 4, 1) := by decide +kernel
theorem d_Di_turnPlaces_70 : decode b_Di_turnPlaces 70 = .ok (.iload_n 1, 1) := by decide +kernel
theorem d_Di_turnPlaces_71 : decode b_Di_turnPlaces 71 = .ok (.imul, 1) := by decide +kernel
theorem d_Di_turnPlaces_72 : decode b_Di_turnPlaces 72 = .ok (.iconst 2, 1) := by decide +kernel
theorem d_Di_turnPlaces_73 : decode b_Di_turnPlaces 73 = .ok (.iadd, 1) := by decide +kernel
theorem d_Di_turnPlaces_74 : decode b_Di_turnPlaces 74 = .ok (.aload_n 0, 1) := by decide +kernel
theorem d_Di_turnPlaces_75 : decode b_Di_turnPlaces 75 = .ok (.getfield 15, 3) := by decide +kernel
theorem d_Di_turnPlaces_78 : decode b_Di_turnPlaces 78 = .ok (.iconst 4, 1) := by decide +kernel
theorem d_Di_turnPlaces_79 : decode b_Di_turnPlaces 79 = .ok (.iload_n 1, 1) := by decide +kernel
theorem d_Di_turnPlaces_80 : decode b_Di_turnPlaces 80 = .ok (.imul, 1) := by decide +kernel
theorem d_Di_turnPlaces_81 : decode b_Di_turnPlaces 81 = .ok (.iconst 3, 1) := by decide +kernel
theorem d_Di_turnPlaces_82 : decode b_Di_turnPlaces 82 = .ok (.iadd, 1) := by decide +kernel
theorem d_Di_turnPlaces_83 : decode b_Di_turnPlaces 83 = .ok (.iaload, 1) := by decide +kernel
theorem d_Di_turnPlaces_84 : decode b_Di_turnPlaces 84 = .ok (.iastore, 1) := by decide +kernel
theorem d_Di_turnPlaces_85 : decode b_Di_turnPlaces 85 = .ok (.aload_n 0, 1) := by decide +kernel
theorem d_Di_turnPlaces_86 : decode b_Di_turnPlaces 86 = .ok (.getfield 15, 3) := by decide +kernel
theorem d_Di_turnPlaces_89 : decode b_Di_turnPlaces 89 = .ok (.iconst 4, 1) := by decide +kernel
theorem d_Di_turnPlaces_90 : decode b_Di_turnPlaces 90 = .ok (.iload_n 1, 1) := by decide +kernel
theorem d_Di_turnPlaces_91 : decode b_Di_turnPlaces 91 = .ok (.imul, 1) := by decide +kernel
theorem d_Di_turnPlaces_92 : decode b_Di_turnPlaces 92 = .ok (.iconst 3, 1) := by decide +kernel
theorem d_Di_turnPlaces_93 : decode b_Di_turnPlaces 93 = .ok (.iadd, 1) := by decide +kernel
theorem d_Di_turnPlaces_94 : decode b_Di_turnPlaces 94 = .ok (.iload 4, 2) := by decide +kernel
theorem d_Di_turnPlaces_96 : decode b_Di_turnPlaces 96 = .ok (.iastore, 1) := by decide +kernel
theorem d_Di_turnPlaces_97 : decode b_Di_turnPlaces 97 = .ok (.iinc 3 1, 3) := by decide +kernel
theorem d_Di_turnPlaces_100 : decode b_Di_turnPlaces 100 = .ok (.goto (-93), 3) := by decide +kernel
theorem d_Di_turnPlaces_103 : decode b_Di_turnPlaces 103 = .ok (.return_, 1) := by decide +kernel
theorem d_Di_upperIn_0 : decode b_Di_upperIn 0 = .ok (.iconst 4, 1) := by decide +kernel
theorem d_Di_upperIn_1 : decode b_Di_upperIn 1 = .ok (.iload_n 1, 1) := by decide +kernel
theorem d_Di_upperIn_2 : decode b_Di_upperIn 2 = .ok (.imul, 1) := by decide +kernel
theorem d_Di_upperIn_3 : decode b_Di_upperIn 3 = .ok (.aload_n 0, 1) := by decide +kernel
theorem d_Di_upperIn_4 : decode b_Di_upperIn 4 = .ok (.getfield 9, 3) := by decide +kernel
theorem d_Di_upperIn_7 : decode b_Di_upperIn 7 = .ok (.iload_n 1, 1) := by decide +kernel
theorem d_Di_upperIn_8 : decode b_Di_upperIn 8 = .ok (.iaload, 1) := by decide +kernel
theorem d_Di_upperIn_9 : decode b_Di_upperIn 9 = .ok (.ifCond .le 7, 3) := by decide +kernel
theorem d_Di_upperIn_12 : decode b_Di_upperIn 12 = .ok (.iconst 3, 1) := by decide +kernel
theorem d_Di_upperIn_13 : decode b_Di_upperIn 13 = .ok (.goto 4, 3) := by decide +kernel
theorem d_Di_upperIn_16 : decode b_Di_upperIn 16 = .ok (.iconst 1, 1) := by decide +kernel
theorem d_Di_upperIn_17 : decode b_Di_upperIn 17 = .ok (.iadd, 1) := by decide +kernel
theorem d_Di_upperIn_18 : decode b_Di_upperIn 18 = .ok (.ireturn, 1) := by decide +kernel
theorem d_Di_upperOut_0 : decode b_Di_upperOut 0 = .ok (.iconst 4, 1) := by decide +kernel
theorem d_Di_upperOut_1 : decode b_Di_upperOut 1 = .ok (.iload_n 1, 1) := by decide +kernel
theorem d_Di_upperOut_2 : decode b_Di_upperOut 2 = .ok (.imul, 1) := by decide +kernel
theorem d_Di_upperOut_3 : decode b_Di_upperOut 3 = .ok (.aload_n 0, 1) := by decide +kernel
theorem d_Di_upperOut_4 : decode b_Di_upperOut 4 = .ok (.getfield 9, 3) := by decide +kernel
theorem d_Di_upperOut_7 : decode b_Di_upperOut 7 = .ok (.iload_n 1, 1) := by decide +kernel
theorem d_Di_upperOut_8 : decode b_Di_upperOut 8 = .ok (.iaload, 1) := by decide +kernel
theorem d_Di_upperOut_9 : decode b_Di_upperOut 9 = .ok (.ifCond .le 7, 3) := by decide +kernel
theorem d_Di_upperOut_12 : decode b_Di_upperOut 12 = .ok (.iconst 1, 1) := by decide +kernel
theorem d_Di_upperOut_13 : decode b_Di_upperOut 13 = .ok (.goto 4, 3) := by decide +kernel
theorem d_Di_upperOut_16 : decode b_Di_upperOut 16 = .ok (.iconst 3, 1) := by decide +kernel
theorem d_Di_upperOut_17 : decode b_Di_upperOut 17 = .ok (.iadd, 1) := by decide +kernel
theorem d_Di_upperOut_18 : decode b_Di_upperOut 18 = .ok (.ireturn, 1) := by decide +kernel
theorem d_Li_init_0 : decode b_Li_init 0 = .ok (.aload_n 0, 1) := by decide +kernel
theorem d_Li_init_1 : decode b_Li_init 1 = .ok (.invokespecial 3, 3) := by decide +kernel
theorem d_Li_init_4 : decode b_Li_init 4 = .ok (.aload_n 0, 1) := by decide +kernel
theorem d_Li_init_5 : decode b_Li_init 5 = .ok (.bipush 64, 2) := by decide +kernel
theorem d_Li_init_7 : decode b_Li_init 7 = .ok (.newarray .int, 2) := by decide +kernel
theorem d_Li_init_9 : decode b_Li_init 9 = .ok (.putfield 9, 3) := by decide +kernel
theorem d_Li_init_12 : decode b_Li_init 12 = .ok (.aload_n 0, 1) := by decide +kernel
theorem d_Li_init_13 : decode b_Li_init 13 = .ok (.bipush 65, 2) := by decide +kernel
theorem d_Li_init_15 : decode b_Li_init 15 = .ok (.newarray .int, 2) := by decide +kernel
theorem d_Li_init_17 : decode b_Li_init 17 = .ok (.putfield 15, 3) := by decide +kernel
theorem d_Li_init_20 : decode b_Li_init 20 = .ok (.aload_n 0, 1) := by decide +kernel
theorem d_Li_init_21 : decode b_Li_init 21 = .ok (.sipush 4000, 3) := by decide +kernel
theorem d_Li_init_24 : decode b_Li_init 24 = .ok (.newarray .long, 2) := by decide +kernel
theorem d_Li_init_26 : decode b_Li_init 26 = .ok (.putfield 18, 3) := by decide +kernel
theorem d_Li_init_29 : decode b_Li_init 29 = .ok (.return_, 1) := by decide +kernel
theorem d_Li_add_0 : decode b_Li_add 0 = .ok (.aload_n 0, 1) := by decide +kernel
theorem d_Li_add_1 : decode b_Li_add 1 = .ok (.getfield 15, 3) := by decide +kernel
theorem d_Li_add_4 : decode b_Li_add 4 = .ok (.aload_n 0, 1) := by decide +kernel
theorem d_Li_add_5 : decode b_Li_add 5 = .ok (.getfield 22, 3) := by decide +kernel
theorem d_Li_add_8 : decode b_Li_add 8 = .ok (.iaload, 1) := by decide +kernel
theorem d_Li_add_9 : decode b_Li_add 9 = .ok (.istore_n 3, 1) := by decide +kernel
theorem d_Li_add_10 : decode b_Li_add 10 = .ok (.aload_n 0, 1) := by decide +kernel
theorem d_Li_add_11 : decode b_Li_add 11 = .ok (.getfield 22, 3) := by decide +kernel
theorem d_Li_add_14 : decode b_Li_add 14 = .ok (.ifCond .le 29, 3) := by decide +kernel
theorem d_Li_add_17 : decode b_Li_add 17 = .ok (.iload_n 3, 1) := by decide +kernel
theorem d_Li_add_18 : decode b_Li_add 18 = .ok (.sipush 4000, 3) := by decide +kernel
theorem d_Li_add_21 : decode b_Li_add 21 = .ok (.if_icmp .ge 22, 3) := by decide +kernel
theorem d_Li_add_24 : decode b_Li_add 24 = .ok (.aload_n 0, 1) := by decide +kernel
theorem d_Li_add_25 : decode b_Li_add 25 = .ok (.getfield 18, 3) := by decide +kernel
theorem d_Li_add_28 : decode b_Li_add 28 = .ok (.iload_n 3, 1) := by decide +kernel
theorem d_Li_add_29 : decode b_Li_add 29 = .ok (.lload_n 1, 1) := by decide +kernel
theorem d_Li_add_30 : decode b_Li_add 30 = .ok (.lastore, 1) := by decide +kernel
theorem d_Li_add_31 : decode b_Li_add 31 = .ok (.aload_n 0, 1) := by decide +kernel
theorem d_Li_add_32 : decode b_Li_add 32 = .ok (.getfield 15, 3) := by decide +kernel
theorem d_Li_add_35 : decode b_Li_add 35 = .ok (.aload_n 0, 1) := by decide +kernel
theorem d_Li_add_36 : decode b_Li_add 36 = .ok (.getfield 22, 3) := by decide +kernel
theorem d_Li_add_39 : decode b_Li_add 39 = .ok (.iload_n 3, 1) := by decide +kernel
theorem d_Li_add_40 : decode b_Li_add 40 = .ok (.iconst 1, 1) := by decide +kernel
theorem d_Li_add_41 : decode b_Li_add 41 = .ok (.iadd, 1) := by decide +kernel
theorem d_Li_add_42 : decode b_Li_add 42 = .ok (.iastore, 1) := by decide +kernel
theorem d_Li_add_43 : decode b_Li_add 43 = .ok (.return_, 1) := by decide +kernel
theorem d_Li_clear_0 : decode b_Li_clear 0 = .ok (.aload_n 0, 1) := by decide +kernel
theorem d_Li_clear_1 : decode b_Li_clear 1 = .ok (.iconst 0, 1) := by decide +kernel
theorem d_Li_clear_2 : decode b_Li_clear 2 = .ok (.putfield 22, 3) := by decide +kernel
theorem d_Li_clear_5 : decode b_Li_clear 5 = .ok (.aload_n 0, 1) := by decide +kernel
theorem d_Li_clear_6 : decode b_Li_clear 6 = .ok (.iconst 0, 1) := by decide +kernel
theorem d_Li_clear_7 : decode b_Li_clear 7 = .ok (.putfield 26, 3) := by decide +kernel
theorem d_Li_clear_10 : decode b_Li_clear 10 = .ok (.return_, 1) := by decide +kernel
theorem d_Li_isFull_0 : decode b_Li_isFull 0 = .ok (.aload_n 0, 1) := by decide +kernel
theorem d_Li_isFull_1 : decode b_Li_isFull 1 = .ok (.getfield 22, 3) := by decide +kernel
theorem d_Li_isFull_4 : decode b_Li_isFull 4 = .ok (.bipush 64, 2) := by decide +kernel
theorem d_Li_isFull_6 : decode b_Li_isFull 6 = .ok (.if_icmp .lt 7, 3) := by decide +kernel
theorem d_Li_isFull_9 : decode b_Li_isFull 9 = .ok (.iconst 1, 1) := by decide +kernel
theorem d_Li_isFull_10 : decode b_Li_isFull 10 = .ok (.goto 4, 3) := by decide +kernel
theorem d_Li_isFull_13 : decode b_Li_isFull 13 = .ok (.iconst 0, 1) := by decide +kernel
theorem d_Li_isFull_14 : decode b_Li_isFull 14 = .ok (.ireturn, 1) := by decide +kernel
theorem d_Li_kindOfLast_0 : decode b_Li_kindOfLast 0 = .ok (.aload_n 0, 1) := by decide +kernel
theorem d_Li_kindOfLast_1 : decode b_Li_kindOfLast 1 = .ok (.getfield 22, 3) := by decide +kernel
theorem d_Li_kindOfLast_4 : decode b_Li_kindOfLast 4 = .ok (.ifCond .le 17, 3) := by decide +kernel
theorem d_Li_kindOfLast_7 : decode b_Li_kindOfLast 7 = .ok (.aload_n 0, 1) := by decide +kernel
theorem d_Li_kindOfLast_8 : decode b_Li_kindOfLast 8 = .ok (.getfield 9, 3) := by decide +kernel
theorem d_Li_kindOfLast_11 : decode b_Li_kindOfLast 11 = .ok (.aload_n 0, 1) := by decide +kernel
theorem d_Li_kindOfLast_12 : decode b_Li_kindOfLast 12 = .ok (.getfield 22, 3) := by decide +kernel
theorem d_Li_kindOfLast_15 : decode b_Li_kindOfLast 15 = .ok (.iconst 1, 1) := by decide +kernel
theorem d_Li_kindOfLast_16 : decode b_Li_kindOfLast 16 = .ok (.isub, 1) := by decide +kernel
theorem d_Li_kindOfLast_17 : decode b_Li_kindOfLast 17 = .ok (.iaload, 1) := by decide +kernel
theorem d_Li_kindOfLast_18 : decode b_Li_kindOfLast 18 = .ok (.goto 4, 3) := by decide +kernel
theorem d_Li_kindOfLast_21 : decode b_Li_kindOfLast 21 = .ok (.iconst 0, 1) := by decide +kernel
theorem d_Li_kindOfLast_22 : decode b_Li_kindOfLast 22 = .ok (.ireturn, 1) := by decide +kernel
theorem d_Li_kindOfNext_0 : decode b_Li_kindOfNext 0 = .ok (.aload_n 0, 1) := by decide +kernel
theorem d_Li_kindOfNext_1 : decode b_Li_kindOfNext 1 = .ok (.getfield 26, 3) := by decide +kernel
theorem d_Li_kindOfNext_4 : decode b_Li_kindOfNext 4 = .ok (.aload_n 0, 1) := by decide +kernel
theorem d_Li_kindOfNext_5 : decode b_Li_kindOfNext 5 = .ok (.getfield 22, 3) := by decide +kernel
theorem d_Li_kindOfNext_8 : decode b_Li_kindOfNext 8 = .ok (.if_icmp .ge 15, 3) := by decide +kernel
theorem d_Li_kindOfNext_11 : decode b_Li_kindOfNext 11 = .ok (.aload_n 0, 1) := by decide +kernel
theorem d_Li_kindOfNext_12 : decode b_Li_kindOfNext 12 = .ok (.getfield 9, 3) := by decide +kernel
theorem d_Li_kindOfNext_15 : decode b_Li_kindOfNext 15 = .ok (.aload_n 0, 1) := by decide +kernel
theorem d_Li_kindOfNext_16 : decode b_Li_kindOfNext 16 = .ok (.getfield 26, 3) := by decide +kernel
theorem d_Li_kindOfNext_19 : decode b_Li_kindOfNext 19 = .ok (.iaload, 1) := by decide +kernel
theorem d_Li_kindOfNext_20 : decode b_Li_kindOfNext 20 = .ok (.goto 4, 3) := by decide +kernel
theorem d_Li_kindOfNext_23 : decode b_Li_kindOfNext 23 = .ok (.iconst 0, 1) := by decide +kernel
theorem d_Li_kindOfNext_24 : decode b_Li_kindOfNext 24 = .ok (.ireturn, 1) := by decide +kernel
theorem d_Li_leaveNext_0 : decode b_Li_leaveNext 0 = .ok (.aload_n 0, 1) := by decide +kernel
theorem d_Li_leaveNext_1 : decode b_Li_leaveNext 1 = .ok (.getfield 26, 3) := by decide +kernel
theorem d_Li_leaveNext_4 : decode b_Li_leaveNext 4 = .ok (.aload_n 0, 1) := by decide +kernel
theorem d_Li_leaveNext_5 : decode b_Li_leaveNext 5 = .ok (.getfield 22, 3) := by decide +kernel
theorem d_Li_leaveNext_8 : decode b_Li_leaveNext 8 = .ok (.if_icmp .ge 13, 3) := by decide +kernel
theorem d_Li_leaveNext_11 : decode b_Li_leaveNext 11 = .ok (.aload_n 0, 1) := by decide +kernel
theorem d_Li_leaveNext_12 : decode b_Li_leaveNext 12 = .ok (.dup, 1) := by decide +kernel
theorem d_Li_leaveNext_13 : decode b_Li_leaveNext 13 = .ok (.getfield 26, 3) := by decide +kernel
theorem d_Li_leaveNext_16 : decode b_Li_leaveNext 16 = .ok (.iconst 1, 1) := by decide +kernel
theorem d_Li_leaveNext_17 : decode b_Li_leaveNext 17 = .ok (.iadd, 1) := by decide +kernel
theorem d_Li_leaveNext_18 : decode b_Li_leaveNext 18 = .ok (.putfield 26, 3) := by decide +kernel
theorem d_Li_leaveNext_21 : decode b_Li_leaveNext 21 = .ok (.return_, 1) := by decide +kernel
theorem d_Li_longNumber_0 : decode b_Li_longNumber 0 = .ok (.aload_n 0, 1) := by decide +kernel
theorem d_Li_longNumber_1 : decode b_Li_longNumber 1 = .ok (.getfield 26, 3) := by decide +kernel
theorem d_Li_longNumber_4 : decode b_Li_longNumber 4 = .ok (.aload_n 0, 1) := by decide +kernel
theorem d_Li_longNumber_5 : decode b_Li_longNumber 5 = .ok (.getfield 22, 3) := by decide +kernel
theorem d_Li_longNumber_8 : decode b_Li_longNumber 8 = .ok (.if_icmp .ge 32, 3) := by decide +kernel
theorem d_Li_longNumber_11 : decode b_Li_longNumber 11 = .ok (.iload_n 1, 1) := by decide +kernel
theorem d_Li_longNumber_12 : decode b_Li_longNumber 12 = .ok (.ifCond .lt 28, 3) := by decide +kernel
theorem d_Li_longNumber_15 : decode b_Li_longNumber 15 = .ok (.iload_n 1, 1) := by decide +kernel
theorem d_Li_longNumber_16 : decode b_Li_longNumber 16 = .ok (.aload_n 0, 1) := by decide +kernel
theorem d_Li_longNumber_17 : decode b_Li_longNumber 17 = .ok (.getfield 15, 3) := by decide +kernel
theorem d_Li_longNumber_20 : decode b_Li_longNumber 20 = .ok (.aload_n 0, 1) := by decide +kernel
theorem d_Li_longNumber_21 : decode b_Li_longNumber 21 = .ok (.getfield 26, 3) := by decide +kernel
theorem d_Li_longNumber_24 : decode b_Li_longNumber 24 = .ok (.iconst 1, 1) := by decide +kernel
theorem d_Li_longNumber_25 : decode b_Li_longNumber 25 = .ok (.iadd, 1) := by decide +kernel
theorem d_Li_longNumber_26 : decode b_Li_longNumber 26 = .ok (.iaload, 1) := by decide +kernel
theorem d_Li_longNumber_27 : decode b_Li_longNumber 27 = .ok (.aload_n 0, 1) := by decide +kernel
