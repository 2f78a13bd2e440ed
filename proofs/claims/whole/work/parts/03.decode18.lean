theorem d_Md_isTurn_6 : decode b_Md_isTurn 6 = .ok (.getfield 395, 3) := by decide +kernel
theorem d_Md_isTurn_9 : decode b_Md_isTurn 9 = .ok (.if_icmp .gt 41, 3) := by decide +kernel
theorem d_Md_isTurn_50 : decode b_Md_isTurn 50 = .ok (.iload_n 2, 1) := by decide +kernel
theorem d_Md_isTurn_51 : decode b_Md_isTurn 51 = .ok (.ireturn, 1) := by decide +kernel
theorem d_Md_isTurn_12 : decode b_Md_isTurn 12 = .ok (.iload_n 2, 1) := by decide +kernel
theorem d_Md_isTurn_13 : decode b_Md_isTurn 13 = .ok (.ifCond .eq 29, 3) := by decide +kernel
theorem d_Md_isTurn_16 : decode b_Md_isTurn 16 = .ok (.aload_n 0, 1) := by decide +kernel
theorem d_Md_isTurn_17 : decode b_Md_isTurn 17 = .ok (.getfield 403, 3) := by decide +kernel
theorem d_Md_isTurn_20 : decode b_Md_isTurn 20 = .ok (.bipush 9, 2) := by decide +kernel
theorem d_Md_isTurn_22 : decode b_Md_isTurn 22 = .ok (.iload_n 1, 1) := by decide +kernel
theorem d_Md_isTurn_23 : decode b_Md_isTurn 23 = .ok (.imul, 1) := by decide +kernel
theorem d_Md_isTurn_24 : decode b_Md_isTurn 24 = .ok (.iload_n 3, 1) := by decide +kernel
theorem d_Md_isTurn_25 : decode b_Md_isTurn 25 = .ok (.iadd, 1) := by decide +kernel
theorem d_Md_isTurn_26 : decode b_Md_isTurn 26 = .ok (.iaload, 1) := by decide +kernel
theorem d_Md_isTurn_27 : decode b_Md_isTurn 27 = .ok (.aload_n 0, 1) := by decide +kernel
theorem d_Md_isTurn_28 : decode b_Md_isTurn 28 = .ok (.getfield 395, 3) := by decide +kernel
theorem d_Md_isTurn_31 : decode b_Md_isTurn 31 = .ok (.iconst 1, 1) := by decide +kernel
theorem d_Md_isTurn_32 : decode b_Md_isTurn 32 = .ok (.iadd, 1) := by decide +kernel
theorem d_Md_isTurn_33 : decode b_Md_isTurn 33 = .ok (.iload_n 3, 1) := by decide +kernel
theorem d_Md_isTurn_34 : decode b_Md_isTurn 34 = .ok (.isub, 1) := by decide +kernel
theorem d_Md_isTurn_35 : decode b_Md_isTurn 35 = .ok (.if_icmp .ne 7, 3) := by decide +kernel
theorem d_Md_isTurn_38 : decode b_Md_isTurn 38 = .ok (.iconst 1, 1) := by decide +kernel
theorem d_Md_isTurn_39 : decode b_Md_isTurn 39 = .ok (.goto 4, 3) := by decide +kernel
theorem d_Md_isTurn_0 : decode b_Md_isTurn 0 = .ok (.iconst 1, 1) := by decide +kernel
theorem d_Md_isTurn_1 : decode b_Md_isTurn 1 = .ok (.istore_n 2, 1) := by decide +kernel
theorem d_Md_isTurn_2 : decode b_Md_isTurn 2 = .ok (.iconst 1, 1) := by decide +kernel
theorem d_Md_isTurn_3 : decode b_Md_isTurn 3 = .ok (.istore_n 3, 1) := by decide +kernel
theorem d_Md_isNone_36 : decode b_Md_isNone 36 = .ok (.istore_n 2, 1) := by decide +kernel
theorem d_Md_isNone_37 : decode b_Md_isNone 37 = .ok (.iinc 3 1, 3) := by decide +kernel
theorem d_Md_isNone_40 : decode b_Md_isNone 40 = .ok (.goto (-36), 3) := by decide +kernel
theorem d_Md_isNone_35 : decode b_Md_isNone 35 = .ok (.iconst 0, 1) := by decide +kernel
theorem d_Md_isNone_4 : decode b_Md_isNone 4 = .ok (.iload_n 3, 1) := by decide +kernel
theorem d_Md_isNone_5 : decode b_Md_isNone 5 = .ok (.aload_n 0, 1) := by decide +kernel
theorem d_Md_isNone_6 : decode b_Md_isNone 6 = .ok (.getfield 395, 3) := by decide +kernel
theorem d_Md_isNone_9 : decode b_Md_isNone 9 = .ok (.if_icmp .gt 34, 3) := by decide +kernel
theorem d_Md_isNone_43 : decode b_Md_isNone 43 = .ok (.iload_n 2, 1) := by decide +kernel
theorem d_Md_isNone_44 : decode b_Md_isNone 44 = .ok (.ireturn, 1) := by decide +kernel
theorem d_Md_isNone_12 : decode b_Md_isNone 12 = .ok (.iload_n 2, 1) := by decide +kernel
theorem d_Md_isNone_13 : decode b_Md_isNone 13 = .ok (.ifCond .eq 22, 3) := by decide +kernel
theorem d_Md_isNone_16 : decode b_Md_isNone 16 = .ok (.aload_n 0, 1) := by decide +kernel
theorem d_Md_isNone_17 : decode b_Md_isNone 17 = .ok (.getfield 403, 3) := by decide +kernel
theorem d_Md_isNone_20 : decode b_Md_isNone 20 = .ok (.bipush 9, 2) := by decide +kernel
theorem d_Md_isNone_22 : decode b_Md_isNone 22 = .ok (.iload_n 1, 1) := by decide +kernel
theorem d_Md_isNone_23 : decode b_Md_isNone 23 = .ok (.imul, 1) := by decide +kernel
theorem d_Md_isNone_24 : decode b_Md_isNone 24 = .ok (.iload_n 3, 1) := by decide +kernel
theorem d_Md_isNone_25 : decode b_Md_isNone 25 = .ok (.iadd, 1) := by decide +kernel
theorem d_Md_isNone_26 : decode b_Md_isNone 26 = .ok (.iaload, 1) := by decide +kernel
theorem d_Md_isNone_27 : decode b_Md_isNone 27 = .ok (.iload_n 3, 1) := by decide +kernel
theorem d_Md_isNone_28 : decode b_Md_isNone 28 = .ok (.if_icmp .ne 7, 3) := by decide +kernel
theorem d_Md_isNone_31 : decode b_Md_isNone 31 = .ok (.iconst 1, 1) := by decide +kernel
theorem d_Md_isNone_32 : decode b_Md_isNone 32 = .ok (.goto 4, 3) := by decide +kernel
theorem d_Md_isNone_0 : decode b_Md_isNone 0 = .ok (.iconst 1, 1) := by decide +kernel
theorem d_Md_isNone_1 : decode b_Md_isNone 1 = .ok (.istore_n 2, 1) := by decide +kernel
theorem d_Md_isNone_2 : decode b_Md_isNone 2 = .ok (.iconst 1, 1) := by decide +kernel
theorem d_Md_isNone_3 : decode b_Md_isNone 3 = .ok (.istore_n 3, 1) := by decide +kernel
theorem d_Md_Di_become_44 : decode b_Md_Di_become 44 = .ok (.iload_n 2, 1) := by decide +kernel
theorem d_Md_Di_become_45 : decode b_Md_Di_become 45 = .ok (.bipush 96, 2) := by decide +kernel
theorem d_Md_Di_become_47 : decode b_Md_Di_become 47 = .ok (.if_icmp .ge 21, 3) := by decide +kernel
theorem d_Md_Di_become_68 : decode b_Md_Di_become 68 = .ok (.return_, 1) := by decide +kernel
theorem d_Md_Di_become_50 : decode b_Md_Di_become 50 = .ok (.aload_n 0, 1) := by decide +kernel
theorem d_Md_Di_become_51 : decode b_Md_Di_become 51 = .ok (.getfield 13, 3) := by decide +kernel
theorem d_Md_Di_become_54 : decode b_Md_Di_become 54 = .ok (.iload_n 2, 1) := by decide +kernel
theorem d_Md_Di_become_55 : decode b_Md_Di_become 55 = .ok (.aload_n 1, 1) := by decide +kernel
theorem d_Md_Di_become_56 : decode b_Md_Di_become 56 = .ok (.getfield 13, 3) := by decide +kernel
theorem d_Md_Di_become_59 : decode b_Md_Di_become 59 = .ok (.iload_n 2, 1) := by decide +kernel
theorem d_Md_Di_become_60 : decode b_Md_Di_become 60 = .ok (.iaload, 1) := by decide +kernel
theorem d_Md_Di_become_61 : decode b_Md_Di_become 61 = .ok (.iastore, 1) := by decide +kernel
theorem d_Md_Di_become_62 : decode b_Md_Di_become 62 = .ok (.iinc 2 1, 3) := by decide +kernel
theorem d_Md_Di_become_65 : decode b_Md_Di_become 65 = .ok (.goto (-21), 3) := by decide +kernel
theorem d_Md_Di_become_18 : decode b_Md_Di_become 18 = .ok (.iload_n 2, 1) := by decide +kernel
theorem d_Md_Di_become_19 : decode b_Md_Di_become 19 = .ok (.bipush 24, 2) := by decide +kernel
theorem d_Md_Di_become_21 : decode b_Md_Di_become 21 = .ok (.if_icmp .ge 21, 3) := by decide +kernel
theorem d_Md_Di_become_42 : decode b_Md_Di_become 42 = .ok (.iconst 0, 1) := by decide +kernel
theorem d_Md_Di_become_43 : decode b_Md_Di_become 43 = .ok (.istore_n 2, 1) := by decide +kernel
theorem d_Md_Di_become_24 : decode b_Md_Di_become 24 = .ok (.aload_n 0, 1) := by decide +kernel
theorem d_Md_Di_become_25 : decode b_Md_Di_become 25 = .ok (.getfield 7, 3) := by decide +kernel
theorem d_Md_Di_become_28 : decode b_Md_Di_become 28 = .ok (.iload_n 2, 1) := by decide +kernel
theorem d_Md_Di_become_29 : decode b_Md_Di_become 29 = .ok (.aload_n 1, 1) := by decide +kernel
theorem d_Md_Di_become_30 : decode b_Md_Di_become 30 = .ok (.getfield 7, 3) := by decide +kernel
theorem d_Md_Di_become_33 : decode b_Md_Di_become 33 = .ok (.iload_n 2, 1) := by decide +kernel
theorem d_Md_Di_become_34 : decode b_Md_Di_become 34 = .ok (.iaload, 1) := by decide +kernel
theorem d_Md_Di_become_35 : decode b_Md_Di_become 35 = .ok (.iastore, 1) := by decide +kernel
theorem d_Md_Di_become_36 : decode b_Md_Di_become 36 = .ok (.iinc 2 1, 3) := by decide +kernel
theorem d_Md_Di_become_39 : decode b_Md_Di_become 39 = .ok (.goto (-21), 3) := by decide +kernel
theorem d_Md_Di_become_0 : decode b_Md_Di_become 0 = .ok (.aload_n 0, 1) := by decide +kernel
theorem d_Md_Di_become_1 : decode b_Md_Di_become 1 = .ok (.aload_n 1, 1) := by decide +kernel
theorem d_Md_Di_become_2 : decode b_Md_Di_become 2 = .ok (.getfield 16, 3) := by decide +kernel
theorem d_Md_Di_become_5 : decode b_Md_Di_become 5 = .ok (.putfield 16, 3) := by decide +kernel
theorem d_Md_Di_become_8 : decode b_Md_Di_become 8 = .ok (.aload_n 0, 1) := by decide +kernel
theorem d_Md_Di_become_9 : decode b_Md_Di_become 9 = .ok (.aload_n 1, 1) := by decide +kernel
theorem d_Md_Di_become_10 : decode b_Md_Di_become 10 = .ok (.getfield 20, 3) := by decide +kernel
theorem d_Md_Di_become_13 : decode b_Md_Di_become 13 = .ok (.putfield 20, 3) := by decide +kernel
theorem d_Md_Di_become_16 : decode b_Md_Di_become 16 = .ok (.iconst 0, 1) := by decide +kernel
theorem d_Md_Di_become_17 : decode b_Md_Di_become 17 = .ok (.istore_n 2, 1) := by decide +kernel
theorem d_Md_Wo_become_18 : decode b_Md_Wo_become 18 = .ok (.iload_n 2, 1) := by decide +kernel
theorem d_Md_Wo_become_19 : decode b_Md_Wo_become 19 = .ok (.bipush 20, 2) := by decide +kernel
theorem d_Md_Wo_become_21 : decode b_Md_Wo_become 21 = .ok (.if_icmp .ge 21, 3) := by decide +kernel
theorem d_Md_Wo_become_42 : decode b_Md_Wo_become 42 = .ok (.return_, 1) := by decide +kernel
theorem d_Md_Wo_become_24 : decode b_Md_Wo_become 24 = .ok (.aload_n 0, 1) := by decide +kernel
theorem d_Md_Wo_become_25 : decode b_Md_Wo_become 25 = .ok (.getfield 13, 3) := by decide +kernel
theorem d_Md_Wo_become_28 : decode b_Md_Wo_become 28 = .ok (.iload_n 2, 1) := by decide +kernel
theorem d_Md_Wo_become_29 : decode b_Md_Wo_become 29 = .ok (.aload_n 1, 1) := by decide +kernel
theorem d_Md_Wo_become_30 : decode b_Md_Wo_become 30 = .ok (.getfield 13, 3) := by decide +kernel
theorem d_Md_Wo_become_33 : decode b_Md_Wo_become 33 = .ok (.iload_n 2, 1) := by decide +kernel
theorem d_Md_Wo_become_34 : decode b_Md_Wo_become 34 = .ok (.iaload, 1) := by decide +kernel
theorem d_Md_Wo_become_35 : decode b_Md_Wo_become 35 = .ok (.iastore, 1) := by decide +kernel
theorem d_Md_Wo_become_36 : decode b_Md_Wo_become 36 = .ok (.iinc 2 1, 3) := by decide +kernel
theorem d_Md_Wo_become_39 : decode b_Md_Wo_become 39 = .ok (.goto (-21), 3) := by decide +kernel
theorem d_Md_Wo_become_0 : decode b_Md_Wo_become 0 = .ok (.aload_n 0, 1) := by decide +kernel
theorem d_Md_Wo_become_1 : decode b_Md_Wo_become 1 = .ok (.aload_n 1, 1) := by decide +kernel
theorem d_Md_Wo_become_2 : decode b_Md_Wo_become 2 = .ok (.getfield 7, 3) := by decide +kernel
theorem d_Md_Wo_become_5 : decode b_Md_Wo_become 5 = .ok (.putfield 7, 3) := by decide +kernel
theorem d_Md_Wo_become_8 : decode b_Md_Wo_become 8 = .ok (.aload_n 0, 1) := by decide +kernel
theorem d_Md_Wo_become_9 : decode b_Md_Wo_become 9 = .ok (.aload_n 1, 1) := by decide +kernel
theorem d_Md_Wo_become_10 : decode b_Md_Wo_become 10 = .ok (.getfield 20, 3) := by decide +kernel
theorem d_Md_Wo_become_13 : decode b_Md_Wo_become 13 = .ok (.putfield 20, 3) := by decide +kernel
theorem d_Md_Wo_become_16 : decode b_Md_Wo_become 16 = .ok (.iconst 0, 1) := by decide +kernel
theorem d_Md_Wo_become_17 : decode b_Md_Wo_become 17 = .ok (.istore_n 2, 1) := by decide +kernel
theorem d_Md_isIn_48 : decode b_Md_isIn 48 = .ok (.iconst 1, 1) := by decide +kernel
theorem d_Md_isIn_49 : decode b_Md_isIn 49 = .ok (.goto 4, 3) := by decide +kernel
theorem d_Md_isIn_53 : decode b_Md_isIn 53 = .ok (.ireturn, 1) := by decide +kernel
theorem d_Md_isIn_28 : decode b_Md_isIn 28 = .ok (.iload_n 2, 1) := by decide +kernel
theorem d_Md_isIn_29 : decode b_Md_isIn 29 = .ok (.iconst 1, 1) := by decide +kernel
theorem d_Md_isIn_30 : decode b_Md_isIn 30 = .ok (.if_icmp .ne 22, 3) := by decide +kernel
theorem d_Md_isIn_52 : decode b_Md_isIn 52 = .ok (.iconst 0, 1) := by decide +kernel
theorem d_Md_isIn_33 : decode b_Md_isIn 33 = .ok (.aload_n 0, 1) := by decide +kernel
theorem d_Md_isIn_34 : decode b_Md_isIn 34 = .ok (.getfield 37, 3) := by decide +kernel
theorem d_Md_isIn_37 : decode b_Md_isIn 37 = .ok (.getfield 306, 3) := by decide +kernel
theorem d_Md_isIn_40 : decode b_Md_isIn 40 = .ok (.iload_n 1, 1) := by decide +kernel
theorem d_Md_isIn_41 : decode b_Md_isIn 41 = .ok (.iconst 2, 1) := by decide +kernel
theorem d_Md_isIn_42 : decode b_Md_isIn 42 = .ok (.ishr, 1) := by decide +kernel
theorem d_Md_isIn_43 : decode b_Md_isIn 43 = .ok (.iaload, 1) := by decide +kernel
theorem d_Md_isIn_44 : decode b_Md_isIn 44 = .ok (.iconst (-1), 1) := by decide +kernel
theorem d_Md_isIn_45 : decode b_Md_isIn 45 = .ok (.if_icmp .ne 7, 3) := by decide +kernel
theorem d_Md_isIn_0 : decode b_Md_isIn 0 = .ok (.iload_n 1, 1) := by decide +kernel
theorem d_Md_isIn_1 : decode b_Md_isIn 1 = .ok (.iconst 3, 1) := by decide +kernel
theorem d_Md_isIn_2 : decode b_Md_isIn 2 = .ok (.iand, 1) := by decide +kernel
theorem d_Md_isIn_3 : decode b_Md_isIn 3 = .ok (.istore_n 2, 1) := by decide +kernel
theorem d_Md_isIn_4 : decode b_Md_isIn 4 = .ok (.iload_n 2, 1) := by decide +kernel
theorem d_Md_isIn_5 : decode b_Md_isIn 5 = .ok (.ifCond .eq 43, 3) := by decide +kernel
theorem d_Md_isIn_8 : decode b_Md_isIn 8 = .ok (.iload_n 2, 1) := by decide +kernel
theorem d_Md_isIn_9 : decode b_Md_isIn 9 = .ok (.iconst 3, 1) := by decide +kernel
theorem d_Md_isIn_10 : decode b_Md_isIn 10 = .ok (.if_icmp .ne 18, 3) := by decide +kernel
theorem d_Md_isIn_13 : decode b_Md_isIn 13 = .ok (.aload_n 0, 1) := by decide +kernel
theorem d_Md_isIn_14 : decode b_Md_isIn 14 = .ok (.getfield 37, 3) := by decide +kernel
theorem d_Md_isIn_17 : decode b_Md_isIn 17 = .ok (.getfield 306, 3) := by decide +kernel
theorem d_Md_isIn_20 : decode b_Md_isIn 20 = .ok (.iload_n 1, 1) := by decide +kernel
theorem d_Md_isIn_21 : decode b_Md_isIn 21 = .ok (.iconst 2, 1) := by decide +kernel
theorem d_Md_isIn_22 : decode b_Md_isIn 22 = .ok (.ishr, 1) := by decide +kernel
theorem d_Md_isIn_23 : decode b_Md_isIn 23 = .ok (.iaload, 1) := by decide +kernel
theorem d_Md_isIn_24 : decode b_Md_isIn 24 = .ok (.iconst 1, 1) := by decide +kernel
theorem d_Md_isIn_25 : decode b_Md_isIn 25 = .ok (.if_icmp .eq 23, 3) := by decide +kernel
theorem d_Md_find_27 : decode b_Md_find 27 = .ok (.istore_n 2, 1) := by decide +kernel
theorem d_Md_find_28 : decode b_Md_find 28 = .ok (.iinc 3 1, 3) := by decide +kernel
theorem d_Md_find_31 : decode b_Md_find 31 = .ok (.goto (-27), 3) := by decide +kernel
theorem d_Md_find_4 : decode b_Md_find 4 = .ok (.iload_n 3, 1) := by decide +kernel
theorem d_Md_find_5 : decode b_Md_find 5 = .ok (.aload_n 0, 1) := by decide +kernel
theorem d_Md_find_6 : decode b_Md_find 6 = .ok (.getfield 309, 3) := by decide +kernel
theorem d_Md_find_9 : decode b_Md_find 9 = .ok (.if_icmp .ge 25, 3) := by decide +kernel
theorem d_Md_find_34 : decode b_Md_find 34 = .ok (.iload_n 2, 1) := by decide +kernel
theorem d_Md_find_35 : decode b_Md_find 35 = .ok (.ireturn, 1) := by decide +kernel
theorem d_Md_find_12 : decode b_Md_find 12 = .ok (.aload_n 0, 1) := by decide +kernel
theorem d_Md_find_13 : decode b_Md_find 13 = .ok (.getfield 66, 3) := by decide +kernel
theorem d_Md_find_16 : decode b_Md_find 16 = .ok (.iload_n 3, 1) := by decide +kernel
theorem d_Md_find_17 : decode b_Md_find 17 = .ok (.iaload, 1) := by decide +kernel
theorem d_Md_find_18 : decode b_Md_find 18 = .ok (.iload_n 1, 1) := by decide +kernel
theorem d_Md_find_19 : decode b_Md_find 19 = .ok (.if_icmp .ne 7, 3) := by decide +kernel
theorem d_Md_find_26 : decode b_Md_find 26 = .ok (.iload_n 2, 1) := by decide +kernel
theorem d_Md_find_22 : decode b_Md_find 22 = .ok (.iload_n 3, 1) := by decide +kernel
theorem d_Md_find_23 : decode b_Md_find 23 = .ok (.goto 4, 3) := by decide +kernel
theorem d_Md_find_0 : decode b_Md_find 0 = .ok (.iconst (-1), 1) := by decide +kernel
theorem d_Md_find_1 : decode b_Md_find 1 = .ok (.istore_n 2, 1) := by decide +kernel
theorem d_Md_find_2 : decode b_Md_find 2 = .ok (.iconst 0, 1) := by decide +kernel
theorem d_Md_find_3 : decode b_Md_find 3 = .ok (.istore_n 3, 1) := by decide +kernel
theorem d_Md_arrives_0 : decode b_Md_arrives 0 = .ok (.iload_n 1, 1) := by decide +kernel
theorem d_Md_arrives_1 : decode b_Md_arrives 1 = .ok (.iconst 1, 1) := by decide +kernel
theorem d_Md_arrives_2 : decode b_Md_arrives 2 = .ok (.iand, 1) := by decide +kernel
theorem d_Md_arrives_3 : decode b_Md_arrives 3 = .ok (.ifCond .ne 14, 3) := by decide +kernel
theorem d_Md_arrives_17 : decode b_Md_arrives 17 = .ok (.aload_n 0, 1) := by decide +kernel
theorem d_Md_arrives_18 : decode b_Md_arrives 18 = .ok (.getfield 69, 3) := by decide +kernel
theorem d_Md_arrives_21 : decode b_Md_arrives 21 = .ok (.iload_n 1, 1) := by decide +kernel
theorem d_Md_arrives_22 : decode b_Md_arrives 22 = .ok (.iconst 1, 1) := by decide +kernel
theorem d_Md_arrives_23 : decode b_Md_arrives 23 = .ok (.ishr, 1) := by decide +kernel
theorem d_Md_arrives_24 : decode b_Md_arrives 24 = .ok (.iaload, 1) := by decide +kernel
theorem d_Md_arrives_25 : decode b_Md_arrives 25 = .ok (.ireturn, 1) := by decide +kernel
theorem d_Md_arrives_6 : decode b_Md_arrives 6 = .ok (.aload_n 0, 1) := by decide +kernel
theorem d_Md_arrives_7 : decode b_Md_arrives 7 = .ok (.getfield 72, 3) := by decide +kernel
theorem d_Md_arrives_10 : decode b_Md_arrives 10 = .ok (.iload_n 1, 1) := by decide +kernel
theorem d_Md_arrives_11 : decode b_Md_arrives 11 = .ok (.iconst 1, 1) := by decide +kernel
theorem d_Md_arrives_12 : decode b_Md_arrives 12 = .ok (.ishr, 1) := by decide +kernel
theorem d_Md_arrives_13 : decode b_Md_arrives 13 = .ok (.iaload, 1) := by decide +kernel
theorem d_Md_arrives_14 : decode b_Md_arrives 14 = .ok (.goto 11, 3) := by decide +kernel
theorem d_Md_findPieces_182 : decode b_Md_findPieces 182 = .ok (.iadd, 1) := by decide +kernel
theorem d_Md_findPieces_183 : decode b_Md_findPieces 183 = .ok (.putfield 336, 3) := by decide +kernel
theorem d_Md_findPieces_186 : decode b_Md_findPieces 186 = .ok (.iinc 1 1, 3) := by decide +kernel
theorem d_Md_findPieces_189 : decode b_Md_findPieces 189 = .ok (.goto (-38), 3) := by decide +kernel
theorem d_Md_findPieces_162 : decode b_Md_findPieces 162 = .ok (.aload_n 0, 1) := by decide +kernel
theorem d_Md_findPieces_163 : decode b_Md_findPieces 163 = .ok (.dup, 1) := by decide +kernel
theorem d_Md_findPieces_164 : decode b_Md_findPieces 164 = .ok (.getfield 336, 3) := by decide +kernel
theorem d_Md_findPieces_167 : decode b_Md_findPieces 167 = .ok (.aload_n 0, 1) := by decide +kernel
