theorem d_Br_moveSwap_66 : decode b_Br_moveSwap 66 = .ok (.istore 6, 2) := by decide +kernel
theorem d_Br_moveSwap_68 : decode b_Br_moveSwap 68 = .ok (.aload_n 0, 1) := by decide +kernel
theorem d_Br_moveSwap_69 : decode b_Br_moveSwap 69 = .ok (.getfield 15, 3) := by decide +kernel
theorem d_Br_moveSwap_72 : decode b_Br_moveSwap 72 = .ok (.iload_n 2, 1) := by decide +kernel
theorem d_Br_moveSwap_73 : decode b_Br_moveSwap 73 = .ok (.iload_n 3, 1) := by decide +kernel
theorem d_Br_moveSwap_74 : decode b_Br_moveSwap 74 = .ok (.iadd, 1) := by decide +kernel
theorem d_Br_moveSwap_75 : decode b_Br_moveSwap 75 = .ok (.aload_n 0, 1) := by decide +kernel
theorem d_Br_moveSwap_76 : decode b_Br_moveSwap 76 = .ok (.getfield 15, 3) := by decide +kernel
theorem d_Br_moveSwap_79 : decode b_Br_moveSwap 79 = .ok (.iload_n 2, 1) := by decide +kernel
theorem d_Br_moveSwap_80 : decode b_Br_moveSwap 80 = .ok (.iload_n 3, 1) := by decide +kernel
theorem d_Br_moveSwap_81 : decode b_Br_moveSwap 81 = .ok (.iadd, 1) := by decide +kernel
theorem d_Br_moveSwap_82 : decode b_Br_moveSwap 82 = .ok (.iconst 1, 1) := by decide +kernel
theorem d_Br_moveSwap_83 : decode b_Br_moveSwap 83 = .ok (.iadd, 1) := by decide +kernel
theorem d_Br_moveSwap_84 : decode b_Br_moveSwap 84 = .ok (.iaload, 1) := by decide +kernel
theorem d_Br_moveSwap_85 : decode b_Br_moveSwap 85 = .ok (.iastore, 1) := by decide +kernel
theorem d_Br_moveSwap_86 : decode b_Br_moveSwap 86 = .ok (.aload_n 0, 1) := by decide +kernel
theorem d_Br_moveSwap_87 : decode b_Br_moveSwap 87 = .ok (.getfield 15, 3) := by decide +kernel
theorem d_Br_moveSwap_90 : decode b_Br_moveSwap 90 = .ok (.iload_n 2, 1) := by decide +kernel
theorem d_Br_moveSwap_91 : decode b_Br_moveSwap 91 = .ok (.iload_n 3, 1) := by decide +kernel
theorem d_Br_moveSwap_92 : decode b_Br_moveSwap 92 = .ok (.iadd, 1) := by decide +kernel
theorem d_Br_moveSwap_93 : decode b_Br_moveSwap 93 = .ok (.iconst 1, 1) := by decide +kernel
theorem d_Br_moveSwap_94 : decode b_Br_moveSwap 94 = .ok (.iadd, 1) := by decide +kernel
theorem d_Br_moveSwap_95 : decode b_Br_moveSwap 95 = .ok (.iload 6, 2) := by decide +kernel
theorem d_Br_moveSwap_97 : decode b_Br_moveSwap 97 = .ok (.iastore, 1) := by decide +kernel
theorem d_Br_moveSwap_98 : decode b_Br_moveSwap 98 = .ok (.return_, 1) := by decide +kernel
theorem d_Br_isNone_2 : decode b_Br_isNone 2 = .ok (.iload_n 2, 1) := by decide +kernel
theorem d_Br_isNone_3 : decode b_Br_isNone 3 = .ok (.aload_n 0, 1) := by decide +kernel
theorem d_Br_isNone_4 : decode b_Br_isNone 4 = .ok (.getfield 21, 3) := by decide +kernel
theorem d_Br_isNone_7 : decode b_Br_isNone 7 = .ok (.if_icmp .ge 23, 3) := by decide +kernel
theorem d_Br_isNone_30 : decode b_Br_isNone 30 = .ok (.iconst 1, 1) := by decide +kernel
theorem d_Br_isNone_31 : decode b_Br_isNone 31 = .ok (.ireturn, 1) := by decide +kernel
theorem d_Br_isNone_10 : decode b_Br_isNone 10 = .ok (.aload_n 0, 1) := by decide +kernel
theorem d_Br_isNone_11 : decode b_Br_isNone 11 = .ok (.getfield 15, 3) := by decide +kernel
theorem d_Br_isNone_14 : decode b_Br_isNone 14 = .ok (.iload_n 1, 1) := by decide +kernel
theorem d_Br_isNone_15 : decode b_Br_isNone 15 = .ok (.iload_n 2, 1) := by decide +kernel
theorem d_Br_isNone_16 : decode b_Br_isNone 16 = .ok (.iadd, 1) := by decide +kernel
theorem d_Br_isNone_17 : decode b_Br_isNone 17 = .ok (.iaload, 1) := by decide +kernel
theorem d_Br_isNone_18 : decode b_Br_isNone 18 = .ok (.iload_n 2, 1) := by decide +kernel
theorem d_Br_isNone_19 : decode b_Br_isNone 19 = .ok (.if_icmp .eq 5, 3) := by decide +kernel
theorem d_Br_isNone_24 : decode b_Br_isNone 24 = .ok (.iinc 2 1, 3) := by decide +kernel
theorem d_Br_isNone_27 : decode b_Br_isNone 27 = .ok (.goto (-25), 3) := by decide +kernel
theorem d_Br_isNone_22 : decode b_Br_isNone 22 = .ok (.iconst 0, 1) := by decide +kernel
theorem d_Br_isNone_23 : decode b_Br_isNone 23 = .ok (.ireturn, 1) := by decide +kernel
theorem d_Br_isNone_0 : decode b_Br_isNone 0 = .ok (.iconst 0, 1) := by decide +kernel
theorem d_Br_isNone_1 : decode b_Br_isNone 1 = .ok (.istore_n 2, 1) := by decide +kernel
theorem d_Br_isTurn_2 : decode b_Br_isTurn 2 = .ok (.iload_n 2, 1) := by decide +kernel
theorem d_Br_isTurn_3 : decode b_Br_isTurn 3 = .ok (.aload_n 0, 1) := by decide +kernel
theorem d_Br_isTurn_4 : decode b_Br_isTurn 4 = .ok (.getfield 21, 3) := by decide +kernel
theorem d_Br_isTurn_7 : decode b_Br_isTurn 7 = .ok (.if_icmp .ge 30, 3) := by decide +kernel
theorem d_Br_isTurn_37 : decode b_Br_isTurn 37 = .ok (.iconst 1, 1) := by decide +kernel
theorem d_Br_isTurn_38 : decode b_Br_isTurn 38 = .ok (.ireturn, 1) := by decide +kernel
theorem d_Br_isTurn_10 : decode b_Br_isTurn 10 = .ok (.aload_n 0, 1) := by decide +kernel
theorem d_Br_isTurn_11 : decode b_Br_isTurn 11 = .ok (.getfield 15, 3) := by decide +kernel
theorem d_Br_isTurn_14 : decode b_Br_isTurn 14 = .ok (.iload_n 1, 1) := by decide +kernel
theorem d_Br_isTurn_15 : decode b_Br_isTurn 15 = .ok (.iload_n 2, 1) := by decide +kernel
theorem d_Br_isTurn_16 : decode b_Br_isTurn 16 = .ok (.iadd, 1) := by decide +kernel
theorem d_Br_isTurn_17 : decode b_Br_isTurn 17 = .ok (.iaload, 1) := by decide +kernel
theorem d_Br_isTurn_18 : decode b_Br_isTurn 18 = .ok (.aload_n 0, 1) := by decide +kernel
theorem d_Br_isTurn_19 : decode b_Br_isTurn 19 = .ok (.getfield 21, 3) := by decide +kernel
theorem d_Br_isTurn_22 : decode b_Br_isTurn 22 = .ok (.iconst 1, 1) := by decide +kernel
theorem d_Br_isTurn_23 : decode b_Br_isTurn 23 = .ok (.isub, 1) := by decide +kernel
theorem d_Br_isTurn_24 : decode b_Br_isTurn 24 = .ok (.iload_n 2, 1) := by decide +kernel
theorem d_Br_isTurn_25 : decode b_Br_isTurn 25 = .ok (.isub, 1) := by decide +kernel
theorem d_Br_isTurn_26 : decode b_Br_isTurn 26 = .ok (.if_icmp .eq 5, 3) := by decide +kernel
theorem d_Br_isTurn_31 : decode b_Br_isTurn 31 = .ok (.iinc 2 1, 3) := by decide +kernel
theorem d_Br_isTurn_34 : decode b_Br_isTurn 34 = .ok (.goto (-32), 3) := by decide +kernel
theorem d_Br_isTurn_29 : decode b_Br_isTurn 29 = .ok (.iconst 0, 1) := by decide +kernel
theorem d_Br_isTurn_30 : decode b_Br_isTurn 30 = .ok (.ireturn, 1) := by decide +kernel
theorem d_Br_isTurn_0 : decode b_Br_isTurn 0 = .ok (.iconst 0, 1) := by decide +kernel
theorem d_Br_isTurn_1 : decode b_Br_isTurn 1 = .ok (.istore_n 2, 1) := by decide +kernel
theorem d_Md_fail_0 : decode b_Md_fail 0 = .ok (.aload_n 0, 1) := by decide +kernel
theorem d_Md_fail_1 : decode b_Md_fail 1 = .ok (.getfield 126, 3) := by decide +kernel
theorem d_Md_fail_4 : decode b_Md_fail 4 = .ok (.ifCond .eq 4, 3) := by decide +kernel
theorem d_Md_fail_8 : decode b_Md_fail 8 = .ok (.aload_n 0, 1) := by decide +kernel
theorem d_Md_fail_9 : decode b_Md_fail 9 = .ok (.iload_n 1, 1) := by decide +kernel
theorem d_Md_fail_10 : decode b_Md_fail 10 = .ok (.putfield 126, 3) := by decide +kernel
theorem d_Md_fail_13 : decode b_Md_fail 13 = .ok (.aload_n 0, 1) := by decide +kernel
theorem d_Md_fail_14 : decode b_Md_fail 14 = .ok (.iload_n 2, 1) := by decide +kernel
theorem d_Md_fail_15 : decode b_Md_fail 15 = .ok (.putfield 19, 3) := by decide +kernel
theorem d_Md_fail_18 : decode b_Md_fail 18 = .ok (.return_, 1) := by decide +kernel
theorem d_Md_fail_7 : decode b_Md_fail 7 = .ok (.return_, 1) := by decide +kernel
theorem d_Md_isLetter_24 : decode b_Md_isLetter 24 = .ok (.iconst 1, 1) := by decide +kernel
theorem d_Md_isLetter_25 : decode b_Md_isLetter 25 = .ok (.goto 4, 3) := by decide +kernel
theorem d_Md_isLetter_29 : decode b_Md_isLetter 29 = .ok (.ireturn, 1) := by decide +kernel
theorem d_Md_isLetter_12 : decode b_Md_isLetter 12 = .ok (.iload_n 0, 1) := by decide +kernel
theorem d_Md_isLetter_13 : decode b_Md_isLetter 13 = .ok (.bipush 65, 2) := by decide +kernel
theorem d_Md_isLetter_15 : decode b_Md_isLetter 15 = .ok (.if_icmp .lt 13, 3) := by decide +kernel
theorem d_Md_isLetter_28 : decode b_Md_isLetter 28 = .ok (.iconst 0, 1) := by decide +kernel
theorem d_Md_isLetter_18 : decode b_Md_isLetter 18 = .ok (.iload_n 0, 1) := by decide +kernel
theorem d_Md_isLetter_19 : decode b_Md_isLetter 19 = .ok (.bipush 90, 2) := by decide +kernel
theorem d_Md_isLetter_21 : decode b_Md_isLetter 21 = .ok (.if_icmp .gt 7, 3) := by decide +kernel
theorem d_Md_isLetter_0 : decode b_Md_isLetter 0 = .ok (.iload_n 0, 1) := by decide +kernel
theorem d_Md_isLetter_1 : decode b_Md_isLetter 1 = .ok (.bipush 97, 2) := by decide +kernel
theorem d_Md_isLetter_3 : decode b_Md_isLetter 3 = .ok (.if_icmp .lt 9, 3) := by decide +kernel
theorem d_Md_isLetter_6 : decode b_Md_isLetter 6 = .ok (.iload_n 0, 1) := by decide +kernel
theorem d_Md_isLetter_7 : decode b_Md_isLetter 7 = .ok (.bipush 122, 2) := by decide +kernel
theorem d_Md_isLetter_9 : decode b_Md_isLetter 9 = .ok (.if_icmp .le 15, 3) := by decide +kernel
theorem d_Md_isDigit_0 : decode b_Md_isDigit 0 = .ok (.iload_n 0, 1) := by decide +kernel
theorem d_Md_isDigit_1 : decode b_Md_isDigit 1 = .ok (.bipush 48, 2) := by decide +kernel
theorem d_Md_isDigit_3 : decode b_Md_isDigit 3 = .ok (.if_icmp .lt 13, 3) := by decide +kernel
theorem d_Md_isDigit_16 : decode b_Md_isDigit 16 = .ok (.iconst 0, 1) := by decide +kernel
theorem d_Md_isDigit_17 : decode b_Md_isDigit 17 = .ok (.ireturn, 1) := by decide +kernel
theorem d_Md_isDigit_6 : decode b_Md_isDigit 6 = .ok (.iload_n 0, 1) := by decide +kernel
theorem d_Md_isDigit_7 : decode b_Md_isDigit 7 = .ok (.bipush 57, 2) := by decide +kernel
theorem d_Md_isDigit_9 : decode b_Md_isDigit 9 = .ok (.if_icmp .gt 7, 3) := by decide +kernel
theorem d_Md_isDigit_12 : decode b_Md_isDigit 12 = .ok (.iconst 1, 1) := by decide +kernel
theorem d_Md_isDigit_13 : decode b_Md_isDigit 13 = .ok (.goto 4, 3) := by decide +kernel
theorem d_Md_value_7 : decode b_Md_value 7 = .ok (.iload_n 3, 1) := by decide +kernel
theorem d_Md_value_8 : decode b_Md_value 8 = .ok (.aload_n 0, 1) := by decide +kernel
theorem d_Md_value_9 : decode b_Md_value 9 = .ok (.getfield 132, 3) := by decide +kernel
theorem d_Md_value_12 : decode b_Md_value 12 = .ok (.if_icmp .ge 27, 3) := by decide +kernel
theorem d_Md_value_39 : decode b_Md_value 39 = .ok (.lload_n 1, 1) := by decide +kernel
theorem d_Md_value_40 : decode b_Md_value 40 = .ok (.lreturn, 1) := by decide +kernel
theorem d_Md_value_15 : decode b_Md_value 15 = .ok (.ldc2_w 162, 3) := by decide +kernel
theorem d_Md_value_18 : decode b_Md_value 18 = .ok (.lload_n 1, 1) := by decide +kernel
theorem d_Md_value_19 : decode b_Md_value 19 = .ok (.lmul, 1) := by decide +kernel
theorem d_Md_value_20 : decode b_Md_value 20 = .ok (.aload_n 0, 1) := by decide +kernel
theorem d_Md_value_21 : decode b_Md_value 21 = .ok (.getfield 16, 3) := by decide +kernel
theorem d_Md_value_24 : decode b_Md_value 24 = .ok (.iload_n 3, 1) := by decide +kernel
theorem d_Md_value_25 : decode b_Md_value 25 = .ok (.baload, 1) := by decide +kernel
theorem d_Md_value_26 : decode b_Md_value 26 = .ok (.i2l, 1) := by decide +kernel
theorem d_Md_value_27 : decode b_Md_value 27 = .ok (.ladd, 1) := by decide +kernel
theorem d_Md_value_28 : decode b_Md_value 28 = .ok (.ldc2_w 164, 3) := by decide +kernel
theorem d_Md_value_31 : decode b_Md_value 31 = .ok (.lsub, 1) := by decide +kernel
theorem d_Md_value_32 : decode b_Md_value 32 = .ok (.lstore_n 1, 1) := by decide +kernel
theorem d_Md_value_33 : decode b_Md_value 33 = .ok (.iinc 3 1, 3) := by decide +kernel
theorem d_Md_value_36 : decode b_Md_value 36 = .ok (.goto (-29), 3) := by decide +kernel
theorem d_Md_value_0 : decode b_Md_value 0 = .ok (.lconst 0, 1) := by decide +kernel
theorem d_Md_value_1 : decode b_Md_value 1 = .ok (.lstore_n 1, 1) := by decide +kernel
theorem d_Md_value_2 : decode b_Md_value 2 = .ok (.aload_n 0, 1) := by decide +kernel
theorem d_Md_value_3 : decode b_Md_value 3 = .ok (.getfield 142, 3) := by decide +kernel
theorem d_Md_value_6 : decode b_Md_value 6 = .ok (.istore_n 3, 1) := by decide +kernel
theorem d_Md_isSign_0 : decode b_Md_isSign 0 = .ok (.aload_n 0, 1) := by decide +kernel
theorem d_Md_isSign_1 : decode b_Md_isSign 1 = .ok (.getfield 129, 3) := by decide +kernel
theorem d_Md_isSign_4 : decode b_Md_isSign 4 = .ok (.iconst 3, 1) := by decide +kernel
theorem d_Md_isSign_5 : decode b_Md_isSign 5 = .ok (.if_icmp .ne 20, 3) := by decide +kernel
theorem d_Md_isSign_25 : decode b_Md_isSign 25 = .ok (.iconst 0, 1) := by decide +kernel
theorem d_Md_isSign_26 : decode b_Md_isSign 26 = .ok (.ireturn, 1) := by decide +kernel
theorem d_Md_isSign_8 : decode b_Md_isSign 8 = .ok (.aload_n 0, 1) := by decide +kernel
theorem d_Md_isSign_9 : decode b_Md_isSign 9 = .ok (.getfield 16, 3) := by decide +kernel
theorem d_Md_isSign_12 : decode b_Md_isSign 12 = .ok (.aload_n 0, 1) := by decide +kernel
theorem d_Md_isSign_13 : decode b_Md_isSign 13 = .ok (.getfield 142, 3) := by decide +kernel
theorem d_Md_isSign_16 : decode b_Md_isSign 16 = .ok (.baload, 1) := by decide +kernel
theorem d_Md_isSign_17 : decode b_Md_isSign 17 = .ok (.iload_n 1, 1) := by decide +kernel
theorem d_Md_isSign_18 : decode b_Md_isSign 18 = .ok (.if_icmp .ne 7, 3) := by decide +kernel
theorem d_Md_isSign_21 : decode b_Md_isSign 21 = .ok (.iconst 1, 1) := by decide +kernel
theorem d_Md_isSign_22 : decode b_Md_isSign 22 = .ok (.goto 4, 3) := by decide +kernel
theorem d_Md_put_0 : decode b_Md_put 0 = .ok (.aload_n 0, 1) := by decide +kernel
theorem d_Md_put_1 : decode b_Md_put 1 = .ok (.getfield 30, 3) := by decide +kernel
theorem d_Md_put_4 : decode b_Md_put 4 = .ok (.aload_n 0, 1) := by decide +kernel
theorem d_Md_put_5 : decode b_Md_put 5 = .ok (.getfield 189, 3) := by decide +kernel
theorem d_Md_put_8 : decode b_Md_put 8 = .ok (.lload_n 1, 1) := by decide +kernel
theorem d_Md_put_9 : decode b_Md_put 9 = .ok (.lastore, 1) := by decide +kernel
theorem d_Md_put_10 : decode b_Md_put 10 = .ok (.aload_n 0, 1) := by decide +kernel
theorem d_Md_put_11 : decode b_Md_put 11 = .ok (.dup, 1) := by decide +kernel
theorem d_Md_put_12 : decode b_Md_put 12 = .ok (.getfield 189, 3) := by decide +kernel
theorem d_Md_put_15 : decode b_Md_put 15 = .ok (.iconst 1, 1) := by decide +kernel
theorem d_Md_put_16 : decode b_Md_put 16 = .ok (.iadd, 1) := by decide +kernel
theorem d_Md_put_17 : decode b_Md_put 17 = .ok (.putfield 189, 3) := by decide +kernel
theorem d_Md_put_20 : decode b_Md_put 20 = .ok (.return_, 1) := by decide +kernel
theorem d_Md_fault_11 : decode b_Md_fault 11 = .ok (.iload_n 1, 1) := by decide +kernel
theorem d_Md_fault_12 : decode b_Md_fault 12 = .ok (.ifCond .ne 10, 3) := by decide +kernel
theorem d_Md_fault_22 : decode b_Md_fault 22 = .ok (.iload_n 1, 1) := by decide +kernel
theorem d_Md_fault_23 : decode b_Md_fault 23 = .ok (.iconst 1, 1) := by decide +kernel
theorem d_Md_fault_24 : decode b_Md_fault 24 = .ok (.if_icmp .ne 10, 3) := by decide +kernel
theorem d_Md_fault_34 : decode b_Md_fault 34 = .ok (.iconst (-1), 1) := by decide +kernel
theorem d_Md_fault_27 : decode b_Md_fault 27 = .ok (.aload_n 0, 1) := by decide +kernel
theorem d_Md_fault_28 : decode b_Md_fault 28 = .ok (.getfield 19, 3) := by decide +kernel
theorem d_Md_fault_31 : decode b_Md_fault 31 = .ok (.goto 4, 3) := by decide +kernel
theorem d_Md_fault_15 : decode b_Md_fault 15 = .ok (.aload_n 0, 1) := by decide +kernel
theorem d_Md_fault_16 : decode b_Md_fault 16 = .ok (.getfield 126, 3) := by decide +kernel
theorem d_Md_fault_19 : decode b_Md_fault 19 = .ok (.goto 16, 3) := by decide +kernel
theorem d_Md_turnOver_7 : decode b_Md_turnOver 7 = .ok (.iconst 2, 1) := by decide +kernel
theorem d_Md_turnOver_8 : decode b_Md_turnOver 8 = .ok (.iload_n 3, 1) := by decide +kernel
theorem d_Md_turnOver_9 : decode b_Md_turnOver 9 = .ok (.imul, 1) := by decide +kernel
theorem d_Md_turnOver_10 : decode b_Md_turnOver 10 = .ok (.iload_n 2, 1) := by decide +kernel
theorem d_Md_turnOver_11 : decode b_Md_turnOver 11 = .ok (.iconst 1, 1) := by decide +kernel
theorem d_Md_turnOver_12 : decode b_Md_turnOver 12 = .ok (.iadd, 1) := by decide +kernel
theorem d_Md_turnOver_13 : decode b_Md_turnOver 13 = .ok (.if_icmp .gt 77, 3) := by decide +kernel
theorem d_Md_turnOver_90 : decode b_Md_turnOver 90 = .ok (.return_, 1) := by decide +kernel
theorem d_Md_turnOver_16 : decode b_Md_turnOver 16 = .ok (.aload_n 0, 1) := by decide +kernel
theorem d_Md_turnOver_17 : decode b_Md_turnOver 17 = .ok (.getfield 403, 3) := by decide +kernel
theorem d_Md_turnOver_20 : decode b_Md_turnOver 20 = .ok (.bipush 9, 2) := by decide +kernel
theorem d_Md_turnOver_22 : decode b_Md_turnOver 22 = .ok (.iload_n 1, 1) := by decide +kernel
theorem d_Md_turnOver_23 : decode b_Md_turnOver 23 = .ok (.imul, 1) := by decide +kernel
theorem d_Md_turnOver_24 : decode b_Md_turnOver 24 = .ok (.iload_n 3, 1) := by decide +kernel
theorem d_Md_turnOver_25 : decode b_Md_turnOver 25 = .ok (.iadd, 1) := by decide +kernel
theorem d_Md_turnOver_26 : decode b_Md_turnOver 26 = .ok (.iaload, 1) := by decide +kernel
theorem d_Md_turnOver_27 : decode b_Md_turnOver 27 = .ok (.istore 4, 2) := by decide +kernel
theorem d_Md_turnOver_29 : decode b_Md_turnOver 29 = .ok (.aload_n 0, 1) := by decide +kernel
theorem d_Md_turnOver_30 : decode b_Md_turnOver 30 = .ok (.getfield 403, 3) := by decide +kernel
theorem d_Md_turnOver_33 : decode b_Md_turnOver 33 = .ok (.bipush 9, 2) := by decide +kernel
theorem d_Md_turnOver_35 : decode b_Md_turnOver 35 = .ok (.iload_n 1, 1) := by decide +kernel
theorem d_Md_turnOver_36 : decode b_Md_turnOver 36 = .ok (.imul, 1) := by decide +kernel
theorem d_Md_turnOver_37 : decode b_Md_turnOver 37 = .ok (.iload_n 2, 1) := by decide +kernel
theorem d_Md_turnOver_38 : decode b_Md_turnOver 38 = .ok (.iadd, 1) := by decide +kernel
theorem d_Md_turnOver_39 : decode b_Md_turnOver 39 = .ok (.iconst 1, 1) := by decide +kernel
theorem d_Md_turnOver_40 : decode b_Md_turnOver 40 = .ok (.iadd, 1) := by decide +kernel
theorem d_Md_turnOver_41 : decode b_Md_turnOver 41 = .ok (.iload_n 3, 1) := by decide +kernel
theorem d_Md_turnOver_42 : decode b_Md_turnOver 42 = .ok (.isub, 1) := by decide +kernel
