theorem d_Mo_renumber_26 : decode b_Mo_renumber 26 = .ok (.if_icmp .ne 77, 3) := by decide +kernel
theorem d_Mo_renumber_29 : decode b_Mo_renumber 29 = .ok (.iload 5, 2) := by decide +kernel
theorem d_Mo_renumber_31 : decode b_Mo_renumber 31 = .ok (.istore 6, 2) := by decide +kernel
theorem d_Mo_renumber_33 : decode b_Mo_renumber 33 = .ok (.iconst 0, 1) := by decide +kernel
theorem d_Mo_renumber_34 : decode b_Mo_renumber 34 = .ok (.istore 7, 2) := by decide +kernel
theorem d_Mo_renumber_0 : decode b_Mo_renumber 0 = .ok (.iconst 1, 1) := by decide +kernel
theorem d_Mo_renumber_1 : decode b_Mo_renumber 1 = .ok (.istore_n 3, 1) := by decide +kernel
theorem d_Mo_renumber_2 : decode b_Mo_renumber 2 = .ok (.iconst 0, 1) := by decide +kernel
theorem d_Mo_renumber_3 : decode b_Mo_renumber 3 = .ok (.istore 4, 2) := by decide +kernel
theorem d_Mo_renumber_5 : decode b_Mo_renumber 5 = .ok (.iconst 0, 1) := by decide +kernel
theorem d_Mo_renumber_6 : decode b_Mo_renumber 6 = .ok (.istore 5, 2) := by decide +kernel
theorem d_Pa_shrink_0 : decode b_Pa_shrink 0 = .ok (.aload_n 0, 1) := by decide +kernel
theorem d_Pa_shrink_1 : decode b_Pa_shrink 1 = .ok (.iload_n 1, 1) := by decide +kernel
theorem d_Pa_shrink_2 : decode b_Pa_shrink 2 = .ok (.putfield 18, 3) := by decide +kernel
theorem d_Pa_shrink_5 : decode b_Pa_shrink 5 = .ok (.aload_n 0, 1) := by decide +kernel
theorem d_Pa_shrink_6 : decode b_Pa_shrink 6 = .ok (.iconst 0, 1) := by decide +kernel
theorem d_Pa_shrink_7 : decode b_Pa_shrink 7 = .ok (.putfield 22, 3) := by decide +kernel
theorem d_Pa_shrink_10 : decode b_Pa_shrink 10 = .ok (.return_, 1) := by decide +kernel
theorem d_Li_leaveNext_0 : decode b_Li_leaveNext 0 = .ok (.aload_n 0, 1) := by decide +kernel
theorem d_Li_leaveNext_1 : decode b_Li_leaveNext 1 = .ok (.getfield 26, 3) := by decide +kernel
theorem d_Li_leaveNext_4 : decode b_Li_leaveNext 4 = .ok (.aload_n 0, 1) := by decide +kernel
theorem d_Li_leaveNext_5 : decode b_Li_leaveNext 5 = .ok (.getfield 22, 3) := by decide +kernel
theorem d_Li_leaveNext_8 : decode b_Li_leaveNext 8 = .ok (.if_icmp .ge 13, 3) := by decide +kernel
theorem d_Li_leaveNext_21 : decode b_Li_leaveNext 21 = .ok (.return_, 1) := by decide +kernel
theorem d_Li_leaveNext_11 : decode b_Li_leaveNext 11 = .ok (.aload_n 0, 1) := by decide +kernel
theorem d_Li_leaveNext_12 : decode b_Li_leaveNext 12 = .ok (.dup, 1) := by decide +kernel
theorem d_Li_leaveNext_13 : decode b_Li_leaveNext 13 = .ok (.getfield 26, 3) := by decide +kernel
theorem d_Li_leaveNext_16 : decode b_Li_leaveNext 16 = .ok (.iconst 1, 1) := by decide +kernel
theorem d_Li_leaveNext_17 : decode b_Li_leaveNext 17 = .ok (.iadd, 1) := by decide +kernel
theorem d_Li_leaveNext_18 : decode b_Li_leaveNext 18 = .ok (.putfield 26, 3) := by decide +kernel
theorem d_En_crossing_15 : decode b_En_crossing 15 = .ok (.iload_n 2, 1) := by decide +kernel
theorem d_En_crossing_16 : decode b_En_crossing 16 = .ok (.ifCond .lt 8, 3) := by decide +kernel
theorem d_En_crossing_19 : decode b_En_crossing 19 = .ok (.iload_n 2, 1) := by decide +kernel
theorem d_En_crossing_20 : decode b_En_crossing 20 = .ok (.iconst 4, 1) := by decide +kernel
theorem d_En_crossing_21 : decode b_En_crossing 21 = .ok (.if_icmp .le 5, 3) := by decide +kernel
theorem d_En_crossing_26 : decode b_En_crossing 26 = .ok (.iload_n 2, 1) := by decide +kernel
theorem d_En_crossing_27 : decode b_En_crossing 27 = .ok (.iconst 4, 1) := by decide +kernel
theorem d_En_crossing_28 : decode b_En_crossing 28 = .ok (.if_icmp .ne 15, 3) := by decide +kernel
theorem d_En_crossing_43 : decode b_En_crossing 43 = .ok (.aload_n 0, 1) := by decide +kernel
theorem d_En_crossing_44 : decode b_En_crossing 44 = .ok (.getfield 66, 3) := by decide +kernel
theorem d_En_crossing_47 : decode b_En_crossing 47 = .ok (.getfield 178, 3) := by decide +kernel
theorem d_En_crossing_50 : decode b_En_crossing 50 = .ok (.iconst 4, 1) := by decide +kernel
theorem d_En_crossing_51 : decode b_En_crossing 51 = .ok (.iload_n 1, 1) := by decide +kernel
theorem d_En_crossing_52 : decode b_En_crossing 52 = .ok (.imul, 1) := by decide +kernel
theorem d_En_crossing_53 : decode b_En_crossing 53 = .ok (.iload_n 2, 1) := by decide +kernel
theorem d_En_crossing_54 : decode b_En_crossing 54 = .ok (.iadd, 1) := by decide +kernel
theorem d_En_crossing_55 : decode b_En_crossing 55 = .ok (.iaload, 1) := by decide +kernel
theorem d_En_crossing_56 : decode b_En_crossing 56 = .ok (.ireturn, 1) := by decide +kernel
theorem d_En_crossing_31 : decode b_En_crossing 31 = .ok (.aload_n 0, 1) := by decide +kernel
theorem d_En_crossing_32 : decode b_En_crossing 32 = .ok (.getfield 66, 3) := by decide +kernel
theorem d_En_crossing_35 : decode b_En_crossing 35 = .ok (.getfield 175, 3) := by decide +kernel
theorem d_En_crossing_38 : decode b_En_crossing 38 = .ok (.iload_n 1, 1) := by decide +kernel
theorem d_En_crossing_39 : decode b_En_crossing 39 = .ok (.iaload, 1) := by decide +kernel
theorem d_En_crossing_40 : decode b_En_crossing 40 = .ok (.goto 16, 3) := by decide +kernel
theorem d_En_printed_15 : decode b_En_printed 15 = .ok (.aload_n 0, 1) := by decide +kernel
theorem d_En_printed_16 : decode b_En_printed 16 = .ok (.getfield 31, 3) := by decide +kernel
theorem d_En_printed_19 : decode b_En_printed 19 = .ok (.getfield 181, 3) := by decide +kernel
theorem d_En_printed_22 : decode b_En_printed 22 = .ok (.iload_n 1, 1) := by decide +kernel
theorem d_En_printed_23 : decode b_En_printed 23 = .ok (.iaload, 1) := by decide +kernel
theorem d_En_printed_24 : decode b_En_printed 24 = .ok (.goto 4, 3) := by decide +kernel
theorem d_Br_appendSwap_10 : decode b_Br_appendSwap 10 = .ok (.iload_n 3, 1) := by decide +kernel
theorem d_Br_appendSwap_11 : decode b_Br_appendSwap 11 = .ok (.aload_n 0, 1) := by decide +kernel
theorem d_Br_appendSwap_12 : decode b_Br_appendSwap 12 = .ok (.getfield 21, 3) := by decide +kernel
theorem d_Br_appendSwap_15 : decode b_Br_appendSwap 15 = .ok (.if_icmp .ge 18, 3) := by decide +kernel
theorem d_Br_appendSwap_33 : decode b_Br_appendSwap 33 = .ok (.aload_n 0, 1) := by decide +kernel
theorem d_Br_appendSwap_34 : decode b_Br_appendSwap 34 = .ok (.getfield 15, 3) := by decide +kernel
theorem d_Br_appendSwap_37 : decode b_Br_appendSwap 37 = .ok (.iload_n 2, 1) := by decide +kernel
theorem d_Br_appendSwap_38 : decode b_Br_appendSwap 38 = .ok (.iload_n 1, 1) := by decide +kernel
theorem d_Br_appendSwap_39 : decode b_Br_appendSwap 39 = .ok (.iadd, 1) := by decide +kernel
theorem d_Br_appendSwap_40 : decode b_Br_appendSwap 40 = .ok (.iload_n 1, 1) := by decide +kernel
theorem d_Br_appendSwap_41 : decode b_Br_appendSwap 41 = .ok (.iconst 1, 1) := by decide +kernel
theorem d_Br_appendSwap_42 : decode b_Br_appendSwap 42 = .ok (.iadd, 1) := by decide +kernel
theorem d_Br_appendSwap_43 : decode b_Br_appendSwap 43 = .ok (.iastore, 1) := by decide +kernel
theorem d_Br_appendSwap_44 : decode b_Br_appendSwap 44 = .ok (.aload_n 0, 1) := by decide +kernel
theorem d_Br_appendSwap_45 : decode b_Br_appendSwap 45 = .ok (.getfield 15, 3) := by decide +kernel
theorem d_Br_appendSwap_48 : decode b_Br_appendSwap 48 = .ok (.iload_n 2, 1) := by decide +kernel
theorem d_Br_appendSwap_49 : decode b_Br_appendSwap 49 = .ok (.iload_n 1, 1) := by decide +kernel
theorem d_Br_appendSwap_50 : decode b_Br_appendSwap 50 = .ok (.iadd, 1) := by decide +kernel
theorem d_Br_appendSwap_51 : decode b_Br_appendSwap 51 = .ok (.iconst 1, 1) := by decide +kernel
theorem d_Br_appendSwap_52 : decode b_Br_appendSwap 52 = .ok (.iadd, 1) := by decide +kernel
theorem d_Br_appendSwap_53 : decode b_Br_appendSwap 53 = .ok (.iload_n 1, 1) := by decide +kernel
theorem d_Br_appendSwap_54 : decode b_Br_appendSwap 54 = .ok (.iastore, 1) := by decide +kernel
theorem d_Br_appendSwap_55 : decode b_Br_appendSwap 55 = .ok (.aload_n 0, 1) := by decide +kernel
theorem d_Br_appendSwap_56 : decode b_Br_appendSwap 56 = .ok (.dup, 1) := by decide +kernel
theorem d_Br_appendSwap_57 : decode b_Br_appendSwap 57 = .ok (.getfield 66, 3) := by decide +kernel
theorem d_Br_appendSwap_60 : decode b_Br_appendSwap 60 = .ok (.iconst 1, 1) := by decide +kernel
theorem d_Br_appendSwap_61 : decode b_Br_appendSwap 61 = .ok (.iadd, 1) := by decide +kernel
theorem d_Br_appendSwap_62 : decode b_Br_appendSwap 62 = .ok (.putfield 66, 3) := by decide +kernel
theorem d_Br_appendSwap_65 : decode b_Br_appendSwap 65 = .ok (.return_, 1) := by decide +kernel
theorem d_Br_appendSwap_18 : decode b_Br_appendSwap 18 = .ok (.aload_n 0, 1) := by decide +kernel
theorem d_Br_appendSwap_19 : decode b_Br_appendSwap 19 = .ok (.getfield 15, 3) := by decide +kernel
theorem d_Br_appendSwap_22 : decode b_Br_appendSwap 22 = .ok (.iload_n 2, 1) := by decide +kernel
theorem d_Br_appendSwap_23 : decode b_Br_appendSwap 23 = .ok (.iload_n 3, 1) := by decide +kernel
theorem d_Br_appendSwap_24 : decode b_Br_appendSwap 24 = .ok (.iadd, 1) := by decide +kernel
theorem d_Br_appendSwap_25 : decode b_Br_appendSwap 25 = .ok (.iload_n 3, 1) := by decide +kernel
theorem d_Br_appendSwap_26 : decode b_Br_appendSwap 26 = .ok (.iastore, 1) := by decide +kernel
theorem d_Br_appendSwap_27 : decode b_Br_appendSwap 27 = .ok (.iinc 3 1, 3) := by decide +kernel
theorem d_Br_appendSwap_30 : decode b_Br_appendSwap 30 = .ok (.goto (-20), 3) := by decide +kernel
theorem d_Br_appendSwap_0 : decode b_Br_appendSwap 0 = .ok (.aload_n 0, 1) := by decide +kernel
theorem d_Br_appendSwap_1 : decode b_Br_appendSwap 1 = .ok (.getfield 66, 3) := by decide +kernel
theorem d_Br_appendSwap_4 : decode b_Br_appendSwap 4 = .ok (.bipush 8, 2) := by decide +kernel
theorem d_Br_appendSwap_6 : decode b_Br_appendSwap 6 = .ok (.imul, 1) := by decide +kernel
theorem d_Br_appendSwap_7 : decode b_Br_appendSwap 7 = .ok (.istore_n 2, 1) := by decide +kernel
theorem d_Br_appendSwap_8 : decode b_Br_appendSwap 8 = .ok (.iconst 0, 1) := by decide +kernel
theorem d_Br_appendSwap_9 : decode b_Br_appendSwap 9 = .ok (.istore_n 3, 1) := by decide +kernel
theorem d_Br_conjugateByTurn_9 : decode b_Br_conjugateByTurn 9 = .ok (.iload_n 3, 1) := by decide +kernel
theorem d_Br_conjugateByTurn_10 : decode b_Br_conjugateByTurn 10 = .ok (.iload_n 2, 1) := by decide +kernel
theorem d_Br_conjugateByTurn_11 : decode b_Br_conjugateByTurn 11 = .ok (.iload_n 3, 1) := by decide +kernel
theorem d_Br_conjugateByTurn_12 : decode b_Br_conjugateByTurn 12 = .ok (.isub, 1) := by decide +kernel
theorem d_Br_conjugateByTurn_13 : decode b_Br_conjugateByTurn 13 = .ok (.if_icmp .gt 53, 3) := by decide +kernel
theorem d_Br_conjugateByTurn_66 : decode b_Br_conjugateByTurn 66 = .ok (.return_, 1) := by decide +kernel
theorem d_Br_conjugateByTurn_16 : decode b_Br_conjugateByTurn 16 = .ok (.aload_n 0, 1) := by decide +kernel
theorem d_Br_conjugateByTurn_17 : decode b_Br_conjugateByTurn 17 = .ok (.getfield 15, 3) := by decide +kernel
theorem d_Br_conjugateByTurn_20 : decode b_Br_conjugateByTurn 20 = .ok (.iload_n 1, 1) := by decide +kernel
theorem d_Br_conjugateByTurn_21 : decode b_Br_conjugateByTurn 21 = .ok (.iload_n 3, 1) := by decide +kernel
theorem d_Br_conjugateByTurn_22 : decode b_Br_conjugateByTurn 22 = .ok (.iadd, 1) := by decide +kernel
theorem d_Br_conjugateByTurn_23 : decode b_Br_conjugateByTurn 23 = .ok (.iaload, 1) := by decide +kernel
theorem d_Br_conjugateByTurn_24 : decode b_Br_conjugateByTurn 24 = .ok (.istore 4, 2) := by decide +kernel
theorem d_Br_conjugateByTurn_26 : decode b_Br_conjugateByTurn 26 = .ok (.aload_n 0, 1) := by decide +kernel
theorem d_Br_conjugateByTurn_27 : decode b_Br_conjugateByTurn 27 = .ok (.getfield 15, 3) := by decide +kernel
theorem d_Br_conjugateByTurn_30 : decode b_Br_conjugateByTurn 30 = .ok (.iload_n 1, 1) := by decide +kernel
theorem d_Br_conjugateByTurn_31 : decode b_Br_conjugateByTurn 31 = .ok (.iload_n 3, 1) := by decide +kernel
theorem d_Br_conjugateByTurn_32 : decode b_Br_conjugateByTurn 32 = .ok (.iadd, 1) := by decide +kernel
theorem d_Br_conjugateByTurn_33 : decode b_Br_conjugateByTurn 33 = .ok (.iload_n 2, 1) := by decide +kernel
theorem d_Br_conjugateByTurn_34 : decode b_Br_conjugateByTurn 34 = .ok (.aload_n 0, 1) := by decide +kernel
theorem d_Br_conjugateByTurn_35 : decode b_Br_conjugateByTurn 35 = .ok (.getfield 15, 3) := by decide +kernel
theorem d_Br_conjugateByTurn_38 : decode b_Br_conjugateByTurn 38 = .ok (.iload_n 1, 1) := by decide +kernel
theorem d_Br_conjugateByTurn_39 : decode b_Br_conjugateByTurn 39 = .ok (.iload_n 2, 1) := by decide +kernel
theorem d_Br_conjugateByTurn_40 : decode b_Br_conjugateByTurn 40 = .ok (.iadd, 1) := by decide +kernel
theorem d_Br_conjugateByTurn_41 : decode b_Br_conjugateByTurn 41 = .ok (.iload_n 3, 1) := by decide +kernel
theorem d_Br_conjugateByTurn_42 : decode b_Br_conjugateByTurn 42 = .ok (.isub, 1) := by decide +kernel
theorem d_Br_conjugateByTurn_43 : decode b_Br_conjugateByTurn 43 = .ok (.iaload, 1) := by decide +kernel
theorem d_Br_conjugateByTurn_44 : decode b_Br_conjugateByTurn 44 = .ok (.isub, 1) := by decide +kernel
theorem d_Br_conjugateByTurn_45 : decode b_Br_conjugateByTurn 45 = .ok (.iastore, 1) := by decide +kernel
theorem d_Br_conjugateByTurn_46 : decode b_Br_conjugateByTurn 46 = .ok (.aload_n 0, 1) := by decide +kernel
theorem d_Br_conjugateByTurn_47 : decode b_Br_conjugateByTurn 47 = .ok (.getfield 15, 3) := by decide +kernel
theorem d_Br_conjugateByTurn_50 : decode b_Br_conjugateByTurn 50 = .ok (.iload_n 1, 1) := by decide +kernel
theorem d_Br_conjugateByTurn_51 : decode b_Br_conjugateByTurn 51 = .ok (.iload_n 2, 1) := by decide +kernel
theorem d_Br_conjugateByTurn_52 : decode b_Br_conjugateByTurn 52 = .ok (.iadd, 1) := by decide +kernel
theorem d_Br_conjugateByTurn_53 : decode b_Br_conjugateByTurn 53 = .ok (.iload_n 3, 1) := by decide +kernel
theorem d_Br_conjugateByTurn_54 : decode b_Br_conjugateByTurn 54 = .ok (.isub, 1) := by decide +kernel
theorem d_Br_conjugateByTurn_55 : decode b_Br_conjugateByTurn 55 = .ok (.iload_n 2, 1) := by decide +kernel
theorem d_Br_conjugateByTurn_56 : decode b_Br_conjugateByTurn 56 = .ok (.iload 4, 2) := by decide +kernel
theorem d_Br_conjugateByTurn_58 : decode b_Br_conjugateByTurn 58 = .ok (.isub, 1) := by decide +kernel
theorem d_Br_conjugateByTurn_59 : decode b_Br_conjugateByTurn 59 = .ok (.iastore, 1) := by decide +kernel
theorem d_Br_conjugateByTurn_60 : decode b_Br_conjugateByTurn 60 = .ok (.iinc 3 1, 3) := by decide +kernel
theorem d_Br_conjugateByTurn_63 : decode b_Br_conjugateByTurn 63 = .ok (.goto (-54), 3) := by decide +kernel
theorem d_Br_conjugateByTurn_0 : decode b_Br_conjugateByTurn 0 = .ok (.aload_n 0, 1) := by decide +kernel
theorem d_Br_conjugateByTurn_1 : decode b_Br_conjugateByTurn 1 = .ok (.getfield 21, 3) := by decide +kernel
theorem d_Br_conjugateByTurn_4 : decode b_Br_conjugateByTurn 4 = .ok (.iconst 1, 1) := by decide +kernel
theorem d_Br_conjugateByTurn_5 : decode b_Br_conjugateByTurn 5 = .ok (.isub, 1) := by decide +kernel
theorem d_Br_conjugateByTurn_6 : decode b_Br_conjugateByTurn 6 = .ok (.istore_n 2, 1) := by decide +kernel
theorem d_Br_conjugateByTurn_7 : decode b_Br_conjugateByTurn 7 = .ok (.iconst 0, 1) := by decide +kernel
theorem d_Br_conjugateByTurn_8 : decode b_Br_conjugateByTurn 8 = .ok (.istore_n 3, 1) := by decide +kernel
theorem d_Br_moveSwap_0 : decode b_Br_moveSwap 0 = .ok (.aload_n 0, 1) := by decide +kernel
theorem d_Br_moveSwap_1 : decode b_Br_moveSwap 1 = .ok (.getfield 18, 3) := by decide +kernel
theorem d_Br_moveSwap_4 : decode b_Br_moveSwap 4 = .ok (.iload_n 3, 1) := by decide +kernel
theorem d_Br_moveSwap_5 : decode b_Br_moveSwap 5 = .ok (.iaload, 1) := by decide +kernel
theorem d_Br_moveSwap_6 : decode b_Br_moveSwap 6 = .ok (.istore 4, 2) := by decide +kernel
theorem d_Br_moveSwap_8 : decode b_Br_moveSwap 8 = .ok (.aload_n 0, 1) := by decide +kernel
theorem d_Br_moveSwap_9 : decode b_Br_moveSwap 9 = .ok (.getfield 18, 3) := by decide +kernel
theorem d_Br_moveSwap_12 : decode b_Br_moveSwap 12 = .ok (.iload_n 3, 1) := by decide +kernel
theorem d_Br_moveSwap_13 : decode b_Br_moveSwap 13 = .ok (.iconst 1, 1) := by decide +kernel
theorem d_Br_moveSwap_14 : decode b_Br_moveSwap 14 = .ok (.iadd, 1) := by decide +kernel
theorem d_Br_moveSwap_15 : decode b_Br_moveSwap 15 = .ok (.iaload, 1) := by decide +kernel
theorem d_Br_moveSwap_16 : decode b_Br_moveSwap 16 = .ok (.istore 5, 2) := by decide +kernel
theorem d_Br_moveSwap_18 : decode b_Br_moveSwap 18 = .ok (.aload_n 0, 1) := by decide +kernel
theorem d_Br_moveSwap_19 : decode b_Br_moveSwap 19 = .ok (.getfield 15, 3) := by decide +kernel
theorem d_Br_moveSwap_22 : decode b_Br_moveSwap 22 = .ok (.iload_n 1, 1) := by decide +kernel
theorem d_Br_moveSwap_23 : decode b_Br_moveSwap 23 = .ok (.iload 4, 2) := by decide +kernel
theorem d_Br_moveSwap_25 : decode b_Br_moveSwap 25 = .ok (.iadd, 1) := by decide +kernel
theorem d_Br_moveSwap_26 : decode b_Br_moveSwap 26 = .ok (.iload_n 3, 1) := by decide +kernel
theorem d_Br_moveSwap_27 : decode b_Br_moveSwap 27 = .ok (.iconst 1, 1) := by decide +kernel
theorem d_Br_moveSwap_28 : decode b_Br_moveSwap 28 = .ok (.iadd, 1) := by decide +kernel
theorem d_Br_moveSwap_29 : decode b_Br_moveSwap 29 = .ok (.iastore, 1) := by decide +kernel
theorem d_Br_moveSwap_30 : decode b_Br_moveSwap 30 = .ok (.aload_n 0, 1) := by decide +kernel
theorem d_Br_moveSwap_31 : decode b_Br_moveSwap 31 = .ok (.getfield 15, 3) := by decide +kernel
theorem d_Br_moveSwap_34 : decode b_Br_moveSwap 34 = .ok (.iload_n 1, 1) := by decide +kernel
theorem d_Br_moveSwap_35 : decode b_Br_moveSwap 35 = .ok (.iload 5, 2) := by decide +kernel
theorem d_Br_moveSwap_37 : decode b_Br_moveSwap 37 = .ok (.iadd, 1) := by decide +kernel
theorem d_Br_moveSwap_38 : decode b_Br_moveSwap 38 = .ok (.iload_n 3, 1) := by decide +kernel
theorem d_Br_moveSwap_39 : decode b_Br_moveSwap 39 = .ok (.iastore, 1) := by decide +kernel
theorem d_Br_moveSwap_40 : decode b_Br_moveSwap 40 = .ok (.aload_n 0, 1) := by decide +kernel
theorem d_Br_moveSwap_41 : decode b_Br_moveSwap 41 = .ok (.getfield 18, 3) := by decide +kernel
theorem d_Br_moveSwap_44 : decode b_Br_moveSwap 44 = .ok (.iload_n 3, 1) := by decide +kernel
theorem d_Br_moveSwap_45 : decode b_Br_moveSwap 45 = .ok (.iload 5, 2) := by decide +kernel
theorem d_Br_moveSwap_47 : decode b_Br_moveSwap 47 = .ok (.iastore, 1) := by decide +kernel
theorem d_Br_moveSwap_48 : decode b_Br_moveSwap 48 = .ok (.aload_n 0, 1) := by decide +kernel
theorem d_Br_moveSwap_49 : decode b_Br_moveSwap 49 = .ok (.getfield 18, 3) := by decide +kernel
theorem d_Br_moveSwap_52 : decode b_Br_moveSwap 52 = .ok (.iload_n 3, 1) := by decide +kernel
theorem d_Br_moveSwap_53 : decode b_Br_moveSwap 53 = .ok (.iconst 1, 1) := by decide +kernel
theorem d_Br_moveSwap_54 : decode b_Br_moveSwap 54 = .ok (.iadd, 1) := by decide +kernel
theorem d_Br_moveSwap_55 : decode b_Br_moveSwap 55 = .ok (.iload 4, 2) := by decide +kernel
theorem d_Br_moveSwap_57 : decode b_Br_moveSwap 57 = .ok (.iastore, 1) := by decide +kernel
theorem d_Br_moveSwap_58 : decode b_Br_moveSwap 58 = .ok (.aload_n 0, 1) := by decide +kernel
theorem d_Br_moveSwap_59 : decode b_Br_moveSwap 59 = .ok (.getfield 15, 3) := by decide +kernel
theorem d_Br_moveSwap_62 : decode b_Br_moveSwap 62 = .ok (.iload_n 2, 1) := by decide +kernel
theorem d_Br_moveSwap_63 : decode b_Br_moveSwap 63 = .ok (.iload_n 3, 1) := by decide +kernel
theorem d_Br_moveSwap_64 : decode b_Br_moveSwap 64 = .ok (.iadd, 1) := by decide +kernel
theorem d_Br_moveSwap_65 : decode b_Br_moveSwap 65 = .ok (.iaload, 1) := by decide +kernel
