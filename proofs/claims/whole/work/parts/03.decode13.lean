theorem d_Mo_slideEdge_1 : decode b_Mo_slideEdge 1 = .ok (.getfield 60, 3) := by decide +kernel
theorem d_Mo_slideEdge_4 : decode b_Mo_slideEdge 4 = .ok (.iload_n 3, 1) := by decide +kernel
theorem d_Mo_slideEdge_5 : decode b_Mo_slideEdge 5 = .ok (.iaload, 1) := by decide +kernel
theorem d_Mo_slideEdge_6 : decode b_Mo_slideEdge 6 = .ok (.istore 4, 2) := by decide +kernel
theorem d_Mo_slideEdge_8 : decode b_Mo_slideEdge 8 = .ok (.aload_n 1, 1) := by decide +kernel
theorem d_Mo_slideEdge_9 : decode b_Mo_slideEdge 9 = .ok (.getfield 63, 3) := by decide +kernel
theorem d_Mo_slideEdge_12 : decode b_Mo_slideEdge 12 = .ok (.iload_n 3, 1) := by decide +kernel
theorem d_Mo_slideEdge_13 : decode b_Mo_slideEdge 13 = .ok (.iaload, 1) := by decide +kernel
theorem d_Mo_slideEdge_14 : decode b_Mo_slideEdge 14 = .ok (.istore 5, 2) := by decide +kernel
theorem d_Mo_slideEdge_16 : decode b_Mo_slideEdge 16 = .ok (.aload_n 1, 1) := by decide +kernel
theorem d_Mo_slideEdge_17 : decode b_Mo_slideEdge 17 = .ok (.getfield 66, 3) := by decide +kernel
theorem d_Mo_slideEdge_20 : decode b_Mo_slideEdge 20 = .ok (.aload_n 1, 1) := by decide +kernel
theorem d_Mo_slideEdge_21 : decode b_Mo_slideEdge 21 = .ok (.getfield 69, 3) := by decide +kernel
theorem d_Mo_slideEdge_24 : decode b_Mo_slideEdge 24 = .ok (.iload 4, 2) := by decide +kernel
theorem d_Mo_slideEdge_26 : decode b_Mo_slideEdge 26 = .ok (.iconst 2, 1) := by decide +kernel
theorem d_Mo_slideEdge_27 : decode b_Mo_slideEdge 27 = .ok (.ixor, 1) := by decide +kernel
theorem d_Mo_slideEdge_28 : decode b_Mo_slideEdge 28 = .ok (.iaload, 1) := by decide +kernel
theorem d_Mo_slideEdge_29 : decode b_Mo_slideEdge 29 = .ok (.iaload, 1) := by decide +kernel
theorem d_Mo_slideEdge_30 : decode b_Mo_slideEdge 30 = .ok (.istore 6, 2) := by decide +kernel
theorem d_Mo_slideEdge_32 : decode b_Mo_slideEdge 32 = .ok (.aload_n 1, 1) := by decide +kernel
theorem d_Mo_slideEdge_33 : decode b_Mo_slideEdge 33 = .ok (.getfield 66, 3) := by decide +kernel
theorem d_Mo_slideEdge_36 : decode b_Mo_slideEdge 36 = .ok (.aload_n 1, 1) := by decide +kernel
theorem d_Mo_slideEdge_37 : decode b_Mo_slideEdge 37 = .ok (.getfield 69, 3) := by decide +kernel
theorem d_Mo_slideEdge_40 : decode b_Mo_slideEdge 40 = .ok (.iload 5, 2) := by decide +kernel
theorem d_Mo_slideEdge_42 : decode b_Mo_slideEdge 42 = .ok (.iconst 2, 1) := by decide +kernel
theorem d_Mo_slideEdge_43 : decode b_Mo_slideEdge 43 = .ok (.ixor, 1) := by decide +kernel
theorem d_Mo_slideEdge_44 : decode b_Mo_slideEdge 44 = .ok (.iaload, 1) := by decide +kernel
theorem d_Mo_slideEdge_45 : decode b_Mo_slideEdge 45 = .ok (.iaload, 1) := by decide +kernel
theorem d_Mo_slideEdge_46 : decode b_Mo_slideEdge 46 = .ok (.istore 7, 2) := by decide +kernel
theorem d_Mo_slideEdge_48 : decode b_Mo_slideEdge 48 = .ok (.aload_n 2, 1) := by decide +kernel
theorem d_Mo_slideEdge_49 : decode b_Mo_slideEdge 49 = .ok (.getfield 72, 3) := by decide +kernel
theorem d_Mo_slideEdge_52 : decode b_Mo_slideEdge 52 = .ok (.iload 4, 2) := by decide +kernel
theorem d_Mo_slideEdge_54 : decode b_Mo_slideEdge 54 = .ok (.iconst 2, 1) := by decide +kernel
theorem d_Mo_slideEdge_55 : decode b_Mo_slideEdge 55 = .ok (.ixor, 1) := by decide +kernel
theorem d_Mo_slideEdge_56 : decode b_Mo_slideEdge 56 = .ok (.aload_n 1, 1) := by decide +kernel
theorem d_Mo_slideEdge_57 : decode b_Mo_slideEdge 57 = .ok (.getfield 66, 3) := by decide +kernel
theorem d_Mo_slideEdge_60 : decode b_Mo_slideEdge 60 = .ok (.iload_n 3, 1) := by decide +kernel
theorem d_Mo_slideEdge_61 : decode b_Mo_slideEdge 61 = .ok (.iaload, 1) := by decide +kernel
theorem d_Mo_slideEdge_62 : decode b_Mo_slideEdge 62 = .ok (.iastore, 1) := by decide +kernel
theorem d_Mo_slideEdge_63 : decode b_Mo_slideEdge 63 = .ok (.aload_n 2, 1) := by decide +kernel
theorem d_Mo_slideEdge_64 : decode b_Mo_slideEdge 64 = .ok (.getfield 72, 3) := by decide +kernel
theorem d_Mo_slideEdge_67 : decode b_Mo_slideEdge 67 = .ok (.iload 4, 2) := by decide +kernel
theorem d_Mo_slideEdge_69 : decode b_Mo_slideEdge 69 = .ok (.iload 7, 2) := by decide +kernel
theorem d_Mo_slideEdge_71 : decode b_Mo_slideEdge 71 = .ok (.iastore, 1) := by decide +kernel
theorem d_Mo_slideEdge_72 : decode b_Mo_slideEdge 72 = .ok (.aload_n 2, 1) := by decide +kernel
theorem d_Mo_slideEdge_73 : decode b_Mo_slideEdge 73 = .ok (.getfield 72, 3) := by decide +kernel
theorem d_Mo_slideEdge_76 : decode b_Mo_slideEdge 76 = .ok (.iload 5, 2) := by decide +kernel
theorem d_Mo_slideEdge_78 : decode b_Mo_slideEdge 78 = .ok (.iload 6, 2) := by decide +kernel
theorem d_Mo_slideEdge_80 : decode b_Mo_slideEdge 80 = .ok (.iastore, 1) := by decide +kernel
theorem d_Mo_slideEdge_81 : decode b_Mo_slideEdge 81 = .ok (.aload_n 2, 1) := by decide +kernel
theorem d_Mo_slideEdge_82 : decode b_Mo_slideEdge 82 = .ok (.getfield 72, 3) := by decide +kernel
theorem d_Mo_slideEdge_85 : decode b_Mo_slideEdge 85 = .ok (.iload 5, 2) := by decide +kernel
theorem d_Mo_slideEdge_87 : decode b_Mo_slideEdge 87 = .ok (.iconst 2, 1) := by decide +kernel
theorem d_Mo_slideEdge_88 : decode b_Mo_slideEdge 88 = .ok (.ixor, 1) := by decide +kernel
theorem d_Mo_slideEdge_89 : decode b_Mo_slideEdge 89 = .ok (.aload_n 1, 1) := by decide +kernel
theorem d_Mo_slideEdge_90 : decode b_Mo_slideEdge 90 = .ok (.getfield 66, 3) := by decide +kernel
theorem d_Mo_slideEdge_93 : decode b_Mo_slideEdge 93 = .ok (.iload_n 3, 1) := by decide +kernel
theorem d_Mo_slideEdge_94 : decode b_Mo_slideEdge 94 = .ok (.iaload, 1) := by decide +kernel
theorem d_Mo_slideEdge_95 : decode b_Mo_slideEdge 95 = .ok (.iastore, 1) := by decide +kernel
theorem d_Mo_slideEdge_96 : decode b_Mo_slideEdge 96 = .ok (.return_, 1) := by decide +kernel
theorem d_Sh_findFree_56 : decode b_Sh_findFree 56 = .ok (.iinc 4 1, 3) := by decide +kernel
theorem d_Sh_findFree_59 : decode b_Sh_findFree 59 = .ok (.goto (-52), 3) := by decide +kernel
theorem d_Sh_findFree_48 : decode b_Sh_findFree 48 = .ok (.aload_n 1, 1) := by decide +kernel
theorem d_Sh_findFree_49 : decode b_Sh_findFree 49 = .ok (.iload_n 3, 1) := by decide +kernel
theorem d_Sh_findFree_50 : decode b_Sh_findFree 50 = .ok (.iload 4, 2) := by decide +kernel
theorem d_Sh_findFree_52 : decode b_Sh_findFree 52 = .ok (.iastore, 1) := by decide +kernel
theorem d_Sh_findFree_53 : decode b_Sh_findFree 53 = .ok (.iinc 3 1, 3) := by decide +kernel
theorem d_Sh_findFree_7 : decode b_Sh_findFree 7 = .ok (.iload_n 3, 1) := by decide +kernel
theorem d_Sh_findFree_8 : decode b_Sh_findFree 8 = .ok (.aload_n 1, 1) := by decide +kernel
theorem d_Sh_findFree_9 : decode b_Sh_findFree 9 = .ok (.arraylength, 1) := by decide +kernel
theorem d_Sh_findFree_10 : decode b_Sh_findFree 10 = .ok (.if_icmp .ge 52, 3) := by decide +kernel
theorem d_Sh_findFree_62 : decode b_Sh_findFree 62 = .ok (.return_, 1) := by decide +kernel
theorem d_Sh_findFree_13 : decode b_Sh_findFree 13 = .ok (.iload 4, 2) := by decide +kernel
theorem d_Sh_findFree_15 : decode b_Sh_findFree 15 = .ok (.bipush 40, 2) := by decide +kernel
theorem d_Sh_findFree_17 : decode b_Sh_findFree 17 = .ok (.aload_n 1, 1) := by decide +kernel
theorem d_Sh_findFree_18 : decode b_Sh_findFree 18 = .ok (.arraylength, 1) := by decide +kernel
theorem d_Sh_findFree_19 : decode b_Sh_findFree 19 = .ok (.iadd, 1) := by decide +kernel
theorem d_Sh_findFree_20 : decode b_Sh_findFree 20 = .ok (.if_icmp .gt 42, 3) := by decide +kernel
theorem d_Sh_findFree_23 : decode b_Sh_findFree 23 = .ok (.iload_n 2, 1) := by decide +kernel
theorem d_Sh_findFree_24 : decode b_Sh_findFree 24 = .ok (.aload_n 0, 1) := by decide +kernel
theorem d_Sh_findFree_25 : decode b_Sh_findFree 25 = .ok (.getfield 48, 3) := by decide +kernel
theorem d_Sh_findFree_28 : decode b_Sh_findFree 28 = .ok (.if_icmp .ge 20, 3) := by decide +kernel
theorem d_Sh_findFree_31 : decode b_Sh_findFree 31 = .ok (.aload_n 0, 1) := by decide +kernel
theorem d_Sh_findFree_32 : decode b_Sh_findFree 32 = .ok (.getfield 15, 3) := by decide +kernel
theorem d_Sh_findFree_35 : decode b_Sh_findFree 35 = .ok (.iload_n 2, 1) := by decide +kernel
theorem d_Sh_findFree_36 : decode b_Sh_findFree 36 = .ok (.iaload, 1) := by decide +kernel
theorem d_Sh_findFree_37 : decode b_Sh_findFree 37 = .ok (.iload 4, 2) := by decide +kernel
theorem d_Sh_findFree_39 : decode b_Sh_findFree 39 = .ok (.if_icmp .ne 9, 3) := by decide +kernel
theorem d_Sh_findFree_42 : decode b_Sh_findFree 42 = .ok (.iinc 2 1, 3) := by decide +kernel
theorem d_Sh_findFree_45 : decode b_Sh_findFree 45 = .ok (.goto 11, 3) := by decide +kernel
theorem d_Sh_findFree_0 : decode b_Sh_findFree 0 = .ok (.iconst 0, 1) := by decide +kernel
theorem d_Sh_findFree_1 : decode b_Sh_findFree 1 = .ok (.istore_n 2, 1) := by decide +kernel
theorem d_Sh_findFree_2 : decode b_Sh_findFree 2 = .ok (.iconst 0, 1) := by decide +kernel
theorem d_Sh_findFree_3 : decode b_Sh_findFree 3 = .ok (.istore_n 3, 1) := by decide +kernel
theorem d_Sh_findFree_4 : decode b_Sh_findFree 4 = .ok (.iconst 1, 1) := by decide +kernel
theorem d_Sh_findFree_5 : decode b_Sh_findFree 5 = .ok (.istore 4, 2) := by decide +kernel
theorem d_Sh_edgeNamed_2 : decode b_Sh_edgeNamed 2 = .ok (.iload_n 2, 1) := by decide +kernel
theorem d_Sh_edgeNamed_3 : decode b_Sh_edgeNamed 3 = .ok (.aload_n 0, 1) := by decide +kernel
theorem d_Sh_edgeNamed_4 : decode b_Sh_edgeNamed 4 = .ok (.getfield 48, 3) := by decide +kernel
theorem d_Sh_edgeNamed_7 : decode b_Sh_edgeNamed 7 = .ok (.if_icmp .ge 21, 3) := by decide +kernel
theorem d_Sh_edgeNamed_28 : decode b_Sh_edgeNamed 28 = .ok (.iconst (-1), 1) := by decide +kernel
theorem d_Sh_edgeNamed_29 : decode b_Sh_edgeNamed 29 = .ok (.ireturn, 1) := by decide +kernel
theorem d_Sh_edgeNamed_10 : decode b_Sh_edgeNamed 10 = .ok (.aload_n 0, 1) := by decide +kernel
theorem d_Sh_edgeNamed_11 : decode b_Sh_edgeNamed 11 = .ok (.getfield 15, 3) := by decide +kernel
theorem d_Sh_edgeNamed_14 : decode b_Sh_edgeNamed 14 = .ok (.iload_n 2, 1) := by decide +kernel
theorem d_Sh_edgeNamed_15 : decode b_Sh_edgeNamed 15 = .ok (.iaload, 1) := by decide +kernel
theorem d_Sh_edgeNamed_16 : decode b_Sh_edgeNamed 16 = .ok (.iload_n 1, 1) := by decide +kernel
theorem d_Sh_edgeNamed_17 : decode b_Sh_edgeNamed 17 = .ok (.if_icmp .ne 5, 3) := by decide +kernel
theorem d_Sh_edgeNamed_22 : decode b_Sh_edgeNamed 22 = .ok (.iinc 2 1, 3) := by decide +kernel
theorem d_Sh_edgeNamed_25 : decode b_Sh_edgeNamed 25 = .ok (.goto (-23), 3) := by decide +kernel
theorem d_Sh_edgeNamed_20 : decode b_Sh_edgeNamed 20 = .ok (.iload_n 2, 1) := by decide +kernel
theorem d_Sh_edgeNamed_21 : decode b_Sh_edgeNamed 21 = .ok (.ireturn, 1) := by decide +kernel
theorem d_Sh_edgeNamed_0 : decode b_Sh_edgeNamed 0 = .ok (.iconst 0, 1) := by decide +kernel
theorem d_Sh_edgeNamed_1 : decode b_Sh_edgeNamed 1 = .ok (.istore_n 2, 1) := by decide +kernel
theorem d_Mo_canMeet_80 : decode b_Mo_canMeet 80 = .ok (.iconst 1, 1) := by decide +kernel
theorem d_Mo_canMeet_81 : decode b_Mo_canMeet 81 = .ok (.goto 4, 3) := by decide +kernel
theorem d_Mo_canMeet_85 : decode b_Mo_canMeet 85 = .ok (.ireturn, 1) := by decide +kernel
theorem d_Mo_canMeet_55 : decode b_Mo_canMeet 55 = .ok (.iadd, 1) := by decide +kernel
theorem d_Mo_canMeet_56 : decode b_Mo_canMeet 56 = .ok (.iaload, 1) := by decide +kernel
theorem d_Mo_canMeet_57 : decode b_Mo_canMeet 57 = .ok (.istore 7, 2) := by decide +kernel
theorem d_Mo_canMeet_59 : decode b_Mo_canMeet 59 = .ok (.iload 6, 2) := by decide +kernel
theorem d_Mo_canMeet_61 : decode b_Mo_canMeet 61 = .ok (.iload 7, 2) := by decide +kernel
theorem d_Mo_canMeet_63 : decode b_Mo_canMeet 63 = .ok (.if_icmp .eq 17, 3) := by decide +kernel
theorem d_Mo_canMeet_66 : decode b_Mo_canMeet 66 = .ok (.aload_n 1, 1) := by decide +kernel
theorem d_Mo_canMeet_67 : decode b_Mo_canMeet 67 = .ok (.iload_n 2, 1) := by decide +kernel
theorem d_Mo_canMeet_68 : decode b_Mo_canMeet 68 = .ok (.invokevirtual 103, 3) := by decide +kernel
theorem d_Mo_canMeet_71 : decode b_Mo_canMeet 71 = .ok (.aload_n 1, 1) := by decide +kernel
theorem d_Mo_canMeet_72 : decode b_Mo_canMeet 72 = .ok (.iload 4, 2) := by decide +kernel
theorem d_Mo_canMeet_74 : decode b_Mo_canMeet 74 = .ok (.invokevirtual 103, 3) := by decide +kernel
theorem d_Mo_canMeet_77 : decode b_Mo_canMeet 77 = .ok (.if_icmp .eq 7, 3) := by decide +kernel
theorem d_Mo_canMeet_84 : decode b_Mo_canMeet 84 = .ok (.iconst 0, 1) := by decide +kernel
theorem d_Mo_canMeet_33 : decode b_Mo_canMeet 33 = .ok (.iadd, 1) := by decide +kernel
theorem d_Mo_canMeet_34 : decode b_Mo_canMeet 34 = .ok (.iaload, 1) := by decide +kernel
theorem d_Mo_canMeet_35 : decode b_Mo_canMeet 35 = .ok (.istore 6, 2) := by decide +kernel
theorem d_Mo_canMeet_37 : decode b_Mo_canMeet 37 = .ok (.aload_n 1, 1) := by decide +kernel
theorem d_Mo_canMeet_38 : decode b_Mo_canMeet 38 = .ok (.getfield 100, 3) := by decide +kernel
theorem d_Mo_canMeet_41 : decode b_Mo_canMeet 41 = .ok (.iconst 2, 1) := by decide +kernel
theorem d_Mo_canMeet_42 : decode b_Mo_canMeet 42 = .ok (.iload 4, 2) := by decide +kernel
theorem d_Mo_canMeet_44 : decode b_Mo_canMeet 44 = .ok (.imul, 1) := by decide +kernel
theorem d_Mo_canMeet_45 : decode b_Mo_canMeet 45 = .ok (.iload 5, 2) := by decide +kernel
theorem d_Mo_canMeet_47 : decode b_Mo_canMeet 47 = .ok (.ifCond .eq 7, 3) := by decide +kernel
theorem d_Mo_canMeet_54 : decode b_Mo_canMeet 54 = .ok (.iconst 0, 1) := by decide +kernel
theorem d_Mo_canMeet_50 : decode b_Mo_canMeet 50 = .ok (.iconst 1, 1) := by decide +kernel
theorem d_Mo_canMeet_51 : decode b_Mo_canMeet 51 = .ok (.goto 4, 3) := by decide +kernel
theorem d_Mo_canMeet_0 : decode b_Mo_canMeet 0 = .ok (.iload_n 2, 1) := by decide +kernel
theorem d_Mo_canMeet_1 : decode b_Mo_canMeet 1 = .ok (.ifCond .lt 14, 3) := by decide +kernel
theorem d_Mo_canMeet_15 : decode b_Mo_canMeet 15 = .ok (.iconst 0, 1) := by decide +kernel
theorem d_Mo_canMeet_16 : decode b_Mo_canMeet 16 = .ok (.ireturn, 1) := by decide +kernel
theorem d_Mo_canMeet_4 : decode b_Mo_canMeet 4 = .ok (.iload 4, 2) := by decide +kernel
theorem d_Mo_canMeet_6 : decode b_Mo_canMeet 6 = .ok (.ifCond .lt 9, 3) := by decide +kernel
theorem d_Mo_canMeet_9 : decode b_Mo_canMeet 9 = .ok (.iload_n 2, 1) := by decide +kernel
theorem d_Mo_canMeet_10 : decode b_Mo_canMeet 10 = .ok (.iload 4, 2) := by decide +kernel
theorem d_Mo_canMeet_12 : decode b_Mo_canMeet 12 = .ok (.if_icmp .ne 5, 3) := by decide +kernel
theorem d_Mo_canMeet_17 : decode b_Mo_canMeet 17 = .ok (.aload_n 1, 1) := by decide +kernel
theorem d_Mo_canMeet_18 : decode b_Mo_canMeet 18 = .ok (.getfield 100, 3) := by decide +kernel
theorem d_Mo_canMeet_21 : decode b_Mo_canMeet 21 = .ok (.iconst 2, 1) := by decide +kernel
theorem d_Mo_canMeet_22 : decode b_Mo_canMeet 22 = .ok (.iload_n 2, 1) := by decide +kernel
theorem d_Mo_canMeet_23 : decode b_Mo_canMeet 23 = .ok (.imul, 1) := by decide +kernel
theorem d_Mo_canMeet_24 : decode b_Mo_canMeet 24 = .ok (.iload_n 3, 1) := by decide +kernel
theorem d_Mo_canMeet_25 : decode b_Mo_canMeet 25 = .ok (.ifCond .eq 7, 3) := by decide +kernel
theorem d_Mo_canMeet_32 : decode b_Mo_canMeet 32 = .ok (.iconst 0, 1) := by decide +kernel
theorem d_Mo_canMeet_28 : decode b_Mo_canMeet 28 = .ok (.iconst 1, 1) := by decide +kernel
theorem d_Mo_canMeet_29 : decode b_Mo_canMeet 29 = .ok (.goto 4, 3) := by decide +kernel
theorem d_Di_turnPlaces_7 : decode b_Di_turnPlaces 7 = .ok (.iload_n 3, 1) := by decide +kernel
theorem d_Di_turnPlaces_8 : decode b_Di_turnPlaces 8 = .ok (.iload_n 2, 1) := by decide +kernel
theorem d_Di_turnPlaces_9 : decode b_Di_turnPlaces 9 = .ok (.if_icmp .ge 94, 3) := by decide +kernel
theorem d_Di_turnPlaces_103 : decode b_Di_turnPlaces 103 = .ok (.return_, 1) := by decide +kernel
theorem d_Di_turnPlaces_12 : decode b_Di_turnPlaces 12 = .ok (.iload_n 3, 1) := by decide +kernel
theorem d_Di_turnPlaces_13 : decode b_Di_turnPlaces 13 = .ok (.iconst 4, 1) := by decide +kernel
theorem d_Di_turnPlaces_14 : decode b_Di_turnPlaces 14 = .ok (.if_icmp .ge 89, 3) := by decide +kernel
theorem d_Di_turnPlaces_17 : decode b_Di_turnPlaces 17 = .ok (.aload_n 0, 1) := by decide +kernel
theorem d_Di_turnPlaces_18 : decode b_Di_turnPlaces 18 = .ok (.getfield 15, 3) := by decide +kernel
theorem d_Di_turnPlaces_21 : decode b_Di_turnPlaces 21 = .ok (.iconst 4, 1) := by decide +kernel
theorem d_Di_turnPlaces_22 : decode b_Di_turnPlaces 22 = .ok (.iload_n 1, 1) := by decide +kernel
theorem d_Di_turnPlaces_23 : decode b_Di_turnPlaces 23 = .ok (.imul, 1) := by decide +kernel
theorem d_Di_turnPlaces_24 : decode b_Di_turnPlaces 24 = .ok (.iaload, 1) := by decide +kernel
theorem d_Di_turnPlaces_25 : decode b_Di_turnPlaces 25 = .ok (.istore 4, 2) := by decide +kernel
theorem d_Di_turnPlaces_27 : decode b_Di_turnPlaces 27 = .ok (.aload_n 0, 1) := by decide +kernel
theorem d_Di_turnPlaces_28 : decode b_Di_turnPlaces 28 = .ok (.getfield 15, 3) := by decide +kernel
theorem d_Di_turnPlaces_31 : decode b_Di_turnPlaces 31 = .ok (.iconst 4, 1) := by decide +kernel
theorem d_Di_turnPlaces_32 : decode b_Di_turnPlaces 32 = .ok (.iload_n 1, 1) := by decide +kernel
theorem d_Di_turnPlaces_33 : decode b_Di_turnPlaces 33 = .ok (.imul, 1) := by decide +kernel
theorem d_Di_turnPlaces_34 : decode b_Di_turnPlaces 34 = .ok (.aload_n 0, 1) := by decide +kernel
theorem d_Di_turnPlaces_35 : decode b_Di_turnPlaces 35 = .ok (.getfield 15, 3) := by decide +kernel
theorem d_Di_turnPlaces_38 : decode b_Di_turnPlaces 38 = .ok (.iconst 4, 1) := by decide +kernel
theorem d_Di_turnPlaces_39 : decode b_Di_turnPlaces 39 = .ok (.iload_n 1, 1) := by decide +kernel
theorem d_Di_turnPlaces_40 : decode b_Di_turnPlaces 40 = .ok (.imul, 1) := by decide +kernel
theorem d_Di_turnPlaces_41 : decode b_Di_turnPlaces 41 = .ok (.iconst 1, 1) := by decide +kernel
theorem d_Di_turnPlaces_42 : decode b_Di_turnPlaces 42 = .ok (.iadd, 1) := by decide +kernel
theorem d_Di_turnPlaces_43 : decode b_Di_turnPlaces 43 = .ok (.iaload, 1) := by decide +kernel
theorem d_Di_turnPlaces_44 : decode b_Di_turnPlaces 44 = .ok (.iastore, 1) := by decide +kernel
theorem d_Di_turnPlaces_45 : decode b_Di_turnPlaces 45 = .ok (.aload_n 0, 1) := by decide +kernel
theorem d_Di_turnPlaces_46 : decode b_Di_turnPlaces 46 = .ok (.getfield 15, 3) := by decide +kernel
theorem d_Di_turnPlaces_49 : decode b_Di_turnPlaces 49 = .ok (.iconst 4, 1) := by decide +kernel
theorem d_Di_turnPlaces_50 : decode b_Di_turnPlaces 50 = .ok (.iload_n 1, 1) := by decide +kernel
theorem d_Di_turnPlaces_51 : decode b_Di_turnPlaces 51 = .ok (.imul, 1) := by decide +kernel
theorem d_Di_turnPlaces_52 : decode b_Di_turnPlaces 52 = .ok (.iconst 1, 1) := by decide +kernel
theorem d_Di_turnPlaces_53 : decode b_Di_turnPlaces 53 = .ok (.iadd, 1) := by decide +kernel
theorem d_Di_turnPlaces_54 : decode b_Di_turnPlaces 54 = .ok (.aload_n 0, 1) := by decide +kernel
theorem d_Di_turnPlaces_55 : decode b_Di_turnPlaces 55 = .ok (.getfield 15, 3) := by decide +kernel
