theorem d_Sh_sortPlaces_52 : decode b_Sh_sortPlaces 52 = .ok (.getfield 9, 3) := by decide +kernel
theorem d_Sh_sortPlaces_55 : decode b_Sh_sortPlaces 55 = .ok (.iload 4, 2) := by decide +kernel
theorem d_Sh_sortPlaces_57 : decode b_Sh_sortPlaces 57 = .ok (.iconst 1, 1) := by decide +kernel
theorem d_Sh_sortPlaces_58 : decode b_Sh_sortPlaces 58 = .ok (.isub, 1) := by decide +kernel
theorem d_Sh_sortPlaces_59 : decode b_Sh_sortPlaces 59 = .ok (.iaload, 1) := by decide +kernel
theorem d_Sh_sortPlaces_60 : decode b_Sh_sortPlaces 60 = .ok (.iastore, 1) := by decide +kernel
theorem d_Sh_sortPlaces_61 : decode b_Sh_sortPlaces 61 = .ok (.iinc 4 (-1), 3) := by decide +kernel
theorem d_Sh_sortPlaces_64 : decode b_Sh_sortPlaces 64 = .ok (.goto (-37), 3) := by decide +kernel
theorem d_Sh_sortPlaces_67 : decode b_Sh_sortPlaces 67 = .ok (.aload_n 0, 1) := by decide +kernel
theorem d_Sh_sortPlaces_68 : decode b_Sh_sortPlaces 68 = .ok (.getfield 9, 3) := by decide +kernel
theorem d_Sh_sortPlaces_71 : decode b_Sh_sortPlaces 71 = .ok (.iload 4, 2) := by decide +kernel
theorem d_Sh_sortPlaces_73 : decode b_Sh_sortPlaces 73 = .ok (.iload_n 3, 1) := by decide +kernel
theorem d_Sh_sortPlaces_74 : decode b_Sh_sortPlaces 74 = .ok (.iastore, 1) := by decide +kernel
theorem d_Sh_sortPlaces_75 : decode b_Sh_sortPlaces 75 = .ok (.iinc 2 1, 3) := by decide +kernel
theorem d_Sh_sortPlaces_78 : decode b_Sh_sortPlaces 78 = .ok (.goto (-76), 3) := by decide +kernel
theorem d_Sh_sortPlaces_81 : decode b_Sh_sortPlaces 81 = .ok (.return_, 1) := by decide +kernel
theorem d_Ss_init_0 : decode b_Ss_init 0 = .ok (.aload_n 0, 1) := by decide +kernel
theorem d_Ss_init_1 : decode b_Ss_init 1 = .ok (.invokespecial 3, 3) := by decide +kernel
theorem d_Ss_init_4 : decode b_Ss_init 4 = .ok (.aload_n 0, 1) := by decide +kernel
theorem d_Ss_init_5 : decode b_Ss_init 5 = .ok (.bipush 40, 2) := by decide +kernel
theorem d_Ss_init_7 : decode b_Ss_init 7 = .ok (.newarray .int, 2) := by decide +kernel
theorem d_Ss_init_9 : decode b_Ss_init 9 = .ok (.putfield 9, 3) := by decide +kernel
theorem d_Ss_init_12 : decode b_Ss_init 12 = .ok (.aload_n 0, 1) := by decide +kernel
theorem d_Ss_init_13 : decode b_Ss_init 13 = .ok (.sipush 630, 3) := by decide +kernel
theorem d_Ss_init_16 : decode b_Ss_init 16 = .ok (.newarray .int, 2) := by decide +kernel
theorem d_Ss_init_18 : decode b_Ss_init 18 = .ok (.putfield 15, 3) := by decide +kernel
theorem d_Ss_init_21 : decode b_Ss_init 21 = .ok (.return_, 1) := by decide +kernel
theorem d_Ss_bracket_0 : decode b_Ss_bracket 0 = .ok (.aload_n 3, 1) := by decide +kernel
theorem d_Ss_bracket_1 : decode b_Ss_bracket 1 = .ok (.invokevirtual 18, 3) := by decide +kernel
theorem d_Ss_bracket_4 : decode b_Ss_bracket 4 = .ok (.aload_n 1, 1) := by decide +kernel
theorem d_Ss_bracket_5 : decode b_Ss_bracket 5 = .ok (.getfield 23, 3) := by decide +kernel
theorem d_Ss_bracket_8 : decode b_Ss_bracket 8 = .ok (.ifCond .ne 17, 3) := by decide +kernel
theorem d_Ss_bracket_11 : decode b_Ss_bracket 11 = .ok (.aload_n 1, 1) := by decide +kernel
theorem d_Ss_bracket_12 : decode b_Ss_bracket 12 = .ok (.getfield 29, 3) := by decide +kernel
theorem d_Ss_bracket_15 : decode b_Ss_bracket 15 = .ok (.ifCond .ne 10, 3) := by decide +kernel
theorem d_Ss_bracket_18 : decode b_Ss_bracket 18 = .ok (.aload_n 3, 1) := by decide +kernel
theorem d_Ss_bracket_19 : decode b_Ss_bracket 19 = .ok (.iconst 0, 1) := by decide +kernel
theorem d_Ss_bracket_20 : decode b_Ss_bracket 20 = .ok (.lconst 1, 1) := by decide +kernel
theorem d_Ss_bracket_21 : decode b_Ss_bracket 21 = .ok (.invokevirtual 32, 3) := by decide +kernel
theorem d_Ss_bracket_24 : decode b_Ss_bracket 24 = .ok (.return_, 1) := by decide +kernel
theorem d_Ss_bracket_25 : decode b_Ss_bracket 25 = .ok (.aload_n 0, 1) := by decide +kernel
theorem d_Ss_bracket_26 : decode b_Ss_bracket 26 = .ok (.aload_n 1, 1) := by decide +kernel
theorem d_Ss_bracket_27 : decode b_Ss_bracket 27 = .ok (.aload_n 2, 1) := by decide +kernel
theorem d_Ss_bracket_28 : decode b_Ss_bracket 28 = .ok (.invokevirtual 36, 3) := by decide +kernel
theorem d_Ss_bracket_31 : decode b_Ss_bracket 31 = .ok (.aload_n 0, 1) := by decide +kernel
theorem d_Ss_bracket_32 : decode b_Ss_bracket 32 = .ok (.invokevirtual 40, 3) := by decide +kernel
theorem d_Ss_bracket_35 : decode b_Ss_bracket 35 = .ok (.istore 4, 2) := by decide +kernel
theorem d_Ss_bracket_37 : decode b_Ss_bracket 37 = .ok (.aload_n 0, 1) := by decide +kernel
theorem d_Ss_bracket_38 : decode b_Ss_bracket 38 = .ok (.getfield 44, 3) := by decide +kernel
theorem d_Ss_bracket_41 : decode b_Ss_bracket 41 = .ok (.istore 5, 2) := by decide +kernel
theorem d_Ss_bracket_43 : decode b_Ss_bracket 43 = .ok (.iload 4, 2) := by decide +kernel
theorem d_Ss_bracket_45 : decode b_Ss_bracket 45 = .ok (.istore 6, 2) := by decide +kernel
theorem d_Ss_bracket_47 : decode b_Ss_bracket 47 = .ok (.iload 6, 2) := by decide +kernel
theorem d_Ss_bracket_49 : decode b_Ss_bracket 49 = .ok (.iconst 1, 1) := by decide +kernel
theorem d_Ss_bracket_50 : decode b_Ss_bracket 50 = .ok (.if_icmp .lt 70, 3) := by decide +kernel
theorem d_Ss_bracket_53 : decode b_Ss_bracket 53 = .ok (.iload 6, 2) := by decide +kernel
theorem d_Ss_bracket_55 : decode b_Ss_bracket 55 = .ok (.iload 4, 2) := by decide +kernel
theorem d_Ss_bracket_57 : decode b_Ss_bracket 57 = .ok (.if_icmp .ge 12, 3) := by decide +kernel
theorem d_Ss_bracket_60 : decode b_Ss_bracket 60 = .ok (.aload_n 3, 1) := by decide +kernel
theorem d_Ss_bracket_61 : decode b_Ss_bracket 61 = .ok (.iload 5, 2) := by decide +kernel
theorem d_Ss_bracket_63 : decode b_Ss_bracket 63 = .ok (.invokevirtual 47, 3) := by decide +kernel
theorem d_Ss_bracket_66 : decode b_Ss_bracket 66 = .ok (.iinc 5 2, 3) := by decide +kernel
theorem d_Ss_bracket_69 : decode b_Ss_bracket 69 = .ok (.aload_n 0, 1) := by decide +kernel
theorem d_Ss_bracket_70 : decode b_Ss_bracket 70 = .ok (.getfield 44, 3) := by decide +kernel
theorem d_Ss_bracket_73 : decode b_Ss_bracket 73 = .ok (.ineg, 1) := by decide +kernel
theorem d_Ss_bracket_74 : decode b_Ss_bracket 74 = .ok (.istore 7, 2) := by decide +kernel
theorem d_Ss_bracket_76 : decode b_Ss_bracket 76 = .ok (.iload 7, 2) := by decide +kernel
theorem d_Ss_bracket_78 : decode b_Ss_bracket 78 = .ok (.aload_n 0, 1) := by decide +kernel
theorem d_Ss_bracket_79 : decode b_Ss_bracket 79 = .ok (.getfield 44, 3) := by decide +kernel
theorem d_Ss_bracket_82 : decode b_Ss_bracket 82 = .ok (.if_icmp .gt 32, 3) := by decide +kernel
theorem d_Ss_bracket_85 : decode b_Ss_bracket 85 = .ok (.aload_n 3, 1) := by decide +kernel
theorem d_Ss_bracket_86 : decode b_Ss_bracket 86 = .ok (.iload 7, 2) := by decide +kernel
theorem d_Ss_bracket_88 : decode b_Ss_bracket 88 = .ok (.aload_n 0, 1) := by decide +kernel
theorem d_Ss_bracket_89 : decode b_Ss_bracket 89 = .ok (.getfield 15, 3) := by decide +kernel
theorem d_Ss_bracket_92 : decode b_Ss_bracket 92 = .ok (.iload 6, 2) := by decide +kernel
theorem d_Ss_bracket_94 : decode b_Ss_bracket 94 = .ok (.bipush 21, 2) := by decide +kernel
theorem d_Ss_bracket_96 : decode b_Ss_bracket 96 = .ok (.imul, 1) := by decide +kernel
theorem d_Ss_bracket_97 : decode b_Ss_bracket 97 = .ok (.iload 7, 2) := by decide +kernel
theorem d_Ss_bracket_99 : decode b_Ss_bracket 99 = .ok (.iadd, 1) := by decide +kernel
theorem d_Ss_bracket_100 : decode b_Ss_bracket 100 = .ok (.bipush 10, 2) := by decide +kernel
theorem d_Ss_bracket_102 : decode b_Ss_bracket 102 = .ok (.iadd, 1) := by decide +kernel
theorem d_Ss_bracket_103 : decode b_Ss_bracket 103 = .ok (.iaload, 1) := by decide +kernel
theorem d_Ss_bracket_104 : decode b_Ss_bracket 104 = .ok (.i2l, 1) := by decide +kernel
theorem d_Ss_bracket_105 : decode b_Ss_bracket 105 = .ok (.invokevirtual 32, 3) := by decide +kernel
theorem d_Ss_bracket_108 : decode b_Ss_bracket 108 = .ok (.iinc 7 2, 3) := by decide +kernel
theorem d_Ss_bracket_111 : decode b_Ss_bracket 111 = .ok (.goto (-35), 3) := by decide +kernel
theorem d_Ss_bracket_114 : decode b_Ss_bracket 114 = .ok (.iinc 6 (-1), 3) := by decide +kernel
theorem d_Ss_bracket_117 : decode b_Ss_bracket 117 = .ok (.goto (-70), 3) := by decide +kernel
theorem d_Ss_bracket_120 : decode b_Ss_bracket 120 = .ok (.return_, 1) := by decide +kernel
theorem d_Ss_countStates_0 : decode b_Ss_countStates 0 = .ok (.aload_n 0, 1) := by decide +kernel
theorem d_Ss_countStates_1 : decode b_Ss_countStates 1 = .ok (.aload_n 1, 1) := by decide +kernel
theorem d_Ss_countStates_2 : decode b_Ss_countStates 2 = .ok (.getfield 23, 3) := by decide +kernel
theorem d_Ss_countStates_5 : decode b_Ss_countStates 5 = .ok (.bipush 10, 2) := by decide +kernel
theorem d_Ss_countStates_7 : decode b_Ss_countStates 7 = .ok (.invokestatic 51, 3) := by decide +kernel
theorem d_Ss_countStates_10 : decode b_Ss_countStates 10 = .ok (.putfield 44, 3) := by decide +kernel
theorem d_Ss_countStates_13 : decode b_Ss_countStates 13 = .ok (.iconst 0, 1) := by decide +kernel
theorem d_Ss_countStates_14 : decode b_Ss_countStates 14 = .ok (.istore_n 3, 1) := by decide +kernel
theorem d_Ss_countStates_15 : decode b_Ss_countStates 15 = .ok (.iload_n 3, 1) := by decide +kernel
theorem d_Ss_countStates_16 : decode b_Ss_countStates 16 = .ok (.iconst 2, 1) := by decide +kernel
theorem d_Ss_countStates_17 : decode b_Ss_countStates 17 = .ok (.aload_n 0, 1) := by decide +kernel
theorem d_Ss_countStates_18 : decode b_Ss_countStates 18 = .ok (.getfield 44, 3) := by decide +kernel
theorem d_Ss_countStates_21 : decode b_Ss_countStates 21 = .ok (.imul, 1) := by decide +kernel
theorem d_Ss_countStates_22 : decode b_Ss_countStates 22 = .ok (.if_icmp .ge 43, 3) := by decide +kernel
theorem d_Ss_countStates_25 : decode b_Ss_countStates 25 = .ok (.aload_n 0, 1) := by decide +kernel
theorem d_Ss_countStates_26 : decode b_Ss_countStates 26 = .ok (.getfield 9, 3) := by decide +kernel
theorem d_Ss_countStates_29 : decode b_Ss_countStates 29 = .ok (.aload_n 2, 1) := by decide +kernel
theorem d_Ss_countStates_30 : decode b_Ss_countStates 30 = .ok (.getfield 57, 3) := by decide +kernel
theorem d_Ss_countStates_33 : decode b_Ss_countStates 33 = .ok (.iload_n 3, 1) := by decide +kernel
theorem d_Ss_countStates_34 : decode b_Ss_countStates 34 = .ok (.iaload, 1) := by decide +kernel
theorem d_Ss_countStates_35 : decode b_Ss_countStates 35 = .ok (.aload_n 2, 1) := by decide +kernel
theorem d_Ss_countStates_36 : decode b_Ss_countStates 36 = .ok (.getfield 62, 3) := by decide +kernel
theorem d_Ss_countStates_39 : decode b_Ss_countStates 39 = .ok (.iload_n 3, 1) := by decide +kernel
theorem d_Ss_countStates_40 : decode b_Ss_countStates 40 = .ok (.iaload, 1) := by decide +kernel
theorem d_Ss_countStates_41 : decode b_Ss_countStates 41 = .ok (.iastore, 1) := by decide +kernel
theorem d_Ss_countStates_42 : decode b_Ss_countStates 42 = .ok (.aload_n 0, 1) := by decide +kernel
theorem d_Ss_countStates_43 : decode b_Ss_countStates 43 = .ok (.getfield 9, 3) := by decide +kernel
theorem d_Ss_countStates_46 : decode b_Ss_countStates 46 = .ok (.aload_n 2, 1) := by decide +kernel
theorem d_Ss_countStates_47 : decode b_Ss_countStates 47 = .ok (.getfield 62, 3) := by decide +kernel
theorem d_Ss_countStates_50 : decode b_Ss_countStates 50 = .ok (.iload_n 3, 1) := by decide +kernel
theorem d_Ss_countStates_51 : decode b_Ss_countStates 51 = .ok (.iaload, 1) := by decide +kernel
theorem d_Ss_countStates_52 : decode b_Ss_countStates 52 = .ok (.aload_n 2, 1) := by decide +kernel
theorem d_Ss_countStates_53 : decode b_Ss_countStates 53 = .ok (.getfield 57, 3) := by decide +kernel
theorem d_Ss_countStates_56 : decode b_Ss_countStates 56 = .ok (.iload_n 3, 1) := by decide +kernel
theorem d_Ss_countStates_57 : decode b_Ss_countStates 57 = .ok (.iaload, 1) := by decide +kernel
theorem d_Ss_countStates_58 : decode b_Ss_countStates 58 = .ok (.iastore, 1) := by decide +kernel
theorem d_Ss_countStates_59 : decode b_Ss_countStates 59 = .ok (.iinc 3 1, 3) := by decide +kernel
theorem d_Ss_countStates_62 : decode b_Ss_countStates 62 = .ok (.goto (-47), 3) := by decide +kernel
theorem d_Ss_countStates_65 : decode b_Ss_countStates 65 = .ok (.aload_n 0, 1) := by decide +kernel
theorem d_Ss_countStates_66 : decode b_Ss_countStates 66 = .ok (.getfield 15, 3) := by decide +kernel
theorem d_Ss_countStates_69 : decode b_Ss_countStates 69 = .ok (.iconst 0, 1) := by decide +kernel
theorem d_Ss_countStates_70 : decode b_Ss_countStates 70 = .ok (.invokestatic 65, 3) := by decide +kernel
theorem d_Ss_countStates_73 : decode b_Ss_countStates 73 = .ok (.aload_n 0, 1) := by decide +kernel
theorem d_Ss_countStates_74 : decode b_Ss_countStates 74 = .ok (.iconst 0, 1) := by decide +kernel
theorem d_Ss_countStates_75 : decode b_Ss_countStates 75 = .ok (.iconst 0, 1) := by decide +kernel
theorem d_Ss_countStates_76 : decode b_Ss_countStates 76 = .ok (.aload_n 1, 1) := by decide +kernel
theorem d_Ss_countStates_77 : decode b_Ss_countStates 77 = .ok (.getfield 29, 3) := by decide +kernel
theorem d_Ss_countStates_80 : decode b_Ss_countStates 80 = .ok (.invokevirtual 71, 3) := by decide +kernel
theorem d_Ss_countStates_83 : decode b_Ss_countStates 83 = .ok (.return_, 1) := by decide +kernel
theorem d_Ss_mostCircles_0 : decode b_Ss_mostCircles 0 = .ok (.iconst 0, 1) := by decide +kernel
theorem d_Ss_mostCircles_1 : decode b_Ss_mostCircles 1 = .ok (.istore_n 1, 1) := by decide +kernel
theorem d_Ss_mostCircles_2 : decode b_Ss_mostCircles 2 = .ok (.iconst 0, 1) := by decide +kernel
theorem d_Ss_mostCircles_3 : decode b_Ss_mostCircles 3 = .ok (.istore_n 2, 1) := by decide +kernel
theorem d_Ss_mostCircles_4 : decode b_Ss_mostCircles 4 = .ok (.iload_n 2, 1) := by decide +kernel
theorem d_Ss_mostCircles_5 : decode b_Ss_mostCircles 5 = .ok (.aload_n 0, 1) := by decide +kernel
theorem d_Ss_mostCircles_6 : decode b_Ss_mostCircles 6 = .ok (.getfield 15, 3) := by decide +kernel
theorem d_Ss_mostCircles_9 : decode b_Ss_mostCircles 9 = .ok (.arraylength, 1) := by decide +kernel
theorem d_Ss_mostCircles_10 : decode b_Ss_mostCircles 10 = .ok (.if_icmp .ge 23, 3) := by decide +kernel
theorem d_Ss_mostCircles_13 : decode b_Ss_mostCircles 13 = .ok (.aload_n 0, 1) := by decide +kernel
theorem d_Ss_mostCircles_14 : decode b_Ss_mostCircles 14 = .ok (.getfield 15, 3) := by decide +kernel
theorem d_Ss_mostCircles_17 : decode b_Ss_mostCircles 17 = .ok (.iload_n 2, 1) := by decide +kernel
theorem d_Ss_mostCircles_18 : decode b_Ss_mostCircles 18 = .ok (.iaload, 1) := by decide +kernel
theorem d_Ss_mostCircles_19 : decode b_Ss_mostCircles 19 = .ok (.ifCond .eq 8, 3) := by decide +kernel
theorem d_Ss_mostCircles_22 : decode b_Ss_mostCircles 22 = .ok (.iload_n 2, 1) := by decide +kernel
theorem d_Ss_mostCircles_23 : decode b_Ss_mostCircles 23 = .ok (.bipush 21, 2) := by decide +kernel
theorem d_Ss_mostCircles_25 : decode b_Ss_mostCircles 25 = .ok (.idiv, 1) := by decide +kernel
theorem d_Ss_mostCircles_26 : decode b_Ss_mostCircles 26 = .ok (.istore_n 1, 1) := by decide +kernel
theorem d_Ss_mostCircles_27 : decode b_Ss_mostCircles 27 = .ok (.iinc 2 1, 3) := by decide +kernel
theorem d_Ss_mostCircles_30 : decode b_Ss_mostCircles 30 = .ok (.goto (-26), 3) := by decide +kernel
theorem d_Ss_mostCircles_33 : decode b_Ss_mostCircles 33 = .ok (.iload_n 1, 1) := by decide +kernel
theorem d_Ss_mostCircles_34 : decode b_Ss_mostCircles 34 = .ok (.ireturn, 1) := by decide +kernel
theorem d_Ss_split_0 : decode b_Ss_split 0 = .ok (.iload_n 1, 1) := by decide +kernel
theorem d_Ss_split_1 : decode b_Ss_split 1 = .ok (.aload_n 0, 1) := by decide +kernel
theorem d_Ss_split_2 : decode b_Ss_split 2 = .ok (.getfield 44, 3) := by decide +kernel
theorem d_Ss_split_5 : decode b_Ss_split 5 = .ok (.if_icmp .lt 28, 3) := by decide +kernel
theorem d_Ss_split_8 : decode b_Ss_split 8 = .ok (.iload_n 3, 1) := by decide +kernel
theorem d_Ss_split_9 : decode b_Ss_split 9 = .ok (.bipush 29, 2) := by decide +kernel
theorem d_Ss_split_11 : decode b_Ss_split 11 = .ok (.if_icmp .gt 21, 3) := by decide +kernel
theorem d_Ss_split_14 : decode b_Ss_split 14 = .ok (.aload_n 0, 1) := by decide +kernel
theorem d_Ss_split_15 : decode b_Ss_split 15 = .ok (.getfield 15, 3) := by decide +kernel
theorem d_Ss_split_18 : decode b_Ss_split 18 = .ok (.iload_n 3, 1) := by decide +kernel
theorem d_Ss_split_19 : decode b_Ss_split 19 = .ok (.bipush 21, 2) := by decide +kernel
theorem d_Ss_split_21 : decode b_Ss_split 21 = .ok (.imul, 1) := by decide +kernel
theorem d_Ss_split_22 : decode b_Ss_split 22 = .ok (.iload_n 2, 1) := by decide +kernel
theorem d_Ss_split_23 : decode b_Ss_split 23 = .ok (.iadd, 1) := by decide +kernel
theorem d_Ss_split_24 : decode b_Ss_split 24 = .ok (.bipush 10, 2) := by decide +kernel
theorem d_Ss_split_26 : decode b_Ss_split 26 = .ok (.iadd, 1) := by decide +kernel
theorem d_Ss_split_27 : decode b_Ss_split 27 = .ok (.dup2, 1) := by decide +kernel
theorem d_Ss_split_28 : decode b_Ss_split 28 = .ok (.iaload, 1) := by decide +kernel
theorem d_Ss_split_29 : decode b_Ss_split 29 = .ok (.iconst 1, 1) := by decide +kernel
theorem d_Ss_split_30 : decode b_Ss_split 30 = .ok (.iadd, 1) := by decide +kernel
theorem d_Ss_split_31 : decode b_Ss_split 31 = .ok (.iastore, 1) := by decide +kernel
theorem d_Ss_split_32 : decode b_Ss_split 32 = .ok (.return_, 1) := by decide +kernel
theorem d_Ss_split_33 : decode b_Ss_split 33 = .ok (.aload_n 0, 1) := by decide +kernel
theorem d_Ss_split_34 : decode b_Ss_split 34 = .ok (.iload_n 1, 1) := by decide +kernel
theorem d_Ss_split_35 : decode b_Ss_split 35 = .ok (.iconst 0, 1) := by decide +kernel
theorem d_Ss_split_36 : decode b_Ss_split 36 = .ok (.iload_n 2, 1) := by decide +kernel
theorem d_Ss_split_37 : decode b_Ss_split 37 = .ok (.iconst 1, 1) := by decide +kernel
theorem d_Ss_split_38 : decode b_Ss_split 38 = .ok (.iadd, 1) := by decide +kernel
theorem d_Ss_split_39 : decode b_Ss_split 39 = .ok (.iload_n 3, 1) := by decide +kernel
theorem d_Ss_split_40 : decode b_Ss_split 40 = .ok (.invokevirtual 75, 3) := by decide +kernel
theorem d_Ss_split_43 : decode b_Ss_split 43 = .ok (.aload_n 0, 1) := by decide +kernel
theorem d_Ss_split_44 : decode b_Ss_split 44 = .ok (.iload_n 1, 1) := by decide +kernel
theorem d_Ss_split_45 : decode b_Ss_split 45 = .ok (.iconst 1, 1) := by decide +kernel
theorem d_Ss_split_46 : decode b_Ss_split 46 = .ok (.iload_n 2, 1) := by decide +kernel
theorem d_Ss_split_47 : decode b_Ss_split 47 = .ok (.iconst 1, 1) := by decide +kernel
theorem d_Ss_split_48 : decode b_Ss_split 48 = .ok (.isub, 1) := by decide +kernel
theorem d_Ss_split_49 : decode b_Ss_split 49 = .ok (.iload_n 3, 1) := by decide +kernel
theorem d_Ss_split_50 : decode b_Ss_split 50 = .ok (.invokevirtual 75, 3) := by decide +kernel
theorem d_Ss_split_53 : decode b_Ss_split 53 = .ok (.return_, 1) := by decide +kernel
theorem d_Ss_splitAs_0 : decode b_Ss_splitAs 0 = .ok (.iconst 4, 1) := by decide +kernel
