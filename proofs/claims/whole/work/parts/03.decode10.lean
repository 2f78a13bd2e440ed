theorem d_Sh_pieceOfEdge_0 : decode b_Sh_pieceOfEdge 0 = .ok (.aload_n 0, 1) := by decide +kernel
theorem d_Sh_pieceOfEdge_1 : decode b_Sh_pieceOfEdge 1 = .ok (.getfield 33, 3) := by decide +kernel
theorem d_Sh_pieceOfEdge_4 : decode b_Sh_pieceOfEdge 4 = .ok (.aload_n 0, 1) := by decide +kernel
theorem d_Sh_pieceOfEdge_5 : decode b_Sh_pieceOfEdge 5 = .ok (.getfield 18, 3) := by decide +kernel
theorem d_Sh_pieceOfEdge_8 : decode b_Sh_pieceOfEdge 8 = .ok (.iload_n 1, 1) := by decide +kernel
theorem d_Sh_pieceOfEdge_9 : decode b_Sh_pieceOfEdge 9 = .ok (.iaload, 1) := by decide +kernel
theorem d_Sh_pieceOfEdge_10 : decode b_Sh_pieceOfEdge 10 = .ok (.iconst 2, 1) := by decide +kernel
theorem d_Sh_pieceOfEdge_11 : decode b_Sh_pieceOfEdge 11 = .ok (.ishr, 1) := by decide +kernel
theorem d_Sh_pieceOfEdge_12 : decode b_Sh_pieceOfEdge 12 = .ok (.iaload, 1) := by decide +kernel
theorem d_Sh_pieceOfEdge_13 : decode b_Sh_pieceOfEdge 13 = .ok (.ireturn, 1) := by decide +kernel
theorem d_Pa_putNumber_61 : decode b_Pa_putNumber 61 = .ok (.iload 6, 2) := by decide +kernel
theorem d_Pa_putNumber_63 : decode b_Pa_putNumber 63 = .ok (.ifCond .lt 23, 3) := by decide +kernel
theorem d_Pa_putNumber_86 : decode b_Pa_putNumber 86 = .ok (.return_, 1) := by decide +kernel
theorem d_Pa_putNumber_66 : decode b_Pa_putNumber 66 = .ok (.aload_n 0, 1) := by decide +kernel
theorem d_Pa_putNumber_67 : decode b_Pa_putNumber 67 = .ok (.bipush 48, 2) := by decide +kernel
theorem d_Pa_putNumber_69 : decode b_Pa_putNumber 69 = .ok (.aload_n 0, 1) := by decide +kernel
theorem d_Pa_putNumber_70 : decode b_Pa_putNumber 70 = .ok (.getfield 15, 3) := by decide +kernel
theorem d_Pa_putNumber_73 : decode b_Pa_putNumber 73 = .ok (.iload 6, 2) := by decide +kernel
theorem d_Pa_putNumber_75 : decode b_Pa_putNumber 75 = .ok (.iaload, 1) := by decide +kernel
theorem d_Pa_putNumber_76 : decode b_Pa_putNumber 76 = .ok (.iadd, 1) := by decide +kernel
theorem d_Pa_putNumber_77 : decode b_Pa_putNumber 77 = .ok (.invokevirtual 26, 3) := by decide +kernel
theorem d_Pa_putNumber_80 : decode b_Pa_putNumber 80 = .ok (.iinc 6 (-1), 3) := by decide +kernel
theorem d_Pa_putNumber_83 : decode b_Pa_putNumber 83 = .ok (.goto (-22), 3) := by decide +kernel
theorem d_Pa_putNumber_55 : decode b_Pa_putNumber 55 = .ok (.iload 5, 2) := by decide +kernel
theorem d_Pa_putNumber_57 : decode b_Pa_putNumber 57 = .ok (.iconst 1, 1) := by decide +kernel
theorem d_Pa_putNumber_58 : decode b_Pa_putNumber 58 = .ok (.isub, 1) := by decide +kernel
theorem d_Pa_putNumber_59 : decode b_Pa_putNumber 59 = .ok (.istore 6, 2) := by decide +kernel
theorem d_Pa_putNumber_17 : decode b_Pa_putNumber 17 = .ok (.aload_n 0, 1) := by decide +kernel
theorem d_Pa_putNumber_18 : decode b_Pa_putNumber 18 = .ok (.getfield 15, 3) := by decide +kernel
theorem d_Pa_putNumber_21 : decode b_Pa_putNumber 21 = .ok (.iload 5, 2) := by decide +kernel
theorem d_Pa_putNumber_23 : decode b_Pa_putNumber 23 = .ok (.lload_n 3, 1) := by decide +kernel
theorem d_Pa_putNumber_24 : decode b_Pa_putNumber 24 = .ok (.ldc2_w 49, 3) := by decide +kernel
theorem d_Pa_putNumber_27 : decode b_Pa_putNumber 27 = .ok (.lrem, 1) := by decide +kernel
theorem d_Pa_putNumber_28 : decode b_Pa_putNumber 28 = .ok (.invokestatic 51, 3) := by decide +kernel
theorem d_Di_upperIn_0 : decode b_Di_upperIn 0 = .ok (.iconst 4, 1) := by decide +kernel
theorem d_Di_upperIn_1 : decode b_Di_upperIn 1 = .ok (.iload_n 1, 1) := by decide +kernel
theorem d_Di_upperIn_2 : decode b_Di_upperIn 2 = .ok (.imul, 1) := by decide +kernel
theorem d_Di_upperIn_3 : decode b_Di_upperIn 3 = .ok (.aload_n 0, 1) := by decide +kernel
theorem d_Di_upperIn_4 : decode b_Di_upperIn 4 = .ok (.getfield 9, 3) := by decide +kernel
theorem d_Di_upperIn_7 : decode b_Di_upperIn 7 = .ok (.iload_n 1, 1) := by decide +kernel
theorem d_Di_upperIn_8 : decode b_Di_upperIn 8 = .ok (.iaload, 1) := by decide +kernel
theorem d_Di_upperIn_9 : decode b_Di_upperIn 9 = .ok (.ifCond .le 7, 3) := by decide +kernel
theorem d_Di_upperIn_16 : decode b_Di_upperIn 16 = .ok (.iconst 1, 1) := by decide +kernel
theorem d_Di_upperIn_17 : decode b_Di_upperIn 17 = .ok (.iadd, 1) := by decide +kernel
theorem d_Di_upperIn_18 : decode b_Di_upperIn 18 = .ok (.ireturn, 1) := by decide +kernel
theorem d_Di_upperIn_12 : decode b_Di_upperIn 12 = .ok (.iconst 3, 1) := by decide +kernel
theorem d_Di_upperIn_13 : decode b_Di_upperIn 13 = .ok (.goto 4, 3) := by decide +kernel
theorem d_Di_rename_34 : decode b_Di_rename 34 = .ok (.iinc 3 1, 3) := by decide +kernel
theorem d_Di_rename_37 : decode b_Di_rename 37 = .ok (.goto (-30), 3) := by decide +kernel
theorem d_Di_rename_7 : decode b_Di_rename 7 = .ok (.iload_n 3, 1) := by decide +kernel
theorem d_Di_rename_8 : decode b_Di_rename 8 = .ok (.iconst 4, 1) := by decide +kernel
theorem d_Di_rename_9 : decode b_Di_rename 9 = .ok (.aload_n 0, 1) := by decide +kernel
theorem d_Di_rename_10 : decode b_Di_rename 10 = .ok (.getfield 36, 3) := by decide +kernel
theorem d_Di_rename_13 : decode b_Di_rename 13 = .ok (.imul, 1) := by decide +kernel
theorem d_Di_rename_14 : decode b_Di_rename 14 = .ok (.if_icmp .ge 26, 3) := by decide +kernel
theorem d_Di_rename_40 : decode b_Di_rename 40 = .ok (.return_, 1) := by decide +kernel
theorem d_Di_rename_17 : decode b_Di_rename 17 = .ok (.aload_n 0, 1) := by decide +kernel
theorem d_Di_rename_18 : decode b_Di_rename 18 = .ok (.getfield 15, 3) := by decide +kernel
theorem d_Di_rename_21 : decode b_Di_rename 21 = .ok (.iload_n 3, 1) := by decide +kernel
theorem d_Di_rename_22 : decode b_Di_rename 22 = .ok (.iaload, 1) := by decide +kernel
theorem d_Di_rename_23 : decode b_Di_rename 23 = .ok (.iload_n 1, 1) := by decide +kernel
theorem d_Di_rename_24 : decode b_Di_rename 24 = .ok (.if_icmp .ne 10, 3) := by decide +kernel
theorem d_Di_rename_27 : decode b_Di_rename 27 = .ok (.aload_n 0, 1) := by decide +kernel
theorem d_Di_rename_28 : decode b_Di_rename 28 = .ok (.getfield 15, 3) := by decide +kernel
theorem d_Di_rename_31 : decode b_Di_rename 31 = .ok (.iload_n 3, 1) := by decide +kernel
theorem d_Di_rename_32 : decode b_Di_rename 32 = .ok (.iload_n 2, 1) := by decide +kernel
theorem d_Di_rename_33 : decode b_Di_rename 33 = .ok (.iastore, 1) := by decide +kernel
theorem d_Di_rename_0 : decode b_Di_rename 0 = .ok (.aload_n 0, 1) := by decide +kernel
theorem d_Di_rename_1 : decode b_Di_rename 1 = .ok (.iconst 0, 1) := by decide +kernel
theorem d_Di_rename_2 : decode b_Di_rename 2 = .ok (.putfield 25, 3) := by decide +kernel
theorem d_Di_rename_5 : decode b_Di_rename 5 = .ok (.iconst 0, 1) := by decide +kernel
theorem d_Di_rename_6 : decode b_Di_rename 6 = .ok (.istore_n 3, 1) := by decide +kernel
theorem d_Sh_isUpper_0 : decode b_Sh_isUpper 0 = .ok (.iload_n 0, 1) := by decide +kernel
theorem d_Sh_isUpper_1 : decode b_Sh_isUpper 1 = .ok (.iconst 1, 1) := by decide +kernel
theorem d_Sh_isUpper_2 : decode b_Sh_isUpper 2 = .ok (.iand, 1) := by decide +kernel
theorem d_Sh_isUpper_3 : decode b_Sh_isUpper 3 = .ok (.iconst 1, 1) := by decide +kernel
theorem d_Sh_isUpper_4 : decode b_Sh_isUpper 4 = .ok (.if_icmp .ne 7, 3) := by decide +kernel
theorem d_Sh_isUpper_11 : decode b_Sh_isUpper 11 = .ok (.iconst 0, 1) := by decide +kernel
theorem d_Sh_isUpper_12 : decode b_Sh_isUpper 12 = .ok (.ireturn, 1) := by decide +kernel
theorem d_Sh_isUpper_7 : decode b_Sh_isUpper 7 = .ok (.iconst 1, 1) := by decide +kernel
theorem d_Sh_isUpper_8 : decode b_Sh_isUpper 8 = .ok (.goto 4, 3) := by decide +kernel
theorem d_Di_copy_0 : decode b_Di_copy 0 = .ok (.aload_n 0, 1) := by decide +kernel
theorem d_Di_copy_1 : decode b_Di_copy 1 = .ok (.aload_n 1, 1) := by decide +kernel
theorem d_Di_copy_2 : decode b_Di_copy 2 = .ok (.getfield 36, 3) := by decide +kernel
theorem d_Di_copy_5 : decode b_Di_copy 5 = .ok (.putfield 36, 3) := by decide +kernel
theorem d_Di_copy_8 : decode b_Di_copy 8 = .ok (.aload_n 0, 1) := by decide +kernel
theorem d_Di_copy_9 : decode b_Di_copy 9 = .ok (.aload_n 1, 1) := by decide +kernel
theorem d_Di_copy_10 : decode b_Di_copy 10 = .ok (.getfield 61, 3) := by decide +kernel
theorem d_Di_copy_13 : decode b_Di_copy 13 = .ok (.putfield 61, 3) := by decide +kernel
theorem d_Di_copy_16 : decode b_Di_copy 16 = .ok (.aload_n 0, 1) := by decide +kernel
theorem d_Di_copy_17 : decode b_Di_copy 17 = .ok (.iconst 0, 1) := by decide +kernel
theorem d_Di_copy_18 : decode b_Di_copy 18 = .ok (.putfield 25, 3) := by decide +kernel
theorem d_Di_copy_21 : decode b_Di_copy 21 = .ok (.aload_n 1, 1) := by decide +kernel
theorem d_Di_copy_22 : decode b_Di_copy 22 = .ok (.getfield 9, 3) := by decide +kernel
theorem d_Di_copy_25 : decode b_Di_copy 25 = .ok (.iconst 0, 1) := by decide +kernel
theorem d_Di_copy_26 : decode b_Di_copy 26 = .ok (.aload_n 0, 1) := by decide +kernel
theorem d_Di_copy_27 : decode b_Di_copy 27 = .ok (.getfield 9, 3) := by decide +kernel
theorem d_Di_copy_30 : decode b_Di_copy 30 = .ok (.iconst 0, 1) := by decide +kernel
theorem d_Di_copy_31 : decode b_Di_copy 31 = .ok (.aload_n 0, 1) := by decide +kernel
theorem d_Di_copy_32 : decode b_Di_copy 32 = .ok (.getfield 36, 3) := by decide +kernel
theorem d_Di_copy_35 : decode b_Di_copy 35 = .ok (.invokestatic 64, 3) := by decide +kernel
theorem d_Di_copy_38 : decode b_Di_copy 38 = .ok (.aload_n 1, 1) := by decide +kernel
theorem d_Di_copy_39 : decode b_Di_copy 39 = .ok (.getfield 15, 3) := by decide +kernel
theorem d_Di_copy_42 : decode b_Di_copy 42 = .ok (.iconst 0, 1) := by decide +kernel
theorem d_Di_copy_43 : decode b_Di_copy 43 = .ok (.aload_n 0, 1) := by decide +kernel
theorem d_Di_copy_44 : decode b_Di_copy 44 = .ok (.getfield 15, 3) := by decide +kernel
theorem d_Di_copy_47 : decode b_Di_copy 47 = .ok (.iconst 0, 1) := by decide +kernel
theorem d_Di_copy_48 : decode b_Di_copy 48 = .ok (.iconst 4, 1) := by decide +kernel
theorem d_Di_copy_49 : decode b_Di_copy 49 = .ok (.aload_n 0, 1) := by decide +kernel
theorem d_Di_copy_50 : decode b_Di_copy 50 = .ok (.getfield 36, 3) := by decide +kernel
theorem d_Di_copy_53 : decode b_Di_copy 53 = .ok (.imul, 1) := by decide +kernel
theorem d_Di_copy_54 : decode b_Di_copy 54 = .ok (.invokestatic 64, 3) := by decide +kernel
theorem d_Di_copy_57 : decode b_Di_copy 57 = .ok (.return_, 1) := by decide +kernel
theorem d_Di_moveToEnd_52 : decode b_Di_moveToEnd 52 = .ok (.iload 4, 2) := by decide +kernel
theorem d_Di_moveToEnd_54 : decode b_Di_moveToEnd 54 = .ok (.iconst 4, 1) := by decide +kernel
theorem d_Di_moveToEnd_55 : decode b_Di_moveToEnd 55 = .ok (.iload_n 2, 1) := by decide +kernel
theorem d_Di_moveToEnd_56 : decode b_Di_moveToEnd 56 = .ok (.imul, 1) := by decide +kernel
theorem d_Di_moveToEnd_57 : decode b_Di_moveToEnd 57 = .ok (.iconst 4, 1) := by decide +kernel
theorem d_Di_moveToEnd_58 : decode b_Di_moveToEnd 58 = .ok (.iadd, 1) := by decide +kernel
theorem d_Di_moveToEnd_59 : decode b_Di_moveToEnd 59 = .ok (.if_icmp .ge 45, 3) := by decide +kernel
theorem d_Di_moveToEnd_104 : decode b_Di_moveToEnd 104 = .ok (.iinc 2 1, 3) := by decide +kernel
theorem d_Di_moveToEnd_107 : decode b_Di_moveToEnd 107 = .ok (.goto (-100), 3) := by decide +kernel
theorem d_Di_moveToEnd_62 : decode b_Di_moveToEnd 62 = .ok (.aload_n 0, 1) := by decide +kernel
theorem d_Di_moveToEnd_63 : decode b_Di_moveToEnd 63 = .ok (.getfield 15, 3) := by decide +kernel
theorem d_Di_moveToEnd_66 : decode b_Di_moveToEnd 66 = .ok (.iload 4, 2) := by decide +kernel
theorem d_Di_moveToEnd_68 : decode b_Di_moveToEnd 68 = .ok (.iaload, 1) := by decide +kernel
theorem d_Di_moveToEnd_69 : decode b_Di_moveToEnd 69 = .ok (.istore 5, 2) := by decide +kernel
theorem d_Di_moveToEnd_71 : decode b_Di_moveToEnd 71 = .ok (.aload_n 0, 1) := by decide +kernel
theorem d_Di_moveToEnd_72 : decode b_Di_moveToEnd 72 = .ok (.getfield 15, 3) := by decide +kernel
theorem d_Di_moveToEnd_75 : decode b_Di_moveToEnd 75 = .ok (.iload 4, 2) := by decide +kernel
theorem d_Di_moveToEnd_77 : decode b_Di_moveToEnd 77 = .ok (.aload_n 0, 1) := by decide +kernel
theorem d_Di_moveToEnd_78 : decode b_Di_moveToEnd 78 = .ok (.getfield 15, 3) := by decide +kernel
theorem d_Di_moveToEnd_81 : decode b_Di_moveToEnd 81 = .ok (.iload 4, 2) := by decide +kernel
theorem d_Di_moveToEnd_83 : decode b_Di_moveToEnd 83 = .ok (.iconst 4, 1) := by decide +kernel
theorem d_Di_moveToEnd_84 : decode b_Di_moveToEnd 84 = .ok (.iadd, 1) := by decide +kernel
theorem d_Di_moveToEnd_85 : decode b_Di_moveToEnd 85 = .ok (.iaload, 1) := by decide +kernel
theorem d_Di_moveToEnd_86 : decode b_Di_moveToEnd 86 = .ok (.iastore, 1) := by decide +kernel
theorem d_Di_moveToEnd_87 : decode b_Di_moveToEnd 87 = .ok (.aload_n 0, 1) := by decide +kernel
theorem d_Di_moveToEnd_88 : decode b_Di_moveToEnd 88 = .ok (.getfield 15, 3) := by decide +kernel
theorem d_Di_moveToEnd_91 : decode b_Di_moveToEnd 91 = .ok (.iload 4, 2) := by decide +kernel
theorem d_Di_moveToEnd_93 : decode b_Di_moveToEnd 93 = .ok (.iconst 4, 1) := by decide +kernel
theorem d_Di_moveToEnd_94 : decode b_Di_moveToEnd 94 = .ok (.iadd, 1) := by decide +kernel
theorem d_Di_moveToEnd_95 : decode b_Di_moveToEnd 95 = .ok (.iload 5, 2) := by decide +kernel
theorem d_Di_moveToEnd_97 : decode b_Di_moveToEnd 97 = .ok (.iastore, 1) := by decide +kernel
theorem d_Di_moveToEnd_98 : decode b_Di_moveToEnd 98 = .ok (.iinc 4 1, 3) := by decide +kernel
theorem d_Di_moveToEnd_101 : decode b_Di_moveToEnd 101 = .ok (.goto (-49), 3) := by decide +kernel
theorem d_Di_moveToEnd_7 : decode b_Di_moveToEnd 7 = .ok (.iload_n 2, 1) := by decide +kernel
theorem d_Di_moveToEnd_8 : decode b_Di_moveToEnd 8 = .ok (.iconst 1, 1) := by decide +kernel
theorem d_Di_moveToEnd_9 : decode b_Di_moveToEnd 9 = .ok (.iadd, 1) := by decide +kernel
theorem d_Di_moveToEnd_10 : decode b_Di_moveToEnd 10 = .ok (.aload_n 0, 1) := by decide +kernel
theorem d_Di_moveToEnd_11 : decode b_Di_moveToEnd 11 = .ok (.getfield 36, 3) := by decide +kernel
theorem d_Di_moveToEnd_14 : decode b_Di_moveToEnd 14 = .ok (.if_icmp .ge 96, 3) := by decide +kernel
theorem d_Di_moveToEnd_110 : decode b_Di_moveToEnd 110 = .ok (.aload_n 0, 1) := by decide +kernel
theorem d_Di_moveToEnd_111 : decode b_Di_moveToEnd 111 = .ok (.getfield 36, 3) := by decide +kernel
theorem d_Di_moveToEnd_114 : decode b_Di_moveToEnd 114 = .ok (.iconst 1, 1) := by decide +kernel
theorem d_Di_moveToEnd_115 : decode b_Di_moveToEnd 115 = .ok (.isub, 1) := by decide +kernel
theorem d_Di_moveToEnd_116 : decode b_Di_moveToEnd 116 = .ok (.ireturn, 1) := by decide +kernel
theorem d_Di_moveToEnd_17 : decode b_Di_moveToEnd 17 = .ok (.aload_n 0, 1) := by decide +kernel
theorem d_Di_moveToEnd_18 : decode b_Di_moveToEnd 18 = .ok (.getfield 9, 3) := by decide +kernel
theorem d_Di_moveToEnd_21 : decode b_Di_moveToEnd 21 = .ok (.iload_n 2, 1) := by decide +kernel
theorem d_Di_moveToEnd_22 : decode b_Di_moveToEnd 22 = .ok (.iaload, 1) := by decide +kernel
theorem d_Di_moveToEnd_23 : decode b_Di_moveToEnd 23 = .ok (.istore_n 3, 1) := by decide +kernel
theorem d_Di_moveToEnd_24 : decode b_Di_moveToEnd 24 = .ok (.aload_n 0, 1) := by decide +kernel
theorem d_Di_moveToEnd_25 : decode b_Di_moveToEnd 25 = .ok (.getfield 9, 3) := by decide +kernel
theorem d_Di_moveToEnd_28 : decode b_Di_moveToEnd 28 = .ok (.iload_n 2, 1) := by decide +kernel
theorem d_Di_moveToEnd_29 : decode b_Di_moveToEnd 29 = .ok (.aload_n 0, 1) := by decide +kernel
theorem d_Di_moveToEnd_30 : decode b_Di_moveToEnd 30 = .ok (.getfield 9, 3) := by decide +kernel
theorem d_Di_moveToEnd_33 : decode b_Di_moveToEnd 33 = .ok (.iload_n 2, 1) := by decide +kernel
theorem d_Di_moveToEnd_34 : decode b_Di_moveToEnd 34 = .ok (.iconst 1, 1) := by decide +kernel
theorem d_Di_moveToEnd_35 : decode b_Di_moveToEnd 35 = .ok (.iadd, 1) := by decide +kernel
theorem d_Di_moveToEnd_36 : decode b_Di_moveToEnd 36 = .ok (.iaload, 1) := by decide +kernel
theorem d_Di_moveToEnd_37 : decode b_Di_moveToEnd 37 = .ok (.iastore, 1) := by decide +kernel
theorem d_Di_moveToEnd_38 : decode b_Di_moveToEnd 38 = .ok (.aload_n 0, 1) := by decide +kernel
theorem d_Di_moveToEnd_39 : decode b_Di_moveToEnd 39 = .ok (.getfield 9, 3) := by decide +kernel
theorem d_Di_moveToEnd_42 : decode b_Di_moveToEnd 42 = .ok (.iload_n 2, 1) := by decide +kernel
theorem d_Di_moveToEnd_43 : decode b_Di_moveToEnd 43 = .ok (.iconst 1, 1) := by decide +kernel
theorem d_Di_moveToEnd_44 : decode b_Di_moveToEnd 44 = .ok (.iadd, 1) := by decide +kernel
theorem d_Di_moveToEnd_45 : decode b_Di_moveToEnd 45 = .ok (.iload_n 3, 1) := by decide +kernel
theorem d_Di_moveToEnd_46 : decode b_Di_moveToEnd 46 = .ok (.iastore, 1) := by decide +kernel
theorem d_Di_moveToEnd_47 : decode b_Di_moveToEnd 47 = .ok (.iconst 4, 1) := by decide +kernel
theorem d_Di_moveToEnd_48 : decode b_Di_moveToEnd 48 = .ok (.iload_n 2, 1) := by decide +kernel
theorem d_Di_moveToEnd_49 : decode b_Di_moveToEnd 49 = .ok (.imul, 1) := by decide +kernel
theorem d_Di_moveToEnd_50 : decode b_Di_moveToEnd 50 = .ok (.istore 4, 2) := by decide +kernel
theorem d_Di_moveToEnd_0 : decode b_Di_moveToEnd 0 = .ok (.aload_n 0, 1) := by decide +kernel
theorem d_Di_moveToEnd_1 : decode b_Di_moveToEnd 1 = .ok (.iconst 0, 1) := by decide +kernel
theorem d_Di_moveToEnd_2 : decode b_Di_moveToEnd 2 = .ok (.putfield 25, 3) := by decide +kernel
theorem d_Di_moveToEnd_5 : decode b_Di_moveToEnd 5 = .ok (.iload_n 1, 1) := by decide +kernel
theorem d_Di_moveToEnd_6 : decode b_Di_moveToEnd 6 = .ok (.istore_n 2, 1) := by decide +kernel
theorem d_Di_joinAt_0 : decode b_Di_joinAt 0 = .ok (.aload_n 0, 1) := by decide +kernel
theorem d_Di_joinAt_1 : decode b_Di_joinAt 1 = .ok (.getfield 15, 3) := by decide +kernel
theorem d_Di_joinAt_4 : decode b_Di_joinAt 4 = .ok (.iload_n 1, 1) := by decide +kernel
theorem d_Di_joinAt_5 : decode b_Di_joinAt 5 = .ok (.iaload, 1) := by decide +kernel
theorem d_Di_joinAt_6 : decode b_Di_joinAt 6 = .ok (.istore_n 3, 1) := by decide +kernel
theorem d_Di_joinAt_7 : decode b_Di_joinAt 7 = .ok (.aload_n 0, 1) := by decide +kernel
theorem d_Di_joinAt_8 : decode b_Di_joinAt 8 = .ok (.getfield 15, 3) := by decide +kernel
theorem d_Di_joinAt_11 : decode b_Di_joinAt 11 = .ok (.iload_n 2, 1) := by decide +kernel
theorem d_Di_joinAt_12 : decode b_Di_joinAt 12 = .ok (.iaload, 1) := by decide +kernel
theorem d_Di_joinAt_13 : decode b_Di_joinAt 13 = .ok (.istore 4, 2) := by decide +kernel
theorem d_Di_joinAt_15 : decode b_Di_joinAt 15 = .ok (.iload_n 3, 1) := by decide +kernel
theorem d_Di_joinAt_16 : decode b_Di_joinAt 16 = .ok (.iload 4, 2) := by decide +kernel
