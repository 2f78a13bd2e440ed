theorem d_Di_copy_54 : decode b_Di_copy 54 = .ok (.invokestatic 64, 3) := by decide +kernel
theorem d_Di_copy_57 : decode b_Di_copy 57 = .ok (.return_, 1) := by decide +kernel
theorem d_Di_isOut_0 : decode b_Di_isOut 0 = .ok (.iload_n 1, 1) := by decide +kernel
theorem d_Di_isOut_1 : decode b_Di_isOut 1 = .ok (.iconst 3, 1) := by decide +kernel
theorem d_Di_isOut_2 : decode b_Di_isOut 2 = .ok (.iand, 1) := by decide +kernel
theorem d_Di_isOut_3 : decode b_Di_isOut 3 = .ok (.iconst 2, 1) := by decide +kernel
theorem d_Di_isOut_4 : decode b_Di_isOut 4 = .ok (.if_icmp .eq 14, 3) := by decide +kernel
theorem d_Di_isOut_7 : decode b_Di_isOut 7 = .ok (.iload_n 1, 1) := by decide +kernel
theorem d_Di_isOut_8 : decode b_Di_isOut 8 = .ok (.aload_n 0, 1) := by decide +kernel
theorem d_Di_isOut_9 : decode b_Di_isOut 9 = .ok (.iload_n 1, 1) := by decide +kernel
theorem d_Di_isOut_10 : decode b_Di_isOut 10 = .ok (.iconst 2, 1) := by decide +kernel
theorem d_Di_isOut_11 : decode b_Di_isOut 11 = .ok (.ishr, 1) := by decide +kernel
theorem d_Di_isOut_12 : decode b_Di_isOut 12 = .ok (.invokevirtual 81, 3) := by decide +kernel
theorem d_Di_isOut_15 : decode b_Di_isOut 15 = .ok (.if_icmp .ne 7, 3) := by decide +kernel
theorem d_Di_isOut_18 : decode b_Di_isOut 18 = .ok (.iconst 1, 1) := by decide +kernel
theorem d_Di_isOut_19 : decode b_Di_isOut 19 = .ok (.goto 4, 3) := by decide +kernel
theorem d_Di_isOut_22 : decode b_Di_isOut 22 = .ok (.iconst 0, 1) := by decide +kernel
theorem d_Di_isOut_23 : decode b_Di_isOut 23 = .ok (.ireturn, 1) := by decide +kernel
theorem d_Di_joinAt_0 : decode b_Di_joinAt 0 = .ok (.aload_n 0, 1) := by decide +kernel
theorem d_Di_joinAt_1 : decode b_Di_joinAt 1 = .ok (.getfield 15, 3) := by decide +kernel
theorem d_Di_joinAt_4 : decode b_Di_joinAt 4 = .ok (.iload_n 1, 1) := by decide +kernel
theorem d_Di_joinAt_5 : decode b_Di_joinAt 5 = .ok (.iaload, 1) := by decide +kernel
theorem d_Di_joinAt_6 : decode b_Di_joinAt 6 = .ok (.istore_n 3, 1) := by decide +kernel
theorem d_Di_joinAt_7 : decode b_Di_joinAt 7 = .ok (.aload_n 0, 1) := by decide +kernel
theorem d_Di_joinAt_8 : decode b_Di_joinAt 8 = .ok (.getfield 15, 3) := by decide +kernel
theorem d_Di_joinAt_11 : decode b_Di_joinAt 11 = .ok (.iload_n 2, 1) := by decide +kernel
theorem d_Di_joinAt_12 : decode b_Di_joinAt 12 = .ok (.iaload, 1) := by decide +kernel
theorem d_Di_joinAt_13 : decode b_Di_joinAt 13 = .ok (.istore 4, 2) := by decide +kernel
theorem d_Di_joinAt_15 : decode b_Di_joinAt 15 = .ok (.iload_n 3, 1) := by decide +kernel
theorem d_Di_joinAt_16 : decode b_Di_joinAt 16 = .ok (.iload 4, 2) := by decide +kernel
theorem d_Di_joinAt_18 : decode b_Di_joinAt 18 = .ok (.if_icmp .ne 16, 3) := by decide +kernel
theorem d_Di_joinAt_21 : decode b_Di_joinAt 21 = .ok (.aload_n 0, 1) := by decide +kernel
theorem d_Di_joinAt_22 : decode b_Di_joinAt 22 = .ok (.dup, 1) := by decide +kernel
theorem d_Di_joinAt_23 : decode b_Di_joinAt 23 = .ok (.getfield 61, 3) := by decide +kernel
theorem d_Di_joinAt_26 : decode b_Di_joinAt 26 = .ok (.iconst 1, 1) := by decide +kernel
theorem d_Di_joinAt_27 : decode b_Di_joinAt 27 = .ok (.iadd, 1) := by decide +kernel
theorem d_Di_joinAt_28 : decode b_Di_joinAt 28 = .ok (.putfield 61, 3) := by decide +kernel
theorem d_Di_joinAt_31 : decode b_Di_joinAt 31 = .ok (.goto 19, 3) := by decide +kernel
theorem d_Di_joinAt_34 : decode b_Di_joinAt 34 = .ok (.aload_n 0, 1) := by decide +kernel
theorem d_Di_joinAt_35 : decode b_Di_joinAt 35 = .ok (.iload_n 3, 1) := by decide +kernel
theorem d_Di_joinAt_36 : decode b_Di_joinAt 36 = .ok (.iload 4, 2) := by decide +kernel
theorem d_Di_joinAt_38 : decode b_Di_joinAt 38 = .ok (.invokestatic 100, 3) := by decide +kernel
theorem d_Di_joinAt_41 : decode b_Di_joinAt 41 = .ok (.iload_n 3, 1) := by decide +kernel
theorem d_Di_joinAt_42 : decode b_Di_joinAt 42 = .ok (.iload 4, 2) := by decide +kernel
theorem d_Di_joinAt_44 : decode b_Di_joinAt 44 = .ok (.invokestatic 106, 3) := by decide +kernel
theorem d_Di_joinAt_47 : decode b_Di_joinAt 47 = .ok (.invokevirtual 109, 3) := by decide +kernel
theorem d_Di_joinAt_50 : decode b_Di_joinAt 50 = .ok (.return_, 1) := by decide +kernel
theorem d_Di_lift_0 : decode b_Di_lift 0 = .ok (.aload_n 0, 1) := by decide +kernel
theorem d_Di_lift_1 : decode b_Di_lift 1 = .ok (.iload_n 1, 1) := by decide +kernel
theorem d_Di_lift_2 : decode b_Di_lift 2 = .ok (.invokevirtual 87, 3) := by decide +kernel
theorem d_Di_lift_5 : decode b_Di_lift 5 = .ok (.istore_n 2, 1) := by decide +kernel
theorem d_Di_lift_6 : decode b_Di_lift 6 = .ok (.aload_n 0, 1) := by decide +kernel
theorem d_Di_lift_7 : decode b_Di_lift 7 = .ok (.iconst 4, 1) := by decide +kernel
theorem d_Di_lift_8 : decode b_Di_lift 8 = .ok (.iload_n 2, 1) := by decide +kernel
theorem d_Di_lift_9 : decode b_Di_lift 9 = .ok (.imul, 1) := by decide +kernel
theorem d_Di_lift_10 : decode b_Di_lift 10 = .ok (.iconst 4, 1) := by decide +kernel
theorem d_Di_lift_11 : decode b_Di_lift 11 = .ok (.iload_n 2, 1) := by decide +kernel
theorem d_Di_lift_12 : decode b_Di_lift 12 = .ok (.imul, 1) := by decide +kernel
theorem d_Di_lift_13 : decode b_Di_lift 13 = .ok (.iconst 2, 1) := by decide +kernel
theorem d_Di_lift_14 : decode b_Di_lift 14 = .ok (.iadd, 1) := by decide +kernel
theorem d_Di_lift_15 : decode b_Di_lift 15 = .ok (.invokevirtual 90, 3) := by decide +kernel
theorem d_Di_lift_18 : decode b_Di_lift 18 = .ok (.aload_n 0, 1) := by decide +kernel
theorem d_Di_lift_19 : decode b_Di_lift 19 = .ok (.aload_n 0, 1) := by decide +kernel
theorem d_Di_lift_20 : decode b_Di_lift 20 = .ok (.iload_n 2, 1) := by decide +kernel
theorem d_Di_lift_21 : decode b_Di_lift 21 = .ok (.invokevirtual 84, 3) := by decide +kernel
theorem d_Di_lift_24 : decode b_Di_lift 24 = .ok (.aload_n 0, 1) := by decide +kernel
theorem d_Di_lift_25 : decode b_Di_lift 25 = .ok (.iload_n 2, 1) := by decide +kernel
theorem d_Di_lift_26 : decode b_Di_lift 26 = .ok (.invokevirtual 81, 3) := by decide +kernel
theorem d_Di_lift_29 : decode b_Di_lift 29 = .ok (.invokevirtual 90, 3) := by decide +kernel
theorem d_Di_lift_32 : decode b_Di_lift 32 = .ok (.aload_n 0, 1) := by decide +kernel
theorem d_Di_lift_33 : decode b_Di_lift 33 = .ok (.dup, 1) := by decide +kernel
theorem d_Di_lift_34 : decode b_Di_lift 34 = .ok (.getfield 36, 3) := by decide +kernel
theorem d_Di_lift_37 : decode b_Di_lift 37 = .ok (.iconst 1, 1) := by decide +kernel
theorem d_Di_lift_38 : decode b_Di_lift 38 = .ok (.isub, 1) := by decide +kernel
theorem d_Di_lift_39 : decode b_Di_lift 39 = .ok (.putfield 36, 3) := by decide +kernel
theorem d_Di_lift_42 : decode b_Di_lift 42 = .ok (.return_, 1) := by decide +kernel
theorem d_Di_mirror_0 : decode b_Di_mirror 0 = .ok (.iconst 0, 1) := by decide +kernel
theorem d_Di_mirror_1 : decode b_Di_mirror 1 = .ok (.istore_n 1, 1) := by decide +kernel
theorem d_Di_mirror_2 : decode b_Di_mirror 2 = .ok (.iload_n 1, 1) := by decide +kernel
theorem d_Di_mirror_3 : decode b_Di_mirror 3 = .ok (.aload_n 0, 1) := by decide +kernel
theorem d_Di_mirror_4 : decode b_Di_mirror 4 = .ok (.getfield 36, 3) := by decide +kernel
theorem d_Di_mirror_7 : decode b_Di_mirror 7 = .ok (.if_icmp .ge 15, 3) := by decide +kernel
theorem d_Di_mirror_10 : decode b_Di_mirror 10 = .ok (.aload_n 0, 1) := by decide +kernel
theorem d_Di_mirror_11 : decode b_Di_mirror 11 = .ok (.iload_n 1, 1) := by decide +kernel
theorem d_Di_mirror_12 : decode b_Di_mirror 12 = .ok (.invokevirtual 94, 3) := by decide +kernel
theorem d_Di_mirror_15 : decode b_Di_mirror 15 = .ok (.pop, 1) := by decide +kernel
theorem d_Di_mirror_16 : decode b_Di_mirror 16 = .ok (.iinc 1 1, 3) := by decide +kernel
theorem d_Di_mirror_19 : decode b_Di_mirror 19 = .ok (.goto (-17), 3) := by decide +kernel
theorem d_Di_mirror_22 : decode b_Di_mirror 22 = .ok (.iconst 1, 1) := by decide +kernel
theorem d_Di_mirror_23 : decode b_Di_mirror 23 = .ok (.ireturn, 1) := by decide +kernel
theorem d_Di_moveToEnd_0 : decode b_Di_moveToEnd 0 = .ok (.aload_n 0, 1) := by decide +kernel
theorem d_Di_moveToEnd_1 : decode b_Di_moveToEnd 1 = .ok (.iconst 0, 1) := by decide +kernel
theorem d_Di_moveToEnd_2 : decode b_Di_moveToEnd 2 = .ok (.putfield 25, 3) := by decide +kernel
theorem d_Di_moveToEnd_5 : decode b_Di_moveToEnd 5 = .ok (.iload_n 1, 1) := by decide +kernel
theorem d_Di_moveToEnd_6 : decode b_Di_moveToEnd 6 = .ok (.istore_n 2, 1) := by decide +kernel
theorem d_Di_moveToEnd_7 : decode b_Di_moveToEnd 7 = .ok (.iload_n 2, 1) := by decide +kernel
theorem d_Di_moveToEnd_8 : decode b_Di_moveToEnd 8 = .ok (.iconst 1, 1) := by decide +kernel
theorem d_Di_moveToEnd_9 : decode b_Di_moveToEnd 9 = .ok (.iadd, 1) := by decide +kernel
theorem d_Di_moveToEnd_10 : decode b_Di_moveToEnd 10 = .ok (.aload_n 0, 1) := by decide +kernel
theorem d_Di_moveToEnd_11 : decode b_Di_moveToEnd 11 = .ok (.getfield 36, 3) := by decide +kernel
theorem d_Di_moveToEnd_14 : decode b_Di_moveToEnd 14 = .ok (.if_icmp .ge 96, 3) := by decide +kernel
theorem d_Di_moveToEnd_17 : decode b_Di_moveToEnd 17 = .ok (.aload_n 0, 1) := by decide +kernel
theorem d_Di_moveToEnd_18 : decode b_Di_moveToEnd 18 = .ok (.getfield 9, 3) := by decide +kernel
theorem d_Di_moveToEnd_21 : decode b_Di_moveToEnd 21 = .ok (.iload_n 2, 1) := by decide +kernel
theorem d_Di_moveToEnd_22 : decode b_Di_moveToEnd 22 = .ok (.iaload, 1) := by decide +kernel
theorem d_Di_moveToEnd_23 : decode b_Di_moveToEnd 23 = .ok (.istore_n 3, 1) := by decide +kernel
theorem d_Di_moveToEnd_24 : decode b_Di_moveToEnd 24 = .ok (.aload_n 0, 1) := by decide +kernel
theorem d_Di_moveToEnd_25 : decode b_Di_moveToEnd 25 = .ok (.getfield 9, 3) := by decide +kernel
theorem d_Di_moveToEnd_28 : decode b_Di_moveToEnd 28 = .ok (.iload_n 2, 1) := by decide +kernel
theorem d_Di_moveToEnd_29 : decode b_Di_moveToEnd 29 = .ok (.aload_n 0, 1) := by decide +kernel
theorem d_Di_moveToEnd_30 : decode b_Di_moveToEnd 30 = .ok (.getfield 9, 3) := by decide +kernel
theorem d_Di_moveToEnd_33 : decode b_Di_moveToEnd 33 = .ok (.iload_n 2, 1) := by decide +kernel
theorem d_Di_moveToEnd_34 : decode b_Di_moveToEnd 34 = .ok (.iconst 1, 1) := by decide +kernel
theorem d_Di_moveToEnd_35 : decode b_Di_moveToEnd 35 = .ok (.iadd, 1) := by decide +kernel
theorem d_Di_moveToEnd_36 : decode b_Di_moveToEnd 36 = .ok (.iaload, 1) := by decide +kernel
theorem d_Di_moveToEnd_37 : decode b_Di_moveToEnd 37 = .ok (.iastore, 1) := by decide +kernel
theorem d_Di_moveToEnd_38 : decode b_Di_moveToEnd 38 = .ok (.aload_n 0, 1) := by decide +kernel
theorem d_Di_moveToEnd_39 : decode b_Di_moveToEnd 39 = .ok (.getfield 9, 3) := by decide +kernel
theorem d_Di_moveToEnd_42 : decode b_Di_moveToEnd 42 = .ok (.iload_n 2, 1) := by decide +kernel
theorem d_Di_moveToEnd_43 : decode b_Di_moveToEnd 43 = .ok (.iconst 1, 1) := by decide +kernel
theorem d_Di_moveToEnd_44 : decode b_Di_moveToEnd 44 = .ok (.iadd, 1) := by decide +kernel
theorem d_Di_moveToEnd_45 : decode b_Di_moveToEnd 45 = .ok (.iload_n 3, 1) := by decide +kernel
theorem d_Di_moveToEnd_46 : decode b_Di_moveToEnd 46 = .ok (.iastore, 1) := by decide +kernel
theorem d_Di_moveToEnd_47 : decode b_Di_moveToEnd 47 = .ok (.iconst 4, 1) := by decide +kernel
theorem d_Di_moveToEnd_48 : decode b_Di_moveToEnd 48 = .ok (.iload_n 2, 1) := by decide +kernel
theorem d_Di_moveToEnd_49 : decode b_Di_moveToEnd 49 = .ok (.imul, 1) := by decide +kernel
theorem d_Di_moveToEnd_50 : decode b_Di_moveToEnd 50 = .ok (.istore 4, 2) := by decide +kernel
theorem d_Di_moveToEnd_52 : decode b_Di_moveToEnd 52 = .ok (.iload 4, 2) := by decide +kernel
theorem d_Di_moveToEnd_54 : decode b_Di_moveToEnd 54 = .ok (.iconst 4, 1) := by decide +kernel
theorem d_Di_moveToEnd_55 : decode b_Di_moveToEnd 55 = .ok (.iload_n 2, 1) := by decide +kernel
theorem d_Di_moveToEnd_56 : decode b_Di_moveToEnd 56 = .ok (.imul, 1) := by decide +kernel
theorem d_Di_moveToEnd_57 : decode b_Di_moveToEnd 57 = .ok (.iconst 4, 1) := by decide +kernel
theorem d_Di_moveToEnd_58 : decode b_Di_moveToEnd 58 = .ok (.iadd, 1) := by decide +kernel
theorem d_Di_moveToEnd_59 : decode b_Di_moveToEnd 59 = .ok (.if_icmp .ge 45, 3) := by decide +kernel
theorem d_Di_moveToEnd_62 : decode b_Di_moveToEnd 62 = .ok (.aload_n 0, 1) := by decide +kernel
theorem d_Di_moveToEnd_63 : decode b_Di_moveToEnd 63 = .ok (.getfield 15, 3) := by decide +kernel
theorem d_Di_moveToEnd_66 : decode b_Di_moveToEnd 66 = .ok (.iload 4, 2) := by decide +kernel
theorem d_Di_moveToEnd_68 : decode b_Di_moveToEnd 68 = .ok (.iaload, 1) := by decide +kernel
theorem d_Di_moveToEnd_69 : decode b_Di_moveToEnd 69 = .ok (.istore 5, 2) := by decide +kernel
theorem d_Di_moveToEnd_71 : decode b_Di_moveToEnd 71 = .ok (.aload_n 0, 1) := by decide +kernel
theorem d_Di_moveToEnd_72 : decode b_Di_moveToEnd 72 = .ok (.getfield 15, 3) := by decide +kernel
theorem d_Di_moveToEnd_75 : decode b_Di_moveToEnd 75 = .ok (.iload 4, 2) := by decide +kernel
theorem d_Di_moveToEnd_77 : decode b_Di_moveToEnd 77 = .ok (.aload_n 0, 1) := by decide +kernel
theorem d_Di_moveToEnd_78 : decode b_Di_moveToEnd 78 = .ok (.getfield 15, 3) := by decide +kernel
theorem d_Di_moveToEnd_81 : decode b_Di_moveToEnd 81 = .ok (.iload 4, 2) := by decide +kernel
theorem d_Di_moveToEnd_83 : decode b_Di_moveToEnd 83 = .ok (.iconst 4, 1) := by decide +kernel
theorem d_Di_moveToEnd_84 : decode b_Di_moveToEnd 84 = .ok (.iadd, 1) := by decide +kernel
theorem d_Di_moveToEnd_85 : decode b_Di_moveToEnd 85 = .ok (.iaload, 1) := by decide +kernel
theorem d_Di_moveToEnd_86 : decode b_Di_moveToEnd 86 = .ok (.iastore, 1) := by decide +kernel
theorem d_Di_moveToEnd_87 : decode b_Di_moveToEnd 87 = .ok (.aload_n 0, 1) := by decide +kernel
theorem d_Di_moveToEnd_88 : decode b_Di_moveToEnd 88 = .ok (.getfield 15, 3) := by decide +kernel
theorem d_Di_moveToEnd_91 : decode b_Di_moveToEnd 91 = .ok (.iload 4, 2) := by decide +kernel
theorem d_Di_moveToEnd_93 : decode b_Di_moveToEnd 93 = .ok (.iconst 4, 1) := by decide +kernel
theorem d_Di_moveToEnd_94 : decode b_Di_moveToEnd 94 = .ok (.iadd, 1) := by decide +kernel
theorem d_Di_moveToEnd_95 : decode b_Di_moveToEnd 95 = .ok (.iload 5, 2) := by decide +kernel
theorem d_Di_moveToEnd_97 : decode b_Di_moveToEnd 97 = .ok (.iastore, 1) := by decide +kernel
theorem d_Di_moveToEnd_98 : decode b_Di_moveToEnd 98 = .ok (.iinc 4 1, 3) := by decide +kernel
theorem d_Di_moveToEnd_101 : decode b_Di_moveToEnd 101 = .ok (.goto (-49), 3) := by decide +kernel
theorem d_Di_moveToEnd_104 : decode b_Di_moveToEnd 104 = .ok (.iinc 2 1, 3) := by decide +kernel
theorem d_Di_moveToEnd_107 : decode b_Di_moveToEnd 107 = .ok (.goto (-100), 3) := by decide +kernel
theorem d_Di_moveToEnd_110 : decode b_Di_moveToEnd 110 = .ok (.aload_n 0, 1) := by decide +kernel
theorem d_Di_moveToEnd_111 : decode b_Di_moveToEnd 111 = .ok (.getfield 36, 3) := by decide +kernel
theorem d_Di_moveToEnd_114 : decode b_Di_moveToEnd 114 = .ok (.iconst 1, 1) := by decide +kernel
theorem d_Di_moveToEnd_115 : decode b_Di_moveToEnd 115 = .ok (.isub, 1) := by decide +kernel
theorem d_Di_moveToEnd_116 : decode b_Di_moveToEnd 116 = .ok (.ireturn, 1) := by decide +kernel
theorem d_Di_rename_0 : decode b_Di_rename 0 = .ok (.aload_n 0, 1) := by decide +kernel
theorem d_Di_rename_1 : decode b_Di_rename 1 = .ok (.iconst 0, 1) := by decide +kernel
theorem d_Di_rename_2 : decode b_Di_rename 2 = .ok (.putfield 25, 3) := by decide +kernel
theorem d_Di_rename_5 : decode b_Di_rename 5 = .ok (.iconst 0, 1) := by decide +kernel
theorem d_Di_rename_6 : decode b_Di_rename 6 = .ok (.istore_n 3, 1) := by decide +kernel
theorem d_Di_rename_7 : decode b_Di_rename 7 = .ok (.iload_n 3, 1) := by decide +kernel
theorem d_Di_rename_8 : decode b_Di_rename 8 = .ok (.iconst 4, 1) := by decide +kernel
theorem d_Di_rename_9 : decode b_Di_rename 9 = .ok (.aload_n 0, 1) := by decide +kernel
theorem d_Di_rename_10 : decode b_Di_rename 10 = .ok (.getfield 36, 3) := by decide +kernel
theorem d_Di_rename_13 : decode b_Di_rename 13 = .ok (.imul, 1) := by decide +kernel
theorem d_Di_rename_14 : decode b_Di_rename 14 = .ok (.if_icmp .ge 26, 3) := by decide +kernel
theorem d_Di_rename_17 : decode b_Di_rename 17 = .ok (.aload_n 0, 1) := by decide +kernel
theorem d_Di_rename_18 : decode b_Di_rename 18 = .ok (.getfield 15, 3) := by decide +kernel
theorem d_Di_rename_21 : decode b_Di_rename 21 = .ok (.iload_n 3, 1) := by decide +kernel
theorem d_Di_rename_22 : decode b_Di_rename 22 = .ok (.iaload, 1) := by decide +kernel
theorem d_Di_rename_23 : decode b_Di_rename 23 = .ok (.iload_n 1, 1) := by decide +kernel
theorem d_Di_rename_24 : decode b_Di_rename 24 = .ok (.if_icmp .ne 10, 3) := by decide +kernel
theorem d_Di_rename_27 : decode b_Di_rename 27 = .ok (.aload_n 0, 1) := by decide +kernel
theorem d_Di_rename_28 : decode b_Di_rename 28 = .ok (.getfield 15, 3) := by decide +kernel
theorem d_Di_rename_31 : decode b_Di_rename 31 = .ok (.iload_n 3, 1) := by decide +kernel
theorem d_Di_rename_32 : decode b_Di_rename 32 = .ok (.iload_n 2, 1) := by decide +kernel
theorem d_Di_rename_33 : decode b_Di_rename 33 = .ok (.iastore, 1) := by decide +kernel
theorem d_Di_rename_34 : decode b_Di_rename 34 = .ok (.iinc 3 1, 3) := by decide +kernel
theorem d_Di_rename_37 : decode b_Di_rename 37 = .ok (.goto (-30), 3) := by decide +kernel
theorem d_Di_rename_40 : decode b_Di_rename 40 = .ok (.return_, 1) := by decide +kernel
theorem d_Di_setCode_0 : decode b_Di_setCode 0 = .ok (.aload_n 0, 1) := by decide +kernel
theorem d_Di_setCode_1 : decode b_Di_setCode 1 = .ok (.invokevirtual 70, 3) := by decide +kernel
theorem d_Di_setCode_4 : decode b_Di_setCode 4 = .ok (.aload_n 1, 1) := by decide +kernel
theorem d_Di_setCode_5 : decode b_Di_setCode 5 = .ok (.invokevirtual 71, 3) := by decide +kernel
theorem d_Di_setCode_8 : decode b_Di_setCode 8 = .ok (.iconst 5, 1) := by decide +kernel
theorem d_Di_setCode_9 : decode b_Di_setCode 9 = .ok (.idiv, 1) := by decide +kernel
theorem d_Di_setCode_10 : decode b_Di_setCode 10 = .ok (.istore_n 2, 1) := by decide +kernel
theorem d_Di_setCode_11 : decode b_Di_setCode 11 = .ok (.iconst 1, 1) := by decide +kernel
theorem d_Di_setCode_12 : decode b_Di_setCode 12 = .ok (.istore_n 3, 1) := by decide +kernel
theorem d_Di_setCode_13 : decode b_Di_setCode 13 = .ok (.iconst 0, 1) := by decide +kernel
