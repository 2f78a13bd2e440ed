theorem d_En_setBraid_35 : decode b_En_setBraid 35 = .ok (.ldc 241, 2) := by decide +kernel
theorem d_En_setBraid_37 : decode b_En_setBraid 37 = .ok (.goto 5, 3) := by decide +kernel
theorem d_En_setBraid_40 : decode b_En_setBraid 40 = .ok (.ldc 243, 2) := by decide +kernel
theorem d_En_setBraid_42 : decode b_En_setBraid 42 = .ok (.invokevirtual 245, 3) := by decide +kernel
theorem d_En_setBraid_45 : decode b_En_setBraid 45 = .ok (.iload_n 1, 1) := by decide +kernel
theorem d_En_setBraid_46 : decode b_En_setBraid 46 = .ok (.ireturn, 1) := by decide +kernel
theorem d_En_setCode_0 : decode b_En_setCode 0 = .ok (.aload_n 0, 1) := by decide +kernel
theorem d_En_setCode_1 : decode b_En_setCode 1 = .ok (.getfield 70, 3) := by decide +kernel
theorem d_En_setCode_4 : decode b_En_setCode 4 = .ok (.aload_n 0, 1) := by decide +kernel
theorem d_En_setCode_5 : decode b_En_setCode 5 = .ok (.getfield 27, 3) := by decide +kernel
theorem d_En_setCode_8 : decode b_En_setCode 8 = .ok (.invokevirtual 280, 3) := by decide +kernel
theorem d_En_setCode_11 : decode b_En_setCode 11 = .ok (.ifCond .ne 15, 3) := by decide +kernel
theorem d_En_setCode_14 : decode b_En_setCode 14 = .ok (.aload_n 0, 1) := by decide +kernel
theorem d_En_setCode_15 : decode b_En_setCode 15 = .ok (.getfield 31, 3) := by decide +kernel
theorem d_En_setCode_18 : decode b_En_setCode 18 = .ok (.ldc_w 283, 3) := by decide +kernel
theorem d_En_setCode_21 : decode b_En_setCode 21 = .ok (.invokevirtual 245, 3) := by decide +kernel
theorem d_En_setCode_24 : decode b_En_setCode 24 = .ok (.iconst 0, 1) := by decide +kernel
theorem d_En_setCode_25 : decode b_En_setCode 25 = .ok (.ireturn, 1) := by decide +kernel
theorem d_En_setCode_26 : decode b_En_setCode 26 = .ok (.aload_n 0, 1) := by decide +kernel
theorem d_En_setCode_27 : decode b_En_setCode 27 = .ok (.getfield 70, 3) := by decide +kernel
theorem d_En_setCode_30 : decode b_En_setCode 30 = .ok (.invokevirtual 166, 3) := by decide +kernel
theorem d_En_setCode_33 : decode b_En_setCode 33 = .ok (.astore_n 1, 1) := by decide +kernel
theorem d_En_setCode_34 : decode b_En_setCode 34 = .ok (.aload_n 1, 1) := by decide +kernel
theorem d_En_setCode_35 : decode b_En_setCode 35 = .ok (.getfield 285, 3) := by decide +kernel
theorem d_En_setCode_38 : decode b_En_setCode 38 = .ok (.ifCond .ne 14, 3) := by decide +kernel
theorem d_En_setCode_41 : decode b_En_setCode 41 = .ok (.aload_n 0, 1) := by decide +kernel
theorem d_En_setCode_42 : decode b_En_setCode 42 = .ok (.getfield 31, 3) := by decide +kernel
theorem d_En_setCode_45 : decode b_En_setCode 45 = .ok (.ldc 241, 2) := by decide +kernel
theorem d_En_setCode_47 : decode b_En_setCode 47 = .ok (.invokevirtual 245, 3) := by decide +kernel
theorem d_En_setCode_50 : decode b_En_setCode 50 = .ok (.iconst 1, 1) := by decide +kernel
theorem d_En_setCode_51 : decode b_En_setCode 51 = .ok (.ireturn, 1) := by decide +kernel
theorem d_En_setCode_52 : decode b_En_setCode 52 = .ok (.aload_n 0, 1) := by decide +kernel
theorem d_En_setCode_53 : decode b_En_setCode 53 = .ok (.getfield 31, 3) := by decide +kernel
theorem d_En_setCode_56 : decode b_En_setCode 56 = .ok (.ldc_w 288, 3) := by decide +kernel
theorem d_En_setCode_59 : decode b_En_setCode 59 = .ok (.invokevirtual 290, 3) := by decide +kernel
theorem d_En_setCode_62 : decode b_En_setCode 62 = .ok (.aload_n 0, 1) := by decide +kernel
theorem d_En_setCode_63 : decode b_En_setCode 63 = .ok (.getfield 31, 3) := by decide +kernel
theorem d_En_setCode_66 : decode b_En_setCode 66 = .ok (.aload_n 1, 1) := by decide +kernel
theorem d_En_setCode_67 : decode b_En_setCode 67 = .ok (.getfield 285, 3) := by decide +kernel
theorem d_En_setCode_70 : decode b_En_setCode 70 = .ok (.i2l, 1) := by decide +kernel
theorem d_En_setCode_71 : decode b_En_setCode 71 = .ok (.invokevirtual 293, 3) := by decide +kernel
theorem d_En_setCode_74 : decode b_En_setCode 74 = .ok (.aload_n 0, 1) := by decide +kernel
theorem d_En_setCode_75 : decode b_En_setCode 75 = .ok (.getfield 31, 3) := by decide +kernel
theorem d_En_setCode_78 : decode b_En_setCode 78 = .ok (.aload_n 1, 1) := by decide +kernel
theorem d_En_setCode_79 : decode b_En_setCode 79 = .ok (.getfield 297, 3) := by decide +kernel
theorem d_En_setCode_82 : decode b_En_setCode 82 = .ok (.i2l, 1) := by decide +kernel
theorem d_En_setCode_83 : decode b_En_setCode 83 = .ok (.invokevirtual 293, 3) := by decide +kernel
theorem d_En_setCode_86 : decode b_En_setCode 86 = .ok (.aload_n 0, 1) := by decide +kernel
theorem d_En_setCode_87 : decode b_En_setCode 87 = .ok (.getfield 31, 3) := by decide +kernel
theorem d_En_setCode_90 : decode b_En_setCode 90 = .ok (.invokevirtual 300, 3) := by decide +kernel
theorem d_En_setCode_93 : decode b_En_setCode 93 = .ok (.iconst 0, 1) := by decide +kernel
theorem d_En_setCode_94 : decode b_En_setCode 94 = .ok (.ireturn, 1) := by decide +kernel
theorem d_En_simplify_0 : decode b_En_simplify 0 = .ok (.aload_n 0, 1) := by decide +kernel
theorem d_En_simplify_1 : decode b_En_simplify 1 = .ok (.getfield 70, 3) := by decide +kernel
theorem d_En_simplify_4 : decode b_En_simplify 4 = .ok (.aload_n 0, 1) := by decide +kernel
theorem d_En_simplify_5 : decode b_En_simplify 5 = .ok (.getfield 66, 3) := by decide +kernel
theorem d_En_simplify_8 : decode b_En_simplify 8 = .ok (.invokevirtual 235, 3) := by decide +kernel
theorem d_En_simplify_11 : decode b_En_simplify 11 = .ok (.iconst 0, 1) := by decide +kernel
theorem d_En_simplify_12 : decode b_En_simplify 12 = .ok (.istore_n 1, 1) := by decide +kernel
theorem d_En_simplify_13 : decode b_En_simplify 13 = .ok (.iconst 1, 1) := by decide +kernel
theorem d_En_simplify_14 : decode b_En_simplify 14 = .ok (.istore_n 2, 1) := by decide +kernel
theorem d_En_simplify_15 : decode b_En_simplify 15 = .ok (.iconst 0, 1) := by decide +kernel
theorem d_En_simplify_16 : decode b_En_simplify 16 = .ok (.istore_n 3, 1) := by decide +kernel
theorem d_En_simplify_17 : decode b_En_simplify 17 = .ok (.iload_n 3, 1) := by decide +kernel
theorem d_En_simplify_18 : decode b_En_simplify 18 = .ok (.bipush 20, 2) := by decide +kernel
theorem d_En_simplify_20 : decode b_En_simplify 20 = .ok (.if_icmp .ge 95, 3) := by decide +kernel
theorem d_En_simplify_23 : decode b_En_simplify 23 = .ok (.iload_n 2, 1) := by decide +kernel
theorem d_En_simplify_24 : decode b_En_simplify 24 = .ok (.ifCond .le 91, 3) := by decide +kernel
theorem d_En_simplify_27 : decode b_En_simplify 27 = .ok (.iconst 0, 1) := by decide +kernel
theorem d_En_simplify_28 : decode b_En_simplify 28 = .ok (.istore_n 2, 1) := by decide +kernel
theorem d_En_simplify_29 : decode b_En_simplify 29 = .ok (.aload_n 0, 1) := by decide +kernel
theorem d_En_simplify_30 : decode b_En_simplify 30 = .ok (.getfield 70, 3) := by decide +kernel
theorem d_En_simplify_33 : decode b_En_simplify 33 = .ok (.invokevirtual 166, 3) := by decide +kernel
theorem d_En_simplify_36 : decode b_En_simplify 36 = .ok (.astore 4, 2) := by decide +kernel
theorem d_En_simplify_38 : decode b_En_simplify 38 = .ok (.iconst 0, 1) := by decide +kernel
theorem d_En_simplify_39 : decode b_En_simplify 39 = .ok (.istore 5, 2) := by decide +kernel
theorem d_En_simplify_41 : decode b_En_simplify 41 = .ok (.iload 5, 2) := by decide +kernel
theorem d_En_simplify_43 : decode b_En_simplify 43 = .ok (.aload 4, 2) := by decide +kernel
theorem d_En_simplify_45 : decode b_En_simplify 45 = .ok (.getfield 316, 3) := by decide +kernel
theorem d_En_simplify_48 : decode b_En_simplify 48 = .ok (.if_icmp .ge 33, 3) := by decide +kernel
theorem d_En_simplify_51 : decode b_En_simplify 51 = .ok (.iload_n 2, 1) := by decide +kernel
theorem d_En_simplify_52 : decode b_En_simplify 52 = .ok (.ifCond .ne 29, 3) := by decide +kernel
theorem d_En_simplify_55 : decode b_En_simplify 55 = .ok (.aload_n 0, 1) := by decide +kernel
theorem d_En_simplify_56 : decode b_En_simplify 56 = .ok (.getfield 38, 3) := by decide +kernel
theorem d_En_simplify_59 : decode b_En_simplify 59 = .ok (.aload 4, 2) := by decide +kernel
theorem d_En_simplify_61 : decode b_En_simplify 61 = .ok (.aload_n 0, 1) := by decide +kernel
theorem d_En_simplify_62 : decode b_En_simplify 62 = .ok (.getfield 70, 3) := by decide +kernel
theorem d_En_simplify_65 : decode b_En_simplify 65 = .ok (.aload_n 0, 1) := by decide +kernel
theorem d_En_simplify_66 : decode b_En_simplify 66 = .ok (.getfield 73, 3) := by decide +kernel
theorem d_En_simplify_69 : decode b_En_simplify 69 = .ok (.iload 5, 2) := by decide +kernel
theorem d_En_simplify_71 : decode b_En_simplify 71 = .ok (.invokevirtual 309, 3) := by decide +kernel
theorem d_En_simplify_74 : decode b_En_simplify 74 = .ok (.istore_n 2, 1) := by decide +kernel
theorem d_En_simplify_75 : decode b_En_simplify 75 = .ok (.iinc 5 1, 3) := by decide +kernel
theorem d_En_simplify_78 : decode b_En_simplify 78 = .ok (.goto (-37), 3) := by decide +kernel
theorem d_En_simplify_81 : decode b_En_simplify 81 = .ok (.iload_n 2, 1) := by decide +kernel
theorem d_En_simplify_82 : decode b_En_simplify 82 = .ok (.ifCond .le 27, 3) := by decide +kernel
theorem d_En_simplify_85 : decode b_En_simplify 85 = .ok (.aload_n 0, 1) := by decide +kernel
theorem d_En_simplify_86 : decode b_En_simplify 86 = .ok (.getfield 73, 3) := by decide +kernel
theorem d_En_simplify_89 : decode b_En_simplify 89 = .ok (.astore 5, 2) := by decide +kernel
theorem d_En_simplify_91 : decode b_En_simplify 91 = .ok (.aload_n 0, 1) := by decide +kernel
theorem d_En_simplify_92 : decode b_En_simplify 92 = .ok (.aload_n 0, 1) := by decide +kernel
theorem d_En_simplify_93 : decode b_En_simplify 93 = .ok (.getfield 70, 3) := by decide +kernel
theorem d_En_simplify_96 : decode b_En_simplify 96 = .ok (.putfield 73, 3) := by decide +kernel
theorem d_En_simplify_99 : decode b_En_simplify 99 = .ok (.aload_n 0, 1) := by decide +kernel
theorem d_En_simplify_100 : decode b_En_simplify 100 = .ok (.aload 5, 2) := by decide +kernel
theorem d_En_simplify_102 : decode b_En_simplify 102 = .ok (.putfield 70, 3) := by decide +kernel
theorem d_En_simplify_105 : decode b_En_simplify 105 = .ok (.iload_n 1, 1) := by decide +kernel
theorem d_En_simplify_106 : decode b_En_simplify 106 = .ok (.iload_n 2, 1) := by decide +kernel
theorem d_En_simplify_107 : decode b_En_simplify 107 = .ok (.iadd, 1) := by decide +kernel
theorem d_En_simplify_108 : decode b_En_simplify 108 = .ok (.istore_n 1, 1) := by decide +kernel
theorem d_En_simplify_109 : decode b_En_simplify 109 = .ok (.iinc 3 1, 3) := by decide +kernel
theorem d_En_simplify_112 : decode b_En_simplify 112 = .ok (.goto (-95), 3) := by decide +kernel
theorem d_En_simplify_115 : decode b_En_simplify 115 = .ok (.aload_n 0, 1) := by decide +kernel
theorem d_En_simplify_116 : decode b_En_simplify 116 = .ok (.iload_n 1, 1) := by decide +kernel
theorem d_En_simplify_117 : decode b_En_simplify 117 = .ok (.invokevirtual 313, 3) := by decide +kernel
theorem d_En_simplify_120 : decode b_En_simplify 120 = .ok (.iconst 1, 1) := by decide +kernel
theorem d_En_simplify_121 : decode b_En_simplify 121 = .ok (.ireturn, 1) := by decide +kernel
theorem d_En_state_0 : decode b_En_state 0 = .ok (.iload_n 1, 1) := by decide +kernel
theorem d_En_state_1 : decode b_En_state 1 = .ok (.tableswitch 119 0 7 #[47, 55, 63, 71, 79, 87, 106, 114], 47) := by decide +kernel
theorem d_En_state_48 : decode b_En_state 48 = .ok (.aload_n 0, 1) := by decide +kernel
theorem d_En_state_49 : decode b_En_state 49 = .ok (.getfield 27, 3) := by decide +kernel
theorem d_En_state_52 : decode b_En_state 52 = .ok (.invokevirtual 126, 3) := by decide +kernel
theorem d_En_state_55 : decode b_En_state 55 = .ok (.ireturn, 1) := by decide +kernel
theorem d_En_state_56 : decode b_En_state 56 = .ok (.aload_n 0, 1) := by decide +kernel
theorem d_En_state_57 : decode b_En_state 57 = .ok (.getfield 27, 3) := by decide +kernel
theorem d_En_state_60 : decode b_En_state 60 = .ok (.invokevirtual 135, 3) := by decide +kernel
theorem d_En_state_63 : decode b_En_state 63 = .ok (.ireturn, 1) := by decide +kernel
theorem d_En_state_64 : decode b_En_state 64 = .ok (.aload_n 0, 1) := by decide +kernel
theorem d_En_state_65 : decode b_En_state 65 = .ok (.getfield 66, 3) := by decide +kernel
theorem d_En_state_68 : decode b_En_state 68 = .ok (.getfield 157, 3) := by decide +kernel
theorem d_En_state_71 : decode b_En_state 71 = .ok (.ireturn, 1) := by decide +kernel
theorem d_En_state_72 : decode b_En_state 72 = .ok (.aload_n 0, 1) := by decide +kernel
theorem d_En_state_73 : decode b_En_state 73 = .ok (.getfield 66, 3) := by decide +kernel
theorem d_En_state_76 : decode b_En_state 76 = .ok (.getfield 160, 3) := by decide +kernel
theorem d_En_state_79 : decode b_En_state 79 = .ok (.ireturn, 1) := by decide +kernel
theorem d_En_state_80 : decode b_En_state 80 = .ok (.aload_n 0, 1) := by decide +kernel
theorem d_En_state_81 : decode b_En_state 81 = .ok (.getfield 66, 3) := by decide +kernel
theorem d_En_state_84 : decode b_En_state 84 = .ok (.invokevirtual 163, 3) := by decide +kernel
theorem d_En_state_87 : decode b_En_state 87 = .ok (.ireturn, 1) := by decide +kernel
theorem d_En_state_88 : decode b_En_state 88 = .ok (.aload_n 0, 1) := by decide +kernel
theorem d_En_state_89 : decode b_En_state 89 = .ok (.getfield 66, 3) := by decide +kernel
theorem d_En_state_92 : decode b_En_state 92 = .ok (.invokevirtual 166, 3) := by decide +kernel
theorem d_En_state_95 : decode b_En_state 95 = .ok (.getfield 170, 3) := by decide +kernel
theorem d_En_state_98 : decode b_En_state 98 = .ok (.aload_n 0, 1) := by decide +kernel
theorem d_En_state_99 : decode b_En_state 99 = .ok (.getfield 66, 3) := by decide +kernel
theorem d_En_state_102 : decode b_En_state 102 = .ok (.getfield 160, 3) := by decide +kernel
theorem d_En_state_105 : decode b_En_state 105 = .ok (.iadd, 1) := by decide +kernel
theorem d_En_state_106 : decode b_En_state 106 = .ok (.ireturn, 1) := by decide +kernel
theorem d_En_state_107 : decode b_En_state 107 = .ok (.aload_n 0, 1) := by decide +kernel
theorem d_En_state_108 : decode b_En_state 108 = .ok (.getfield 31, 3) := by decide +kernel
theorem d_En_state_111 : decode b_En_state 111 = .ok (.getfield 138, 3) := by decide +kernel
theorem d_En_state_114 : decode b_En_state 114 = .ok (.ireturn, 1) := by decide +kernel
theorem d_En_state_115 : decode b_En_state 115 = .ok (.aload_n 0, 1) := by decide +kernel
theorem d_En_state_116 : decode b_En_state 116 = .ok (.getfield 89, 3) := by decide +kernel
theorem d_En_state_119 : decode b_En_state 119 = .ok (.ireturn, 1) := by decide +kernel
theorem d_En_state_120 : decode b_En_state 120 = .ok (.sipush (-1000), 3) := by decide +kernel
theorem d_En_state_123 : decode b_En_state 123 = .ok (.ireturn, 1) := by decide +kernel
theorem d_En_undoFace_0 : decode b_En_undoFace 0 = .ok (.aload_n 0, 1) := by decide +kernel
theorem d_En_undoFace_1 : decode b_En_undoFace 1 = .ok (.getfield 38, 3) := by decide +kernel
theorem d_En_undoFace_4 : decode b_En_undoFace 4 = .ok (.aload_n 0, 1) := by decide +kernel
theorem d_En_undoFace_5 : decode b_En_undoFace 5 = .ok (.getfield 66, 3) := by decide +kernel
theorem d_En_undoFace_8 : decode b_En_undoFace 8 = .ok (.invokevirtual 166, 3) := by decide +kernel
theorem d_En_undoFace_11 : decode b_En_undoFace 11 = .ok (.aload_n 0, 1) := by decide +kernel
theorem d_En_undoFace_12 : decode b_En_undoFace 12 = .ok (.getfield 66, 3) := by decide +kernel
theorem d_En_undoFace_15 : decode b_En_undoFace 15 = .ok (.aload_n 0, 1) := by decide +kernel
theorem d_En_undoFace_16 : decode b_En_undoFace 16 = .ok (.getfield 70, 3) := by decide +kernel
theorem d_En_undoFace_19 : decode b_En_undoFace 19 = .ok (.aload_n 0, 1) := by decide +kernel
theorem d_En_undoFace_20 : decode b_En_undoFace 20 = .ok (.getfield 27, 3) := by decide +kernel
theorem d_En_undoFace_23 : decode b_En_undoFace 23 = .ok (.iconst 0, 1) := by decide +kernel
theorem d_En_undoFace_24 : decode b_En_undoFace 24 = .ok (.invokevirtual 249, 3) := by decide +kernel
theorem d_En_undoFace_27 : decode b_En_undoFace 27 = .ok (.invokevirtual 309, 3) := by decide +kernel
theorem d_En_undoFace_30 : decode b_En_undoFace 30 = .ok (.istore_n 1, 1) := by decide +kernel
theorem d_En_undoFace_31 : decode b_En_undoFace 31 = .ok (.iload_n 1, 1) := by decide +kernel
theorem d_En_undoFace_32 : decode b_En_undoFace 32 = .ok (.ifCond .ne 14, 3) := by decide +kernel
theorem d_En_undoFace_35 : decode b_En_undoFace 35 = .ok (.aload_n 0, 1) := by decide +kernel
theorem d_En_undoFace_36 : decode b_En_undoFace 36 = .ok (.getfield 31, 3) := by decide +kernel
theorem d_En_undoFace_39 : decode b_En_undoFace 39 = .ok (.ldc 243, 2) := by decide +kernel
theorem d_En_undoFace_41 : decode b_En_undoFace 41 = .ok (.invokevirtual 245, 3) := by decide +kernel
theorem d_En_undoFace_44 : decode b_En_undoFace 44 = .ok (.iconst 0, 1) := by decide +kernel
theorem d_En_undoFace_45 : decode b_En_undoFace 45 = .ok (.ireturn, 1) := by decide +kernel
theorem d_En_undoFace_46 : decode b_En_undoFace 46 = .ok (.aload_n 0, 1) := by decide +kernel
theorem d_En_undoFace_47 : decode b_En_undoFace 47 = .ok (.iload_n 1, 1) := by decide +kernel
theorem d_En_undoFace_48 : decode b_En_undoFace 48 = .ok (.invokevirtual 313, 3) := by decide +kernel
theorem d_En_undoFace_51 : decode b_En_undoFace 51 = .ok (.iconst 1, 1) := by decide +kernel
theorem d_En_undoFace_52 : decode b_En_undoFace 52 = .ok (.ireturn, 1) := by decide +kernel
theorem d_En_variableOf_0 : decode b_En_variableOf 0 = .ok (.iload_n 0, 1) := by decide +kernel
theorem d_En_variableOf_1 : decode b_En_variableOf 1 = .ok (.bipush 18, 2) := by decide +kernel
theorem d_En_variableOf_3 : decode b_En_variableOf 3 = .ok (.if_icmp .ne 9, 3) := by decide +kernel
theorem d_En_variableOf_6 : decode b_En_variableOf 6 = .ok (.ldc_w 399, 3) := by decide +kernel
theorem d_En_variableOf_9 : decode b_En_variableOf 9 = .ok (.goto 6, 3) := by decide +kernel
theorem d_En_variableOf_12 : decode b_En_variableOf 12 = .ok (.ldc_w 401, 3) := by decide +kernel
theorem d_En_variableOf_15 : decode b_En_variableOf 15 = .ok (.areturn, 1) := by decide +kernel
theorem d_En_wipe_0 : decode b_En_wipe 0 = .ok (.aload_n 0, 1) := by decide +kernel
theorem d_En_wipe_1 : decode b_En_wipe 1 = .ok (.getfield 31, 3) := by decide +kernel
theorem d_En_wipe_4 : decode b_En_wipe 4 = .ok (.getfield 138, 3) := by decide +kernel
theorem d_En_wipe_7 : decode b_En_wipe 7 = .ok (.istore_n 2, 1) := by decide +kernel
theorem d_En_wipe_8 : decode b_En_wipe 8 = .ok (.iload_n 1, 1) := by decide +kernel
theorem d_En_wipe_9 : decode b_En_wipe 9 = .ok (.ifCond .eq 25, 3) := by decide +kernel
theorem d_En_wipe_12 : decode b_En_wipe 12 = .ok (.aload_n 0, 1) := by decide +kernel
theorem d_En_wipe_13 : decode b_En_wipe 13 = .ok (.getfield 31, 3) := by decide +kernel
