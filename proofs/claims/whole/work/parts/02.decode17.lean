theorem d_Mo_slideEdge_40 : decode b_Mo_slideEdge 40 = .ok (.iload 5, 2) := by decide +kernel
theorem d_Mo_slideEdge_42 : decode b_Mo_slideEdge 42 = .ok (.iconst 2, 1) := by decide +kernel
theorem d_Mo_slideEdge_43 : decode b_Mo_slideEdge 43 = .ok (.ixor, 1) := by decide +kernel
theorem d_Mo_slideEdge_44 : decode b_Mo_slideEdge 44 = .ok (.iaload, 1) := by decide +kernel
theorem d_Mo_slideEdge_45 : decode b_Mo_slideEdge 45 = .ok (.iaload, 1) := by decide +kernel
theorem d_Mo_slideEdge_46 : decode b_Mo_slideEdge 46 = .ok (.istore 7, 2) := by decide +kernel
theorem d_Mo_slideEdge_48 : decode b_Mo_slideEdge 48 = .ok (.aload_n 2, 1) := by decide +kernel
theorem d_Mo_slideEdge_49 : decode b_Mo_slideEdge 49 = .ok (.getfield 72, 3) := by decide +kernel
theorem d_Mo_slideEdge_52 : decode b_Mo_slideEdge 52 = .ok (.iload 4, 2) := by decide +kernel
theorem d_Mo_slideEdge_54 : decode b_Mo_slideEdge 54 = .ok (.iconst 2, 1) := by decide +kernel
theorem d_Mo_slideEdge_55 : decode b_Mo_slideEdge 55 = .ok (.ixor, 1) := by decide +kernel
theorem d_Mo_slideEdge_56 : decode b_Mo_slideEdge 56 = .ok (.aload_n 1, 1) := by decide +kernel
theorem d_Mo_slideEdge_57 : decode b_Mo_slideEdge 57 = .ok (.getfield 66, 3) := by decide +kernel
theorem d_Mo_slideEdge_60 : decode b_Mo_slideEdge 60 = .ok (.iload_n 3, 1) := by decide +kernel
theorem d_Mo_slideEdge_61 : decode b_Mo_slideEdge 61 = .ok (.iaload, 1) := by decide +kernel
theorem d_Mo_slideEdge_62 : decode b_Mo_slideEdge 62 = .ok (.iastore, 1) := by decide +kernel
theorem d_Mo_slideEdge_63 : decode b_Mo_slideEdge 63 = .ok (.aload_n 2, 1) := by decide +kernel
theorem d_Mo_slideEdge_64 : decode b_Mo_slideEdge 64 = .ok (.getfield 72, 3) := by decide +kernel
theorem d_Mo_slideEdge_67 : decode b_Mo_slideEdge 67 = .ok (.iload 4, 2) := by decide +kernel
theorem d_Mo_slideEdge_69 : decode b_Mo_slideEdge 69 = .ok (.iload 7, 2) := by decide +kernel
theorem d_Mo_slideEdge_71 : decode b_Mo_slideEdge 71 = .ok (.iastore, 1) := by decide +kernel
theorem d_Mo_slideEdge_72 : decode b_Mo_slideEdge 72 = .ok (.aload_n 2, 1) := by decide +kernel
theorem d_Mo_slideEdge_73 : decode b_Mo_slideEdge 73 = .ok (.getfield 72, 3) := by decide +kernel
theorem d_Mo_slideEdge_76 : decode b_Mo_slideEdge 76 = .ok (.iload 5, 2) := by decide +kernel
theorem d_Mo_slideEdge_78 : decode b_Mo_slideEdge 78 = .ok (.iload 6, 2) := by decide +kernel
theorem d_Mo_slideEdge_80 : decode b_Mo_slideEdge 80 = .ok (.iastore, 1) := by decide +kernel
theorem d_Mo_slideEdge_81 : decode b_Mo_slideEdge 81 = .ok (.aload_n 2, 1) := by decide +kernel
theorem d_Mo_slideEdge_82 : decode b_Mo_slideEdge 82 = .ok (.getfield 72, 3) := by decide +kernel
theorem d_Mo_slideEdge_85 : decode b_Mo_slideEdge 85 = .ok (.iload 5, 2) := by decide +kernel
theorem d_Mo_slideEdge_87 : decode b_Mo_slideEdge 87 = .ok (.iconst 2, 1) := by decide +kernel
theorem d_Mo_slideEdge_88 : decode b_Mo_slideEdge 88 = .ok (.ixor, 1) := by decide +kernel
theorem d_Mo_slideEdge_89 : decode b_Mo_slideEdge 89 = .ok (.aload_n 1, 1) := by decide +kernel
theorem d_Mo_slideEdge_90 : decode b_Mo_slideEdge 90 = .ok (.getfield 66, 3) := by decide +kernel
theorem d_Mo_slideEdge_93 : decode b_Mo_slideEdge 93 = .ok (.iload_n 3, 1) := by decide +kernel
theorem d_Mo_slideEdge_94 : decode b_Mo_slideEdge 94 = .ok (.iaload, 1) := by decide +kernel
theorem d_Mo_slideEdge_95 : decode b_Mo_slideEdge 95 = .ok (.iastore, 1) := by decide +kernel
theorem d_Mo_slideEdge_96 : decode b_Mo_slideEdge 96 = .ok (.return_, 1) := by decide +kernel
theorem d_Mo_twist_0 : decode b_Mo_twist 0 = .ok (.aload_n 2, 1) := by decide +kernel
theorem d_Mo_twist_1 : decode b_Mo_twist 1 = .ok (.getfield 75, 3) := by decide +kernel
theorem d_Mo_twist_4 : decode b_Mo_twist 4 = .ok (.bipush 20, 2) := by decide +kernel
theorem d_Mo_twist_6 : decode b_Mo_twist 6 = .ok (.if_icmp .lt 5, 3) := by decide +kernel
theorem d_Mo_twist_9 : decode b_Mo_twist 9 = .ok (.iconst 0, 1) := by decide +kernel
theorem d_Mo_twist_10 : decode b_Mo_twist 10 = .ok (.ireturn, 1) := by decide +kernel
theorem d_Mo_twist_11 : decode b_Mo_twist 11 = .ok (.aload_n 1, 1) := by decide +kernel
theorem d_Mo_twist_12 : decode b_Mo_twist 12 = .ok (.aload_n 0, 1) := by decide +kernel
theorem d_Mo_twist_13 : decode b_Mo_twist 13 = .ok (.getfield 9, 3) := by decide +kernel
theorem d_Mo_twist_16 : decode b_Mo_twist 16 = .ok (.invokevirtual 78, 3) := by decide +kernel
theorem d_Mo_twist_19 : decode b_Mo_twist 19 = .ok (.aload_n 0, 1) := by decide +kernel
theorem d_Mo_twist_20 : decode b_Mo_twist 20 = .ok (.getfield 9, 3) := by decide +kernel
theorem d_Mo_twist_23 : decode b_Mo_twist 23 = .ok (.iconst 0, 1) := by decide +kernel
theorem d_Mo_twist_24 : decode b_Mo_twist 24 = .ok (.iaload, 1) := by decide +kernel
theorem d_Mo_twist_25 : decode b_Mo_twist 25 = .ok (.istore 6, 2) := by decide +kernel
theorem d_Mo_twist_27 : decode b_Mo_twist 27 = .ok (.aload_n 0, 1) := by decide +kernel
theorem d_Mo_twist_28 : decode b_Mo_twist 28 = .ok (.getfield 9, 3) := by decide +kernel
theorem d_Mo_twist_31 : decode b_Mo_twist 31 = .ok (.iconst 1, 1) := by decide +kernel
theorem d_Mo_twist_32 : decode b_Mo_twist 32 = .ok (.iaload, 1) := by decide +kernel
theorem d_Mo_twist_33 : decode b_Mo_twist 33 = .ok (.istore 7, 2) := by decide +kernel
theorem d_Mo_twist_35 : decode b_Mo_twist 35 = .ok (.iload_n 3, 1) := by decide +kernel
theorem d_Mo_twist_36 : decode b_Mo_twist 36 = .ok (.ifCond .ne 40, 3) := by decide +kernel
theorem d_Mo_twist_39 : decode b_Mo_twist 39 = .ok (.aload_n 2, 1) := by decide +kernel
theorem d_Mo_twist_40 : decode b_Mo_twist 40 = .ok (.getfield 53, 3) := by decide +kernel
theorem d_Mo_twist_43 : decode b_Mo_twist 43 = .ok (.ifCond .ne 5, 3) := by decide +kernel
theorem d_Mo_twist_46 : decode b_Mo_twist 46 = .ok (.iconst 0, 1) := by decide +kernel
theorem d_Mo_twist_47 : decode b_Mo_twist 47 = .ok (.ireturn, 1) := by decide +kernel
theorem d_Mo_twist_48 : decode b_Mo_twist 48 = .ok (.aload_n 2, 1) := by decide +kernel
theorem d_Mo_twist_49 : decode b_Mo_twist 49 = .ok (.dup, 1) := by decide +kernel
theorem d_Mo_twist_50 : decode b_Mo_twist 50 = .ok (.getfield 53, 3) := by decide +kernel
theorem d_Mo_twist_53 : decode b_Mo_twist 53 = .ok (.iconst 1, 1) := by decide +kernel
theorem d_Mo_twist_54 : decode b_Mo_twist 54 = .ok (.isub, 1) := by decide +kernel
theorem d_Mo_twist_55 : decode b_Mo_twist 55 = .ok (.putfield 53, 3) := by decide +kernel
theorem d_Mo_twist_58 : decode b_Mo_twist 58 = .ok (.aload_n 2, 1) := by decide +kernel
theorem d_Mo_twist_59 : decode b_Mo_twist 59 = .ok (.iload 4, 2) := by decide +kernel
theorem d_Mo_twist_61 : decode b_Mo_twist 61 = .ok (.iload 5, 2) := by decide +kernel
theorem d_Mo_twist_63 : decode b_Mo_twist 63 = .ok (.iload 7, 2) := by decide +kernel
theorem d_Mo_twist_65 : decode b_Mo_twist 65 = .ok (.iload 6, 2) := by decide +kernel
theorem d_Mo_twist_67 : decode b_Mo_twist 67 = .ok (.iload 6, 2) := by decide +kernel
theorem d_Mo_twist_69 : decode b_Mo_twist 69 = .ok (.iload 7, 2) := by decide +kernel
theorem d_Mo_twist_71 : decode b_Mo_twist 71 = .ok (.invokevirtual 82, 3) := by decide +kernel
theorem d_Mo_twist_74 : decode b_Mo_twist 74 = .ok (.iconst 1, 1) := by decide +kernel
theorem d_Mo_twist_75 : decode b_Mo_twist 75 = .ok (.ireturn, 1) := by decide +kernel
theorem d_Mo_twist_76 : decode b_Mo_twist 76 = .ok (.aload_n 1, 1) := by decide +kernel
theorem d_Mo_twist_77 : decode b_Mo_twist 77 = .ok (.iload_n 3, 1) := by decide +kernel
theorem d_Mo_twist_78 : decode b_Mo_twist 78 = .ok (.invokevirtual 86, 3) := by decide +kernel
theorem d_Mo_twist_81 : decode b_Mo_twist 81 = .ok (.istore 8, 2) := by decide +kernel
theorem d_Mo_twist_83 : decode b_Mo_twist 83 = .ok (.iload 8, 2) := by decide +kernel
theorem d_Mo_twist_85 : decode b_Mo_twist 85 = .ok (.ifCond .ge 5, 3) := by decide +kernel
theorem d_Mo_twist_88 : decode b_Mo_twist 88 = .ok (.iconst 0, 1) := by decide +kernel
theorem d_Mo_twist_89 : decode b_Mo_twist 89 = .ok (.ireturn, 1) := by decide +kernel
theorem d_Mo_twist_90 : decode b_Mo_twist 90 = .ok (.aload_n 2, 1) := by decide +kernel
theorem d_Mo_twist_91 : decode b_Mo_twist 91 = .ok (.getfield 72, 3) := by decide +kernel
theorem d_Mo_twist_94 : decode b_Mo_twist 94 = .ok (.aload_n 1, 1) := by decide +kernel
theorem d_Mo_twist_95 : decode b_Mo_twist 95 = .ok (.getfield 63, 3) := by decide +kernel
theorem d_Mo_twist_98 : decode b_Mo_twist 98 = .ok (.iload 8, 2) := by decide +kernel
theorem d_Mo_twist_100 : decode b_Mo_twist 100 = .ok (.iaload, 1) := by decide +kernel
theorem d_Mo_twist_101 : decode b_Mo_twist 101 = .ok (.iload 7, 2) := by decide +kernel
theorem d_Mo_twist_103 : decode b_Mo_twist 103 = .ok (.iastore, 1) := by decide +kernel
theorem d_Mo_twist_104 : decode b_Mo_twist 104 = .ok (.aload_n 2, 1) := by decide +kernel
theorem d_Mo_twist_105 : decode b_Mo_twist 105 = .ok (.iload 4, 2) := by decide +kernel
theorem d_Mo_twist_107 : decode b_Mo_twist 107 = .ok (.iload 5, 2) := by decide +kernel
theorem d_Mo_twist_109 : decode b_Mo_twist 109 = .ok (.iload_n 3, 1) := by decide +kernel
theorem d_Mo_twist_110 : decode b_Mo_twist 110 = .ok (.iload 6, 2) := by decide +kernel
theorem d_Mo_twist_112 : decode b_Mo_twist 112 = .ok (.iload 6, 2) := by decide +kernel
theorem d_Mo_twist_114 : decode b_Mo_twist 114 = .ok (.iload 7, 2) := by decide +kernel
theorem d_Mo_twist_116 : decode b_Mo_twist 116 = .ok (.invokevirtual 82, 3) := by decide +kernel
theorem d_Mo_twist_119 : decode b_Mo_twist 119 = .ok (.iconst 1, 1) := by decide +kernel
theorem d_Mo_twist_120 : decode b_Mo_twist 120 = .ok (.ireturn, 1) := by decide +kernel
theorem d_Mo_undo_0 : decode b_Mo_undo 0 = .ok (.iload 4, 2) := by decide +kernel
theorem d_Mo_undo_2 : decode b_Mo_undo 2 = .ok (.ifCond .lt 21, 3) := by decide +kernel
theorem d_Mo_undo_5 : decode b_Mo_undo 5 = .ok (.iload 4, 2) := by decide +kernel
theorem d_Mo_undo_7 : decode b_Mo_undo 7 = .ok (.aload_n 1, 1) := by decide +kernel
theorem d_Mo_undo_8 : decode b_Mo_undo 8 = .ok (.getfield 15, 3) := by decide +kernel
theorem d_Mo_undo_11 : decode b_Mo_undo 11 = .ok (.if_icmp .ge 12, 3) := by decide +kernel
theorem d_Mo_undo_14 : decode b_Mo_undo 14 = .ok (.aload_n 1, 1) := by decide +kernel
theorem d_Mo_undo_15 : decode b_Mo_undo 15 = .ok (.iload 4, 2) := by decide +kernel
theorem d_Mo_undo_17 : decode b_Mo_undo 17 = .ok (.invokevirtual 21, 3) := by decide +kernel
theorem d_Mo_undo_20 : decode b_Mo_undo 20 = .ok (.goto 4, 3) := by decide +kernel
theorem d_Mo_undo_23 : decode b_Mo_undo 23 = .ok (.iconst 0, 1) := by decide +kernel
theorem d_Mo_undo_24 : decode b_Mo_undo 24 = .ok (.istore 5, 2) := by decide +kernel
theorem d_Mo_undo_26 : decode b_Mo_undo 26 = .ok (.iload 5, 2) := by decide +kernel
theorem d_Mo_undo_28 : decode b_Mo_undo 28 = .ok (.iconst 1, 1) := by decide +kernel
theorem d_Mo_undo_29 : decode b_Mo_undo 29 = .ok (.if_icmp .eq 11, 3) := by decide +kernel
theorem d_Mo_undo_32 : decode b_Mo_undo 32 = .ok (.iload 5, 2) := by decide +kernel
theorem d_Mo_undo_34 : decode b_Mo_undo 34 = .ok (.iconst 2, 1) := by decide +kernel
theorem d_Mo_undo_35 : decode b_Mo_undo 35 = .ok (.if_icmp .eq 5, 3) := by decide +kernel
theorem d_Mo_undo_38 : decode b_Mo_undo 38 = .ok (.iconst 0, 1) := by decide +kernel
theorem d_Mo_undo_39 : decode b_Mo_undo 39 = .ok (.ireturn, 1) := by decide +kernel
theorem d_Mo_undo_40 : decode b_Mo_undo 40 = .ok (.aload_n 1, 1) := by decide +kernel
theorem d_Mo_undo_41 : decode b_Mo_undo 41 = .ok (.getfield 25, 3) := by decide +kernel
theorem d_Mo_undo_44 : decode b_Mo_undo 44 = .ok (.iload 4, 2) := by decide +kernel
theorem d_Mo_undo_46 : decode b_Mo_undo 46 = .ok (.iaload, 1) := by decide +kernel
theorem d_Mo_undo_47 : decode b_Mo_undo 47 = .ok (.istore 6, 2) := by decide +kernel
theorem d_Mo_undo_49 : decode b_Mo_undo 49 = .ok (.aload_n 1, 1) := by decide +kernel
theorem d_Mo_undo_50 : decode b_Mo_undo 50 = .ok (.iload 6, 2) := by decide +kernel
theorem d_Mo_undo_52 : decode b_Mo_undo 52 = .ok (.invokevirtual 28, 3) := by decide +kernel
theorem d_Mo_undo_55 : decode b_Mo_undo 55 = .ok (.iconst 2, 1) := by decide +kernel
theorem d_Mo_undo_56 : decode b_Mo_undo 56 = .ok (.ishr, 1) := by decide +kernel
theorem d_Mo_undo_57 : decode b_Mo_undo 57 = .ok (.istore 7, 2) := by decide +kernel
theorem d_Mo_undo_59 : decode b_Mo_undo 59 = .ok (.aload_n 1, 1) := by decide +kernel
theorem d_Mo_undo_60 : decode b_Mo_undo 60 = .ok (.aload_n 1, 1) := by decide +kernel
theorem d_Mo_undo_61 : decode b_Mo_undo 61 = .ok (.iload 6, 2) := by decide +kernel
theorem d_Mo_undo_63 : decode b_Mo_undo 63 = .ok (.invokevirtual 31, 3) := by decide +kernel
theorem d_Mo_undo_66 : decode b_Mo_undo 66 = .ok (.invokevirtual 28, 3) := by decide +kernel
theorem d_Mo_undo_69 : decode b_Mo_undo 69 = .ok (.iconst 2, 1) := by decide +kernel
theorem d_Mo_undo_70 : decode b_Mo_undo 70 = .ok (.ishr, 1) := by decide +kernel
theorem d_Mo_undo_71 : decode b_Mo_undo 71 = .ok (.istore 8, 2) := by decide +kernel
theorem d_Mo_undo_73 : decode b_Mo_undo 73 = .ok (.aload_n 3, 1) := by decide +kernel
theorem d_Mo_undo_74 : decode b_Mo_undo 74 = .ok (.aload_n 2, 1) := by decide +kernel
theorem d_Mo_undo_75 : decode b_Mo_undo 75 = .ok (.invokevirtual 34, 3) := by decide +kernel
theorem d_Mo_undo_78 : decode b_Mo_undo 78 = .ok (.aload_n 3, 1) := by decide +kernel
theorem d_Mo_undo_79 : decode b_Mo_undo 79 = .ok (.iload 7, 2) := by decide +kernel
theorem d_Mo_undo_81 : decode b_Mo_undo 81 = .ok (.iload 8, 2) := by decide +kernel
theorem d_Mo_undo_83 : decode b_Mo_undo 83 = .ok (.invokestatic 40, 3) := by decide +kernel
theorem d_Mo_undo_86 : decode b_Mo_undo 86 = .ok (.invokevirtual 46, 3) := by decide +kernel
theorem d_Mo_undo_89 : decode b_Mo_undo 89 = .ok (.iload 5, 2) := by decide +kernel
theorem d_Mo_undo_91 : decode b_Mo_undo 91 = .ok (.iconst 2, 1) := by decide +kernel
theorem d_Mo_undo_92 : decode b_Mo_undo 92 = .ok (.if_icmp .ne 16, 3) := by decide +kernel
theorem d_Mo_undo_95 : decode b_Mo_undo 95 = .ok (.aload_n 3, 1) := by decide +kernel
theorem d_Mo_undo_96 : decode b_Mo_undo 96 = .ok (.iload 7, 2) := by decide +kernel
theorem d_Mo_undo_98 : decode b_Mo_undo 98 = .ok (.iload 8, 2) := by decide +kernel
theorem d_Mo_undo_100 : decode b_Mo_undo 100 = .ok (.invokestatic 50, 3) := by decide +kernel
theorem d_Mo_undo_103 : decode b_Mo_undo 103 = .ok (.iconst 1, 1) := by decide +kernel
theorem d_Mo_undo_104 : decode b_Mo_undo 104 = .ok (.isub, 1) := by decide +kernel
theorem d_Mo_undo_105 : decode b_Mo_undo 105 = .ok (.invokevirtual 46, 3) := by decide +kernel
theorem d_Mo_undo_108 : decode b_Mo_undo 108 = .ok (.aload_n 3, 1) := by decide +kernel
theorem d_Mo_undo_109 : decode b_Mo_undo 109 = .ok (.getfield 53, 3) := by decide +kernel
theorem d_Mo_undo_112 : decode b_Mo_undo 112 = .ok (.bipush 20, 2) := by decide +kernel
theorem d_Mo_undo_114 : decode b_Mo_undo 114 = .ok (.if_icmp .gt 8, 3) := by decide +kernel
theorem d_Mo_undo_117 : decode b_Mo_undo 117 = .ok (.iload 5, 2) := by decide +kernel
theorem d_Mo_undo_119 : decode b_Mo_undo 119 = .ok (.goto 4, 3) := by decide +kernel
theorem d_Mo_undo_122 : decode b_Mo_undo 122 = .ok (.iconst 0, 1) := by decide +kernel
theorem d_Mo_undo_123 : decode b_Mo_undo 123 = .ok (.ireturn, 1) := by decide +kernel
theorem d_Pa_init_0 : decode b_Pa_init 0 = .ok (.aload_n 0, 1) := by decide +kernel
theorem d_Pa_init_1 : decode b_Pa_init 1 = .ok (.invokespecial 3, 3) := by decide +kernel
theorem d_Pa_init_4 : decode b_Pa_init 4 = .ok (.aload_n 0, 1) := by decide +kernel
theorem d_Pa_init_5 : decode b_Pa_init 5 = .ok (.sipush 4000, 3) := by decide +kernel
theorem d_Pa_init_8 : decode b_Pa_init 8 = .ok (.newarray .int, 2) := by decide +kernel
theorem d_Pa_init_10 : decode b_Pa_init 10 = .ok (.putfield 9, 3) := by decide +kernel
theorem d_Pa_init_13 : decode b_Pa_init 13 = .ok (.aload_n 0, 1) := by decide +kernel
theorem d_Pa_init_14 : decode b_Pa_init 14 = .ok (.bipush 20, 2) := by decide +kernel
theorem d_Pa_init_16 : decode b_Pa_init 16 = .ok (.newarray .int, 2) := by decide +kernel
theorem d_Pa_init_18 : decode b_Pa_init 18 = .ok (.putfield 15, 3) := by decide +kernel
theorem d_Pa_init_21 : decode b_Pa_init 21 = .ok (.return_, 1) := by decide +kernel
theorem d_Pa_put_0 : decode b_Pa_put 0 = .ok (.aload_n 0, 1) := by decide +kernel
theorem d_Pa_put_1 : decode b_Pa_put 1 = .ok (.getfield 18, 3) := by decide +kernel
theorem d_Pa_put_4 : decode b_Pa_put 4 = .ok (.sipush 4000, 3) := by decide +kernel
theorem d_Pa_put_7 : decode b_Pa_put 7 = .ok (.if_icmp .ge 26, 3) := by decide +kernel
theorem d_Pa_put_10 : decode b_Pa_put 10 = .ok (.aload_n 0, 1) := by decide +kernel
theorem d_Pa_put_11 : decode b_Pa_put 11 = .ok (.getfield 9, 3) := by decide +kernel
theorem d_Pa_put_14 : decode b_Pa_put 14 = .ok (.aload_n 0, 1) := by decide +kernel
theorem d_Pa_put_15 : decode b_Pa_put 15 = .ok (.getfield 18, 3) := by decide +kernel
theorem d_Pa_put_18 : decode b_Pa_put 18 = .ok (.iload_n 1, 1) := by decide +kernel
theorem d_Pa_put_19 : decode b_Pa_put 19 = .ok (.iastore, 1) := by decide +kernel
theorem d_Pa_put_20 : decode b_Pa_put 20 = .ok (.aload_n 0, 1) := by decide +kernel
theorem d_Pa_put_21 : decode b_Pa_put 21 = .ok (.dup, 1) := by decide +kernel
theorem d_Pa_put_22 : decode b_Pa_put 22 = .ok (.getfield 18, 3) := by decide +kernel
theorem d_Pa_put_25 : decode b_Pa_put 25 = .ok (.iconst 1, 1) := by decide +kernel
theorem d_Pa_put_26 : decode b_Pa_put 26 = .ok (.iadd, 1) := by decide +kernel
theorem d_Pa_put_27 : decode b_Pa_put 27 = .ok (.putfield 18, 3) := by decide +kernel
theorem d_Pa_put_30 : decode b_Pa_put 30 = .ok (.goto 8, 3) := by decide +kernel
theorem d_Pa_put_33 : decode b_Pa_put 33 = .ok (.aload_n 0, 1) := by decide +kernel
