theorem d_Pa_put_34 : decode b_Pa_put 34 = .ok (.iconst 1, 1) := by decide +kernel
theorem d_Pa_put_35 : decode b_Pa_put 35 = .ok (.putfield 22, 3) := by decide +kernel
theorem d_Pa_put_38 : decode b_Pa_put 38 = .ok (.return_, 1) := by decide +kernel
theorem d_Pa_putAnswer_0 : decode b_Pa_putAnswer 0 = .ok (.aload_n 0, 1) := by decide +kernel
theorem d_Pa_putAnswer_1 : decode b_Pa_putAnswer 1 = .ok (.ldc 40, 2) := by decide +kernel
theorem d_Pa_putAnswer_3 : decode b_Pa_putAnswer 3 = .ok (.invokevirtual 42, 3) := by decide +kernel
theorem d_Pa_putAnswer_6 : decode b_Pa_putAnswer 6 = .ok (.aload_n 0, 1) := by decide +kernel
theorem d_Pa_putAnswer_7 : decode b_Pa_putAnswer 7 = .ok (.aload_n 1, 1) := by decide +kernel
theorem d_Pa_putAnswer_8 : decode b_Pa_putAnswer 8 = .ok (.invokevirtual 42, 3) := by decide +kernel
theorem d_Pa_putAnswer_11 : decode b_Pa_putAnswer 11 = .ok (.aload_n 0, 1) := by decide +kernel
theorem d_Pa_putAnswer_12 : decode b_Pa_putAnswer 12 = .ok (.invokevirtual 46, 3) := by decide +kernel
theorem d_Pa_putAnswer_15 : decode b_Pa_putAnswer 15 = .ok (.return_, 1) := by decide +kernel
theorem d_Pa_putDiagram_0 : decode b_Pa_putDiagram 0 = .ok (.aload_n 0, 1) := by decide +kernel
theorem d_Pa_putDiagram_1 : decode b_Pa_putDiagram 1 = .ok (.iconst 1, 1) := by decide +kernel
theorem d_Pa_putDiagram_2 : decode b_Pa_putDiagram 2 = .ok (.invokestatic 61, 3) := by decide +kernel
theorem d_Pa_putDiagram_5 : decode b_Pa_putDiagram 5 = .ok (.invokevirtual 42, 3) := by decide +kernel
theorem d_Pa_putDiagram_8 : decode b_Pa_putDiagram 8 = .ok (.iconst 0, 1) := by decide +kernel
theorem d_Pa_putDiagram_9 : decode b_Pa_putDiagram 9 = .ok (.istore_n 2, 1) := by decide +kernel
theorem d_Pa_putDiagram_10 : decode b_Pa_putDiagram 10 = .ok (.iload_n 2, 1) := by decide +kernel
theorem d_Pa_putDiagram_11 : decode b_Pa_putDiagram 11 = .ok (.aload_n 1, 1) := by decide +kernel
theorem d_Pa_putDiagram_12 : decode b_Pa_putDiagram 12 = .ok (.getfield 65, 3) := by decide +kernel
theorem d_Pa_putDiagram_15 : decode b_Pa_putDiagram 15 = .ok (.if_icmp .ge 73, 3) := by decide +kernel
theorem d_Pa_putDiagram_18 : decode b_Pa_putDiagram 18 = .ok (.aload_n 0, 1) := by decide +kernel
theorem d_Pa_putDiagram_19 : decode b_Pa_putDiagram 19 = .ok (.aload_n 1, 1) := by decide +kernel
theorem d_Pa_putDiagram_20 : decode b_Pa_putDiagram 20 = .ok (.getfield 70, 3) := by decide +kernel
theorem d_Pa_putDiagram_23 : decode b_Pa_putDiagram 23 = .ok (.iload_n 2, 1) := by decide +kernel
theorem d_Pa_putDiagram_24 : decode b_Pa_putDiagram 24 = .ok (.iaload, 1) := by decide +kernel
theorem d_Pa_putDiagram_25 : decode b_Pa_putDiagram 25 = .ok (.ifCond .le 8, 3) := by decide +kernel
theorem d_Pa_putDiagram_28 : decode b_Pa_putDiagram 28 = .ok (.ldc 73, 2) := by decide +kernel
theorem d_Pa_putDiagram_30 : decode b_Pa_putDiagram 30 = .ok (.goto 5, 3) := by decide +kernel
theorem d_Pa_putDiagram_33 : decode b_Pa_putDiagram 33 = .ok (.ldc 75, 2) := by decide +kernel
theorem d_Pa_putDiagram_35 : decode b_Pa_putDiagram 35 = .ok (.invokevirtual 42, 3) := by decide +kernel
theorem d_Pa_putDiagram_38 : decode b_Pa_putDiagram 38 = .ok (.iconst 0, 1) := by decide +kernel
theorem d_Pa_putDiagram_39 : decode b_Pa_putDiagram 39 = .ok (.istore_n 3, 1) := by decide +kernel
theorem d_Pa_putDiagram_40 : decode b_Pa_putDiagram 40 = .ok (.iload_n 3, 1) := by decide +kernel
theorem d_Pa_putDiagram_41 : decode b_Pa_putDiagram 41 = .ok (.iconst 4, 1) := by decide +kernel
theorem d_Pa_putDiagram_42 : decode b_Pa_putDiagram 42 = .ok (.if_icmp .ge 34, 3) := by decide +kernel
theorem d_Pa_putDiagram_45 : decode b_Pa_putDiagram 45 = .ok (.iload_n 3, 1) := by decide +kernel
theorem d_Pa_putDiagram_46 : decode b_Pa_putDiagram 46 = .ok (.ifCond .le 9, 3) := by decide +kernel
theorem d_Pa_putDiagram_49 : decode b_Pa_putDiagram 49 = .ok (.aload_n 0, 1) := by decide +kernel
theorem d_Pa_putDiagram_50 : decode b_Pa_putDiagram 50 = .ok (.ldc 77, 2) := by decide +kernel
theorem d_Pa_putDiagram_52 : decode b_Pa_putDiagram 52 = .ok (.invokevirtual 42, 3) := by decide +kernel
theorem d_Pa_putDiagram_55 : decode b_Pa_putDiagram 55 = .ok (.aload_n 0, 1) := by decide +kernel
theorem d_Pa_putDiagram_56 : decode b_Pa_putDiagram 56 = .ok (.aload_n 1, 1) := by decide +kernel
theorem d_Pa_putDiagram_57 : decode b_Pa_putDiagram 57 = .ok (.getfield 79, 3) := by decide +kernel
theorem d_Pa_putDiagram_60 : decode b_Pa_putDiagram 60 = .ok (.iconst 4, 1) := by decide +kernel
theorem d_Pa_putDiagram_61 : decode b_Pa_putDiagram 61 = .ok (.iload_n 2, 1) := by decide +kernel
theorem d_Pa_putDiagram_62 : decode b_Pa_putDiagram 62 = .ok (.imul, 1) := by decide +kernel
theorem d_Pa_putDiagram_63 : decode b_Pa_putDiagram 63 = .ok (.iload_n 3, 1) := by decide +kernel
theorem d_Pa_putDiagram_64 : decode b_Pa_putDiagram 64 = .ok (.iadd, 1) := by decide +kernel
theorem d_Pa_putDiagram_65 : decode b_Pa_putDiagram 65 = .ok (.iaload, 1) := by decide +kernel
theorem d_Pa_putDiagram_66 : decode b_Pa_putDiagram 66 = .ok (.i2l, 1) := by decide +kernel
theorem d_Pa_putDiagram_67 : decode b_Pa_putDiagram 67 = .ok (.invokevirtual 57, 3) := by decide +kernel
theorem d_Pa_putDiagram_70 : decode b_Pa_putDiagram 70 = .ok (.iinc 3 1, 3) := by decide +kernel
theorem d_Pa_putDiagram_73 : decode b_Pa_putDiagram 73 = .ok (.goto (-33), 3) := by decide +kernel
theorem d_Pa_putDiagram_76 : decode b_Pa_putDiagram 76 = .ok (.aload_n 0, 1) := by decide +kernel
theorem d_Pa_putDiagram_77 : decode b_Pa_putDiagram 77 = .ok (.bipush 93, 2) := by decide +kernel
theorem d_Pa_putDiagram_79 : decode b_Pa_putDiagram 79 = .ok (.invokevirtual 26, 3) := by decide +kernel
theorem d_Pa_putDiagram_82 : decode b_Pa_putDiagram 82 = .ok (.iinc 2 1, 3) := by decide +kernel
theorem d_Pa_putDiagram_85 : decode b_Pa_putDiagram 85 = .ok (.goto (-75), 3) := by decide +kernel
theorem d_Pa_putDiagram_88 : decode b_Pa_putDiagram 88 = .ok (.aload_n 1, 1) := by decide +kernel
theorem d_Pa_putDiagram_89 : decode b_Pa_putDiagram 89 = .ok (.getfield 82, 3) := by decide +kernel
theorem d_Pa_putDiagram_92 : decode b_Pa_putDiagram 92 = .ok (.ifCond .le 18, 3) := by decide +kernel
theorem d_Pa_putDiagram_95 : decode b_Pa_putDiagram 95 = .ok (.aload_n 0, 1) := by decide +kernel
theorem d_Pa_putDiagram_96 : decode b_Pa_putDiagram 96 = .ok (.ldc 85, 2) := by decide +kernel
theorem d_Pa_putDiagram_98 : decode b_Pa_putDiagram 98 = .ok (.invokevirtual 42, 3) := by decide +kernel
theorem d_Pa_putDiagram_101 : decode b_Pa_putDiagram 101 = .ok (.aload_n 0, 1) := by decide +kernel
theorem d_Pa_putDiagram_102 : decode b_Pa_putDiagram 102 = .ok (.aload_n 1, 1) := by decide +kernel
theorem d_Pa_putDiagram_103 : decode b_Pa_putDiagram 103 = .ok (.getfield 82, 3) := by decide +kernel
theorem d_Pa_putDiagram_106 : decode b_Pa_putDiagram 106 = .ok (.i2l, 1) := by decide +kernel
theorem d_Pa_putDiagram_107 : decode b_Pa_putDiagram 107 = .ok (.invokevirtual 87, 3) := by decide +kernel
theorem d_Pa_putDiagram_110 : decode b_Pa_putDiagram 110 = .ok (.aload_n 0, 1) := by decide +kernel
theorem d_Pa_putDiagram_111 : decode b_Pa_putDiagram 111 = .ok (.invokevirtual 46, 3) := by decide +kernel
theorem d_Pa_putDiagram_114 : decode b_Pa_putDiagram 114 = .ok (.return_, 1) := by decide +kernel
theorem d_Pa_putEnd_0 : decode b_Pa_putEnd 0 = .ok (.aload_n 0, 1) := by decide +kernel
theorem d_Pa_putEnd_1 : decode b_Pa_putEnd 1 = .ok (.bipush 10, 2) := by decide +kernel
theorem d_Pa_putEnd_3 : decode b_Pa_putEnd 3 = .ok (.invokevirtual 26, 3) := by decide +kernel
theorem d_Pa_putEnd_6 : decode b_Pa_putEnd 6 = .ok (.return_, 1) := by decide +kernel
theorem d_Pa_putNumber_0 : decode b_Pa_putNumber 0 = .ok (.lload_n 1, 1) := by decide +kernel
theorem d_Pa_putNumber_1 : decode b_Pa_putNumber 1 = .ok (.lconst 0, 1) := by decide +kernel
theorem d_Pa_putNumber_2 : decode b_Pa_putNumber 2 = .ok (.lcmp, 1) := by decide +kernel
theorem d_Pa_putNumber_3 : decode b_Pa_putNumber 3 = .ok (.ifCond .ge 9, 3) := by decide +kernel
theorem d_Pa_putNumber_6 : decode b_Pa_putNumber 6 = .ok (.aload_n 0, 1) := by decide +kernel
theorem d_Pa_putNumber_7 : decode b_Pa_putNumber 7 = .ok (.bipush 45, 2) := by decide +kernel
theorem d_Pa_putNumber_9 : decode b_Pa_putNumber 9 = .ok (.invokevirtual 26, 3) := by decide +kernel
theorem d_Pa_putNumber_12 : decode b_Pa_putNumber 12 = .ok (.lload_n 1, 1) := by decide +kernel
theorem d_Pa_putNumber_13 : decode b_Pa_putNumber 13 = .ok (.lstore_n 3, 1) := by decide +kernel
theorem d_Pa_putNumber_14 : decode b_Pa_putNumber 14 = .ok (.iconst 0, 1) := by decide +kernel
theorem d_Pa_putNumber_15 : decode b_Pa_putNumber 15 = .ok (.istore 5, 2) := by decide +kernel
theorem d_Pa_putNumber_17 : decode b_Pa_putNumber 17 = .ok (.aload_n 0, 1) := by decide +kernel
theorem d_Pa_putNumber_18 : decode b_Pa_putNumber 18 = .ok (.getfield 15, 3) := by decide +kernel
theorem d_Pa_putNumber_21 : decode b_Pa_putNumber 21 = .ok (.iload 5, 2) := by decide +kernel
theorem d_Pa_putNumber_23 : decode b_Pa_putNumber 23 = .ok (.lload_n 3, 1) := by decide +kernel
theorem d_Pa_putNumber_24 : decode b_Pa_putNumber 24 = .ok (.ldc2_w 49, 3) := by decide +kernel
theorem d_Pa_putNumber_27 : decode b_Pa_putNumber 27 = .ok (.lrem, 1) := by decide +kernel
theorem d_Pa_putNumber_28 : decode b_Pa_putNumber 28 = .ok (.invokestatic 51, 3) := by decide +kernel
theorem d_Pa_putNumber_31 : decode b_Pa_putNumber 31 = .ok (.l2i, 1) := by decide +kernel
theorem d_Pa_putNumber_32 : decode b_Pa_putNumber 32 = .ok (.iastore, 1) := by decide +kernel
theorem d_Pa_putNumber_33 : decode b_Pa_putNumber 33 = .ok (.lload_n 3, 1) := by decide +kernel
theorem d_Pa_putNumber_34 : decode b_Pa_putNumber 34 = .ok (.ldc2_w 49, 3) := by decide +kernel
theorem d_Pa_putNumber_37 : decode b_Pa_putNumber 37 = .ok (.ldiv, 1) := by decide +kernel
theorem d_Pa_putNumber_38 : decode b_Pa_putNumber 38 = .ok (.lstore_n 3, 1) := by decide +kernel
theorem d_Pa_putNumber_39 : decode b_Pa_putNumber 39 = .ok (.iinc 5 1, 3) := by decide +kernel
theorem d_Pa_putNumber_42 : decode b_Pa_putNumber 42 = .ok (.lload_n 3, 1) := by decide +kernel
theorem d_Pa_putNumber_43 : decode b_Pa_putNumber 43 = .ok (.lconst 0, 1) := by decide +kernel
theorem d_Pa_putNumber_44 : decode b_Pa_putNumber 44 = .ok (.lcmp, 1) := by decide +kernel
theorem d_Pa_putNumber_45 : decode b_Pa_putNumber 45 = .ok (.ifCond .eq 10, 3) := by decide +kernel
theorem d_Pa_putNumber_48 : decode b_Pa_putNumber 48 = .ok (.iload 5, 2) := by decide +kernel
theorem d_Pa_putNumber_50 : decode b_Pa_putNumber 50 = .ok (.bipush 20, 2) := by decide +kernel
theorem d_Pa_putNumber_52 : decode b_Pa_putNumber 52 = .ok (.if_icmp .lt (-35), 3) := by decide +kernel
theorem d_Pa_putNumber_55 : decode b_Pa_putNumber 55 = .ok (.iload 5, 2) := by decide +kernel
theorem d_Pa_putNumber_57 : decode b_Pa_putNumber 57 = .ok (.iconst 1, 1) := by decide +kernel
theorem d_Pa_putNumber_58 : decode b_Pa_putNumber 58 = .ok (.isub, 1) := by decide +kernel
theorem d_Pa_putNumber_59 : decode b_Pa_putNumber 59 = .ok (.istore 6, 2) := by decide +kernel
theorem d_Pa_putNumber_61 : decode b_Pa_putNumber 61 = .ok (.iload 6, 2) := by decide +kernel
theorem d_Pa_putNumber_63 : decode b_Pa_putNumber 63 = .ok (.ifCond .lt 23, 3) := by decide +kernel
theorem d_Pa_putNumber_66 : decode b_Pa_putNumber 66 = .ok (.aload_n 0, 1) := by decide +kernel
theorem d_Pa_putNumber_67 : decode b_Pa_putNumber 67 = .ok (.bipush 48, 2) := by decide +kernel
theorem d_Pa_putNumber_69 : decode b_Pa_putNumber 69 = .ok (.aload_n 0, 1) := by decide +kernel
theorem d_Pa_putNumber_70 : decode b_Pa_putNumber 70 = .ok (.getfield 15, 3) := by decide +kernel
theorem d_Pa_putNumber_73 : decode b_Pa_putNumber 73 = .ok (.iload 6, 2) := by decide +kernel
theorem d_Pa_putNumber_75 : decode b_Pa_putNumber 75 = .ok (.iaload, 1) := by decide +kernel
theorem d_Pa_putNumber_76 : decode b_Pa_putNumber 76 = .ok (.iadd, 1) := by decide +kernel
theorem d_Pa_putNumber_77 : decode b_Pa_putNumber 77 = .ok (.invokevirtual 26, 3) := by decide +kernel
theorem d_Pa_putNumber_80 : decode b_Pa_putNumber 80 = .ok (.iinc 6 (-1), 3) := by decide +kernel
theorem d_Pa_putNumber_83 : decode b_Pa_putNumber 83 = .ok (.goto (-22), 3) := by decide +kernel
theorem d_Pa_putNumber_86 : decode b_Pa_putNumber 86 = .ok (.return_, 1) := by decide +kernel
theorem d_Pa_putPolynomial_0 : decode b_Pa_putPolynomial 0 = .ok (.aload_n 0, 1) := by decide +kernel
theorem d_Pa_putPolynomial_1 : decode b_Pa_putPolynomial 1 = .ok (.iload_n 1, 1) := by decide +kernel
theorem d_Pa_putPolynomial_2 : decode b_Pa_putPolynomial 2 = .ok (.invokestatic 61, 3) := by decide +kernel
theorem d_Pa_putPolynomial_5 : decode b_Pa_putPolynomial 5 = .ok (.invokevirtual 42, 3) := by decide +kernel
theorem d_Pa_putPolynomial_8 : decode b_Pa_putPolynomial 8 = .ok (.aload_n 0, 1) := by decide +kernel
theorem d_Pa_putPolynomial_9 : decode b_Pa_putPolynomial 9 = .ok (.ldc 90, 2) := by decide +kernel
theorem d_Pa_putPolynomial_11 : decode b_Pa_putPolynomial 11 = .ok (.invokevirtual 42, 3) := by decide +kernel
theorem d_Pa_putPolynomial_14 : decode b_Pa_putPolynomial 14 = .ok (.iconst 1, 1) := by decide +kernel
theorem d_Pa_putPolynomial_15 : decode b_Pa_putPolynomial 15 = .ok (.istore_n 3, 1) := by decide +kernel
theorem d_Pa_putPolynomial_16 : decode b_Pa_putPolynomial 16 = .ok (.aload_n 2, 1) := by decide +kernel
theorem d_Pa_putPolynomial_17 : decode b_Pa_putPolynomial 17 = .ok (.invokevirtual 92, 3) := by decide +kernel
theorem d_Pa_putPolynomial_20 : decode b_Pa_putPolynomial 20 = .ok (.istore 4, 2) := by decide +kernel
theorem d_Pa_putPolynomial_22 : decode b_Pa_putPolynomial 22 = .ok (.iload 4, 2) := by decide +kernel
theorem d_Pa_putPolynomial_24 : decode b_Pa_putPolynomial 24 = .ok (.aload_n 2, 1) := by decide +kernel
theorem d_Pa_putPolynomial_25 : decode b_Pa_putPolynomial 25 = .ok (.invokevirtual 97, 3) := by decide +kernel
theorem d_Pa_putPolynomial_28 : decode b_Pa_putPolynomial 28 = .ok (.if_icmp .gt 58, 3) := by decide +kernel
theorem d_Pa_putPolynomial_31 : decode b_Pa_putPolynomial 31 = .ok (.aload_n 2, 1) := by decide +kernel
theorem d_Pa_putPolynomial_32 : decode b_Pa_putPolynomial 32 = .ok (.iload 4, 2) := by decide +kernel
theorem d_Pa_putPolynomial_34 : decode b_Pa_putPolynomial 34 = .ok (.invokevirtual 100, 3) := by decide +kernel
theorem d_Pa_putPolynomial_37 : decode b_Pa_putPolynomial 37 = .ok (.lstore 5, 2) := by decide +kernel
theorem d_Pa_putPolynomial_39 : decode b_Pa_putPolynomial 39 = .ok (.lload 5, 2) := by decide +kernel
theorem d_Pa_putPolynomial_41 : decode b_Pa_putPolynomial 41 = .ok (.lconst 0, 1) := by decide +kernel
theorem d_Pa_putPolynomial_42 : decode b_Pa_putPolynomial 42 = .ok (.lcmp, 1) := by decide +kernel
theorem d_Pa_putPolynomial_43 : decode b_Pa_putPolynomial 43 = .ok (.ifCond .eq 37, 3) := by decide +kernel
theorem d_Pa_putPolynomial_46 : decode b_Pa_putPolynomial 46 = .ok (.aload_n 0, 1) := by decide +kernel
theorem d_Pa_putPolynomial_47 : decode b_Pa_putPolynomial 47 = .ok (.lload 5, 2) := by decide +kernel
theorem d_Pa_putPolynomial_49 : decode b_Pa_putPolynomial 49 = .ok (.lconst 0, 1) := by decide +kernel
theorem d_Pa_putPolynomial_50 : decode b_Pa_putPolynomial 50 = .ok (.lcmp, 1) := by decide +kernel
theorem d_Pa_putPolynomial_51 : decode b_Pa_putPolynomial 51 = .ok (.ifCond .ge 7, 3) := by decide +kernel
theorem d_Pa_putPolynomial_54 : decode b_Pa_putPolynomial 54 = .ok (.iconst 1, 1) := by decide +kernel
theorem d_Pa_putPolynomial_55 : decode b_Pa_putPolynomial 55 = .ok (.goto 4, 3) := by decide +kernel
theorem d_Pa_putPolynomial_58 : decode b_Pa_putPolynomial 58 = .ok (.iconst 0, 1) := by decide +kernel
theorem d_Pa_putPolynomial_59 : decode b_Pa_putPolynomial 59 = .ok (.iload_n 3, 1) := by decide +kernel
theorem d_Pa_putPolynomial_60 : decode b_Pa_putPolynomial 60 = .ok (.invokevirtual 104, 3) := by decide +kernel
theorem d_Pa_putPolynomial_63 : decode b_Pa_putPolynomial 63 = .ok (.aload_n 0, 1) := by decide +kernel
theorem d_Pa_putPolynomial_64 : decode b_Pa_putPolynomial 64 = .ok (.lload 5, 2) := by decide +kernel
theorem d_Pa_putPolynomial_66 : decode b_Pa_putPolynomial 66 = .ok (.invokestatic 51, 3) := by decide +kernel
theorem d_Pa_putPolynomial_69 : decode b_Pa_putPolynomial 69 = .ok (.iload 4, 2) := by decide +kernel
theorem d_Pa_putPolynomial_71 : decode b_Pa_putPolynomial 71 = .ok (.iload_n 1, 1) := by decide +kernel
theorem d_Pa_putPolynomial_72 : decode b_Pa_putPolynomial 72 = .ok (.invokestatic 108, 3) := by decide +kernel
theorem d_Pa_putPolynomial_75 : decode b_Pa_putPolynomial 75 = .ok (.invokevirtual 111, 3) := by decide +kernel
theorem d_Pa_putPolynomial_78 : decode b_Pa_putPolynomial 78 = .ok (.iconst 0, 1) := by decide +kernel
theorem d_Pa_putPolynomial_79 : decode b_Pa_putPolynomial 79 = .ok (.istore_n 3, 1) := by decide +kernel
theorem d_Pa_putPolynomial_80 : decode b_Pa_putPolynomial 80 = .ok (.iinc 4 1, 3) := by decide +kernel
theorem d_Pa_putPolynomial_83 : decode b_Pa_putPolynomial 83 = .ok (.goto (-61), 3) := by decide +kernel
theorem d_Pa_putPolynomial_86 : decode b_Pa_putPolynomial 86 = .ok (.iload_n 3, 1) := by decide +kernel
theorem d_Pa_putPolynomial_87 : decode b_Pa_putPolynomial 87 = .ok (.ifCond .eq 9, 3) := by decide +kernel
theorem d_Pa_putPolynomial_90 : decode b_Pa_putPolynomial 90 = .ok (.aload_n 0, 1) := by decide +kernel
theorem d_Pa_putPolynomial_91 : decode b_Pa_putPolynomial 91 = .ok (.bipush 48, 2) := by decide +kernel
theorem d_Pa_putPolynomial_93 : decode b_Pa_putPolynomial 93 = .ok (.invokevirtual 26, 3) := by decide +kernel
theorem d_Pa_putPolynomial_96 : decode b_Pa_putPolynomial 96 = .ok (.aload_n 0, 1) := by decide +kernel
theorem d_Pa_putPolynomial_97 : decode b_Pa_putPolynomial 97 = .ok (.invokevirtual 46, 3) := by decide +kernel
theorem d_Pa_putPolynomial_100 : decode b_Pa_putPolynomial 100 = .ok (.return_, 1) := by decide +kernel
theorem d_Pa_putSpaced_0 : decode b_Pa_putSpaced 0 = .ok (.aload_n 0, 1) := by decide +kernel
theorem d_Pa_putSpaced_1 : decode b_Pa_putSpaced 1 = .ok (.bipush 32, 2) := by decide +kernel
theorem d_Pa_putSpaced_3 : decode b_Pa_putSpaced 3 = .ok (.invokevirtual 26, 3) := by decide +kernel
theorem d_Pa_putSpaced_6 : decode b_Pa_putSpaced 6 = .ok (.aload_n 0, 1) := by decide +kernel
theorem d_Pa_putSpaced_7 : decode b_Pa_putSpaced 7 = .ok (.lload_n 1, 1) := by decide +kernel
theorem d_Pa_putSpaced_8 : decode b_Pa_putSpaced 8 = .ok (.invokevirtual 57, 3) := by decide +kernel
theorem d_Pa_putSpaced_11 : decode b_Pa_putSpaced 11 = .ok (.return_, 1) := by decide +kernel
theorem d_Pa_putTerm_0 : decode b_Pa_putTerm 0 = .ok (.lload_n 1, 1) := by decide +kernel
theorem d_Pa_putTerm_1 : decode b_Pa_putTerm 1 = .ok (.lconst 1, 1) := by decide +kernel
theorem d_Pa_putTerm_2 : decode b_Pa_putTerm 2 = .ok (.lcmp, 1) := by decide +kernel
theorem d_Pa_putTerm_3 : decode b_Pa_putTerm 3 = .ok (.ifCond .ne 7, 3) := by decide +kernel
theorem d_Pa_putTerm_6 : decode b_Pa_putTerm 6 = .ok (.iload_n 3, 1) := by decide +kernel
theorem d_Pa_putTerm_7 : decode b_Pa_putTerm 7 = .ok (.ifCond .ne 8, 3) := by decide +kernel
theorem d_Pa_putTerm_10 : decode b_Pa_putTerm 10 = .ok (.aload_n 0, 1) := by decide +kernel
theorem d_Pa_putTerm_11 : decode b_Pa_putTerm 11 = .ok (.lload_n 1, 1) := by decide +kernel
theorem d_Pa_putTerm_12 : decode b_Pa_putTerm 12 = .ok (.invokevirtual 57, 3) := by decide +kernel
theorem d_Pa_putTerm_15 : decode b_Pa_putTerm 15 = .ok (.iload_n 3, 1) := by decide +kernel
theorem d_Pa_putTerm_16 : decode b_Pa_putTerm 16 = .ok (.ifCond .eq 9, 3) := by decide +kernel
theorem d_Pa_putTerm_19 : decode b_Pa_putTerm 19 = .ok (.aload_n 0, 1) := by decide +kernel
theorem d_Pa_putTerm_20 : decode b_Pa_putTerm 20 = .ok (.aload 4, 2) := by decide +kernel
