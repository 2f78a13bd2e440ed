theorem d_Sh_checkSpheres_6 : decode b_Sh_checkSpheres 6 = .ok (.invokestatic 96, 3) := by decide +kernel
theorem d_Sh_checkSpheres_9 : decode b_Sh_checkSpheres 9 = .ok (.iconst 0, 1) := by decide +kernel
theorem d_Sh_checkSpheres_10 : decode b_Sh_checkSpheres 10 = .ok (.istore_n 2, 1) := by decide +kernel
theorem d_Sh_checkSpheres_11 : decode b_Sh_checkSpheres 11 = .ok (.iload_n 2, 1) := by decide +kernel
theorem d_Sh_checkSpheres_12 : decode b_Sh_checkSpheres 12 = .ok (.aload_n 0, 1) := by decide +kernel
theorem d_Sh_checkSpheres_13 : decode b_Sh_checkSpheres 13 = .ok (.getfield 58, 3) := by decide +kernel
theorem d_Sh_checkSpheres_16 : decode b_Sh_checkSpheres 16 = .ok (.if_icmp .ge 30, 3) := by decide +kernel
theorem d_Sh_checkSpheres_46 : decode b_Sh_checkSpheres 46 = .ok (.iconst 0, 1) := by decide +kernel
theorem d_Sh_checkSpheres_47 : decode b_Sh_checkSpheres 47 = .ok (.istore_n 2, 1) := by decide +kernel
theorem d_Sh_checkSpheres_48 : decode b_Sh_checkSpheres 48 = .ok (.iload_n 2, 1) := by decide +kernel
theorem d_Sh_checkSpheres_49 : decode b_Sh_checkSpheres 49 = .ok (.iload_n 1, 1) := by decide +kernel
theorem d_Sh_checkSpheres_50 : decode b_Sh_checkSpheres 50 = .ok (.if_icmp .ge 24, 3) := by decide +kernel
theorem d_Sh_checkSpheres_74 : decode b_Sh_checkSpheres 74 = .ok (.iconst 0, 1) := by decide +kernel
theorem d_Sh_checkSpheres_75 : decode b_Sh_checkSpheres 75 = .ok (.istore_n 2, 1) := by decide +kernel
theorem d_Sh_checkSpheres_76 : decode b_Sh_checkSpheres 76 = .ok (.iload_n 2, 1) := by decide +kernel
theorem d_Sh_checkSpheres_77 : decode b_Sh_checkSpheres 77 = .ok (.iload_n 1, 1) := by decide +kernel
theorem d_Sh_checkSpheres_78 : decode b_Sh_checkSpheres 78 = .ok (.if_icmp .ge 37, 3) := by decide +kernel
theorem d_Sh_checkSpheres_115 : decode b_Sh_checkSpheres 115 = .ok (.return_, 1) := by decide +kernel
theorem d_Di_shape_0 : decode b_Di_shape 0 = .ok (.aload_n 0, 1) := by decide +kernel
theorem d_Di_shape_1 : decode b_Di_shape 1 = .ok (.getfield 25, 3) := by decide +kernel
theorem d_Di_shape_4 : decode b_Di_shape 4 = .ok (.ifCond .ne 86, 3) := by decide +kernel
theorem d_Di_shape_7 : decode b_Di_shape 7 = .ok (.aload_n 0, 1) := by decide +kernel
theorem d_Di_shape_8 : decode b_Di_shape 8 = .ok (.iconst 1, 1) := by decide +kernel
theorem d_Di_shape_9 : decode b_Di_shape 9 = .ok (.putfield 25, 3) := by decide +kernel
theorem d_Di_shape_12 : decode b_Di_shape 12 = .ok (.aload_n 0, 1) := by decide +kernel
theorem d_Di_shape_13 : decode b_Di_shape 13 = .ok (.getfield 21, 3) := by decide +kernel
theorem d_Di_shape_16 : decode b_Di_shape 16 = .ok (.invokevirtual 29, 3) := by decide +kernel
theorem d_Di_shape_19 : decode b_Di_shape 19 = .ok (.aload_n 0, 1) := by decide +kernel
theorem d_Di_shape_20 : decode b_Di_shape 20 = .ok (.getfield 21, 3) := by decide +kernel
theorem d_Di_shape_23 : decode b_Di_shape 23 = .ok (.aload_n 0, 1) := by decide +kernel
theorem d_Di_shape_24 : decode b_Di_shape 24 = .ok (.invokevirtual 32, 3) := by decide +kernel
theorem d_Di_shape_27 : decode b_Di_shape 27 = .ok (.aload_n 0, 1) := by decide +kernel
theorem d_Di_shape_28 : decode b_Di_shape 28 = .ok (.getfield 21, 3) := by decide +kernel
theorem d_Di_shape_31 : decode b_Di_shape 31 = .ok (.iconst 4, 1) := by decide +kernel
theorem d_Di_shape_32 : decode b_Di_shape 32 = .ok (.aload_n 0, 1) := by decide +kernel
theorem d_Di_shape_33 : decode b_Di_shape 33 = .ok (.getfield 36, 3) := by decide +kernel
theorem d_Di_shape_36 : decode b_Di_shape 36 = .ok (.imul, 1) := by decide +kernel
theorem d_Di_shape_37 : decode b_Di_shape 37 = .ok (.invokevirtual 40, 3) := by decide +kernel
theorem d_Di_shape_40 : decode b_Di_shape 40 = .ok (.ifCond .eq 50, 3) := by decide +kernel
theorem d_Di_shape_43 : decode b_Di_shape 43 = .ok (.aload_n 0, 1) := by decide +kernel
theorem d_Di_shape_44 : decode b_Di_shape 44 = .ok (.getfield 21, 3) := by decide +kernel
theorem d_Di_shape_47 : decode b_Di_shape 47 = .ok (.aload_n 0, 1) := by decide +kernel
theorem d_Di_shape_48 : decode b_Di_shape 48 = .ok (.invokevirtual 44, 3) := by decide +kernel
theorem d_Di_shape_51 : decode b_Di_shape 51 = .ok (.ifCond .eq 39, 3) := by decide +kernel
theorem d_Di_shape_54 : decode b_Di_shape 54 = .ok (.aload_n 0, 1) := by decide +kernel
theorem d_Di_shape_55 : decode b_Di_shape 55 = .ok (.getfield 21, 3) := by decide +kernel
theorem d_Di_shape_58 : decode b_Di_shape 58 = .ok (.aload_n 0, 1) := by decide +kernel
theorem d_Di_shape_59 : decode b_Di_shape 59 = .ok (.getfield 36, 3) := by decide +kernel
theorem d_Di_shape_62 : decode b_Di_shape 62 = .ok (.invokevirtual 48, 3) := by decide +kernel
theorem d_Di_shape_65 : decode b_Di_shape 65 = .ok (.aload_n 0, 1) := by decide +kernel
theorem d_Di_shape_66 : decode b_Di_shape 66 = .ok (.getfield 21, 3) := by decide +kernel
theorem d_Di_shape_69 : decode b_Di_shape 69 = .ok (.invokevirtual 52, 3) := by decide +kernel
theorem d_Di_shape_72 : decode b_Di_shape 72 = .ok (.aload_n 0, 1) := by decide +kernel
theorem d_Di_shape_73 : decode b_Di_shape 73 = .ok (.getfield 21, 3) := by decide +kernel
theorem d_Di_shape_76 : decode b_Di_shape 76 = .ok (.invokevirtual 55, 3) := by decide +kernel
theorem d_Di_shape_79 : decode b_Di_shape 79 = .ok (.aload_n 0, 1) := by decide +kernel
theorem d_Di_shape_80 : decode b_Di_shape 80 = .ok (.getfield 21, 3) := by decide +kernel
theorem d_Di_shape_83 : decode b_Di_shape 83 = .ok (.aload_n 0, 1) := by decide +kernel
theorem d_Di_shape_84 : decode b_Di_shape 84 = .ok (.getfield 36, 3) := by decide +kernel
theorem d_Di_shape_87 : decode b_Di_shape 87 = .ok (.invokevirtual 58, 3) := by decide +kernel
theorem d_Di_shape_90 : decode b_Di_shape 90 = .ok (.aload_n 0, 1) := by decide +kernel
theorem d_Di_shape_91 : decode b_Di_shape 91 = .ok (.getfield 21, 3) := by decide +kernel
theorem d_Di_shape_94 : decode b_Di_shape 94 = .ok (.areturn, 1) := by decide +kernel
theorem d_Di_sumOfSigns_0 : decode b_Di_sumOfSigns 0 = .ok (.iconst 0, 1) := by decide +kernel
theorem d_Di_sumOfSigns_1 : decode b_Di_sumOfSigns 1 = .ok (.istore_n 1, 1) := by decide +kernel
theorem d_Di_sumOfSigns_2 : decode b_Di_sumOfSigns 2 = .ok (.iconst 0, 1) := by decide +kernel
theorem d_Di_sumOfSigns_3 : decode b_Di_sumOfSigns 3 = .ok (.istore_n 2, 1) := by decide +kernel
theorem d_Di_sumOfSigns_4 : decode b_Di_sumOfSigns 4 = .ok (.iload_n 2, 1) := by decide +kernel
theorem d_Di_sumOfSigns_5 : decode b_Di_sumOfSigns 5 = .ok (.aload_n 0, 1) := by decide +kernel
theorem d_Di_sumOfSigns_6 : decode b_Di_sumOfSigns 6 = .ok (.getfield 36, 3) := by decide +kernel
theorem d_Di_sumOfSigns_9 : decode b_Di_sumOfSigns 9 = .ok (.if_icmp .ge 18, 3) := by decide +kernel
theorem d_Di_sumOfSigns_27 : decode b_Di_sumOfSigns 27 = .ok (.iload_n 1, 1) := by decide +kernel
theorem d_Di_sumOfSigns_28 : decode b_Di_sumOfSigns 28 = .ok (.ireturn, 1) := by decide +kernel
theorem d_En_state_0 : decode b_En_state 0 = .ok (.iload_n 1, 1) := by decide +kernel
theorem d_En_state_1 : decode b_En_state 1 = .ok (.tableswitch 119 0 7 #[47, 55, 63, 71, 79, 87, 106, 114], 47) := by decide +kernel
theorem d_En_state_48 : decode b_En_state 48 = .ok (.aload_n 0, 1) := by decide +kernel
theorem d_En_state_49 : decode b_En_state 49 = .ok (.getfield 27, 3) := by decide +kernel
theorem d_En_state_52 : decode b_En_state 52 = .ok (.invokevirtual 126, 3) := by decide +kernel
theorem d_En_state_55 : decode b_En_state 55 = .ok (.ireturn, 1) := by decide +kernel
theorem d_En_state_56 : decode b_En_state 56 = .ok (.aload_n 0, 1) := by decide +kernel
theorem d_En_state_57 : decode b_En_state 57 = .ok (.getfield 27, 3) := by decide +kernel
theorem d_En_state_60 : decode b_En_state 60 = .ok (.invokevirtual 135, 3) := by decide +kernel
theorem d_En_state_63 : decode b_En_state 63 = .ok (.ireturn, 1) := by decide +kernel
theorem d_En_state_64 : decode b_En_state 64 = .ok (.aload_n 0, 1) := by decide +kernel
theorem d_En_state_65 : decode b_En_state 65 = .ok (.getfield 66, 3) := by decide +kernel
theorem d_En_state_68 : decode b_En_state 68 = .ok (.getfield 157, 3) := by decide +kernel
theorem d_En_state_71 : decode b_En_state 71 = .ok (.ireturn, 1) := by decide +kernel
theorem d_En_state_72 : decode b_En_state 72 = .ok (.aload_n 0, 1) := by decide +kernel
theorem d_En_state_73 : decode b_En_state 73 = .ok (.getfield 66, 3) := by decide +kernel
theorem d_En_state_76 : decode b_En_state 76 = .ok (.getfield 160, 3) := by decide +kernel
theorem d_En_state_79 : decode b_En_state 79 = .ok (.ireturn, 1) := by decide +kernel
theorem d_En_state_80 : decode b_En_state 80 = .ok (.aload_n 0, 1) := by decide +kernel
theorem d_En_state_81 : decode b_En_state 81 = .ok (.getfield 66, 3) := by decide +kernel
theorem d_En_state_84 : decode b_En_state 84 = .ok (.invokevirtual 163, 3) := by decide +kernel
theorem d_En_state_87 : decode b_En_state 87 = .ok (.ireturn, 1) := by decide +kernel
theorem d_En_state_88 : decode b_En_state 88 = .ok (.aload_n 0, 1) := by decide +kernel
theorem d_En_state_89 : decode b_En_state 89 = .ok (.getfield 66, 3) := by decide +kernel
theorem d_En_state_92 : decode b_En_state 92 = .ok (.invokevirtual 166, 3) := by decide +kernel
theorem d_En_state_95 : decode b_En_state 95 = .ok (.getfield 170, 3) := by decide +kernel
theorem d_En_state_98 : decode b_En_state 98 = .ok (.aload_n 0, 1) := by decide +kernel
theorem d_En_state_99 : decode b_En_state 99 = .ok (.getfield 66, 3) := by decide +kernel
theorem d_En_state_102 : decode b_En_state 102 = .ok (.getfield 160, 3) := by decide +kernel
theorem d_En_state_105 : decode b_En_state 105 = .ok (.iadd, 1) := by decide +kernel
theorem d_En_state_106 : decode b_En_state 106 = .ok (.ireturn, 1) := by decide +kernel
theorem d_En_state_107 : decode b_En_state 107 = .ok (.aload_n 0, 1) := by decide +kernel
theorem d_En_state_108 : decode b_En_state 108 = .ok (.getfield 31, 3) := by decide +kernel
theorem d_En_state_111 : decode b_En_state 111 = .ok (.getfield 138, 3) := by decide +kernel
theorem d_En_state_114 : decode b_En_state 114 = .ok (.ireturn, 1) := by decide +kernel
theorem d_En_state_115 : decode b_En_state 115 = .ok (.aload_n 0, 1) := by decide +kernel
theorem d_En_state_116 : decode b_En_state 116 = .ok (.getfield 89, 3) := by decide +kernel
theorem d_En_state_119 : decode b_En_state 119 = .ok (.ireturn, 1) := by decide +kernel
theorem d_En_state_120 : decode b_En_state 120 = .ok (.sipush (-1000), 3) := by decide +kernel
theorem d_En_state_123 : decode b_En_state 123 = .ok (.ireturn, 1) := by decide +kernel
theorem d_Md_feedOne_0 : decode b_Md_feedOne 0 = .ok (.bipush 24, 2) := by decide +kernel
theorem d_Md_feedOne_2 : decode b_Md_feedOne 2 = .ok (.istore_n 2, 1) := by decide +kernel
theorem d_Md_feedOne_3 : decode b_Md_feedOne 3 = .ok (.iload_n 2, 1) := by decide +kernel
theorem d_Md_feedOne_4 : decode b_Md_feedOne 4 = .ok (.ifCond .lt 32, 3) := by decide +kernel
theorem d_Md_feedOne_7 : decode b_Md_feedOne 7 = .ok (.aload_n 0, 1) := by decide +kernel
theorem d_Md_feedOne_8 : decode b_Md_feedOne 8 = .ok (.getfield 9, 3) := by decide +kernel
theorem d_Md_feedOne_11 : decode b_Md_feedOne 11 = .ok (.aload_n 0, 1) := by decide +kernel
theorem d_Md_feedOne_12 : decode b_Md_feedOne 12 = .ok (.getfield 296, 3) := by decide +kernel
theorem d_Md_feedOne_15 : decode b_Md_feedOne 15 = .ok (.iload_n 1, 1) := by decide +kernel
theorem d_Md_feedOne_16 : decode b_Md_feedOne 16 = .ok (.iload_n 2, 1) := by decide +kernel
theorem d_Md_feedOne_17 : decode b_Md_feedOne 17 = .ok (.ishr, 1) := by decide +kernel
theorem d_Md_feedOne_18 : decode b_Md_feedOne 18 = .ok (.i2b, 1) := by decide +kernel
theorem d_Md_feedOne_19 : decode b_Md_feedOne 19 = .ok (.bastore, 1) := by decide +kernel
theorem d_Md_feedOne_20 : decode b_Md_feedOne 20 = .ok (.aload_n 0, 1) := by decide +kernel
theorem d_Md_feedOne_21 : decode b_Md_feedOne 21 = .ok (.dup, 1) := by decide +kernel
theorem d_Md_feedOne_22 : decode b_Md_feedOne 22 = .ok (.getfield 296, 3) := by decide +kernel
theorem d_Md_feedOne_25 : decode b_Md_feedOne 25 = .ok (.iconst 1, 1) := by decide +kernel
theorem d_Md_feedOne_26 : decode b_Md_feedOne 26 = .ok (.iadd, 1) := by decide +kernel
theorem d_Md_feedOne_27 : decode b_Md_feedOne 27 = .ok (.putfield 296, 3) := by decide +kernel
theorem d_Md_feedOne_30 : decode b_Md_feedOne 30 = .ok (.iinc 2 (-8), 3) := by decide +kernel
theorem d_Md_feedOne_33 : decode b_Md_feedOne 33 = .ok (.goto (-30), 3) := by decide +kernel
theorem d_Md_feedOne_36 : decode b_Md_feedOne 36 = .ok (.return_, 1) := by decide +kernel
theorem d_Md_feed_0 : decode b_Md_feed 0 = .ok (.aload_n 0, 1) := by decide +kernel
theorem d_Md_feed_1 : decode b_Md_feed 1 = .ok (.getfield 296, 3) := by decide +kernel
theorem d_Md_feed_4 : decode b_Md_feed 4 = .ok (.bipush 20, 2) := by decide +kernel
theorem d_Md_feed_6 : decode b_Md_feed 6 = .ok (.iadd, 1) := by decide +kernel
theorem d_Md_feed_7 : decode b_Md_feed 7 = .ok (.sipush 4000, 3) := by decide +kernel
theorem d_Md_feed_10 : decode b_Md_feed 10 = .ok (.if_icmp .le 5, 3) := by decide +kernel
theorem d_Md_feed_15 : decode b_Md_feed 15 = .ok (.aload_n 0, 1) := by decide +kernel
theorem d_Md_feed_16 : decode b_Md_feed 16 = .ok (.iload_n 1, 1) := by decide +kernel
theorem d_Md_feed_17 : decode b_Md_feed 17 = .ok (.invokevirtual 680, 3) := by decide +kernel
theorem d_Md_feed_20 : decode b_Md_feed 20 = .ok (.aload_n 0, 1) := by decide +kernel
theorem d_Md_feed_21 : decode b_Md_feed 21 = .ok (.iload_n 2, 1) := by decide +kernel
theorem d_Md_feed_22 : decode b_Md_feed 22 = .ok (.invokevirtual 680, 3) := by decide +kernel
theorem d_Md_feed_25 : decode b_Md_feed 25 = .ok (.aload_n 0, 1) := by decide +kernel
theorem d_Md_feed_26 : decode b_Md_feed 26 = .ok (.iload_n 3, 1) := by decide +kernel
theorem d_Md_feed_27 : decode b_Md_feed 27 = .ok (.invokevirtual 680, 3) := by decide +kernel
theorem d_Md_feed_30 : decode b_Md_feed 30 = .ok (.aload_n 0, 1) := by decide +kernel
theorem d_Md_feed_31 : decode b_Md_feed 31 = .ok (.iload 4, 2) := by decide +kernel
theorem d_Md_feed_33 : decode b_Md_feed 33 = .ok (.invokevirtual 680, 3) := by decide +kernel
theorem d_Md_feed_36 : decode b_Md_feed 36 = .ok (.aload_n 0, 1) := by decide +kernel
theorem d_Md_feed_37 : decode b_Md_feed 37 = .ok (.iload 5, 2) := by decide +kernel
theorem d_Md_feed_39 : decode b_Md_feed 39 = .ok (.invokevirtual 680, 3) := by decide +kernel
theorem d_Md_feed_42 : decode b_Md_feed 42 = .ok (.aload_n 0, 1) := by decide +kernel
theorem d_Md_feed_43 : decode b_Md_feed 43 = .ok (.getfield 296, 3) := by decide +kernel
theorem d_Md_feed_46 : decode b_Md_feed 46 = .ok (.ireturn, 1) := by decide +kernel
theorem d_Md_fault_0 : decode b_Md_fault 0 = .ok (.aload_n 0, 1) := by decide +kernel
theorem d_Md_fault_1 : decode b_Md_fault 1 = .ok (.getfield 299, 3) := by decide +kernel
theorem d_Md_fault_4 : decode b_Md_fault 4 = .ok (.ifCond .ne 7, 3) := by decide +kernel
theorem d_Md_fault_7 : decode b_Md_fault 7 = .ok (.iconst (-1), 1) := by decide +kernel
theorem d_Md_fault_8 : decode b_Md_fault 8 = .ok (.goto 27, 3) := by decide +kernel
theorem d_Md_fault_35 : decode b_Md_fault 35 = .ok (.ireturn, 1) := by decide +kernel
theorem d_Md_look_0 : decode b_Md_look 0 = .ok (.aload_n 0, 1) := by decide +kernel
theorem d_Md_look_1 : decode b_Md_look 1 = .ok (.iconst 0, 1) := by decide +kernel
theorem d_Md_look_2 : decode b_Md_look 2 = .ok (.putfield 129, 3) := by decide +kernel
theorem d_Md_look_5 : decode b_Md_look 5 = .ok (.aload_n 0, 1) := by decide +kernel
theorem d_Md_look_6 : decode b_Md_look 6 = .ok (.getfield 126, 3) := by decide +kernel
theorem d_Md_look_9 : decode b_Md_look 9 = .ok (.ifCond .eq 4, 3) := by decide +kernel
theorem d_Md_look_13 : decode b_Md_look 13 = .ok (.iconst 0, 1) := by decide +kernel
theorem d_Md_look_14 : decode b_Md_look 14 = .ok (.istore_n 1, 1) := by decide +kernel
theorem d_Md_look_15 : decode b_Md_look 15 = .ok (.iconst 0, 1) := by decide +kernel
theorem d_Md_look_16 : decode b_Md_look 16 = .ok (.istore_n 2, 1) := by decide +kernel
theorem d_Md_look_17 : decode b_Md_look 17 = .ok (.aload_n 0, 1) := by decide +kernel
theorem d_Md_look_18 : decode b_Md_look 18 = .ok (.getfield 132, 3) := by decide +kernel
theorem d_Md_look_21 : decode b_Md_look 21 = .ok (.aload_n 0, 1) := by decide +kernel
theorem d_Md_look_22 : decode b_Md_look 22 = .ok (.getfield 135, 3) := by decide +kernel
theorem d_Md_look_25 : decode b_Md_look 25 = .ok (.if_icmp .ge 106, 3) := by decide +kernel
theorem d_Md_look_131 : decode b_Md_look 131 = .ok (.aload_n 0, 1) := by decide +kernel
theorem d_Md_look_132 : decode b_Md_look 132 = .ok (.aload_n 0, 1) := by decide +kernel
theorem d_Md_look_133 : decode b_Md_look 133 = .ok (.getfield 132, 3) := by decide +kernel
theorem d_Md_look_136 : decode b_Md_look 136 = .ok (.putfield 142, 3) := by decide +kernel
theorem d_Md_look_139 : decode b_Md_look 139 = .ok (.iload_n 2, 1) := by decide +kernel
theorem d_Md_look_140 : decode b_Md_look 140 = .ok (.ifCond .ne 4, 3) := by decide +kernel
theorem d_Md_look_143 : decode b_Md_look 143 = .ok (.return_, 1) := by decide +kernel
theorem d_Md_readText_0 : decode b_Md_readText 0 = .ok (.aload_n 0, 1) := by decide +kernel
theorem d_Md_readText_1 : decode b_Md_readText 1 = .ok (.iconst 0, 1) := by decide +kernel
theorem d_Md_readText_2 : decode b_Md_readText 2 = .ok (.putfield 132, 3) := by decide +kernel
theorem d_Md_readText_5 : decode b_Md_readText 5 = .ok (.aload_n 0, 1) := by decide +kernel
theorem d_Md_readText_6 : decode b_Md_readText 6 = .ok (.iconst 0, 1) := by decide +kernel
theorem d_Md_readText_7 : decode b_Md_readText 7 = .ok (.putfield 284, 3) := by decide +kernel
theorem d_Md_readText_10 : decode b_Md_readText 10 = .ok (.aload_n 0, 1) := by decide +kernel
theorem d_Md_readText_11 : decode b_Md_readText 11 = .ok (.iconst 0, 1) := by decide +kernel
theorem d_Md_readText_12 : decode b_Md_readText 12 = .ok (.putfield 290, 3) := by decide +kernel
theorem d_Md_readText_15 : decode b_Md_readText 15 = .ok (.aload_n 0, 1) := by decide +kernel
theorem d_Md_readText_16 : decode b_Md_readText 16 = .ok (.iconst 0, 1) := by decide +kernel
theorem d_Md_readText_17 : decode b_Md_readText 17 = .ok (.putfield 189, 3) := by decide +kernel
theorem d_Md_readText_20 : decode b_Md_readText 20 = .ok (.aload_n 0, 1) := by decide +kernel
