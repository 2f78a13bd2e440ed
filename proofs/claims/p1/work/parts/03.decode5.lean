theorem d_Sh_edgesHaveDirections_131 : decode b_Sh_edgesHaveDirections 131 = .ok (.aload_n 0, 1) := by decide +kernel
theorem d_Sh_edgesHaveDirections_132 : decode b_Sh_edgesHaveDirections 132 = .ok (.iconst 2, 1) := by decide +kernel
theorem d_Sh_edgesHaveDirections_133 : decode b_Sh_edgesHaveDirections 133 = .ok (.aload_n 1, 1) := by decide +kernel
theorem d_Sh_edgesHaveDirections_134 : decode b_Sh_edgesHaveDirections 134 = .ok (.getfield 67, 3) := by decide +kernel
theorem d_Sh_edgesHaveDirections_137 : decode b_Sh_edgesHaveDirections 137 = .ok (.imul, 1) := by decide +kernel
theorem d_Sh_edgesHaveDirections_138 : decode b_Sh_edgesHaveDirections 138 = .ok (.putfield 48, 3) := by decide +kernel
theorem d_Sh_edgesHaveDirections_141 : decode b_Sh_edgesHaveDirections 141 = .ok (.iconst 1, 1) := by decide +kernel
theorem d_Sh_edgesHaveDirections_142 : decode b_Sh_edgesHaveDirections 142 = .ok (.ireturn, 1) := by decide +kernel
theorem d_Sh_findPieces_0 : decode b_Sh_findPieces 0 = .ok (.iconst 0, 1) := by decide +kernel
theorem d_Sh_findPieces_1 : decode b_Sh_findPieces 1 = .ok (.istore_n 2, 1) := by decide +kernel
theorem d_Sh_findPieces_2 : decode b_Sh_findPieces 2 = .ok (.iload_n 2, 1) := by decide +kernel
theorem d_Sh_findPieces_3 : decode b_Sh_findPieces 3 = .ok (.iload_n 1, 1) := by decide +kernel
theorem d_Sh_findPieces_4 : decode b_Sh_findPieces 4 = .ok (.if_icmp .ge 16, 3) := by decide +kernel
theorem d_Sh_findPieces_20 : decode b_Sh_findPieces 20 = .ok (.aload_n 0, 1) := by decide +kernel
theorem d_Sh_findPieces_21 : decode b_Sh_findPieces 21 = .ok (.iload_n 1, 1) := by decide +kernel
theorem d_Sh_findPieces_22 : decode b_Sh_findPieces 22 = .ok (.putfield 55, 3) := by decide +kernel
theorem d_Sh_findPieces_25 : decode b_Sh_findPieces 25 = .ok (.iconst 0, 1) := by decide +kernel
theorem d_Sh_findPieces_26 : decode b_Sh_findPieces 26 = .ok (.istore_n 2, 1) := by decide +kernel
theorem d_Sh_findPieces_27 : decode b_Sh_findPieces 27 = .ok (.iload_n 2, 1) := by decide +kernel
theorem d_Sh_findPieces_28 : decode b_Sh_findPieces 28 = .ok (.aload_n 0, 1) := by decide +kernel
theorem d_Sh_findPieces_29 : decode b_Sh_findPieces 29 = .ok (.getfield 48, 3) := by decide +kernel
theorem d_Sh_findPieces_32 : decode b_Sh_findPieces 32 = .ok (.if_icmp .ge 119, 3) := by decide +kernel
theorem d_Sh_findPieces_151 : decode b_Sh_findPieces 151 = .ok (.return_, 1) := by decide +kernel
theorem d_Sh_findFaces_0 : decode b_Sh_findFaces 0 = .ok (.aload_n 0, 1) := by decide +kernel
theorem d_Sh_findFaces_1 : decode b_Sh_findFaces 1 = .ok (.getfield 36, 3) := by decide +kernel
theorem d_Sh_findFaces_4 : decode b_Sh_findFaces 4 = .ok (.iconst (-1), 1) := by decide +kernel
theorem d_Sh_findFaces_5 : decode b_Sh_findFaces 5 = .ok (.invokestatic 96, 3) := by decide +kernel
theorem d_Sh_findFaces_8 : decode b_Sh_findFaces 8 = .ok (.iconst 0, 1) := by decide +kernel
theorem d_Sh_findFaces_9 : decode b_Sh_findFaces 9 = .ok (.istore_n 1, 1) := by decide +kernel
theorem d_Sh_findFaces_10 : decode b_Sh_findFaces 10 = .ok (.iload_n 1, 1) := by decide +kernel
theorem d_Sh_findFaces_11 : decode b_Sh_findFaces 11 = .ok (.iconst 2, 1) := by decide +kernel
theorem d_Sh_findFaces_12 : decode b_Sh_findFaces 12 = .ok (.aload_n 0, 1) := by decide +kernel
theorem d_Sh_findFaces_13 : decode b_Sh_findFaces 13 = .ok (.getfield 48, 3) := by decide +kernel
theorem d_Sh_findFaces_16 : decode b_Sh_findFaces 16 = .ok (.imul, 1) := by decide +kernel
theorem d_Sh_findFaces_17 : decode b_Sh_findFaces 17 = .ok (.if_icmp .ge 89, 3) := by decide +kernel
theorem d_Sh_findFaces_106 : decode b_Sh_findFaces 106 = .ok (.return_, 1) := by decide +kernel
theorem d_Sh_findComponents_0 : decode b_Sh_findComponents 0 = .ok (.aload_n 0, 1) := by decide +kernel
theorem d_Sh_findComponents_1 : decode b_Sh_findComponents 1 = .ok (.getfield 27, 3) := by decide +kernel
theorem d_Sh_findComponents_4 : decode b_Sh_findComponents 4 = .ok (.iconst (-1), 1) := by decide +kernel
theorem d_Sh_findComponents_5 : decode b_Sh_findComponents 5 = .ok (.invokestatic 96, 3) := by decide +kernel
theorem d_Sh_findComponents_8 : decode b_Sh_findComponents 8 = .ok (.iconst 0, 1) := by decide +kernel
theorem d_Sh_findComponents_9 : decode b_Sh_findComponents 9 = .ok (.istore_n 1, 1) := by decide +kernel
theorem d_Sh_findComponents_10 : decode b_Sh_findComponents 10 = .ok (.iload_n 1, 1) := by decide +kernel
theorem d_Sh_findComponents_11 : decode b_Sh_findComponents 11 = .ok (.aload_n 0, 1) := by decide +kernel
theorem d_Sh_findComponents_12 : decode b_Sh_findComponents 12 = .ok (.getfield 48, 3) := by decide +kernel
theorem d_Sh_findComponents_15 : decode b_Sh_findComponents 15 = .ok (.if_icmp .ge 71, 3) := by decide +kernel
theorem d_Sh_findComponents_86 : decode b_Sh_findComponents 86 = .ok (.return_, 1) := by decide +kernel
theorem d_Sh_checkSpheres_0 : decode b_Sh_checkSpheres 0 = .ok (.aload_n 0, 1) := by decide +kernel
theorem d_Sh_checkSpheres_1 : decode b_Sh_checkSpheres 1 = .ok (.getfield 45, 3) := by decide +kernel
theorem d_Sh_checkSpheres_4 : decode b_Sh_checkSpheres 4 = .ok (.bipush (-2), 2) := by decide +kernel
theorem d_Sh_checkSpheres_6 : decode b_Sh_checkSpheres 6 = .ok (.invokestatic 96, 3) := by decide +kernel
theorem d_Sh_checkSpheres_9 : decode b_Sh_checkSpheres 9 = .ok (.iconst 0, 1) := by decide +kernel
theorem d_Sh_checkSpheres_10 : decode b_Sh_checkSpheres 10 = .ok (.istore_n 2, 1) := by decide +kernel
theorem d_Sh_checkSpheres_11 : decode b_Sh_checkSpheres 11 = .ok (.iload_n 2, 1) := by decide +kernel
theorem d_Sh_checkSpheres_12 : decode b_Sh_checkSpheres 12 = .ok (.aload_n 0, 1) := by decide +kernel
theorem d_Sh_checkSpheres_13 : decode b_Sh_checkSpheres 13 = .ok (.getfield 58, 3) := by decide +kernel
theorem d_Sh_checkSpheres_16 : decode b_Sh_checkSpheres 16 = .ok (.if_icmp .ge 30, 3) := by decide +kernel
theorem d_Sh_checkSpheres_46 : decode b_Sh_checkSpheres 46 = .ok (.iconst 0, 1) := by decide +kernel
theorem d_Sh_checkSpheres_47 : decode b_Sh_checkSpheres 47 = .ok (.istore_n 2, 1) := by decide +kernel
theorem d_Sh_checkSpheres_48 : decode b_Sh_checkSpheres 48 = .ok (.iload_n 2, 1) := by decide +kernel
theorem d_Sh_checkSpheres_49 : decode b_Sh_checkSpheres 49 = .ok (.iload_n 1, 1) := by decide +kernel
theorem d_Sh_checkSpheres_50 : decode b_Sh_checkSpheres 50 = .ok (.if_icmp .ge 24, 3) := by decide +kernel
theorem d_Sh_checkSpheres_74 : decode b_Sh_checkSpheres 74 = .ok (.iconst 0, 1) := by decide +kernel
theorem d_Sh_checkSpheres_75 : decode b_Sh_checkSpheres 75 = .ok (.istore_n 2, 1) := by decide +kernel
theorem d_Sh_checkSpheres_76 : decode b_Sh_checkSpheres 76 = .ok (.iload_n 2, 1) := by decide +kernel
theorem d_Sh_checkSpheres_77 : decode b_Sh_checkSpheres 77 = .ok (.iload_n 1, 1) := by decide +kernel
theorem d_Sh_checkSpheres_78 : decode b_Sh_checkSpheres 78 = .ok (.if_icmp .ge 37, 3) := by decide +kernel
theorem d_Sh_checkSpheres_115 : decode b_Sh_checkSpheres 115 = .ok (.return_, 1) := by decide +kernel
theorem d_Di_shape_0 : decode b_Di_shape 0 = .ok (.aload_n 0, 1) := by decide +kernel
theorem d_Di_shape_1 : decode b_Di_shape 1 = .ok (.getfield 25, 3) := by decide +kernel
theorem d_Di_shape_4 : decode b_Di_shape 4 = .ok (.ifCond .ne 86, 3) := by decide +kernel
theorem d_Di_shape_7 : decode b_Di_shape 7 = .ok (.aload_n 0, 1) := by decide +kernel
theorem d_Di_shape_8 : decode b_Di_shape 8 = .ok (.iconst 1, 1) := by decide +kernel
theorem d_Di_shape_9 : decode b_Di_shape 9 = .ok (.putfield 25, 3) := by decide +kernel
theorem d_Di_shape_12 : decode b_Di_shape 12 = .ok (.aload_n 0, 1) := by decide +kernel
theorem d_Di_shape_13 : decode b_Di_shape 13 = .ok (.getfield 21, 3) := by decide +kernel
theorem d_Di_shape_16 : decode b_Di_shape 16 = .ok (.invokevirtual 29, 3) := by decide +kernel
theorem d_Di_shape_19 : decode b_Di_shape 19 = .ok (.aload_n 0, 1) := by decide +kernel
theorem d_Di_shape_20 : decode b_Di_shape 20 = .ok (.getfield 21, 3) := by decide +kernel
theorem d_Di_shape_23 : decode b_Di_shape 23 = .ok (.aload_n 0, 1) := by decide +kernel
theorem d_Di_shape_24 : decode b_Di_shape 24 = .ok (.invokevirtual 32, 3) := by decide +kernel
theorem d_Di_shape_27 : decode b_Di_shape 27 = .ok (.aload_n 0, 1) := by decide +kernel
theorem d_Di_shape_28 : decode b_Di_shape 28 = .ok (.getfield 21, 3) := by decide +kernel
theorem d_Di_shape_31 : decode b_Di_shape 31 = .ok (.iconst 4, 1) := by decide +kernel
theorem d_Di_shape_32 : decode b_Di_shape 32 = .ok (.aload_n 0, 1) := by decide +kernel
theorem d_Di_shape_33 : decode b_Di_shape 33 = .ok (.getfield 36, 3) := by decide +kernel
theorem d_Di_shape_36 : decode b_Di_shape 36 = .ok (.imul, 1) := by decide +kernel
theorem d_Di_shape_37 : decode b_Di_shape 37 = .ok (.invokevirtual 40, 3) := by decide +kernel
theorem d_Di_shape_40 : decode b_Di_shape 40 = .ok (.ifCond .eq 50, 3) := by decide +kernel
theorem d_Di_shape_43 : decode b_Di_shape 43 = .ok (.aload_n 0, 1) := by decide +kernel
theorem d_Di_shape_44 : decode b_Di_shape 44 = .ok (.getfield 21, 3) := by decide +kernel
theorem d_Di_shape_47 : decode b_Di_shape 47 = .ok (.aload_n 0, 1) := by decide +kernel
theorem d_Di_shape_48 : decode b_Di_shape 48 = .ok (.invokevirtual 44, 3) := by decide +kernel
theorem d_Di_shape_51 : decode b_Di_shape 51 = .ok (.ifCond .eq 39, 3) := by decide +kernel
theorem d_Di_shape_54 : decode b_Di_shape 54 = .ok (.aload_n 0, 1) := by decide +kernel
theorem d_Di_shape_55 : decode b_Di_shape 55 = .ok (.getfield 21, 3) := by decide +kernel
theorem d_Di_shape_58 : decode b_Di_shape 58 = .ok (.aload_n 0, 1) := by decide +kernel
theorem d_Di_shape_59 : decode b_Di_shape 59 = .ok (.getfield 36, 3) := by decide +kernel
theorem d_Di_shape_62 : decode b_Di_shape 62 = .ok (.invokevirtual 48, 3) := by decide +kernel
theorem d_Di_shape_65 : decode b_Di_shape 65 = .ok (.aload_n 0, 1) := by decide +kernel
theorem d_Di_shape_66 : decode b_Di_shape 66 = .ok (.getfield 21, 3) := by decide +kernel
theorem d_Di_shape_69 : decode b_Di_shape 69 = .ok (.invokevirtual 52, 3) := by decide +kernel
theorem d_Di_shape_72 : decode b_Di_shape 72 = .ok (.aload_n 0, 1) := by decide +kernel
theorem d_Di_shape_73 : decode b_Di_shape 73 = .ok (.getfield 21, 3) := by decide +kernel
theorem d_Di_shape_76 : decode b_Di_shape 76 = .ok (.invokevirtual 55, 3) := by decide +kernel
theorem d_Di_shape_79 : decode b_Di_shape 79 = .ok (.aload_n 0, 1) := by decide +kernel
theorem d_Di_shape_80 : decode b_Di_shape 80 = .ok (.getfield 21, 3) := by decide +kernel
theorem d_Di_shape_83 : decode b_Di_shape 83 = .ok (.aload_n 0, 1) := by decide +kernel
theorem d_Di_shape_84 : decode b_Di_shape 84 = .ok (.getfield 36, 3) := by decide +kernel
theorem d_Di_shape_87 : decode b_Di_shape 87 = .ok (.invokevirtual 58, 3) := by decide +kernel
theorem d_Di_shape_90 : decode b_Di_shape 90 = .ok (.aload_n 0, 1) := by decide +kernel
theorem d_Di_shape_91 : decode b_Di_shape 91 = .ok (.getfield 21, 3) := by decide +kernel
theorem d_Di_shape_94 : decode b_Di_shape 94 = .ok (.areturn, 1) := by decide +kernel
theorem d_Di_sumOfSigns_0 : decode b_Di_sumOfSigns 0 = .ok (.iconst 0, 1) := by decide +kernel
theorem d_Di_sumOfSigns_1 : decode b_Di_sumOfSigns 1 = .ok (.istore_n 1, 1) := by decide +kernel
theorem d_Di_sumOfSigns_2 : decode b_Di_sumOfSigns 2 = .ok (.iconst 0, 1) := by decide +kernel
theorem d_Di_sumOfSigns_3 : decode b_Di_sumOfSigns 3 = .ok (.istore_n 2, 1) := by decide +kernel
theorem d_Di_sumOfSigns_4 : decode b_Di_sumOfSigns 4 = .ok (.iload_n 2, 1) := by decide +kernel
theorem d_Di_sumOfSigns_5 : decode b_Di_sumOfSigns 5 = .ok (.aload_n 0, 1) := by decide +kernel
theorem d_Di_sumOfSigns_6 : decode b_Di_sumOfSigns 6 = .ok (.getfield 36, 3) := by decide +kernel
theorem d_Di_sumOfSigns_9 : decode b_Di_sumOfSigns 9 = .ok (.if_icmp .ge 18, 3) := by decide +kernel
theorem d_Di_sumOfSigns_27 : decode b_Di_sumOfSigns 27 = .ok (.iload_n 1, 1) := by decide +kernel
theorem d_Di_sumOfSigns_28 : decode b_Di_sumOfSigns 28 = .ok (.ireturn, 1) := by decide +kernel
theorem d_En_state_0 : decode b_En_state 0 = .ok (.iload_n 1, 1) := by decide +kernel
theorem d_En_state_1 : decode b_En_state 1 = .ok (.tableswitch 119 0 7 #[47, 55, 63, 71, 79, 87, 106, 114], 47) := by decide +kernel
theorem d_En_state_48 : decode b_En_state 48 = .ok (.aload_n 0, 1) := by decide +kernel
theorem d_En_state_49 : decode b_En_state 49 = .ok (.getfield 27, 3) := by decide +kernel
theorem d_En_state_52 : decode b_En_state 52 = .ok (.invokevirtual 126, 3) := by decide +kernel
theorem d_En_state_55 : decode b_En_state 55 = .ok (.ireturn, 1) := by decide +kernel
theorem d_En_state_56 : decode b_En_state 56 = .ok (.aload_n 0, 1) := by decide +kernel
theorem d_En_state_57 : decode b_En_state 57 = .ok (.getfield 27, 3) := by decide +kernel
theorem d_En_state_60 : decode b_En_state 60 = .ok (.invokevirtual 135, 3) := by decide +kernel
theorem d_En_state_63 : decode b_En_state 63 = .ok (.ireturn, 1) := by decide +kernel
theorem d_En_state_64 : decode b_En_state 64 = .ok (.aload_n 0, 1) := by decide +kernel
theorem d_En_state_65 : decode b_En_state 65 = .ok (.getfield 66, 3) := by decide +kernel
theorem d_En_state_68 : decode b_En_state 68 = .ok (.getfield 157, 3) := by decide +kernel
theorem d_En_state_71 : decode b_En_state 71 = .ok (.ireturn, 1) := by decide +kernel
theorem d_En_state_72 : decode b_En_state 72 = .ok (.aload_n 0, 1) := by decide +kernel
theorem d_En_state_73 : decode b_En_state 73 = .ok (.getfield 66, 3) := by decide +kernel
theorem d_En_state_76 : decode b_En_state 76 = .ok (.getfield 160, 3) := by decide +kernel
theorem d_En_state_79 : decode b_En_state 79 = .ok (.ireturn, 1) := by decide +kernel
theorem d_En_state_80 : decode b_En_state 80 = .ok (.aload_n 0, 1) := by decide +kernel
theorem d_En_state_81 : decode b_En_state 81 = .ok (.getfield 66, 3) := by decide +kernel
theorem d_En_state_84 : decode b_En_state 84 = .ok (.invokevirtual 163, 3) := by decide +kernel
theorem d_En_state_87 : decode b_En_state 87 = .ok (.ireturn, 1) := by decide +kernel
theorem d_En_state_88 : decode b_En_state 88 = .ok (.aload_n 0, 1) := by decide +kernel
theorem d_En_state_89 : decode b_En_state 89 = .ok (.getfield 66, 3) := by decide +kernel
theorem d_En_state_92 : decode b_En_state 92 = .ok (.invokevirtual 166, 3) := by decide +kernel
theorem d_En_state_95 : decode b_En_state 95 = .ok (.getfield 170, 3) := by decide +kernel
theorem d_En_state_98 : decode b_En_state 98 = .ok (.aload_n 0, 1) := by decide +kernel
