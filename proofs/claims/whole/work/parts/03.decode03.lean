theorem d_En_wipe_39 : decode b_En_wipe 39 = .ok (.putfield 138, 3) := by decide +kernel
theorem d_En_wipe_42 : decode b_En_wipe 42 = .ok (.iload_n 2, 1) := by decide +kernel
theorem d_En_wipe_43 : decode b_En_wipe 43 = .ok (.ireturn, 1) := by decide +kernel
theorem d_En_wipe_12 : decode b_En_wipe 12 = .ok (.aload_n 0, 1) := by decide +kernel
theorem d_En_wipe_13 : decode b_En_wipe 13 = .ok (.getfield 31, 3) := by decide +kernel
theorem d_En_wipe_16 : decode b_En_wipe 16 = .ok (.getfield 181, 3) := by decide +kernel
theorem d_En_wipe_19 : decode b_En_wipe 19 = .ok (.iconst 0, 1) := by decide +kernel
theorem d_En_wipe_20 : decode b_En_wipe 20 = .ok (.aload_n 0, 1) := by decide +kernel
theorem d_En_wipe_21 : decode b_En_wipe 21 = .ok (.getfield 20, 3) := by decide +kernel
theorem d_En_wipe_24 : decode b_En_wipe 24 = .ok (.iconst 0, 1) := by decide +kernel
theorem d_En_wipe_25 : decode b_En_wipe 25 = .ok (.iload_n 2, 1) := by decide +kernel
theorem d_En_wipe_26 : decode b_En_wipe 26 = .ok (.invokestatic 184, 3) := by decide +kernel
theorem d_En_wipe_29 : decode b_En_wipe 29 = .ok (.aload_n 0, 1) := by decide +kernel
theorem d_En_wipe_30 : decode b_En_wipe 30 = .ok (.iload_n 2, 1) := by decide +kernel
theorem d_En_wipe_31 : decode b_En_wipe 31 = .ok (.putfield 89, 3) := by decide +kernel
theorem d_Br_findForm_0 : decode b_Br_findForm 0 = .ok (.aload_n 0, 1) := by decide +kernel
theorem d_Br_findForm_1 : decode b_Br_findForm 1 = .ok (.getfield 43, 3) := by decide +kernel
theorem d_Br_findForm_4 : decode b_Br_findForm 4 = .ok (.ifCond .eq 4, 3) := by decide +kernel
theorem d_Br_findForm_8 : decode b_Br_findForm 8 = .ok (.aload_n 0, 1) := by decide +kernel
theorem d_Br_findForm_9 : decode b_Br_findForm 9 = .ok (.iconst 0, 1) := by decide +kernel
theorem d_Br_findForm_10 : decode b_Br_findForm 10 = .ok (.putfield 69, 3) := by decide +kernel
theorem d_Br_findForm_13 : decode b_Br_findForm 13 = .ok (.aload_n 0, 1) := by decide +kernel
theorem d_Br_findForm_14 : decode b_Br_findForm 14 = .ok (.iconst 0, 1) := by decide +kernel
theorem d_Br_findForm_15 : decode b_Br_findForm 15 = .ok (.putfield 66, 3) := by decide +kernel
theorem d_Br_findForm_18 : decode b_Br_findForm 18 = .ok (.iconst 0, 1) := by decide +kernel
theorem d_Br_findForm_19 : decode b_Br_findForm 19 = .ok (.istore_n 1, 1) := by decide +kernel
theorem d_Br_findForm_20 : decode b_Br_findForm 20 = .ok (.iload_n 1, 1) := by decide +kernel
theorem d_Br_findForm_21 : decode b_Br_findForm 21 = .ok (.aload_n 0, 1) := by decide +kernel
theorem d_Br_findForm_22 : decode b_Br_findForm 22 = .ok (.getfield 40, 3) := by decide +kernel
theorem d_Br_findForm_25 : decode b_Br_findForm 25 = .ok (.if_icmp .ge 50, 3) := by decide +kernel
theorem d_Br_findForm_75 : decode b_Br_findForm 75 = .ok (.aload_n 0, 1) := by decide +kernel
theorem d_Br_findForm_76 : decode b_Br_findForm 76 = .ok (.iconst 1, 1) := by decide +kernel
theorem d_Br_findForm_77 : decode b_Br_findForm 77 = .ok (.putfield 43, 3) := by decide +kernel
theorem d_Br_findForm_80 : decode b_Br_findForm 80 = .ok (.return_, 1) := by decide +kernel
theorem d_Br_simpleBraids_0 : decode b_Br_simpleBraids 0 = .ok (.aload_n 0, 1) := by decide +kernel
theorem d_Br_simpleBraids_1 : decode b_Br_simpleBraids 1 = .ok (.invokevirtual 63, 3) := by decide +kernel
theorem d_Br_simpleBraids_4 : decode b_Br_simpleBraids 4 = .ok (.aload_n 0, 1) := by decide +kernel
theorem d_Br_simpleBraids_5 : decode b_Br_simpleBraids 5 = .ok (.getfield 66, 3) := by decide +kernel
theorem d_Br_simpleBraids_8 : decode b_Br_simpleBraids 8 = .ok (.ireturn, 1) := by decide +kernel
theorem d_Br_formAt_0 : decode b_Br_formAt 0 = .ok (.aload_n 0, 1) := by decide +kernel
theorem d_Br_formAt_1 : decode b_Br_formAt 1 = .ok (.invokevirtual 63, 3) := by decide +kernel
theorem d_Br_formAt_4 : decode b_Br_formAt 4 = .ok (.iload_n 1, 1) := by decide +kernel
theorem d_Br_formAt_5 : decode b_Br_formAt 5 = .ok (.ifCond .ne 8, 3) := by decide +kernel
theorem d_Br_formAt_13 : decode b_Br_formAt 13 = .ok (.iload_n 1, 1) := by decide +kernel
theorem d_Br_formAt_14 : decode b_Br_formAt 14 = .ok (.ifCond .lt 24, 3) := by decide +kernel
theorem d_Br_formAt_38 : decode b_Br_formAt 38 = .ok (.iconst 0, 1) := by decide +kernel
theorem d_Br_formAt_39 : decode b_Br_formAt 39 = .ok (.ireturn, 1) := by decide +kernel
theorem d_Br_formAt_17 : decode b_Br_formAt 17 = .ok (.iload_n 1, 1) := by decide +kernel
theorem d_Br_formAt_18 : decode b_Br_formAt 18 = .ok (.aload_n 0, 1) := by decide +kernel
theorem d_Br_formAt_19 : decode b_Br_formAt 19 = .ok (.getfield 66, 3) := by decide +kernel
theorem d_Br_formAt_22 : decode b_Br_formAt 22 = .ok (.if_icmp .gt 16, 3) := by decide +kernel
theorem d_Br_formAt_8 : decode b_Br_formAt 8 = .ok (.aload_n 0, 1) := by decide +kernel
theorem d_Br_formAt_9 : decode b_Br_formAt 9 = .ok (.getfield 69, 3) := by decide +kernel
theorem d_Br_formAt_12 : decode b_Br_formAt 12 = .ok (.ireturn, 1) := by decide +kernel
theorem d_Br_isOneBraidWith_0 : decode b_Br_isOneBraidWith 0 = .ok (.aload_n 0, 1) := by decide +kernel
theorem d_Br_isOneBraidWith_1 : decode b_Br_isOneBraidWith 1 = .ok (.invokevirtual 63, 3) := by decide +kernel
theorem d_Br_isOneBraidWith_4 : decode b_Br_isOneBraidWith 4 = .ok (.aload_n 1, 1) := by decide +kernel
theorem d_Br_isOneBraidWith_5 : decode b_Br_isOneBraidWith 5 = .ok (.invokevirtual 63, 3) := by decide +kernel
theorem d_Br_isOneBraidWith_8 : decode b_Br_isOneBraidWith 8 = .ok (.aload_n 0, 1) := by decide +kernel
theorem d_Br_isOneBraidWith_9 : decode b_Br_isOneBraidWith 9 = .ok (.getfield 21, 3) := by decide +kernel
theorem d_Br_isOneBraidWith_12 : decode b_Br_isOneBraidWith 12 = .ok (.aload_n 1, 1) := by decide +kernel
theorem d_Br_isOneBraidWith_13 : decode b_Br_isOneBraidWith 13 = .ok (.getfield 21, 3) := by decide +kernel
theorem d_Br_isOneBraidWith_16 : decode b_Br_isOneBraidWith 16 = .ok (.if_icmp .ne 25, 3) := by decide +kernel
theorem d_Br_isOneBraidWith_19 : decode b_Br_isOneBraidWith 19 = .ok (.aload_n 0, 1) := by decide +kernel
theorem d_Br_isOneBraidWith_20 : decode b_Br_isOneBraidWith 20 = .ok (.getfield 69, 3) := by decide +kernel
theorem d_Br_isOneBraidWith_23 : decode b_Br_isOneBraidWith 23 = .ok (.aload_n 1, 1) := by decide +kernel
theorem d_Br_isOneBraidWith_24 : decode b_Br_isOneBraidWith 24 = .ok (.getfield 69, 3) := by decide +kernel
theorem d_Br_isOneBraidWith_27 : decode b_Br_isOneBraidWith 27 = .ok (.if_icmp .ne 14, 3) := by decide +kernel
theorem d_Br_isOneBraidWith_30 : decode b_Br_isOneBraidWith 30 = .ok (.aload_n 0, 1) := by decide +kernel
theorem d_Br_isOneBraidWith_31 : decode b_Br_isOneBraidWith 31 = .ok (.getfield 66, 3) := by decide +kernel
theorem d_Br_isOneBraidWith_34 : decode b_Br_isOneBraidWith 34 = .ok (.aload_n 1, 1) := by decide +kernel
theorem d_Br_isOneBraidWith_35 : decode b_Br_isOneBraidWith 35 = .ok (.getfield 66, 3) := by decide +kernel
theorem d_Br_isOneBraidWith_38 : decode b_Br_isOneBraidWith 38 = .ok (.if_icmp .eq 5, 3) := by decide +kernel
theorem d_Br_isOneBraidWith_43 : decode b_Br_isOneBraidWith 43 = .ok (.iconst 0, 1) := by decide +kernel
theorem d_Br_isOneBraidWith_44 : decode b_Br_isOneBraidWith 44 = .ok (.istore_n 2, 1) := by decide +kernel
theorem d_Br_isOneBraidWith_45 : decode b_Br_isOneBraidWith 45 = .ok (.iload_n 2, 1) := by decide +kernel
theorem d_Br_isOneBraidWith_46 : decode b_Br_isOneBraidWith 46 = .ok (.aload_n 0, 1) := by decide +kernel
theorem d_Br_isOneBraidWith_47 : decode b_Br_isOneBraidWith 47 = .ok (.getfield 66, 3) := by decide +kernel
theorem d_Br_isOneBraidWith_50 : decode b_Br_isOneBraidWith 50 = .ok (.if_icmp .ge 52, 3) := by decide +kernel
theorem d_Br_isOneBraidWith_102 : decode b_Br_isOneBraidWith 102 = .ok (.iconst 1, 1) := by decide +kernel
theorem d_Br_isOneBraidWith_103 : decode b_Br_isOneBraidWith 103 = .ok (.ireturn, 1) := by decide +kernel
theorem d_En_same_0 : decode b_En_same 0 = .ok (.aload_n 0, 1) := by decide +kernel
theorem d_En_same_1 : decode b_En_same 1 = .ok (.getfield 79, 3) := by decide +kernel
theorem d_En_same_4 : decode b_En_same 4 = .ok (.aload_n 0, 1) := by decide +kernel
theorem d_En_same_5 : decode b_En_same 5 = .ok (.getfield 83, 3) := by decide +kernel
theorem d_En_same_8 : decode b_En_same 8 = .ok (.invokevirtual 190, 3) := by decide +kernel
theorem d_En_same_11 : decode b_En_same 11 = .ok (.ireturn, 1) := by decide +kernel
theorem d_En_form_0 : decode b_En_form 0 = .ok (.iload_n 1, 1) := by decide +kernel
theorem d_En_form_1 : decode b_En_form 1 = .ok (.ifCond .eq 10, 3) := by decide +kernel
theorem d_En_form_11 : decode b_En_form 11 = .ok (.aload_n 0, 1) := by decide +kernel
theorem d_En_form_12 : decode b_En_form 12 = .ok (.getfield 79, 3) := by decide +kernel
theorem d_En_form_15 : decode b_En_form 15 = .ok (.iload_n 2, 1) := by decide +kernel
theorem d_En_form_16 : decode b_En_form 16 = .ok (.iload_n 3, 1) := by decide +kernel
theorem d_En_form_17 : decode b_En_form 17 = .ok (.invokevirtual 194, 3) := by decide +kernel
theorem d_En_form_20 : decode b_En_form 20 = .ok (.ireturn, 1) := by decide +kernel
theorem d_En_form_4 : decode b_En_form 4 = .ok (.aload_n 0, 1) := by decide +kernel
theorem d_En_form_5 : decode b_En_form 5 = .ok (.getfield 83, 3) := by decide +kernel
theorem d_En_form_8 : decode b_En_form 8 = .ok (.goto 7, 3) := by decide +kernel
theorem d_En_length_0 : decode b_En_length 0 = .ok (.iload_n 1, 1) := by decide +kernel
theorem d_En_length_1 : decode b_En_length 1 = .ok (.ifCond .eq 10, 3) := by decide +kernel
theorem d_En_length_11 : decode b_En_length 11 = .ok (.aload_n 0, 1) := by decide +kernel
theorem d_En_length_12 : decode b_En_length 12 = .ok (.getfield 79, 3) := by decide +kernel
theorem d_En_length_15 : decode b_En_length 15 = .ok (.invokevirtual 198, 3) := by decide +kernel
theorem d_En_length_18 : decode b_En_length 18 = .ok (.ireturn, 1) := by decide +kernel
theorem d_En_length_4 : decode b_En_length 4 = .ok (.aload_n 0, 1) := by decide +kernel
theorem d_En_length_5 : decode b_En_length 5 = .ok (.getfield 83, 3) := by decide +kernel
theorem d_En_length_8 : decode b_En_length 8 = .ok (.goto 7, 3) := by decide +kernel
theorem d_Sh_clear_0 : decode b_Sh_clear 0 = .ok (.aload_n 0, 1) := by decide +kernel
theorem d_Sh_clear_1 : decode b_Sh_clear 1 = .ok (.iconst 0, 1) := by decide +kernel
theorem d_Sh_clear_2 : decode b_Sh_clear 2 = .ok (.putfield 48, 3) := by decide +kernel
theorem d_Sh_clear_5 : decode b_Sh_clear 5 = .ok (.aload_n 0, 1) := by decide +kernel
theorem d_Sh_clear_6 : decode b_Sh_clear 6 = .ok (.iconst 0, 1) := by decide +kernel
theorem d_Sh_clear_7 : decode b_Sh_clear 7 = .ok (.putfield 52, 3) := by decide +kernel
theorem d_Sh_clear_10 : decode b_Sh_clear 10 = .ok (.aload_n 0, 1) := by decide +kernel
theorem d_Sh_clear_11 : decode b_Sh_clear 11 = .ok (.iconst 0, 1) := by decide +kernel
theorem d_Sh_clear_12 : decode b_Sh_clear 12 = .ok (.putfield 55, 3) := by decide +kernel
theorem d_Sh_clear_15 : decode b_Sh_clear 15 = .ok (.aload_n 0, 1) := by decide +kernel
theorem d_Sh_clear_16 : decode b_Sh_clear 16 = .ok (.iconst 0, 1) := by decide +kernel
theorem d_Sh_clear_17 : decode b_Sh_clear 17 = .ok (.putfield 58, 3) := by decide +kernel
theorem d_Sh_clear_20 : decode b_Sh_clear 20 = .ok (.aload_n 0, 1) := by decide +kernel
theorem d_Sh_clear_21 : decode b_Sh_clear 21 = .ok (.iconst 0, 1) := by decide +kernel
theorem d_Sh_clear_22 : decode b_Sh_clear 22 = .ok (.putfield 61, 3) := by decide +kernel
theorem d_Sh_clear_25 : decode b_Sh_clear 25 = .ok (.aload_n 0, 1) := by decide +kernel
theorem d_Sh_clear_26 : decode b_Sh_clear 26 = .ok (.iconst 0, 1) := by decide +kernel
theorem d_Sh_clear_27 : decode b_Sh_clear 27 = .ok (.putfield 64, 3) := by decide +kernel
theorem d_Sh_clear_30 : decode b_Sh_clear 30 = .ok (.return_, 1) := by decide +kernel
theorem d_Sh_sortPlaces_0 : decode b_Sh_sortPlaces 0 = .ok (.iconst 0, 1) := by decide +kernel
theorem d_Sh_sortPlaces_1 : decode b_Sh_sortPlaces 1 = .ok (.istore_n 2, 1) := by decide +kernel
theorem d_Sh_sortPlaces_2 : decode b_Sh_sortPlaces 2 = .ok (.iload_n 2, 1) := by decide +kernel
theorem d_Sh_sortPlaces_3 : decode b_Sh_sortPlaces 3 = .ok (.iconst 4, 1) := by decide +kernel
theorem d_Sh_sortPlaces_4 : decode b_Sh_sortPlaces 4 = .ok (.aload_n 1, 1) := by decide +kernel
theorem d_Sh_sortPlaces_5 : decode b_Sh_sortPlaces 5 = .ok (.getfield 67, 3) := by decide +kernel
theorem d_Sh_sortPlaces_8 : decode b_Sh_sortPlaces 8 = .ok (.imul, 1) := by decide +kernel
theorem d_Sh_sortPlaces_9 : decode b_Sh_sortPlaces 9 = .ok (.if_icmp .ge 72, 3) := by decide +kernel
theorem d_Sh_sortPlaces_81 : decode b_Sh_sortPlaces 81 = .ok (.return_, 1) := by decide +kernel
theorem d_Sh_labelsArePaired_0 : decode b_Sh_labelsArePaired 0 = .ok (.iconst 0, 1) := by decide +kernel
theorem d_Sh_labelsArePaired_1 : decode b_Sh_labelsArePaired 1 = .ok (.istore_n 2, 1) := by decide +kernel
theorem d_Sh_labelsArePaired_2 : decode b_Sh_labelsArePaired 2 = .ok (.iload_n 2, 1) := by decide +kernel
theorem d_Sh_labelsArePaired_3 : decode b_Sh_labelsArePaired 3 = .ok (.iload_n 1, 1) := by decide +kernel
theorem d_Sh_labelsArePaired_4 : decode b_Sh_labelsArePaired 4 = .ok (.if_icmp .ge 82, 3) := by decide +kernel
theorem d_Sh_labelsArePaired_86 : decode b_Sh_labelsArePaired 86 = .ok (.iconst 1, 1) := by decide +kernel
theorem d_Sh_labelsArePaired_87 : decode b_Sh_labelsArePaired 87 = .ok (.ireturn, 1) := by decide +kernel
theorem d_Sh_edgesHaveDirections_0 : decode b_Sh_edgesHaveDirections 0 = .ok (.iconst 0, 1) := by decide +kernel
theorem d_Sh_edgesHaveDirections_1 : decode b_Sh_edgesHaveDirections 1 = .ok (.istore_n 2, 1) := by decide +kernel
theorem d_Sh_edgesHaveDirections_2 : decode b_Sh_edgesHaveDirections 2 = .ok (.iload_n 2, 1) := by decide +kernel
theorem d_Sh_edgesHaveDirections_3 : decode b_Sh_edgesHaveDirections 3 = .ok (.iconst 2, 1) := by decide +kernel
theorem d_Sh_edgesHaveDirections_4 : decode b_Sh_edgesHaveDirections 4 = .ok (.aload_n 1, 1) := by decide +kernel
theorem d_Sh_edgesHaveDirections_5 : decode b_Sh_edgesHaveDirections 5 = .ok (.getfield 67, 3) := by decide +kernel
theorem d_Sh_edgesHaveDirections_8 : decode b_Sh_edgesHaveDirections 8 = .ok (.imul, 1) := by decide +kernel
theorem d_Sh_edgesHaveDirections_9 : decode b_Sh_edgesHaveDirections 9 = .ok (.if_icmp .ge 122, 3) := by decide +kernel
theorem d_Sh_edgesHaveDirections_131 : decode b_Sh_edgesHaveDirections 131 = .ok (.aload_n 0, 1) := by decide +kernel
theorem d_Sh_edgesHaveDirections_132 : decode b_Sh_edgesHaveDirections 132 = .ok (.iconst 2, 1) := by decide +kernel
theorem d_Sh_edgesHaveDirections_133 : decode b_Sh_edgesHaveDirections 133 = .ok (.aload_n 1, 1) := by decide +kernel
theorem d_Sh_edgesHaveDirections_134 : decode b_Sh_edgesHaveDirections 134 = .ok (.getfield 67, 3) := by decide +kernel
theorem d_Sh_edgesHaveDirections_137 : decode b_Sh_edgesHaveDirections 137 = .ok (.imul, 1) := by decide +kernel
theorem d_Sh_edgesHaveDirections_138 : decode b_Sh_edgesHaveDirections 138 = .ok (.putfield 48, 3) := by decide +kernel
theorem d_Sh_edgesHaveDirections_141 : decode b_Sh_edgesHaveDirections 141 = .ok (.iconst 1, 1) := by decide +kernel
theorem d_Sh_edgesHaveDirections_142 : decode b_Sh_edgesHaveDirections 142 = .ok (.ireturn, 1) := by decide +kernel
theorem d_Sh_findPieces_0 : decode b_Sh_findPieces 0 = .ok (.iconst 0, 1) := by decide +kernel
theorem d_Sh_findPieces_1 : decode b_Sh_findPieces 1 = .ok (.istore_n 2, 1) := by decide +kernel
theorem d_Sh_findPieces_2 : decode b_Sh_findPieces 2 = .ok (.iload_n 2, 1) := by decide +kernel
theorem d_Sh_findPieces_3 : decode b_Sh_findPieces 3 = .ok (.iload_n 1, 1) := by decide +kernel
theorem d_Sh_findPieces_4 : decode b_Sh_findPieces 4 = .ok (.if_icmp .ge 16, 3) := by decide +kernel
theorem d_Sh_findPieces_20 : decode b_Sh_findPieces 20 = .ok (.aload_n 0, 1) := by decide +kernel
theorem d_Sh_findPieces_21 : decode b_Sh_findPieces 21 = .ok (.iload_n 1, 1) := by decide +kernel
theorem d_Sh_findPieces_22 : decode b_Sh_findPieces 22 = .ok (.putfield 55, 3) := by decide +kernel
theorem d_Sh_findPieces_25 : decode b_Sh_findPieces 25 = .ok (.iconst 0, 1) := by decide +kernel
theorem d_Sh_findPieces_26 : decode b_Sh_findPieces 26 = .ok (.istore_n 2, 1) := by decide +kernel
theorem d_Sh_findPieces_27 : decode b_Sh_findPieces 27 = .ok (.iload_n 2, 1) := by decide +kernel
theorem d_Sh_findPieces_28 : decode b_Sh_findPieces 28 = .ok (.aload_n 0, 1) := by decide +kernel
theorem d_Sh_findPieces_29 : decode b_Sh_findPieces 29 = .ok (.getfield 48, 3) := by decide +kernel
theorem d_Sh_findPieces_32 : decode b_Sh_findPieces 32 = .ok (.if_icmp .ge 119, 3) := by decide +kernel
theorem d_Sh_findPieces_151 : decode b_Sh_findPieces 151 = .ok (.return_, 1) := by decide +kernel
theorem d_Sh_findFaces_0 : decode b_Sh_findFaces 0 = .ok (.aload_n 0, 1) := by decide +kernel
theorem d_Sh_findFaces_1 : decode b_Sh_findFaces 1 = .ok (.getfield 36, 3) := by decide +kernel
theorem d_Sh_findFaces_4 : decode b_Sh_findFaces 4 = .ok (.iconst (-1), 1) := by decide +kernel
theorem d_Sh_findFaces_5 : decode b_Sh_findFaces 5 = .ok (.invokestatic 96, 3) := by decide +kernel
theorem d_Sh_findFaces_8 : decode b_Sh_findFaces 8 = .ok (.iconst 0, 1) := by decide +kernel
theorem d_Sh_findFaces_9 : decode b_Sh_findFaces 9 = .ok (.istore_n 1, 1) := by decide +kernel
theorem d_Sh_findFaces_10 : decode b_Sh_findFaces 10 = .ok (.iload_n 1, 1) := by decide +kernel
theorem d_Sh_findFaces_11 : decode b_Sh_findFaces 11 = .ok (.iconst 2, 1) := by decide +kernel
theorem d_Sh_findFaces_12 : decode b_Sh_findFaces 12 = .ok (.aload_n 0, 1) := by decide +kernel
theorem d_Sh_findFaces_13 : decode b_Sh_findFaces 13 = .ok (.getfield 48, 3) := by decide +kernel
theorem d_Sh_findFaces_16 : decode b_Sh_findFaces 16 = .ok (.imul, 1) := by decide +kernel
theorem d_Sh_findFaces_17 : decode b_Sh_findFaces 17 = .ok (.if_icmp .ge 89, 3) := by decide +kernel
theorem d_Sh_findFaces_106 : decode b_Sh_findFaces 106 = .ok (.return_, 1) := by decide +kernel
theorem d_Sh_findComponents_0 : decode b_Sh_findComponents 0 = .ok (.aload_n 0, 1) := by decide +kernel
theorem d_Sh_findComponents_1 : decode b_Sh_findComponents 1 = .ok (.getfield 27, 3) := by decide +kernel
theorem d_Sh_findComponents_4 : decode b_Sh_findComponents 4 = .ok (.iconst (-1), 1) := by decide +kernel
theorem d_Sh_findComponents_5 : decode b_Sh_findComponents 5 = .ok (.invokestatic 96, 3) := by decide +kernel
theorem d_Sh_findComponents_8 : decode b_Sh_findComponents 8 = .ok (.iconst 0, 1) := by decide +kernel
theorem d_Sh_findComponents_9 : decode b_Sh_findComponents 9 = .ok (.istore_n 1, 1) := by decide +kernel
theorem d_Sh_findComponents_10 : decode b_Sh_findComponents 10 = .ok (.iload_n 1, 1) := by decide +kernel
theorem d_Sh_findComponents_11 : decode b_Sh_findComponents 11 = .ok (.aload_n 0, 1) := by decide +kernel
theorem d_Sh_findComponents_12 : decode b_Sh_findComponents 12 = .ok (.getfield 48, 3) := by decide +kernel
theorem d_Sh_findComponents_15 : decode b_Sh_findComponents 15 = .ok (.if_icmp .ge 71, 3) := by decide +kernel
theorem d_Sh_findComponents_86 : decode b_Sh_findComponents 86 = .ok (.return_, 1) := by decide +kernel
theorem d_Sh_checkSpheres_0 : decode b_Sh_checkSpheres 0 = .ok (.aload_n 0, 1) := by decide +kernel
theorem d_Sh_checkSpheres_1 : decode b_Sh_checkSpheres 1 = .ok (.getfield 45, 3) := by decide +kernel
theorem d_Sh_checkSpheres_4 : decode b_Sh_checkSpheres 4 = .ok (.bipush (-2), 2) := by decide +kernel
