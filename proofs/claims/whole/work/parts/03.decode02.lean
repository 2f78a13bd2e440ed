theorem d_Md_init_257 : decode b_Md_init 257 = .ok (.newarray .long, 2) := by decide +kernel
theorem d_Md_init_259 : decode b_Md_init 259 = .ok (.putfield 105, 3) := by decide +kernel
theorem d_Md_init_262 : decode b_Md_init 262 = .ok (.aload_n 0, 1) := by decide +kernel
theorem d_Md_init_263 : decode b_Md_init 263 = .ok (.bipush 48, 2) := by decide +kernel
theorem d_Md_init_265 : decode b_Md_init 265 = .ok (.newarray .int, 2) := by decide +kernel
theorem d_Md_init_267 : decode b_Md_init 267 = .ok (.putfield 108, 3) := by decide +kernel
theorem d_Md_init_270 : decode b_Md_init 270 = .ok (.aload_n 0, 1) := by decide +kernel
theorem d_Md_init_271 : decode b_Md_init 271 = .ok (.sipush 200, 3) := by decide +kernel
theorem d_Md_init_274 : decode b_Md_init 274 = .ok (.newarray .long, 2) := by decide +kernel
theorem d_Md_init_276 : decode b_Md_init 276 = .ok (.putfield 111, 3) := by decide +kernel
theorem d_Md_init_279 : decode b_Md_init 279 = .ok (.aload_n 0, 1) := by decide +kernel
theorem d_Md_init_280 : decode b_Md_init 280 = .ok (.sipush 200, 3) := by decide +kernel
theorem d_Md_init_283 : decode b_Md_init 283 = .ok (.newarray .long, 2) := by decide +kernel
theorem d_Md_init_285 : decode b_Md_init 285 = .ok (.putfield 114, 3) := by decide +kernel
theorem d_Md_init_288 : decode b_Md_init 288 = .ok (.aload_n 0, 1) := by decide +kernel
theorem d_Md_init_289 : decode b_Md_init 289 = .ok (.sipush 24576, 3) := by decide +kernel
theorem d_Md_init_292 : decode b_Md_init 292 = .ok (.newarray .long, 2) := by decide +kernel
theorem d_Md_init_294 : decode b_Md_init 294 = .ok (.putfield 117, 3) := by decide +kernel
theorem d_Md_init_297 : decode b_Md_init 297 = .ok (.aload_n 0, 1) := by decide +kernel
theorem d_Md_init_298 : decode b_Md_init 298 = .ok (.bipush 16, 2) := by decide +kernel
theorem d_Md_init_300 : decode b_Md_init 300 = .ok (.newarray .long, 2) := by decide +kernel
theorem d_Md_init_302 : decode b_Md_init 302 = .ok (.putfield 120, 3) := by decide +kernel
theorem d_Md_init_305 : decode b_Md_init 305 = .ok (.aload_n 0, 1) := by decide +kernel
theorem d_Md_init_306 : decode b_Md_init 306 = .ok (.bipush 16, 2) := by decide +kernel
theorem d_Md_init_308 : decode b_Md_init 308 = .ok (.newarray .long, 2) := by decide +kernel
theorem d_Md_init_310 : decode b_Md_init 310 = .ok (.putfield 123, 3) := by decide +kernel
theorem d_Md_init_313 : decode b_Md_init 313 = .ok (.return_, 1) := by decide +kernel
theorem d_En_putOnTape_0 : decode b_En_putOnTape 0 = .ok (.bipush 24, 2) := by decide +kernel
theorem d_En_putOnTape_2 : decode b_En_putOnTape 2 = .ok (.istore_n 2, 1) := by decide +kernel
theorem d_En_putOnTape_3 : decode b_En_putOnTape 3 = .ok (.iload_n 2, 1) := by decide +kernel
theorem d_En_putOnTape_4 : decode b_En_putOnTape 4 = .ok (.ifCond .lt 45, 3) := by decide +kernel
theorem d_En_putOnTape_7 : decode b_En_putOnTape 7 = .ok (.aload_n 0, 1) := by decide +kernel
theorem d_En_putOnTape_8 : decode b_En_putOnTape 8 = .ok (.getfield 89, 3) := by decide +kernel
theorem d_En_putOnTape_11 : decode b_En_putOnTape 11 = .ok (.sipush 4000, 3) := by decide +kernel
theorem d_En_putOnTape_14 : decode b_En_putOnTape 14 = .ok (.if_icmp .ge 35, 3) := by decide +kernel
theorem d_En_putOnTape_17 : decode b_En_putOnTape 17 = .ok (.aload_n 0, 1) := by decide +kernel
theorem d_En_putOnTape_18 : decode b_En_putOnTape 18 = .ok (.getfield 20, 3) := by decide +kernel
theorem d_En_putOnTape_21 : decode b_En_putOnTape 21 = .ok (.aload_n 0, 1) := by decide +kernel
theorem d_En_putOnTape_22 : decode b_En_putOnTape 22 = .ok (.getfield 89, 3) := by decide +kernel
theorem d_En_putOnTape_25 : decode b_En_putOnTape 25 = .ok (.iload_n 1, 1) := by decide +kernel
theorem d_En_putOnTape_26 : decode b_En_putOnTape 26 = .ok (.iload_n 2, 1) := by decide +kernel
theorem d_En_putOnTape_27 : decode b_En_putOnTape 27 = .ok (.iushr, 1) := by decide +kernel
theorem d_En_putOnTape_28 : decode b_En_putOnTape 28 = .ok (.sipush 255, 3) := by decide +kernel
theorem d_En_putOnTape_31 : decode b_En_putOnTape 31 = .ok (.iand, 1) := by decide +kernel
theorem d_En_putOnTape_32 : decode b_En_putOnTape 32 = .ok (.iastore, 1) := by decide +kernel
theorem d_En_putOnTape_33 : decode b_En_putOnTape 33 = .ok (.aload_n 0, 1) := by decide +kernel
theorem d_En_putOnTape_34 : decode b_En_putOnTape 34 = .ok (.dup, 1) := by decide +kernel
theorem d_En_putOnTape_35 : decode b_En_putOnTape 35 = .ok (.getfield 89, 3) := by decide +kernel
theorem d_En_putOnTape_38 : decode b_En_putOnTape 38 = .ok (.iconst 1, 1) := by decide +kernel
theorem d_En_putOnTape_39 : decode b_En_putOnTape 39 = .ok (.iadd, 1) := by decide +kernel
theorem d_En_putOnTape_40 : decode b_En_putOnTape 40 = .ok (.putfield 89, 3) := by decide +kernel
theorem d_En_putOnTape_43 : decode b_En_putOnTape 43 = .ok (.iinc 2 (-8), 3) := by decide +kernel
theorem d_En_putOnTape_46 : decode b_En_putOnTape 46 = .ok (.goto (-43), 3) := by decide +kernel
theorem d_En_putOnTape_49 : decode b_En_putOnTape 49 = .ok (.return_, 1) := by decide +kernel
theorem d_En_feed_0 : decode b_En_feed 0 = .ok (.aload_n 0, 1) := by decide +kernel
theorem d_En_feed_1 : decode b_En_feed 1 = .ok (.getfield 89, 3) := by decide +kernel
theorem d_En_feed_4 : decode b_En_feed 4 = .ok (.bipush 20, 2) := by decide +kernel
theorem d_En_feed_6 : decode b_En_feed 6 = .ok (.iadd, 1) := by decide +kernel
theorem d_En_feed_7 : decode b_En_feed 7 = .ok (.sipush 4000, 3) := by decide +kernel
theorem d_En_feed_10 : decode b_En_feed 10 = .ok (.if_icmp .le 5, 3) := by decide +kernel
theorem d_En_feed_15 : decode b_En_feed 15 = .ok (.aload_n 0, 1) := by decide +kernel
theorem d_En_feed_16 : decode b_En_feed 16 = .ok (.iload_n 1, 1) := by decide +kernel
theorem d_En_feed_17 : decode b_En_feed 17 = .ok (.invokevirtual 93, 3) := by decide +kernel
theorem d_En_feed_20 : decode b_En_feed 20 = .ok (.aload_n 0, 1) := by decide +kernel
theorem d_En_feed_21 : decode b_En_feed 21 = .ok (.iload_n 2, 1) := by decide +kernel
theorem d_En_feed_22 : decode b_En_feed 22 = .ok (.invokevirtual 93, 3) := by decide +kernel
theorem d_En_feed_25 : decode b_En_feed 25 = .ok (.aload_n 0, 1) := by decide +kernel
theorem d_En_feed_26 : decode b_En_feed 26 = .ok (.iload_n 3, 1) := by decide +kernel
theorem d_En_feed_27 : decode b_En_feed 27 = .ok (.invokevirtual 93, 3) := by decide +kernel
theorem d_En_feed_30 : decode b_En_feed 30 = .ok (.aload_n 0, 1) := by decide +kernel
theorem d_En_feed_31 : decode b_En_feed 31 = .ok (.iload 4, 2) := by decide +kernel
theorem d_En_feed_33 : decode b_En_feed 33 = .ok (.invokevirtual 93, 3) := by decide +kernel
theorem d_En_feed_36 : decode b_En_feed 36 = .ok (.aload_n 0, 1) := by decide +kernel
theorem d_En_feed_37 : decode b_En_feed 37 = .ok (.iload 5, 2) := by decide +kernel
theorem d_En_feed_39 : decode b_En_feed 39 = .ok (.invokevirtual 93, 3) := by decide +kernel
theorem d_En_feed_42 : decode b_En_feed 42 = .ok (.aload_n 0, 1) := by decide +kernel
theorem d_En_feed_43 : decode b_En_feed 43 = .ok (.getfield 89, 3) := by decide +kernel
theorem d_En_feed_46 : decode b_En_feed 46 = .ok (.ireturn, 1) := by decide +kernel
theorem d_En_fault_0 : decode b_En_fault 0 = .ok (.aload_n 0, 1) := by decide +kernel
theorem d_En_fault_1 : decode b_En_fault 1 = .ok (.getfield 97, 3) := by decide +kernel
theorem d_En_fault_4 : decode b_En_fault 4 = .ok (.ifCond .ne 5, 3) := by decide +kernel
theorem d_En_fault_7 : decode b_En_fault 7 = .ok (.iconst (-1), 1) := by decide +kernel
theorem d_En_fault_8 : decode b_En_fault 8 = .ok (.ireturn, 1) := by decide +kernel
theorem d_Li_clear_0 : decode b_Li_clear 0 = .ok (.aload_n 0, 1) := by decide +kernel
theorem d_Li_clear_1 : decode b_Li_clear 1 = .ok (.iconst 0, 1) := by decide +kernel
theorem d_Li_clear_2 : decode b_Li_clear 2 = .ok (.putfield 22, 3) := by decide +kernel
theorem d_Li_clear_5 : decode b_Li_clear 5 = .ok (.aload_n 0, 1) := by decide +kernel
theorem d_Li_clear_6 : decode b_Li_clear 6 = .ok (.iconst 0, 1) := by decide +kernel
theorem d_Li_clear_7 : decode b_Li_clear 7 = .ok (.putfield 26, 3) := by decide +kernel
theorem d_Li_clear_10 : decode b_Li_clear 10 = .ok (.return_, 1) := by decide +kernel
theorem d_Li_waiting_0 : decode b_Li_waiting 0 = .ok (.aload_n 0, 1) := by decide +kernel
theorem d_Li_waiting_1 : decode b_Li_waiting 1 = .ok (.getfield 22, 3) := by decide +kernel
theorem d_Li_waiting_4 : decode b_Li_waiting 4 = .ok (.aload_n 0, 1) := by decide +kernel
theorem d_Li_waiting_5 : decode b_Li_waiting 5 = .ok (.getfield 26, 3) := by decide +kernel
theorem d_Li_waiting_8 : decode b_Li_waiting 8 = .ok (.isub, 1) := by decide +kernel
theorem d_Li_waiting_9 : decode b_Li_waiting 9 = .ok (.ireturn, 1) := by decide +kernel
theorem d_Li_kindOfNext_0 : decode b_Li_kindOfNext 0 = .ok (.aload_n 0, 1) := by decide +kernel
theorem d_Li_kindOfNext_1 : decode b_Li_kindOfNext 1 = .ok (.getfield 26, 3) := by decide +kernel
theorem d_Li_kindOfNext_4 : decode b_Li_kindOfNext 4 = .ok (.aload_n 0, 1) := by decide +kernel
theorem d_Li_kindOfNext_5 : decode b_Li_kindOfNext 5 = .ok (.getfield 22, 3) := by decide +kernel
theorem d_Li_kindOfNext_8 : decode b_Li_kindOfNext 8 = .ok (.if_icmp .ge 15, 3) := by decide +kernel
theorem d_Li_kindOfNext_23 : decode b_Li_kindOfNext 23 = .ok (.iconst 0, 1) := by decide +kernel
theorem d_Li_kindOfNext_24 : decode b_Li_kindOfNext 24 = .ok (.ireturn, 1) := by decide +kernel
theorem d_Rd_begin_0 : decode b_Rd_begin 0 = .ok (.aload_n 0, 1) := by decide +kernel
theorem d_Rd_begin_1 : decode b_Rd_begin 1 = .ok (.iload_n 1, 1) := by decide +kernel
theorem d_Rd_begin_2 : decode b_Rd_begin 2 = .ok (.putfield 26, 3) := by decide +kernel
theorem d_Rd_begin_5 : decode b_Rd_begin 5 = .ok (.aload_n 0, 1) := by decide +kernel
theorem d_Rd_begin_6 : decode b_Rd_begin 6 = .ok (.iconst 0, 1) := by decide +kernel
theorem d_Rd_begin_7 : decode b_Rd_begin 7 = .ok (.putfield 29, 3) := by decide +kernel
theorem d_Rd_begin_10 : decode b_Rd_begin 10 = .ok (.aload_n 0, 1) := by decide +kernel
theorem d_Rd_begin_11 : decode b_Rd_begin 11 = .ok (.iconst 0, 1) := by decide +kernel
theorem d_Rd_begin_12 : decode b_Rd_begin 12 = .ok (.putfield 32, 3) := by decide +kernel
theorem d_Rd_begin_15 : decode b_Rd_begin 15 = .ok (.aload_n 0, 1) := by decide +kernel
theorem d_Rd_begin_16 : decode b_Rd_begin 16 = .ok (.iconst (-1), 1) := by decide +kernel
theorem d_Rd_begin_17 : decode b_Rd_begin 17 = .ok (.putfield 22, 3) := by decide +kernel
theorem d_Rd_begin_20 : decode b_Rd_begin 20 = .ok (.aload_n 0, 1) := by decide +kernel
theorem d_Rd_begin_21 : decode b_Rd_begin 21 = .ok (.getfield 18, 3) := by decide +kernel
theorem d_Rd_begin_24 : decode b_Rd_begin 24 = .ok (.invokevirtual 35, 3) := by decide +kernel
theorem d_Rd_begin_27 : decode b_Rd_begin 27 = .ok (.return_, 1) := by decide +kernel
theorem d_En_read_0 : decode b_En_read 0 = .ok (.iload_n 1, 1) := by decide +kernel
theorem d_En_read_1 : decode b_En_read 1 = .ok (.ifCond .lt 11, 3) := by decide +kernel
theorem d_En_read_12 : decode b_En_read 12 = .ok (.bipush (-2), 2) := by decide +kernel
theorem d_En_read_14 : decode b_En_read 14 = .ok (.ireturn, 1) := by decide +kernel
theorem d_En_read_4 : decode b_En_read 4 = .ok (.iload_n 1, 1) := by decide +kernel
theorem d_En_read_5 : decode b_En_read 5 = .ok (.aload_n 0, 1) := by decide +kernel
theorem d_En_read_6 : decode b_En_read 6 = .ok (.getfield 89, 3) := by decide +kernel
theorem d_En_read_9 : decode b_En_read 9 = .ok (.if_icmp .le 6, 3) := by decide +kernel
theorem d_En_read_15 : decode b_En_read 15 = .ok (.aload_n 0, 1) := by decide +kernel
theorem d_En_read_16 : decode b_En_read 16 = .ok (.iconst 0, 1) := by decide +kernel
theorem d_En_read_17 : decode b_En_read 17 = .ok (.putfield 89, 3) := by decide +kernel
theorem d_En_read_20 : decode b_En_read 20 = .ok (.aload_n 0, 1) := by decide +kernel
theorem d_En_read_21 : decode b_En_read 21 = .ok (.iconst 1, 1) := by decide +kernel
theorem d_En_read_22 : decode b_En_read 22 = .ok (.putfield 97, 3) := by decide +kernel
theorem d_En_read_25 : decode b_En_read 25 = .ok (.aload_n 0, 1) := by decide +kernel
theorem d_En_read_26 : decode b_En_read 26 = .ok (.getfield 12, 3) := by decide +kernel
theorem d_En_read_29 : decode b_En_read 29 = .ok (.iload_n 1, 1) := by decide +kernel
theorem d_En_read_30 : decode b_En_read 30 = .ok (.invokevirtual 101, 3) := by decide +kernel
theorem d_En_read_33 : decode b_En_read 33 = .ok (.iconst 0, 1) := by decide +kernel
theorem d_En_read_34 : decode b_En_read 34 = .ok (.istore_n 2, 1) := by decide +kernel
theorem d_En_read_35 : decode b_En_read 35 = .ok (.iload_n 2, 1) := by decide +kernel
theorem d_En_read_36 : decode b_En_read 36 = .ok (.iload_n 1, 1) := by decide +kernel
theorem d_En_read_37 : decode b_En_read 37 = .ok (.if_icmp .ge 43, 3) := by decide +kernel
theorem d_En_read_80 : decode b_En_read 80 = .ok (.aload_n 0, 1) := by decide +kernel
theorem d_En_read_81 : decode b_En_read 81 = .ok (.getfield 12, 3) := by decide +kernel
theorem d_En_read_84 : decode b_En_read 84 = .ok (.getfield 120, 3) := by decide +kernel
theorem d_En_read_87 : decode b_En_read 87 = .ok (.ifCond .eq 12, 3) := by decide +kernel
theorem d_En_read_99 : decode b_En_read 99 = .ok (.aload_n 0, 1) := by decide +kernel
theorem d_En_read_100 : decode b_En_read 100 = .ok (.getfield 27, 3) := by decide +kernel
theorem d_En_read_103 : decode b_En_read 103 = .ok (.invokevirtual 126, 3) := by decide +kernel
theorem d_En_read_106 : decode b_En_read 106 = .ok (.ireturn, 1) := by decide +kernel
theorem d_En_mayDoNext_0 : decode b_En_mayDoNext 0 = .ok (.aload_n 0, 1) := by decide +kernel
theorem d_En_mayDoNext_1 : decode b_En_mayDoNext 1 = .ok (.getfield 27, 3) := by decide +kernel
theorem d_En_mayDoNext_4 : decode b_En_mayDoNext 4 = .ok (.invokevirtual 126, 3) := by decide +kernel
theorem d_En_mayDoNext_7 : decode b_En_mayDoNext 7 = .ok (.ifCond .eq 13, 3) := by decide +kernel
theorem d_En_mayDoNext_20 : decode b_En_mayDoNext 20 = .ok (.iconst 0, 1) := by decide +kernel
theorem d_En_mayDoNext_21 : decode b_En_mayDoNext 21 = .ok (.ireturn, 1) := by decide +kernel
theorem d_En_run_0 : decode b_En_run 0 = .ok (.iload_n 1, 1) := by decide +kernel
theorem d_En_run_1 : decode b_En_run 1 = .ok (.ifCond .lt 9, 3) := by decide +kernel
theorem d_En_run_10 : decode b_En_run 10 = .ok (.iconst (-1), 1) := by decide +kernel
theorem d_En_run_11 : decode b_En_run 11 = .ok (.ireturn, 1) := by decide +kernel
theorem d_En_run_4 : decode b_En_run 4 = .ok (.iload_n 1, 1) := by decide +kernel
theorem d_En_run_5 : decode b_En_run 5 = .ok (.bipush 16, 2) := by decide +kernel
theorem d_En_run_7 : decode b_En_run 7 = .ok (.if_icmp .le 5, 3) := by decide +kernel
theorem d_En_run_12 : decode b_En_run 12 = .ok (.iconst 0, 1) := by decide +kernel
theorem d_En_run_13 : decode b_En_run 13 = .ok (.istore_n 2, 1) := by decide +kernel
theorem d_En_run_14 : decode b_En_run 14 = .ok (.iload_n 2, 1) := by decide +kernel
theorem d_En_run_15 : decode b_En_run 15 = .ok (.iload_n 1, 1) := by decide +kernel
theorem d_En_run_16 : decode b_En_run 16 = .ok (.if_icmp .ge 86, 3) := by decide +kernel
theorem d_En_run_102 : decode b_En_run 102 = .ok (.iload_n 2, 1) := by decide +kernel
theorem d_En_run_103 : decode b_En_run 103 = .ok (.ireturn, 1) := by decide +kernel
theorem d_En_run_19 : decode b_En_run 19 = .ok (.aload_n 0, 1) := by decide +kernel
theorem d_En_run_20 : decode b_En_run 20 = .ok (.invokevirtual 132, 3) := by decide +kernel
theorem d_En_run_23 : decode b_En_run 23 = .ok (.ifCond .eq 79, 3) := by decide +kernel
theorem d_En_crossing_0 : decode b_En_crossing 0 = .ok (.iload_n 1, 1) := by decide +kernel
theorem d_En_crossing_1 : decode b_En_crossing 1 = .ok (.ifCond .lt 23, 3) := by decide +kernel
theorem d_En_crossing_24 : decode b_En_crossing 24 = .ok (.iconst 0, 1) := by decide +kernel
theorem d_En_crossing_25 : decode b_En_crossing 25 = .ok (.ireturn, 1) := by decide +kernel
theorem d_En_crossing_4 : decode b_En_crossing 4 = .ok (.iload_n 1, 1) := by decide +kernel
theorem d_En_crossing_5 : decode b_En_crossing 5 = .ok (.aload_n 0, 1) := by decide +kernel
theorem d_En_crossing_6 : decode b_En_crossing 6 = .ok (.getfield 66, 3) := by decide +kernel
theorem d_En_crossing_9 : decode b_En_crossing 9 = .ok (.getfield 157, 3) := by decide +kernel
theorem d_En_crossing_12 : decode b_En_crossing 12 = .ok (.if_icmp .ge 12, 3) := by decide +kernel
theorem d_En_printed_0 : decode b_En_printed 0 = .ok (.iload_n 1, 1) := by decide +kernel
theorem d_En_printed_1 : decode b_En_printed 1 = .ok (.ifCond .lt 26, 3) := by decide +kernel
theorem d_En_printed_27 : decode b_En_printed 27 = .ok (.iconst (-1), 1) := by decide +kernel
theorem d_En_printed_28 : decode b_En_printed 28 = .ok (.ireturn, 1) := by decide +kernel
theorem d_En_printed_4 : decode b_En_printed 4 = .ok (.iload_n 1, 1) := by decide +kernel
theorem d_En_printed_5 : decode b_En_printed 5 = .ok (.aload_n 0, 1) := by decide +kernel
theorem d_En_printed_6 : decode b_En_printed 6 = .ok (.getfield 31, 3) := by decide +kernel
theorem d_En_printed_9 : decode b_En_printed 9 = .ok (.getfield 138, 3) := by decide +kernel
theorem d_En_printed_12 : decode b_En_printed 12 = .ok (.if_icmp .ge 15, 3) := by decide +kernel
theorem d_En_wipe_0 : decode b_En_wipe 0 = .ok (.aload_n 0, 1) := by decide +kernel
theorem d_En_wipe_1 : decode b_En_wipe 1 = .ok (.getfield 31, 3) := by decide +kernel
theorem d_En_wipe_4 : decode b_En_wipe 4 = .ok (.getfield 138, 3) := by decide +kernel
theorem d_En_wipe_7 : decode b_En_wipe 7 = .ok (.istore_n 2, 1) := by decide +kernel
theorem d_En_wipe_8 : decode b_En_wipe 8 = .ok (.iload_n 1, 1) := by decide +kernel
theorem d_En_wipe_9 : decode b_En_wipe 9 = .ok (.ifCond .eq 25, 3) := by decide +kernel
theorem d_En_wipe_34 : decode b_En_wipe 34 = .ok (.aload_n 0, 1) := by decide +kernel
theorem d_En_wipe_35 : decode b_En_wipe 35 = .ok (.getfield 31, 3) := by decide +kernel
theorem d_En_wipe_38 : decode b_En_wipe 38 = .ok (.iconst 0, 1) := by decide +kernel
