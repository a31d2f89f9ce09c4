theorem dX11_block_0 : decode cX11_block 0 = .ok (.aload_n 0, 1) := by decide +kernel
theorem dX11_block_1 : decode cX11_block 1 = .ok (.getfield 67, 3) := by decide +kernel
theorem dX11_block_4 : decode cX11_block 4 = .ok (.ifnull 31, 3) := by decide +kernel
theorem dX11_block_35 : decode cX11_block 35 = .ok (.ldc2_w 126, 3) := by decide +kernel
theorem dX11_block_38 : decode cX11_block 38 = .ok (.lreturn, 1) := by decide +kernel
theorem dX11_calls_0 : decode cX11_calls 0 = .ok (.aload_n 0, 1) := by decide +kernel
theorem dX11_calls_1 : decode cX11_calls 1 = .ok (.getfield 76, 3) := by decide +kernel
theorem dX11_calls_4 : decode cX11_calls 4 = .ok (.ifnonnull 7, 3) := by decide +kernel
theorem dX11_calls_7 : decode cX11_calls 7 = .ok (.lconst 0, 1) := by decide +kernel
theorem dX11_calls_8 : decode cX11_calls 8 = .ok (.goto 12, 3) := by decide +kernel
theorem dX11_calls_20 : decode cX11_calls 20 = .ok (.lreturn, 1) := by decide +kernel
theorem dX11_check_0 : decode cX11_check 0 = .ok (.aload_n 0, 1) := by decide +kernel
theorem dX11_check_1 : decode cX11_check 1 = .ok (.getfield 84, 3) := by decide +kernel
theorem dX11_check_4 : decode cX11_check 4 = .ok (.ifnonnull 6, 3) := by decide +kernel
theorem dX11_check_7 : decode cX11_check 7 = .ok (.bipush (-14), 2) := by decide +kernel
theorem dX11_check_9 : decode cX11_check 9 = .ok (.ireturn, 1) := by decide +kernel
theorem dX11_count_0 : decode cX11_count 0 = .ok (.iload_n 1, 1) := by decide +kernel
theorem dX11_count_1 : decode cX11_count 1 = .ok (.ifCond .lt 8, 3) := by decide +kernel
theorem dX11_count_4 : decode cX11_count 4 = .ok (.iload_n 1, 1) := by decide +kernel
theorem dX11_count_5 : decode cX11_count 5 = .ok (.iconst 4, 1) := by decide +kernel
theorem dX11_count_6 : decode cX11_count 6 = .ok (.if_icmp .le 6, 3) := by decide +kernel
theorem dX11_count_9 : decode cX11_count 9 = .ok (.bipush (-14), 2) := by decide +kernel
theorem dX11_count_11 : decode cX11_count 11 = .ok (.ireturn, 1) := by decide +kernel
theorem dX11_count_12 : decode cX11_count 12 = .ok (.aload_n 0, 1) := by decide +kernel
theorem dX11_count_13 : decode cX11_count 13 = .ok (.getfield 67, 3) := by decide +kernel
theorem dX11_count_16 : decode cX11_count 16 = .ok (.ifnonnull 5, 3) := by decide +kernel
theorem dX11_count_19 : decode cX11_count 19 = .ok (.iconst 0, 1) := by decide +kernel
theorem dX11_count_20 : decode cX11_count 20 = .ok (.ireturn, 1) := by decide +kernel
theorem dX11_edge_0 : decode cX11_edge 0 = .ok (.aload_n 0, 1) := by decide +kernel
theorem dX11_edge_1 : decode cX11_edge 1 = .ok (.getfield 67, 3) := by decide +kernel
theorem dX11_edge_4 : decode cX11_edge 4 = .ok (.ifnull 10, 3) := by decide +kernel
theorem dX11_edge_14 : decode cX11_edge 14 = .ok (.bipush (-14), 2) := by decide +kernel
theorem dX11_edge_16 : decode cX11_edge 16 = .ok (.ireturn, 1) := by decide +kernel
theorem dX11_function_0 : decode cX11_function 0 = .ok (.aload_n 0, 1) := by decide +kernel
theorem dX11_function_1 : decode cX11_function 1 = .ok (.getfield 67, 3) := by decide +kernel
theorem dX11_function_4 : decode cX11_function 4 = .ok (.ifnull 30, 3) := by decide +kernel
theorem dX11_function_34 : decode cX11_function 34 = .ok (.ldc2_w 126, 3) := by decide +kernel
theorem dX11_function_37 : decode cX11_function 37 = .ok (.lreturn, 1) := by decide +kernel
theorem dX11_keeps_0 : decode cX11_keeps 0 = .ok (.aload_n 0, 1) := by decide +kernel
theorem dX11_keeps_1 : decode cX11_keeps 1 = .ok (.iconst 1, 1) := by decide +kernel
theorem dX11_keeps_2 : decode cX11_keeps 2 = .ok (.invokevirtual 295, 3) := by decide +kernel
theorem dX11_keeps_5 : decode cX11_keeps 5 = .ok (.astore_n 3, 1) := by decide +kernel
theorem dX11_keeps_6 : decode cX11_keeps 6 = .ok (.aload_n 3, 1) := by decide +kernel
theorem dX11_keeps_7 : decode cX11_keeps 7 = .ok (.ifnull 13, 3) := by decide +kernel
theorem dX11_keeps_20 : decode cX11_keeps 20 = .ok (.iconst (-1), 1) := by decide +kernel
theorem dX11_keeps_21 : decode cX11_keeps 21 = .ok (.ireturn, 1) := by decide +kernel
theorem dX11_kind_0 : decode cX11_kind 0 = .ok (.aload_n 0, 1) := by decide +kernel
theorem dX11_kind_1 : decode cX11_kind 1 = .ok (.iconst 1, 1) := by decide +kernel
theorem dX11_kind_2 : decode cX11_kind 2 = .ok (.invokevirtual 295, 3) := by decide +kernel
theorem dX11_kind_5 : decode cX11_kind 5 = .ok (.astore_n 2, 1) := by decide +kernel
theorem dX11_kind_6 : decode cX11_kind 6 = .ok (.aload_n 2, 1) := by decide +kernel
theorem dX11_kind_7 : decode cX11_kind 7 = .ok (.ifnonnull 7, 3) := by decide +kernel
theorem dX11_kind_10 : decode cX11_kind 10 = .ok (.iconst (-1), 1) := by decide +kernel
theorem dX11_kind_11 : decode cX11_kind 11 = .ok (.goto 8, 3) := by decide +kernel
theorem dX11_kind_19 : decode cX11_kind 19 = .ok (.ireturn, 1) := by decide +kernel
theorem dX11_laid_0 : decode cX11_laid 0 = .ok (.aload_n 0, 1) := by decide +kernel
theorem dX11_laid_1 : decode cX11_laid 1 = .ok (.getfield 84, 3) := by decide +kernel
theorem dX11_laid_4 : decode cX11_laid 4 = .ok (.ifnull 12, 3) := by decide +kernel
theorem dX11_laid_16 : decode cX11_laid 16 = .ok (.bipush (-14), 2) := by decide +kernel
theorem dX11_laid_18 : decode cX11_laid 18 = .ok (.ireturn, 1) := by decide +kernel
theorem dX11_latest_0 : decode cX11_latest 0 = .ok (.iload_n 1, 1) := by decide +kernel
theorem dX11_latest_1 : decode cX11_latest 1 = .ok (.ifCond .lt 29, 3) := by decide +kernel
theorem dX11_latest_4 : decode cX11_latest 4 = .ok (.iload_n 1, 1) := by decide +kernel
theorem dX11_latest_5 : decode cX11_latest 5 = .ok (.iconst 3, 1) := by decide +kernel
theorem dX11_latest_6 : decode cX11_latest 6 = .ok (.if_icmp .ge 24, 3) := by decide +kernel
theorem dX11_latest_9 : decode cX11_latest 9 = .ok (.aload_n 0, 1) := by decide +kernel
theorem dX11_latest_10 : decode cX11_latest 10 = .ok (.getfield 19, 3) := by decide +kernel
theorem dX11_latest_13 : decode cX11_latest 13 = .ok (.iload_n 1, 1) := by decide +kernel
theorem dX11_latest_14 : decode cX11_latest 14 = .ok (.aaload, 1) := by decide +kernel
theorem dX11_latest_15 : decode cX11_latest 15 = .ok (.ifnull 15, 3) := by decide +kernel
theorem dX11_latest_30 : decode cX11_latest 30 = .ok (.aconst_null, 1) := by decide +kernel
theorem dX11_latest_31 : decode cX11_latest 31 = .ok (.areturn, 1) := by decide +kernel
theorem dX11_lay_0 : decode cX11_lay 0 = .ok (.aload_n 0, 1) := by decide +kernel
theorem dX11_lay_1 : decode cX11_lay 1 = .ok (.getfield 67, 3) := by decide +kernel
theorem dX11_lay_4 : decode cX11_lay 4 = .ok (.ifnull 10, 3) := by decide +kernel
theorem dX11_lay_14 : decode cX11_lay 14 = .ok (.bipush (-14), 2) := by decide +kernel
theorem dX11_lay_16 : decode cX11_lay 16 = .ok (.ireturn, 1) := by decide +kernel
theorem dX11_memory_0 : decode cX11_memory 0 = .ok (.aload_n 0, 1) := by decide +kernel
theorem dX11_memory_1 : decode cX11_memory 1 = .ok (.iload_n 1, 1) := by decide +kernel
theorem dX11_memory_2 : decode cX11_memory 2 = .ok (.invokevirtual 295, 3) := by decide +kernel
theorem dX11_memory_5 : decode cX11_memory 5 = .ok (.astore 4, 2) := by decide +kernel
theorem dX11_memory_7 : decode cX11_memory 7 = .ok (.aload 4, 2) := by decide +kernel
theorem dX11_memory_9 : decode cX11_memory 9 = .ok (.ifnonnull 7, 3) := by decide +kernel
theorem dX11_memory_12 : decode cX11_memory 12 = .ok (.iconst (-1), 1) := by decide +kernel
theorem dX11_memory_13 : decode cX11_memory 13 = .ok (.goto 12, 3) := by decide +kernel
theorem dX11_memory_25 : decode cX11_memory 25 = .ok (.ireturn, 1) := by decide +kernel
theorem dX11_moved_0 : decode cX11_moved 0 = .ok (.aload_n 0, 1) := by decide +kernel
theorem dX11_moved_1 : decode cX11_moved 1 = .ok (.getfield 67, 3) := by decide +kernel
theorem dX11_moved_4 : decode cX11_moved 4 = .ok (.ifnull 21, 3) := by decide +kernel
theorem dX11_moved_25 : decode cX11_moved 25 = .ok (.ldc2_w 126, 3) := by decide +kernel
theorem dX11_moved_28 : decode cX11_moved 28 = .ok (.lreturn, 1) := by decide +kernel
theorem dX11_newer_0 : decode cX11_newer 0 = .ok (.aload_n 0, 1) := by decide +kernel
theorem dX11_newer_1 : decode cX11_newer 1 = .ok (.iconst 1, 1) := by decide +kernel
theorem dX11_newer_2 : decode cX11_newer 2 = .ok (.invokevirtual 295, 3) := by decide +kernel
theorem dX11_newer_5 : decode cX11_newer 5 = .ok (.astore_n 2, 1) := by decide +kernel
theorem dX11_newer_6 : decode cX11_newer 6 = .ok (.aload_n 2, 1) := by decide +kernel
theorem dX11_newer_7 : decode cX11_newer 7 = .ok (.ifnonnull 5, 3) := by decide +kernel
theorem dX11_newer_10 : decode cX11_newer 10 = .ok (.lconst 0, 1) := by decide +kernel
theorem dX11_newer_11 : decode cX11_newer 11 = .ok (.lreturn, 1) := by decide +kernel
theorem dX11_newest_0 : decode cX11_newest 0 = .ok (.aload_n 0, 1) := by decide +kernel
theorem dX11_newest_1 : decode cX11_newest 1 = .ok (.iconst 1, 1) := by decide +kernel
theorem dX11_newest_2 : decode cX11_newest 2 = .ok (.invokevirtual 295, 3) := by decide +kernel
theorem dX11_newest_5 : decode cX11_newest 5 = .ok (.astore_n 3, 1) := by decide +kernel
theorem dX11_newest_6 : decode cX11_newest 6 = .ok (.aload_n 0, 1) := by decide +kernel
theorem dX11_newest_7 : decode cX11_newest 7 = .ok (.lload_n 1, 1) := by decide +kernel
theorem dX11_newest_8 : decode cX11_newest 8 = .ok (.invokevirtual 344, 3) := by decide +kernel
theorem dX11_newest_11 : decode cX11_newest 11 = .ok (.istore 4, 2) := by decide +kernel
theorem dX11_newest_13 : decode cX11_newest 13 = .ok (.aload_n 3, 1) := by decide +kernel
theorem dX11_newest_14 : decode cX11_newest 14 = .ok (.ifnull 8, 3) := by decide +kernel
theorem dX11_newest_22 : decode cX11_newest 22 = .ok (.lconst 0, 1) := by decide +kernel
theorem dX11_newest_23 : decode cX11_newest 23 = .ok (.lreturn, 1) := by decide +kernel
theorem dX11_order_0 : decode cX11_order 0 = .ok (.aload_n 0, 1) := by decide +kernel
theorem dX11_order_1 : decode cX11_order 1 = .ok (.getfield 84, 3) := by decide +kernel
theorem dX11_order_4 : decode cX11_order 4 = .ok (.ifnull 14, 3) := by decide +kernel
theorem dX11_order_18 : decode cX11_order 18 = .ok (.iconst (-1), 1) := by decide +kernel
theorem dX11_order_19 : decode cX11_order 19 = .ok (.ireturn, 1) := by decide +kernel
theorem dX11_out_0 : decode cX11_out 0 = .ok (.aload_n 0, 1) := by decide +kernel
theorem dX11_out_1 : decode cX11_out 1 = .ok (.getfield 84, 3) := by decide +kernel
theorem dX11_out_4 : decode cX11_out 4 = .ok (.ifnull 21, 3) := by decide +kernel
theorem dX11_out_25 : decode cX11_out 25 = .ok (.iconst (-1), 1) := by decide +kernel
theorem dX11_out_26 : decode cX11_out 26 = .ok (.ireturn, 1) := by decide +kernel
theorem dX11_place_0 : decode cX11_place 0 = .ok (.aload_n 0, 1) := by decide +kernel
theorem dX11_place_1 : decode cX11_place 1 = .ok (.getfield 13, 3) := by decide +kernel
theorem dX11_place_4 : decode cX11_place 4 = .ok (.ireturn, 1) := by decide +kernel
theorem dX11_register_0 : decode cX11_register 0 = .ok (.aload_n 0, 1) := by decide +kernel
theorem dX11_register_1 : decode cX11_register 1 = .ok (.iload_n 1, 1) := by decide +kernel
theorem dX11_register_2 : decode cX11_register 2 = .ok (.invokevirtual 295, 3) := by decide +kernel
theorem dX11_register_5 : decode cX11_register 5 = .ok (.astore_n 3, 1) := by decide +kernel
theorem dX11_register_6 : decode cX11_register 6 = .ok (.aload_n 3, 1) := by decide +kernel
theorem dX11_register_7 : decode cX11_register 7 = .ok (.ifnonnull 7, 3) := by decide +kernel
theorem dX11_register_10 : decode cX11_register 10 = .ok (.lconst 0, 1) := by decide +kernel
theorem dX11_register_11 : decode cX11_register 11 = .ok (.goto 8, 3) := by decide +kernel
theorem dX11_register_19 : decode cX11_register 19 = .ok (.lreturn, 1) := by decide +kernel
theorem dX11_run_0 : decode cX11_run 0 = .ok (.aload_n 0, 1) := by decide +kernel
theorem dX11_run_1 : decode cX11_run 1 = .ok (.getfield 67, 3) := by decide +kernel
theorem dX11_run_4 : decode cX11_run 4 = .ok (.ifnull 15, 3) := by decide +kernel
theorem dX11_run_19 : decode cX11_run 19 = .ok (.bipush (-14), 2) := by decide +kernel
theorem dX11_run_21 : decode cX11_run 21 = .ok (.ireturn, 1) := by decide +kernel
theorem dX11_same_0 : decode cX11_same 0 = .ok (.aload_n 0, 1) := by decide +kernel
theorem dX11_same_1 : decode cX11_same 1 = .ok (.getfield 67, 3) := by decide +kernel
theorem dX11_same_4 : decode cX11_same 4 = .ok (.ifnonnull 5, 3) := by decide +kernel
theorem dX11_same_7 : decode cX11_same 7 = .ok (.iconst 0, 1) := by decide +kernel
theorem dX11_same_8 : decode cX11_same 8 = .ok (.ireturn, 1) := by decide +kernel
theorem dX11_size_0 : decode cX11_size 0 = .ok (.aload_n 0, 1) := by decide +kernel
theorem dX11_size_1 : decode cX11_size 1 = .ok (.getfield 84, 3) := by decide +kernel
theorem dX11_size_4 : decode cX11_size 4 = .ok (.ifnull 16, 3) := by decide +kernel
theorem dX11_size_20 : decode cX11_size 20 = .ok (.bipush (-14), 2) := by decide +kernel
theorem dX11_size_22 : decode cX11_size 22 = .ok (.ireturn, 1) := by decide +kernel
theorem dX11_strays_0 : decode cX11_strays 0 = .ok (.aload_n 0, 1) := by decide +kernel
theorem dX11_strays_1 : decode cX11_strays 1 = .ok (.getfield 226, 3) := by decide +kernel
theorem dX11_strays_4 : decode cX11_strays 4 = .ok (.ireturn, 1) := by decide +kernel
theorem dX11_text_0 : decode cX11_text 0 = .ok (.aload_n 0, 1) := by decide +kernel
theorem dX11_text_1 : decode cX11_text 1 = .ok (.iload_n 1, 1) := by decide +kernel
theorem dX11_text_2 : decode cX11_text 2 = .ok (.invokevirtual 295, 3) := by decide +kernel
theorem dX11_text_5 : decode cX11_text 5 = .ok (.astore_n 3, 1) := by decide +kernel
theorem dX11_text_6 : decode cX11_text 6 = .ok (.aload_n 3, 1) := by decide +kernel
theorem dX11_text_7 : decode cX11_text 7 = .ok (.ifnonnull 7, 3) := by decide +kernel
theorem dX11_text_10 : decode cX11_text 10 = .ok (.iconst (-1), 1) := by decide +kernel
theorem dX11_text_11 : decode cX11_text 11 = .ok (.goto 8, 3) := by decide +kernel
theorem dX11_text_19 : decode cX11_text 19 = .ok (.ireturn, 1) := by decide +kernel
theorem dX11_told_0 : decode cX11_told 0 = .ok (.aload_n 0, 1) := by decide +kernel
theorem dX11_told_1 : decode cX11_told 1 = .ok (.iload_n 1, 1) := by decide +kernel
theorem dX11_told_2 : decode cX11_told 2 = .ok (.invokevirtual 295, 3) := by decide +kernel
theorem dX11_told_5 : decode cX11_told 5 = .ok (.astore_n 3, 1) := by decide +kernel
theorem dX11_told_6 : decode cX11_told 6 = .ok (.aload_n 3, 1) := by decide +kernel
theorem dX11_told_7 : decode cX11_told 7 = .ok (.ifnull 12, 3) := by decide +kernel
theorem dX11_told_19 : decode cX11_told 19 = .ok (.bipush (-14), 2) := by decide +kernel
theorem dX11_told_21 : decode cX11_told 21 = .ok (.ireturn, 1) := by decide +kernel
theorem dX11_trace_0 : decode cX11_trace 0 = .ok (.aload_n 0, 1) := by decide +kernel
theorem dX11_trace_1 : decode cX11_trace 1 = .ok (.iload_n 1, 1) := by decide +kernel
theorem dX11_trace_2 : decode cX11_trace 2 = .ok (.invokevirtual 295, 3) := by decide +kernel
theorem dX11_trace_5 : decode cX11_trace 5 = .ok (.astore 4, 2) := by decide +kernel
theorem dX11_trace_7 : decode cX11_trace 7 = .ok (.aload 4, 2) := by decide +kernel
theorem dX11_trace_9 : decode cX11_trace 9 = .ok (.ifnonnull 7, 3) := by decide +kernel
theorem dX11_trace_12 : decode cX11_trace 12 = .ok (.lconst 0, 1) := by decide +kernel
theorem dX11_trace_13 : decode cX11_trace 13 = .ok (.goto 10, 3) := by decide +kernel
theorem dX11_trace_23 : decode cX11_trace 23 = .ok (.lreturn, 1) := by decide +kernel
theorem dX11_visit_0 : decode cX11_visit 0 = .ok (.aload_n 0, 1) := by decide +kernel
theorem dX11_visit_1 : decode cX11_visit 1 = .ok (.iload_n 1, 1) := by decide +kernel
theorem dX11_visit_2 : decode cX11_visit 2 = .ok (.invokevirtual 295, 3) := by decide +kernel
theorem dX11_visit_5 : decode cX11_visit 5 = .ok (.astore_n 3, 1) := by decide +kernel
theorem dX11_visit_6 : decode cX11_visit 6 = .ok (.aload_n 3, 1) := by decide +kernel
theorem dX11_visit_7 : decode cX11_visit 7 = .ok (.ifnonnull 7, 3) := by decide +kernel
theorem dX11_visit_10 : decode cX11_visit 10 = .ok (.iconst (-1), 1) := by decide +kernel
theorem dX11_visit_11 : decode cX11_visit 11 = .ok (.goto 8, 3) := by decide +kernel
theorem dX11_visit_19 : decode cX11_visit 19 = .ok (.ireturn, 1) := by decide +kernel
theorem dX11_way_0 : decode cX11_way 0 = .ok (.aload_n 0, 1) := by decide +kernel
theorem dX11_way_1 : decode cX11_way 1 = .ok (.getfield 76, 3) := by decide +kernel
theorem dX11_way_4 : decode cX11_way 4 = .ok (.ifnonnull 7, 3) := by decide +kernel
theorem dX11_way_7 : decode cX11_way 7 = .ok (.lconst 0, 1) := by decide +kernel
theorem dX11_way_8 : decode cX11_way 8 = .ok (.goto 12, 3) := by decide +kernel
theorem dX11_way_20 : decode cX11_way 20 = .ok (.lreturn, 1) := by decide +kernel
theorem dX11_weight_0 : decode cX11_weight 0 = .ok (.aload_n 0, 1) := by decide +kernel
theorem dX11_weight_1 : decode cX11_weight 1 = .ok (.getfield 67, 3) := by decide +kernel
theorem dX11_weight_4 : decode cX11_weight 4 = .ok (.ifnull 30, 3) := by decide +kernel
theorem dX11_weight_34 : decode cX11_weight 34 = .ok (.ldc2_w 126, 3) := by decide +kernel
theorem dX11_weight_37 : decode cX11_weight 37 = .ok (.lreturn, 1) := by decide +kernel
theorem dX15_block_0 : decode cX15_block 0 = .ok (.aload_n 0, 1) := by decide +kernel
theorem dX15_block_1 : decode cX15_block 1 = .ok (.getfield 265, 3) := by decide +kernel
theorem dX15_block_4 : decode cX15_block 4 = .ok (.ifCond .eq 15, 3) := by decide +kernel
theorem dX15_block_19 : decode cX15_block 19 = .ok (.ldc2_w 408, 3) := by decide +kernel
theorem dX15_block_22 : decode cX15_block 22 = .ok (.lreturn, 1) := by decide +kernel
theorem dX15_calls_0 : decode cX15_calls 0 = .ok (.lconst 0, 1) := by decide +kernel
theorem dX15_calls_1 : decode cX15_calls 1 = .ok (.lstore_n 3, 1) := by decide +kernel
theorem dX15_calls_2 : decode cX15_calls 2 = .ok (.iconst 0, 1) := by decide +kernel
theorem dX15_calls_3 : decode cX15_calls 3 = .ok (.istore 5, 2) := by decide +kernel
theorem dX15_calls_5 : decode cX15_calls 5 = .ok (.iload 5, 2) := by decide +kernel
theorem dX15_calls_7 : decode cX15_calls 7 = .ok (.aload_n 0, 1) := by decide +kernel
theorem dX15_calls_8 : decode cX15_calls 8 = .ok (.getfield 272, 3) := by decide +kernel
theorem dX15_calls_11 : decode cX15_calls 11 = .ok (.if_icmp .ge 68, 3) := by decide +kernel
theorem dX15_calls_79 : decode cX15_calls 79 = .ok (.lload_n 3, 1) := by decide +kernel
theorem dX15_calls_80 : decode cX15_calls 80 = .ok (.lreturn, 1) := by decide +kernel
theorem dX15_check_0 : decode cX15_check 0 = .ok (.aload_n 0, 1) := by decide +kernel
theorem dX15_check_1 : decode cX15_check 1 = .ok (.getfield 275, 3) := by decide +kernel
theorem dX15_check_4 : decode cX15_check 4 = .ok (.ifCond .ne 6, 3) := by decide +kernel
theorem dX15_check_7 : decode cX15_check 7 = .ok (.bipush (-14), 2) := by decide +kernel
theorem dX15_check_9 : decode cX15_check 9 = .ok (.ireturn, 1) := by decide +kernel
theorem dX15_count_0 : decode cX15_count 0 = .ok (.iload_n 1, 1) := by decide +kernel
theorem dX15_count_1 : decode cX15_count 1 = .ok (.ifCond .lt 8, 3) := by decide +kernel
theorem dX15_count_4 : decode cX15_count 4 = .ok (.iload_n 1, 1) := by decide +kernel
theorem dX15_count_5 : decode cX15_count 5 = .ok (.iconst 4, 1) := by decide +kernel
theorem dX15_count_6 : decode cX15_count 6 = .ok (.if_icmp .le 6, 3) := by decide +kernel
theorem dX15_count_9 : decode cX15_count 9 = .ok (.bipush (-14), 2) := by decide +kernel
theorem dX15_count_11 : decode cX15_count 11 = .ok (.ireturn, 1) := by decide +kernel
theorem dX15_count_12 : decode cX15_count 12 = .ok (.aload_n 0, 1) := by decide +kernel
theorem dX15_count_13 : decode cX15_count 13 = .ok (.getfield 265, 3) := by decide +kernel
theorem dX15_count_16 : decode cX15_count 16 = .ok (.ifCond .ne 5, 3) := by decide +kernel
theorem dX15_count_19 : decode cX15_count 19 = .ok (.iconst 0, 1) := by decide +kernel
theorem dX15_count_20 : decode cX15_count 20 = .ok (.ireturn, 1) := by decide +kernel
theorem dX15_edge_0 : decode cX15_edge 0 = .ok (.aload_n 0, 1) := by decide +kernel
theorem dX15_edge_1 : decode cX15_edge 1 = .ok (.getfield 265, 3) := by decide +kernel
theorem dX15_edge_4 : decode cX15_edge 4 = .ok (.ifCond .ne 6, 3) := by decide +kernel
theorem dX15_edge_7 : decode cX15_edge 7 = .ok (.bipush (-14), 2) := by decide +kernel
theorem dX15_edge_9 : decode cX15_edge 9 = .ok (.ireturn, 1) := by decide +kernel
theorem dX15_function_0 : decode cX15_function 0 = .ok (.aload_n 0, 1) := by decide +kernel
theorem dX15_function_1 : decode cX15_function 1 = .ok (.getfield 265, 3) := by decide +kernel
theorem dX15_function_4 : decode cX15_function 4 = .ok (.ifCond .eq 24, 3) := by decide +kernel
theorem dX15_function_28 : decode cX15_function 28 = .ok (.ldc2_w 408, 3) := by decide +kernel
theorem dX15_function_31 : decode cX15_function 31 = .ok (.lreturn, 1) := by decide +kernel
theorem dX15_keeps_0 : decode cX15_keeps 0 = .ok (.aload_n 0, 1) := by decide +kernel
theorem dX15_keeps_1 : decode cX15_keeps 1 = .ok (.iconst 1, 1) := by decide +kernel
theorem dX15_keeps_2 : decode cX15_keeps 2 = .ok (.invokevirtual 594, 3) := by decide +kernel
theorem dX15_keeps_5 : decode cX15_keeps 5 = .ok (.astore_n 3, 1) := by decide +kernel
theorem dX15_keeps_6 : decode cX15_keeps 6 = .ok (.aload_n 3, 1) := by decide +kernel
theorem dX15_keeps_7 : decode cX15_keeps 7 = .ok (.ifnull 13, 3) := by decide +kernel
theorem dX15_keeps_20 : decode cX15_keeps 20 = .ok (.iconst (-1), 1) := by decide +kernel
theorem dX15_keeps_21 : decode cX15_keeps 21 = .ok (.goto 10, 3) := by decide +kernel
theorem dX15_keeps_31 : decode cX15_keeps 31 = .ok (.istore 4, 2) := by decide +kernel
theorem dX15_keeps_33 : decode cX15_keeps 33 = .ok (.iload 4, 2) := by decide +kernel
theorem dX15_keeps_35 : decode cX15_keeps 35 = .ok (.ifCond .ge 7, 3) := by decide +kernel
theorem dX15_keeps_38 : decode cX15_keeps 38 = .ok (.iconst (-1), 1) := by decide +kernel
theorem dX15_keeps_39 : decode cX15_keeps 39 = .ok (.goto 13, 3) := by decide +kernel
theorem dX15_keeps_52 : decode cX15_keeps 52 = .ok (.ireturn, 1) := by decide +kernel
theorem dX15_kind_0 : decode cX15_kind 0 = .ok (.aload_n 0, 1) := by decide +kernel
theorem dX15_kind_1 : decode cX15_kind 1 = .ok (.iconst 1, 1) := by decide +kernel
theorem dX15_kind_2 : decode cX15_kind 2 = .ok (.invokevirtual 594, 3) := by decide +kernel
theorem dX15_kind_5 : decode cX15_kind 5 = .ok (.astore_n 2, 1) := by decide +kernel
theorem dX15_kind_6 : decode cX15_kind 6 = .ok (.aload_n 2, 1) := by decide +kernel
theorem dX15_kind_7 : decode cX15_kind 7 = .ok (.ifnull 13, 3) := by decide +kernel
theorem dX15_kind_20 : decode cX15_kind 20 = .ok (.iconst (-1), 1) := by decide +kernel
theorem dX15_kind_21 : decode cX15_kind 21 = .ok (.goto 9, 3) := by decide +kernel
theorem dX15_kind_30 : decode cX15_kind 30 = .ok (.ireturn, 1) := by decide +kernel
theorem dX15_known_0 : decode cX15_known 0 = .ok (.aload_n 0, 1) := by decide +kernel
theorem dX15_known_1 : decode cX15_known 1 = .ok (.iload_n 1, 1) := by decide +kernel
theorem dX15_known_2 : decode cX15_known 2 = .ok (.invokevirtual 587, 3) := by decide +kernel
theorem dX15_known_5 : decode cX15_known 5 = .ok (.astore_n 2, 1) := by decide +kernel
theorem dX15_known_6 : decode cX15_known 6 = .ok (.aload_n 2, 1) := by decide +kernel
theorem dX15_known_7 : decode cX15_known 7 = .ok (.ifnull 10, 3) := by decide +kernel
theorem dX15_known_10 : decode cX15_known 10 = .ok (.aload_n 2, 1) := by decide +kernel
theorem dX15_known_11 : decode cX15_known 11 = .ok (.getfield 584, 3) := by decide +kernel
theorem dX15_known_14 : decode cX15_known 14 = .ok (.ifCond .ne 7, 3) := by decide +kernel
theorem dX15_known_17 : decode cX15_known 17 = .ok (.aconst_null, 1) := by decide +kernel
theorem dX15_known_18 : decode cX15_known 18 = .ok (.goto 4, 3) := by decide +kernel
theorem dX15_known_22 : decode cX15_known 22 = .ok (.areturn, 1) := by decide +kernel
theorem dX15_laid_0 : decode cX15_laid 0 = .ok (.aload_n 0, 1) := by decide +kernel
theorem dX15_laid_1 : decode cX15_laid 1 = .ok (.getfield 275, 3) := by decide +kernel
theorem dX15_laid_4 : decode cX15_laid 4 = .ok (.ifCond .eq 12, 3) := by decide +kernel
theorem dX15_laid_16 : decode cX15_laid 16 = .ok (.bipush (-14), 2) := by decide +kernel
theorem dX15_laid_18 : decode cX15_laid 18 = .ok (.ireturn, 1) := by decide +kernel
theorem dX15_lay_0 : decode cX15_lay 0 = .ok (.aload_n 0, 1) := by decide +kernel
theorem dX15_lay_1 : decode cX15_lay 1 = .ok (.getfield 265, 3) := by decide +kernel
theorem dX15_lay_4 : decode cX15_lay 4 = .ok (.ifCond .ne 6, 3) := by decide +kernel
theorem dX15_lay_7 : decode cX15_lay 7 = .ok (.bipush (-14), 2) := by decide +kernel
theorem dX15_lay_9 : decode cX15_lay 9 = .ok (.ireturn, 1) := by decide +kernel
theorem dX15_memory_0 : decode cX15_memory 0 = .ok (.aload_n 0, 1) := by decide +kernel
theorem dX15_memory_1 : decode cX15_memory 1 = .ok (.iload_n 1, 1) := by decide +kernel
theorem dX15_memory_2 : decode cX15_memory 2 = .ok (.invokevirtual 594, 3) := by decide +kernel
theorem dX15_memory_5 : decode cX15_memory 5 = .ok (.astore 4, 2) := by decide +kernel
theorem dX15_memory_7 : decode cX15_memory 7 = .ok (.aload 4, 2) := by decide +kernel
theorem dX15_memory_9 : decode cX15_memory 9 = .ok (.ifnonnull 7, 3) := by decide +kernel
theorem dX15_memory_12 : decode cX15_memory 12 = .ok (.iconst (-1), 1) := by decide +kernel
theorem dX15_memory_13 : decode cX15_memory 13 = .ok (.goto 10, 3) := by decide +kernel
theorem dX15_memory_23 : decode cX15_memory 23 = .ok (.istore 5, 2) := by decide +kernel
theorem dX15_memory_25 : decode cX15_memory 25 = .ok (.iload 5, 2) := by decide +kernel
theorem dX15_memory_27 : decode cX15_memory 27 = .ok (.ifCond .ge 7, 3) := by decide +kernel
theorem dX15_memory_30 : decode cX15_memory 30 = .ok (.iconst (-1), 1) := by decide +kernel
theorem dX15_memory_31 : decode cX15_memory 31 = .ok (.goto 15, 3) := by decide +kernel
theorem dX15_memory_46 : decode cX15_memory 46 = .ok (.ireturn, 1) := by decide +kernel
theorem dX15_moved_0 : decode cX15_moved 0 = .ok (.aload_n 0, 1) := by decide +kernel
theorem dX15_moved_1 : decode cX15_moved 1 = .ok (.lload_n 1, 1) := by decide +kernel
theorem dX15_moved_2 : decode cX15_moved 2 = .ok (.invokevirtual 423, 3) := by decide +kernel
theorem dX15_moved_5 : decode cX15_moved 5 = .ok (.istore_n 3, 1) := by decide +kernel
theorem dX15_moved_6 : decode cX15_moved 6 = .ok (.aload_n 0, 1) := by decide +kernel
theorem dX15_moved_7 : decode cX15_moved 7 = .ok (.getfield 275, 3) := by decide +kernel
theorem dX15_moved_10 : decode cX15_moved 10 = .ok (.ifCond .eq 7, 3) := by decide +kernel
theorem dX15_moved_17 : decode cX15_moved 17 = .ok (.ldc2_w 408, 3) := by decide +kernel
theorem dX15_moved_20 : decode cX15_moved 20 = .ok (.goto 21, 3) := by decide +kernel
theorem dX15_moved_41 : decode cX15_moved 41 = .ok (.lreturn, 1) := by decide +kernel
theorem dX15_newer_0 : decode cX15_newer 0 = .ok (.aload_n 0, 1) := by decide +kernel
theorem dX15_newer_1 : decode cX15_newer 1 = .ok (.iconst 1, 1) := by decide +kernel
theorem dX15_newer_2 : decode cX15_newer 2 = .ok (.invokevirtual 594, 3) := by decide +kernel
theorem dX15_newer_5 : decode cX15_newer 5 = .ok (.astore_n 2, 1) := by decide +kernel
theorem dX15_newer_6 : decode cX15_newer 6 = .ok (.aload_n 2, 1) := by decide +kernel
theorem dX15_newer_7 : decode cX15_newer 7 = .ok (.ifnull 13, 3) := by decide +kernel
theorem dX15_newer_20 : decode cX15_newer 20 = .ok (.lconst 0, 1) := by decide +kernel
theorem dX15_newer_21 : decode cX15_newer 21 = .ok (.lreturn, 1) := by decide +kernel
theorem dX15_newest_0 : decode cX15_newest 0 = .ok (.aload_n 0, 1) := by decide +kernel
theorem dX15_newest_1 : decode cX15_newest 1 = .ok (.lload_n 1, 1) := by decide +kernel
theorem dX15_newest_2 : decode cX15_newest 2 = .ok (.invokevirtual 648, 3) := by decide +kernel
theorem dX15_newest_5 : decode cX15_newest 5 = .ok (.istore_n 3, 1) := by decide +kernel
theorem dX15_newest_6 : decode cX15_newest 6 = .ok (.iload_n 3, 1) := by decide +kernel
theorem dX15_newest_7 : decode cX15_newest 7 = .ok (.iconst 1, 1) := by decide +kernel
theorem dX15_newest_8 : decode cX15_newest 8 = .ok (.if_icmp .ge 5, 3) := by decide +kernel
theorem dX15_newest_11 : decode cX15_newest 11 = .ok (.lconst 0, 1) := by decide +kernel
theorem dX15_newest_12 : decode cX15_newest 12 = .ok (.lreturn, 1) := by decide +kernel
theorem dX15_order_0 : decode cX15_order 0 = .ok (.aload_n 0, 1) := by decide +kernel
theorem dX15_order_1 : decode cX15_order 1 = .ok (.getfield 275, 3) := by decide +kernel
theorem dX15_order_4 : decode cX15_order 4 = .ok (.ifCond .eq 27, 3) := by decide +kernel
theorem dX15_order_31 : decode cX15_order 31 = .ok (.iconst (-1), 1) := by decide +kernel
theorem dX15_order_32 : decode cX15_order 32 = .ok (.ireturn, 1) := by decide +kernel
theorem dX15_out_0 : decode cX15_out 0 = .ok (.aload_n 0, 1) := by decide +kernel
theorem dX15_out_1 : decode cX15_out 1 = .ok (.getfield 275, 3) := by decide +kernel
theorem dX15_out_4 : decode cX15_out 4 = .ok (.ifCond .eq 28, 3) := by decide +kernel
theorem dX15_out_32 : decode cX15_out 32 = .ok (.iconst (-1), 1) := by decide +kernel
theorem dX15_out_33 : decode cX15_out 33 = .ok (.ireturn, 1) := by decide +kernel
theorem dX15_place_0 : decode cX15_place 0 = .ok (.aload_n 0, 1) := by decide +kernel
theorem dX15_place_1 : decode cX15_place 1 = .ok (.getfield 32, 3) := by decide +kernel
theorem dX15_place_4 : decode cX15_place 4 = .ok (.l2i, 1) := by decide +kernel
theorem dX15_place_5 : decode cX15_place 5 = .ok (.ireturn, 1) := by decide +kernel
theorem dX15_register_0 : decode cX15_register 0 = .ok (.aload_n 0, 1) := by decide +kernel
theorem dX15_register_1 : decode cX15_register 1 = .ok (.iload_n 1, 1) := by decide +kernel
theorem dX15_register_2 : decode cX15_register 2 = .ok (.invokevirtual 594, 3) := by decide +kernel
theorem dX15_register_5 : decode cX15_register 5 = .ok (.astore_n 3, 1) := by decide +kernel
theorem dX15_register_6 : decode cX15_register 6 = .ok (.aload_n 3, 1) := by decide +kernel
theorem dX15_register_7 : decode cX15_register 7 = .ok (.ifnull 13, 3) := by decide +kernel
theorem dX15_register_20 : decode cX15_register 20 = .ok (.lconst 0, 1) := by decide +kernel
theorem dX15_register_21 : decode cX15_register 21 = .ok (.goto 9, 3) := by decide +kernel
theorem dX15_register_30 : decode cX15_register 30 = .ok (.lreturn, 1) := by decide +kernel
theorem dX15_run_0 : decode cX15_run 0 = .ok (.aload_n 0, 1) := by decide +kernel
theorem dX15_run_1 : decode cX15_run 1 = .ok (.getfield 265, 3) := by decide +kernel
theorem dX15_run_4 : decode cX15_run 4 = .ok (.ifCond .eq 15, 3) := by decide +kernel
theorem dX15_run_19 : decode cX15_run 19 = .ok (.bipush (-14), 2) := by decide +kernel
theorem dX15_run_21 : decode cX15_run 21 = .ok (.ireturn, 1) := by decide +kernel
theorem dX15_runOf_0 : decode cX15_runOf 0 = .ok (.iload_n 1, 1) := by decide +kernel
theorem dX15_runOf_1 : decode cX15_runOf 1 = .ok (.ifCond .ne 10, 3) := by decide +kernel
theorem dX15_runOf_4 : decode cX15_runOf 4 = .ok (.aload_n 0, 1) := by decide +kernel
theorem dX15_runOf_5 : decode cX15_runOf 5 = .ok (.getfield 168, 3) := by decide +kernel
theorem dX15_runOf_8 : decode cX15_runOf 8 = .ok (.goto 28, 3) := by decide +kernel
theorem dX15_runOf_11 : decode cX15_runOf 11 = .ok (.iload_n 1, 1) := by decide +kernel
theorem dX15_runOf_12 : decode cX15_runOf 12 = .ok (.iconst 1, 1) := by decide +kernel
theorem dX15_runOf_13 : decode cX15_runOf 13 = .ok (.if_icmp .ne 10, 3) := by decide +kernel
theorem dX15_runOf_16 : decode cX15_runOf 16 = .ok (.aload_n 0, 1) := by decide +kernel
theorem dX15_runOf_17 : decode cX15_runOf 17 = .ok (.getfield 172, 3) := by decide +kernel
theorem dX15_runOf_20 : decode cX15_runOf 20 = .ok (.goto 16, 3) := by decide +kernel
theorem dX15_runOf_23 : decode cX15_runOf 23 = .ok (.iload_n 1, 1) := by decide +kernel
theorem dX15_runOf_24 : decode cX15_runOf 24 = .ok (.iconst 2, 1) := by decide +kernel
theorem dX15_runOf_25 : decode cX15_runOf 25 = .ok (.if_icmp .ne 10, 3) := by decide +kernel
theorem dX15_runOf_28 : decode cX15_runOf 28 = .ok (.aload_n 0, 1) := by decide +kernel
theorem dX15_runOf_29 : decode cX15_runOf 29 = .ok (.getfield 175, 3) := by decide +kernel
theorem dX15_runOf_32 : decode cX15_runOf 32 = .ok (.goto 4, 3) := by decide +kernel
theorem dX15_runOf_35 : decode cX15_runOf 35 = .ok (.aconst_null, 1) := by decide +kernel
theorem dX15_runOf_36 : decode cX15_runOf 36 = .ok (.areturn, 1) := by decide +kernel
theorem dX15_same_0 : decode cX15_same 0 = .ok (.aload_n 0, 1) := by decide +kernel
theorem dX15_same_1 : decode cX15_same 1 = .ok (.getfield 265, 3) := by decide +kernel
theorem dX15_same_4 : decode cX15_same 4 = .ok (.ifCond .ne 5, 3) := by decide +kernel
theorem dX15_same_7 : decode cX15_same 7 = .ok (.iconst 0, 1) := by decide +kernel
theorem dX15_same_8 : decode cX15_same 8 = .ok (.ireturn, 1) := by decide +kernel
theorem dX15_size_0 : decode cX15_size 0 = .ok (.aload_n 0, 1) := by decide +kernel
theorem dX15_size_1 : decode cX15_size 1 = .ok (.getfield 275, 3) := by decide +kernel
theorem dX15_size_4 : decode cX15_size 4 = .ok (.ifCond .eq 10, 3) := by decide +kernel
theorem dX15_size_14 : decode cX15_size 14 = .ok (.bipush (-14), 2) := by decide +kernel
theorem dX15_size_16 : decode cX15_size 16 = .ok (.ireturn, 1) := by decide +kernel
theorem dX15_strays_0 : decode cX15_strays 0 = .ok (.aload_n 0, 1) := by decide +kernel
theorem dX15_strays_1 : decode cX15_strays 1 = .ok (.getfield 518, 3) := by decide +kernel
theorem dX15_strays_4 : decode cX15_strays 4 = .ok (.ireturn, 1) := by decide +kernel
theorem dX15_text_0 : decode cX15_text 0 = .ok (.aload_n 0, 1) := by decide +kernel
theorem dX15_text_1 : decode cX15_text 1 = .ok (.iload_n 1, 1) := by decide +kernel
theorem dX15_text_2 : decode cX15_text 2 = .ok (.invokevirtual 594, 3) := by decide +kernel
theorem dX15_text_5 : decode cX15_text 5 = .ok (.astore_n 3, 1) := by decide +kernel
theorem dX15_text_6 : decode cX15_text 6 = .ok (.aload_n 3, 1) := by decide +kernel
theorem dX15_text_7 : decode cX15_text 7 = .ok (.ifnull 22, 3) := by decide +kernel
theorem dX15_text_29 : decode cX15_text 29 = .ok (.iconst (-1), 1) := by decide +kernel
theorem dX15_text_30 : decode cX15_text 30 = .ok (.goto 13, 3) := by decide +kernel
theorem dX15_text_43 : decode cX15_text 43 = .ok (.ireturn, 1) := by decide +kernel
theorem dX15_told_0 : decode cX15_told 0 = .ok (.aload_n 0, 1) := by decide +kernel
theorem dX15_told_1 : decode cX15_told 1 = .ok (.iload_n 1, 1) := by decide +kernel
theorem dX15_told_2 : decode cX15_told 2 = .ok (.invokevirtual 594, 3) := by decide +kernel
theorem dX15_told_5 : decode cX15_told 5 = .ok (.astore_n 3, 1) := by decide +kernel
theorem dX15_told_6 : decode cX15_told 6 = .ok (.aload_n 3, 1) := by decide +kernel
theorem dX15_told_7 : decode cX15_told 7 = .ok (.ifnonnull 6, 3) := by decide +kernel
theorem dX15_told_10 : decode cX15_told 10 = .ok (.bipush (-14), 2) := by decide +kernel
theorem dX15_told_12 : decode cX15_told 12 = .ok (.ireturn, 1) := by decide +kernel
theorem dX15_trace_0 : decode cX15_trace 0 = .ok (.aload_n 0, 1) := by decide +kernel
theorem dX15_trace_1 : decode cX15_trace 1 = .ok (.iload_n 1, 1) := by decide +kernel
theorem dX15_trace_2 : decode cX15_trace 2 = .ok (.invokevirtual 594, 3) := by decide +kernel
theorem dX15_trace_5 : decode cX15_trace 5 = .ok (.astore 4, 2) := by decide +kernel
theorem dX15_trace_7 : decode cX15_trace 7 = .ok (.aload 4, 2) := by decide +kernel
theorem dX15_trace_9 : decode cX15_trace 9 = .ok (.ifnull 32, 3) := by decide +kernel
theorem dX15_trace_41 : decode cX15_trace 41 = .ok (.lconst 0, 1) := by decide +kernel
theorem dX15_trace_42 : decode cX15_trace 42 = .ok (.goto 14, 3) := by decide +kernel
theorem dX15_trace_56 : decode cX15_trace 56 = .ok (.lreturn, 1) := by decide +kernel
theorem dX15_visit_0 : decode cX15_visit 0 = .ok (.aload_n 0, 1) := by decide +kernel
theorem dX15_visit_1 : decode cX15_visit 1 = .ok (.iload_n 1, 1) := by decide +kernel
theorem dX15_visit_2 : decode cX15_visit 2 = .ok (.invokevirtual 594, 3) := by decide +kernel
theorem dX15_visit_5 : decode cX15_visit 5 = .ok (.astore_n 3, 1) := by decide +kernel
theorem dX15_visit_6 : decode cX15_visit 6 = .ok (.aload_n 3, 1) := by decide +kernel
theorem dX15_visit_7 : decode cX15_visit 7 = .ok (.ifnull 15, 3) := by decide +kernel
theorem dX15_visit_22 : decode cX15_visit 22 = .ok (.iconst (-1), 1) := by decide +kernel
theorem dX15_visit_23 : decode cX15_visit 23 = .ok (.goto 9, 3) := by decide +kernel
theorem dX15_visit_32 : decode cX15_visit 32 = .ok (.ireturn, 1) := by decide +kernel
theorem dX15_way_0 : decode cX15_way 0 = .ok (.iconst 0, 1) := by decide +kernel
theorem dX15_way_1 : decode cX15_way 1 = .ok (.istore_n 3, 1) := by decide +kernel
theorem dX15_way_2 : decode cX15_way 2 = .ok (.iload_n 3, 1) := by decide +kernel
theorem dX15_way_3 : decode cX15_way 3 = .ok (.aload_n 0, 1) := by decide +kernel
theorem dX15_way_4 : decode cX15_way 4 = .ok (.getfield 272, 3) := by decide +kernel
theorem dX15_way_7 : decode cX15_way 7 = .ok (.if_icmp .ge 52, 3) := by decide +kernel
theorem dX15_way_59 : decode cX15_way 59 = .ok (.lconst 0, 1) := by decide +kernel
theorem dX15_way_60 : decode cX15_way 60 = .ok (.lreturn, 1) := by decide +kernel
theorem dX15_weight_0 : decode cX15_weight 0 = .ok (.aload_n 0, 1) := by decide +kernel
theorem dX15_weight_1 : decode cX15_weight 1 = .ok (.getfield 275, 3) := by decide +kernel
theorem dX15_weight_4 : decode cX15_weight 4 = .ok (.ifCond .eq 24, 3) := by decide +kernel
theorem dX15_weight_28 : decode cX15_weight 28 = .ok (.ldc2_w 408, 3) := by decide +kernel
theorem dX15_weight_31 : decode cX15_weight 31 = .ok (.lreturn, 1) := by decide +kernel
theorem dX15_wordAt_0 : decode cX15_wordAt 0 = .ok (.aload_n 0, 1) := by decide +kernel
theorem dX15_wordAt_1 : decode cX15_wordAt 1 = .ok (.getfield 265, 3) := by decide +kernel
theorem dX15_wordAt_4 : decode cX15_wordAt 4 = .ok (.ifCond .eq 36, 3) := by decide +kernel
theorem dX15_wordAt_40 : decode cX15_wordAt 40 = .ok (.iconst (-1), 1) := by decide +kernel
theorem dX15_wordAt_41 : decode cX15_wordAt 41 = .ok (.ireturn, 1) := by decide +kernel
