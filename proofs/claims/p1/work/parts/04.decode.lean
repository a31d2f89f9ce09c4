theorem dX10_fileHeadHolds_0 : decode cX10_fileHeadHolds 0 = .ok (.aload_n 0, 1) := by decide +kernel
theorem dX10_fileHeadHolds_1 : decode cX10_fileHeadHolds 1 = .ok (.aload_n 0, 1) := by decide +kernel
theorem dX10_fileHeadHolds_2 : decode cX10_fileHeadHolds 2 = .ok (.getfield 7, 3) := by decide +kernel
theorem dX10_fileHeadHolds_5 : decode cX10_fileHeadHolds 5 = .ok (.getfield 74, 3) := by decide +kernel
theorem dX10_fileHeadHolds_8 : decode cX10_fileHeadHolds 8 = .ok (.bipush 64, 2) := by decide +kernel
theorem dX10_fileHeadHolds_10 : decode cX10_fileHeadHolds 10 = .ok (.if_icmp .lt 7, 3) := by decide +kernel
theorem dX10_fileHeadHolds_17 : decode cX10_fileHeadHolds 17 = .ok (.iconst 0, 1) := by decide +kernel
theorem dX10_fileHeadHolds_18 : decode cX10_fileHeadHolds 18 = .ok (.aload_n 0, 1) := by decide +kernel
theorem dX10_fileHeadHolds_19 : decode cX10_fileHeadHolds 19 = .ok (.getfield 7, 3) := by decide +kernel
theorem dX10_fileHeadHolds_22 : decode cX10_fileHeadHolds 22 = .ok (.getfield 74, 3) := by decide +kernel
theorem dX10_fileHeadHolds_25 : decode cX10_fileHeadHolds 25 = .ok (.invokevirtual 70, 3) := by decide +kernel
theorem dX10_fileHeadHolds_28 : decode cX10_fileHeadHolds 28 = .ok (.ifCond .eq 15, 3) := by decide +kernel
theorem dX10_fileHeadHolds_43 : decode cX10_fileHeadHolds 43 = .ok (.iconst 0, 1) := by decide +kernel
theorem dX10_fileHeadHolds_44 : decode cX10_fileHeadHolds 44 = .ok (.ireturn, 1) := by decide +kernel
theorem dX10_init_0 : decode cX10_init 0 = .ok (.aload_n 0, 1) := by decide +kernel
theorem dX10_init_1 : decode cX10_init 1 = .ok (.invokespecial 1, 3) := by decide +kernel
theorem dX10_init_4 : decode cX10_init 4 = .ok (.aload_n 0, 1) := by decide +kernel
theorem dX10_init_5 : decode cX10_init 5 = .ok (.aload_n 1, 1) := by decide +kernel
theorem dX10_init_6 : decode cX10_init 6 = .ok (.putfield 7, 3) := by decide +kernel
theorem dX10_init_9 : decode cX10_init 9 = .ok (.aload_n 0, 1) := by decide +kernel
theorem dX10_init_10 : decode cX10_init 10 = .ok (.iconst (-1), 1) := by decide +kernel
theorem dX10_init_11 : decode cX10_init 11 = .ok (.putfield 13, 3) := by decide +kernel
theorem dX10_init_14 : decode cX10_init 14 = .ok (.aload_n 0, 1) := by decide +kernel
theorem dX10_init_15 : decode cX10_init 15 = .ok (.iconst 4, 1) := by decide +kernel
theorem dX10_init_16 : decode cX10_init 16 = .ok (.newarray .int, 2) := by decide +kernel
theorem dX10_init_18 : decode cX10_init 18 = .ok (.putfield 17, 3) := by decide +kernel
theorem dX10_init_21 : decode cX10_init 21 = .ok (.aload_n 0, 1) := by decide +kernel
theorem dX10_init_22 : decode cX10_init 22 = .ok (.iconst 4, 1) := by decide +kernel
theorem dX10_init_23 : decode cX10_init 23 = .ok (.newarray .int, 2) := by decide +kernel
theorem dX10_init_25 : decode cX10_init 25 = .ok (.putfield 21, 3) := by decide +kernel
theorem dX10_init_28 : decode cX10_init 28 = .ok (.aload_n 0, 1) := by decide +kernel
theorem dX10_init_29 : decode cX10_init 29 = .ok (.iconst 4, 1) := by decide +kernel
theorem dX10_init_30 : decode cX10_init 30 = .ok (.newarray .long, 2) := by decide +kernel
theorem dX10_init_32 : decode cX10_init 32 = .ok (.putfield 24, 3) := by decide +kernel
theorem dX10_init_35 : decode cX10_init 35 = .ok (.aload_n 0, 1) := by decide +kernel
theorem dX10_init_36 : decode cX10_init 36 = .ok (.iconst 4, 1) := by decide +kernel
theorem dX10_init_37 : decode cX10_init 37 = .ok (.newarray .int, 2) := by decide +kernel
theorem dX10_init_39 : decode cX10_init 39 = .ok (.putfield 28, 3) := by decide +kernel
theorem dX10_init_42 : decode cX10_init 42 = .ok (.aload_n 0, 1) := by decide +kernel
theorem dX10_init_43 : decode cX10_init 43 = .ok (.bipush 16, 2) := by decide +kernel
theorem dX10_init_45 : decode cX10_init 45 = .ok (.newarray .int, 2) := by decide +kernel
theorem dX10_init_47 : decode cX10_init 47 = .ok (.putfield 31, 3) := by decide +kernel
theorem dX10_init_50 : decode cX10_init 50 = .ok (.aload_n 0, 1) := by decide +kernel
theorem dX10_init_51 : decode cX10_init 51 = .ok (.bipush 16, 2) := by decide +kernel
theorem dX10_init_53 : decode cX10_init 53 = .ok (.newarray .long, 2) := by decide +kernel
theorem dX10_init_55 : decode cX10_init 55 = .ok (.putfield 34, 3) := by decide +kernel
theorem dX10_init_58 : decode cX10_init 58 = .ok (.aload_n 0, 1) := by decide +kernel
theorem dX10_init_59 : decode cX10_init 59 = .ok (.bipush 16, 2) := by decide +kernel
theorem dX10_init_61 : decode cX10_init 61 = .ok (.newarray .int, 2) := by decide +kernel
theorem dX10_init_63 : decode cX10_init 63 = .ok (.putfield 37, 3) := by decide +kernel
theorem dX10_init_66 : decode cX10_init 66 = .ok (.aload_n 0, 1) := by decide +kernel
theorem dX10_init_67 : decode cX10_init 67 = .ok (.bipush 16, 2) := by decide +kernel
theorem dX10_init_69 : decode cX10_init 69 = .ok (.newarray .int, 2) := by decide +kernel
theorem dX10_init_71 : decode cX10_init 71 = .ok (.putfield 40, 3) := by decide +kernel
theorem dX10_init_74 : decode cX10_init 74 = .ok (.aload_n 0, 1) := by decide +kernel
theorem dX10_init_75 : decode cX10_init 75 = .ok (.bipush 16, 2) := by decide +kernel
theorem dX10_init_77 : decode cX10_init 77 = .ok (.newarray .long, 2) := by decide +kernel
theorem dX10_init_79 : decode cX10_init 79 = .ok (.putfield 43, 3) := by decide +kernel
theorem dX10_init_82 : decode cX10_init 82 = .ok (.return_, 1) := by decide +kernel
theorem dX10_judge_0 : decode cX10_judge 0 = .ok (.aload_n 0, 1) := by decide +kernel
theorem dX10_judge_1 : decode cX10_judge 1 = .ok (.invokevirtual 46, 3) := by decide +kernel
theorem dX10_judge_4 : decode cX10_judge 4 = .ok (.ifCond .ne 5, 3) := by decide +kernel
theorem dX10_judge_7 : decode cX10_judge 7 = .ok (.iconst 1, 1) := by decide +kernel
theorem dX10_judge_8 : decode cX10_judge 8 = .ok (.ireturn, 1) := by decide +kernel
theorem dX10_must_0 : decode cX10_must 0 = .ok (.iload_n 1, 1) := by decide +kernel
theorem dX10_must_1 : decode cX10_must 1 = .ok (.ifCond .ne 8, 3) := by decide +kernel
theorem dX10_must_4 : decode cX10_must 4 = .ok (.aload_n 0, 1) := by decide +kernel
theorem dX10_must_5 : decode cX10_must 5 = .ok (.iload_n 2, 1) := by decide +kernel
theorem dX10_must_6 : decode cX10_must 6 = .ok (.putfield 13, 3) := by decide +kernel
theorem dX10_must_9 : decode cX10_must 9 = .ok (.iload_n 1, 1) := by decide +kernel
theorem dX10_must_10 : decode cX10_must 10 = .ok (.ireturn, 1) := by decide +kernel
theorem dX11_block_0 : decode cX11_block 0 = .ok (.aload_n 0, 1) := by decide +kernel
theorem dX11_block_1 : decode cX11_block 1 = .ok (.getfield 67, 3) := by decide +kernel
theorem dX11_block_4 : decode cX11_block 4 = .ok (.ifnull 31, 3) := by decide +kernel
theorem dX11_block_35 : decode cX11_block 35 = .ok (.ldc2_w 126, 3) := by decide +kernel
theorem dX11_block_38 : decode cX11_block 38 = .ok (.lreturn, 1) := by decide +kernel
theorem dX11_calls_0 : decode cX11_calls 0 = .ok (.aload_n 0, 1) := by decide +kernel
theorem dX11_calls_1 : decode cX11_calls 1 = .ok (.getfield 76, 3) := by decide +kernel
theorem dX11_calls_4 : decode cX11_calls 4 = .ok (.ifnonnull 7, 3) := by decide +kernel
theorem dX11_calls_7 : decode cX11_calls 7 = .ok (.lconst 0, 1) := by decide +kernel
theorem dX11_calls_8 : decode cX11_calls 8 = .ok (.goto 12, 3) := by decide +kernel
theorem dX11_calls_20 : decode cX11_calls 20 = .ok (.lreturn, 1) := by decide +kernel
theorem dX11_check_0 : decode cX11_check 0 = .ok (.aload_n 0, 1) := by decide +kernel
theorem dX11_check_1 : decode cX11_check 1 = .ok (.getfield 84, 3) := by decide +kernel
theorem dX11_check_4 : decode cX11_check 4 = .ok (.ifnonnull 6, 3) := by decide +kernel
theorem dX11_check_7 : decode cX11_check 7 = .ok (.bipush (-14), 2) := by decide +kernel
theorem dX11_check_9 : decode cX11_check 9 = .ok (.ireturn, 1) := by decide +kernel
theorem dX11_count_0 : decode cX11_count 0 = .ok (.iload_n 1, 1) := by decide +kernel
theorem dX11_count_1 : decode cX11_count 1 = .ok (.ifCond .lt 8, 3) := by decide +kernel
theorem dX11_count_4 : decode cX11_count 4 = .ok (.iload_n 1, 1) := by decide +kernel
theorem dX11_count_5 : decode cX11_count 5 = .ok (.iconst 4, 1) := by decide +kernel
theorem dX11_count_6 : decode cX11_count 6 = .ok (.if_icmp .le 6, 3) := by decide +kernel
theorem dX11_count_9 : decode cX11_count 9 = .ok (.bipush (-14), 2) := by decide +kernel
theorem dX11_count_11 : decode cX11_count 11 = .ok (.ireturn, 1) := by decide +kernel
theorem dX11_count_12 : decode cX11_count 12 = .ok (.aload_n 0, 1) := by decide +kernel
theorem dX11_count_13 : decode cX11_count 13 = .ok (.getfield 67, 3) := by decide +kernel
theorem dX11_count_16 : decode cX11_count 16 = .ok (.ifnonnull 5, 3) := by decide +kernel
theorem dX11_count_19 : decode cX11_count 19 = .ok (.iconst 0, 1) := by decide +kernel
theorem dX11_count_20 : decode cX11_count 20 = .ok (.ireturn, 1) := by decide +kernel
theorem dX11_edge_0 : decode cX11_edge 0 = .ok (.aload_n 0, 1) := by decide +kernel
theorem dX11_edge_1 : decode cX11_edge 1 = .ok (.getfield 67, 3) := by decide +kernel
theorem dX11_edge_4 : decode cX11_edge 4 = .ok (.ifnull 10, 3) := by decide +kernel
theorem dX11_edge_14 : decode cX11_edge 14 = .ok (.bipush (-14), 2) := by decide +kernel
theorem dX11_edge_16 : decode cX11_edge 16 = .ok (.ireturn, 1) := by decide +kernel
theorem dX11_end_0 : decode cX11_end 0 = .ok (.iload_n 1, 1) := by decide +kernel
theorem dX11_end_1 : decode cX11_end 1 = .ok (.ifCond .lt 11, 3) := by decide +kernel
theorem dX11_end_4 : decode cX11_end 4 = .ok (.iload_n 1, 1) := by decide +kernel
theorem dX11_end_5 : decode cX11_end 5 = .ok (.aload_n 0, 1) := by decide +kernel
theorem dX11_end_6 : decode cX11_end 6 = .ok (.getfield 23, 3) := by decide +kernel
theorem dX11_end_9 : decode cX11_end 9 = .ok (.if_icmp .le 5, 3) := by decide +kernel
theorem dX11_end_12 : decode cX11_end 12 = .ok (.iconst 0, 1) := by decide +kernel
theorem dX11_end_13 : decode cX11_end 13 = .ok (.ireturn, 1) := by decide +kernel
theorem dX11_end_14 : decode cX11_end 14 = .ok (.aload_n 0, 1) := by decide +kernel
theorem dX11_end_15 : decode cX11_end 15 = .ok (.iload_n 1, 1) := by decide +kernel
theorem dX11_end_16 : decode cX11_end 16 = .ok (.putfield 23, 3) := by decide +kernel
theorem dX11_end_19 : decode cX11_end 19 = .ok (.iconst 1, 1) := by decide +kernel
theorem dX11_end_20 : decode cX11_end 20 = .ok (.ireturn, 1) := by decide +kernel
theorem dX11_feed_0 : decode cX11_feed 0 = .ok (.aload_n 0, 1) := by decide +kernel
theorem dX11_feed_1 : decode cX11_feed 1 = .ok (.getfield 23, 3) := by decide +kernel
theorem dX11_feed_4 : decode cX11_feed 4 = .ok (.bipush 20, 2) := by decide +kernel
theorem dX11_feed_6 : decode cX11_feed 6 = .ok (.iadd, 1) := by decide +kernel
theorem dX11_feed_7 : decode cX11_feed 7 = .ok (.ldc 26, 2) := by decide +kernel
theorem dX11_feed_9 : decode cX11_feed 9 = .ok (.if_icmp .gt 15, 3) := by decide +kernel
theorem dX11_feed_12 : decode cX11_feed 12 = .ok (.aload_n 0, 1) := by decide +kernel
theorem dX11_feed_13 : decode cX11_feed 13 = .ok (.getfield 27, 3) := by decide +kernel
theorem dX11_feed_16 : decode cX11_feed 16 = .ok (.bipush 20, 2) := by decide +kernel
theorem dX11_feed_18 : decode cX11_feed 18 = .ok (.iadd, 1) := by decide +kernel
theorem dX11_feed_19 : decode cX11_feed 19 = .ok (.ldc 30, 2) := by decide +kernel
theorem dX11_feed_21 : decode cX11_feed 21 = .ok (.if_icmp .le 5, 3) := by decide +kernel
theorem dX11_feed_26 : decode cX11_feed 26 = .ok (.aload_n 0, 1) := by decide +kernel
theorem dX11_feed_27 : decode cX11_feed 27 = .ok (.getfield 23, 3) := by decide +kernel
theorem dX11_feed_30 : decode cX11_feed 30 = .ok (.bipush 20, 2) := by decide +kernel
theorem dX11_feed_32 : decode cX11_feed 32 = .ok (.iadd, 1) := by decide +kernel
theorem dX11_feed_33 : decode cX11_feed 33 = .ok (.aload_n 0, 1) := by decide +kernel
theorem dX11_feed_34 : decode cX11_feed 34 = .ok (.getfield 7, 3) := by decide +kernel
theorem dX11_feed_37 : decode cX11_feed 37 = .ok (.arraylength, 1) := by decide +kernel
theorem dX11_feed_38 : decode cX11_feed 38 = .ok (.if_icmp .le 21, 3) := by decide +kernel
theorem dX11_feed_59 : decode cX11_feed 59 = .ok (.aload_n 0, 1) := by decide +kernel
theorem dX11_feed_60 : decode cX11_feed 60 = .ok (.aload_n 0, 1) := by decide +kernel
theorem dX11_feed_61 : decode cX11_feed 61 = .ok (.getfield 23, 3) := by decide +kernel
theorem dX11_feed_64 : decode cX11_feed 64 = .ok (.iload_n 1, 1) := by decide +kernel
theorem dX11_feed_65 : decode cX11_feed 65 = .ok (.invokevirtual 37, 3) := by decide +kernel
theorem dX11_feed_68 : decode cX11_feed 68 = .ok (.aload_n 0, 1) := by decide +kernel
theorem dX11_feed_69 : decode cX11_feed 69 = .ok (.aload_n 0, 1) := by decide +kernel
theorem dX11_feed_70 : decode cX11_feed 70 = .ok (.getfield 23, 3) := by decide +kernel
theorem dX11_feed_73 : decode cX11_feed 73 = .ok (.iconst 4, 1) := by decide +kernel
theorem dX11_feed_74 : decode cX11_feed 74 = .ok (.iadd, 1) := by decide +kernel
theorem dX11_feed_75 : decode cX11_feed 75 = .ok (.iload_n 2, 1) := by decide +kernel
theorem dX11_feed_76 : decode cX11_feed 76 = .ok (.invokevirtual 37, 3) := by decide +kernel
theorem dX11_feed_79 : decode cX11_feed 79 = .ok (.aload_n 0, 1) := by decide +kernel
theorem dX11_feed_80 : decode cX11_feed 80 = .ok (.aload_n 0, 1) := by decide +kernel
theorem dX11_feed_81 : decode cX11_feed 81 = .ok (.getfield 23, 3) := by decide +kernel
theorem dX11_feed_84 : decode cX11_feed 84 = .ok (.bipush 8, 2) := by decide +kernel
theorem dX11_feed_86 : decode cX11_feed 86 = .ok (.iadd, 1) := by decide +kernel
theorem dX11_feed_87 : decode cX11_feed 87 = .ok (.iload_n 3, 1) := by decide +kernel
theorem dX11_feed_88 : decode cX11_feed 88 = .ok (.invokevirtual 37, 3) := by decide +kernel
theorem dX11_feed_91 : decode cX11_feed 91 = .ok (.aload_n 0, 1) := by decide +kernel
theorem dX11_feed_92 : decode cX11_feed 92 = .ok (.aload_n 0, 1) := by decide +kernel
theorem dX11_feed_93 : decode cX11_feed 93 = .ok (.getfield 23, 3) := by decide +kernel
theorem dX11_feed_96 : decode cX11_feed 96 = .ok (.bipush 12, 2) := by decide +kernel
theorem dX11_feed_98 : decode cX11_feed 98 = .ok (.iadd, 1) := by decide +kernel
theorem dX11_feed_99 : decode cX11_feed 99 = .ok (.iload 4, 2) := by decide +kernel
theorem dX11_feed_101 : decode cX11_feed 101 = .ok (.invokevirtual 37, 3) := by decide +kernel
theorem dX11_feed_104 : decode cX11_feed 104 = .ok (.aload_n 0, 1) := by decide +kernel
theorem dX11_feed_105 : decode cX11_feed 105 = .ok (.aload_n 0, 1) := by decide +kernel
theorem dX11_feed_106 : decode cX11_feed 106 = .ok (.getfield 23, 3) := by decide +kernel
theorem dX11_feed_109 : decode cX11_feed 109 = .ok (.bipush 16, 2) := by decide +kernel
theorem dX11_feed_111 : decode cX11_feed 111 = .ok (.iadd, 1) := by decide +kernel
theorem dX11_feed_112 : decode cX11_feed 112 = .ok (.iload 5, 2) := by decide +kernel
theorem dX11_feed_114 : decode cX11_feed 114 = .ok (.invokevirtual 37, 3) := by decide +kernel
theorem dX11_feed_117 : decode cX11_feed 117 = .ok (.aload_n 0, 1) := by decide +kernel
theorem dX11_feed_118 : decode cX11_feed 118 = .ok (.dup, 1) := by decide +kernel
theorem dX11_feed_119 : decode cX11_feed 119 = .ok (.getfield 23, 3) := by decide +kernel
theorem dX11_feed_122 : decode cX11_feed 122 = .ok (.bipush 20, 2) := by decide +kernel
theorem dX11_feed_124 : decode cX11_feed 124 = .ok (.iadd, 1) := by decide +kernel
theorem dX11_feed_125 : decode cX11_feed 125 = .ok (.putfield 23, 3) := by decide +kernel
theorem dX11_feed_128 : decode cX11_feed 128 = .ok (.aload_n 0, 1) := by decide +kernel
theorem dX11_feed_129 : decode cX11_feed 129 = .ok (.dup, 1) := by decide +kernel
theorem dX11_feed_130 : decode cX11_feed 130 = .ok (.getfield 27, 3) := by decide +kernel
theorem dX11_feed_133 : decode cX11_feed 133 = .ok (.bipush 20, 2) := by decide +kernel
theorem dX11_feed_135 : decode cX11_feed 135 = .ok (.iadd, 1) := by decide +kernel
theorem dX11_feed_136 : decode cX11_feed 136 = .ok (.putfield 27, 3) := by decide +kernel
theorem dX11_feed_139 : decode cX11_feed 139 = .ok (.aload_n 0, 1) := by decide +kernel
theorem dX11_feed_140 : decode cX11_feed 140 = .ok (.getfield 23, 3) := by decide +kernel
theorem dX11_feed_143 : decode cX11_feed 143 = .ok (.ireturn, 1) := by decide +kernel
theorem dX11_function_0 : decode cX11_function 0 = .ok (.aload_n 0, 1) := by decide +kernel
theorem dX11_function_1 : decode cX11_function 1 = .ok (.getfield 67, 3) := by decide +kernel
theorem dX11_function_4 : decode cX11_function 4 = .ok (.ifnull 30, 3) := by decide +kernel
theorem dX11_function_34 : decode cX11_function 34 = .ok (.ldc2_w 126, 3) := by decide +kernel
theorem dX11_function_37 : decode cX11_function 37 = .ok (.lreturn, 1) := by decide +kernel
theorem dX11_init_0 : decode cX11_init 0 = .ok (.aload_n 0, 1) := by decide +kernel
theorem dX11_init_1 : decode cX11_init 1 = .ok (.invokespecial 1, 3) := by decide +kernel
theorem dX11_init_4 : decode cX11_init 4 = .ok (.aload_n 0, 1) := by decide +kernel
theorem dX11_init_5 : decode cX11_init 5 = .ok (.sipush 1024, 3) := by decide +kernel
theorem dX11_init_8 : decode cX11_init 8 = .ok (.newarray .byte, 2) := by decide +kernel
theorem dX11_init_10 : decode cX11_init 10 = .ok (.putfield 7, 3) := by decide +kernel
theorem dX11_init_13 : decode cX11_init 13 = .ok (.aload_n 0, 1) := by decide +kernel
theorem dX11_init_14 : decode cX11_init 14 = .ok (.iconst (-1), 1) := by decide +kernel
theorem dX11_init_15 : decode cX11_init 15 = .ok (.putfield 13, 3) := by decide +kernel
theorem dX11_init_18 : decode cX11_init 18 = .ok (.aload_n 0, 1) := by decide +kernel
theorem dX11_init_19 : decode cX11_init 19 = .ok (.iconst 3, 1) := by decide +kernel
theorem dX11_init_20 : decode cX11_init 20 = .ok (.anewarray 17, 3) := by decide +kernel
theorem dX11_init_23 : decode cX11_init 23 = .ok (.putfield 19, 3) := by decide +kernel
theorem dX11_init_26 : decode cX11_init 26 = .ok (.return_, 1) := by decide +kernel
theorem dX11_keeps_0 : decode cX11_keeps 0 = .ok (.aload_n 0, 1) := by decide +kernel
theorem dX11_keeps_1 : decode cX11_keeps 1 = .ok (.iconst 1, 1) := by decide +kernel
theorem dX11_keeps_2 : decode cX11_keeps 2 = .ok (.invokevirtual 295, 3) := by decide +kernel
theorem dX11_keeps_5 : decode cX11_keeps 5 = .ok (.astore_n 3, 1) := by decide +kernel
theorem dX11_keeps_6 : decode cX11_keeps 6 = .ok (.aload_n 3, 1) := by decide +kernel
theorem dX11_keeps_7 : decode cX11_keeps 7 = .ok (.ifnull 13, 3) := by decide +kernel
theorem dX11_keeps_20 : decode cX11_keeps 20 = .ok (.iconst (-1), 1) := by decide +kernel
theorem dX11_keeps_21 : decode cX11_keeps 21 = .ok (.ireturn, 1) := by decide +kernel
theorem dX11_kind_0 : decode cX11_kind 0 = .ok (.aload_n 0, 1) := by decide +kernel
theorem dX11_kind_1 : decode cX11_kind 1 = .ok (.iconst 1, 1) := by decide +kernel
theorem dX11_kind_2 : decode cX11_kind 2 = .ok (.invokevirtual 295, 3) := by decide +kernel
theorem dX11_kind_5 : decode cX11_kind 5 = .ok (.astore_n 2, 1) := by decide +kernel
theorem dX11_kind_6 : decode cX11_kind 6 = .ok (.aload_n 2, 1) := by decide +kernel
theorem dX11_kind_7 : decode cX11_kind 7 = .ok (.ifnonnull 7, 3) := by decide +kernel
theorem dX11_kind_10 : decode cX11_kind 10 = .ok (.iconst (-1), 1) := by decide +kernel
theorem dX11_kind_11 : decode cX11_kind 11 = .ok (.goto 8, 3) := by decide +kernel
theorem dX11_kind_19 : decode cX11_kind 19 = .ok (.ireturn, 1) := by decide +kernel
theorem dX11_laid_0 : decode cX11_laid 0 = .ok (.aload_n 0, 1) := by decide +kernel
theorem dX11_laid_1 : decode cX11_laid 1 = .ok (.getfield 84, 3) := by decide +kernel
theorem dX11_laid_4 : decode cX11_laid 4 = .ok (.ifnull 12, 3) := by decide +kernel
theorem dX11_laid_16 : decode cX11_laid 16 = .ok (.bipush (-14), 2) := by decide +kernel
theorem dX11_laid_18 : decode cX11_laid 18 = .ok (.ireturn, 1) := by decide +kernel
theorem dX11_latest_0 : decode cX11_latest 0 = .ok (.iload_n 1, 1) := by decide +kernel
theorem dX11_latest_1 : decode cX11_latest 1 = .ok (.ifCond .lt 29, 3) := by decide +kernel
theorem dX11_latest_4 : decode cX11_latest 4 = .ok (.iload_n 1, 1) := by decide +kernel
theorem dX11_latest_5 : decode cX11_latest 5 = .ok (.iconst 3, 1) := by decide +kernel
theorem dX11_latest_6 : decode cX11_latest 6 = .ok (.if_icmp .ge 24, 3) := by decide +kernel
theorem dX11_latest_9 : decode cX11_latest 9 = .ok (.aload_n 0, 1) := by decide +kernel
theorem dX11_latest_10 : decode cX11_latest 10 = .ok (.getfield 19, 3) := by decide +kernel
theorem dX11_latest_13 : decode cX11_latest 13 = .ok (.iload_n 1, 1) := by decide +kernel
theorem dX11_latest_14 : decode cX11_latest 14 = .ok (.aaload, 1) := by decide +kernel
theorem dX11_latest_15 : decode cX11_latest 15 = .ok (.ifnull 15, 3) := by decide +kernel
theorem dX11_latest_30 : decode cX11_latest 30 = .ok (.aconst_null, 1) := by decide +kernel
theorem dX11_latest_31 : decode cX11_latest 31 = .ok (.areturn, 1) := by decide +kernel
theorem dX11_lay_0 : decode cX11_lay 0 = .ok (.aload_n 0, 1) := by decide +kernel
theorem dX11_lay_1 : decode cX11_lay 1 = .ok (.getfield 67, 3) := by decide +kernel
theorem dX11_lay_4 : decode cX11_lay 4 = .ok (.ifnull 10, 3) := by decide +kernel
theorem dX11_lay_14 : decode cX11_lay 14 = .ok (.bipush (-14), 2) := by decide +kernel
theorem dX11_lay_16 : decode cX11_lay 16 = .ok (.ireturn, 1) := by decide +kernel
theorem dX11_memory_0 : decode cX11_memory 0 = .ok (.aload_n 0, 1) := by decide +kernel
theorem dX11_memory_1 : decode cX11_memory 1 = .ok (.iload_n 1, 1) := by decide +kernel
theorem dX11_memory_2 : decode cX11_memory 2 = .ok (.invokevirtual 295, 3) := by decide +kernel
theorem dX11_memory_5 : decode cX11_memory 5 = .ok (.astore 4, 2) := by decide +kernel
theorem dX11_memory_7 : decode cX11_memory 7 = .ok (.aload 4, 2) := by decide +kernel
theorem dX11_memory_9 : decode cX11_memory 9 = .ok (.ifnonnull 7, 3) := by decide +kernel
theorem dX11_memory_12 : decode cX11_memory 12 = .ok (.iconst (-1), 1) := by decide +kernel
theorem dX11_memory_13 : decode cX11_memory 13 = .ok (.goto 12, 3) := by decide +kernel
theorem dX11_memory_25 : decode cX11_memory 25 = .ok (.ireturn, 1) := by decide +kernel
theorem dX11_moved_0 : decode cX11_moved 0 = .ok (.aload_n 0, 1) := by decide +kernel
theorem dX11_moved_1 : decode cX11_moved 1 = .ok (.getfield 67, 3) := by decide +kernel
theorem dX11_moved_4 : decode cX11_moved 4 = .ok (.ifnull 21, 3) := by decide +kernel
theorem dX11_moved_25 : decode cX11_moved 25 = .ok (.ldc2_w 126, 3) := by decide +kernel
theorem dX11_moved_28 : decode cX11_moved 28 = .ok (.lreturn, 1) := by decide +kernel
theorem dX11_newer_0 : decode cX11_newer 0 = .ok (.aload_n 0, 1) := by decide +kernel
theorem dX11_newer_1 : decode cX11_newer 1 = .ok (.iconst 1, 1) := by decide +kernel
theorem dX11_newer_2 : decode cX11_newer 2 = .ok (.invokevirtual 295, 3) := by decide +kernel
theorem dX11_newer_5 : decode cX11_newer 5 = .ok (.astore_n 2, 1) := by decide +kernel
theorem dX11_newer_6 : decode cX11_newer 6 = .ok (.aload_n 2, 1) := by decide +kernel
theorem dX11_newer_7 : decode cX11_newer 7 = .ok (.ifnonnull 5, 3) := by decide +kernel
theorem dX11_newer_10 : decode cX11_newer 10 = .ok (.lconst 0, 1) := by decide +kernel
theorem dX11_newer_11 : decode cX11_newer 11 = .ok (.lreturn, 1) := by decide +kernel
theorem dX11_newest_0 : decode cX11_newest 0 = .ok (.aload_n 0, 1) := by decide +kernel
theorem dX11_newest_1 : decode cX11_newest 1 = .ok (.iconst 1, 1) := by decide +kernel
theorem dX11_newest_2 : decode cX11_newest 2 = .ok (.invokevirtual 295, 3) := by decide +kernel
theorem dX11_newest_5 : decode cX11_newest 5 = .ok (.astore_n 3, 1) := by decide +kernel
theorem dX11_newest_6 : decode cX11_newest 6 = .ok (.aload_n 0, 1) := by decide +kernel
theorem dX11_newest_7 : decode cX11_newest 7 = .ok (.lload_n 1, 1) := by decide +kernel
theorem dX11_newest_8 : decode cX11_newest 8 = .ok (.invokevirtual 344, 3) := by decide +kernel
theorem dX11_newest_11 : decode cX11_newest 11 = .ok (.istore 4, 2) := by decide +kernel
theorem dX11_newest_13 : decode cX11_newest 13 = .ok (.aload_n 3, 1) := by decide +kernel
theorem dX11_newest_14 : decode cX11_newest 14 = .ok (.ifnull 8, 3) := by decide +kernel
theorem dX11_newest_22 : decode cX11_newest 22 = .ok (.lconst 0, 1) := by decide +kernel
theorem dX11_newest_23 : decode cX11_newest 23 = .ok (.lreturn, 1) := by decide +kernel
theorem dX11_order_0 : decode cX11_order 0 = .ok (.aload_n 0, 1) := by decide +kernel
theorem dX11_order_1 : decode cX11_order 1 = .ok (.getfield 84, 3) := by decide +kernel
theorem dX11_order_4 : decode cX11_order 4 = .ok (.ifnull 14, 3) := by decide +kernel
theorem dX11_order_18 : decode cX11_order 18 = .ok (.iconst (-1), 1) := by decide +kernel
theorem dX11_order_19 : decode cX11_order 19 = .ok (.ireturn, 1) := by decide +kernel
theorem dX11_out_0 : decode cX11_out 0 = .ok (.aload_n 0, 1) := by decide +kernel
theorem dX11_out_1 : decode cX11_out 1 = .ok (.getfield 84, 3) := by decide +kernel
theorem dX11_out_4 : decode cX11_out 4 = .ok (.ifnull 21, 3) := by decide +kernel
theorem dX11_out_25 : decode cX11_out 25 = .ok (.iconst (-1), 1) := by decide +kernel
theorem dX11_out_26 : decode cX11_out 26 = .ok (.ireturn, 1) := by decide +kernel
theorem dX11_place_0 : decode cX11_place 0 = .ok (.aload_n 0, 1) := by decide +kernel
theorem dX11_place_1 : decode cX11_place 1 = .ok (.getfield 13, 3) := by decide +kernel
theorem dX11_place_4 : decode cX11_place 4 = .ok (.ireturn, 1) := by decide +kernel
theorem dX11_read_0 : decode cX11_read 0 = .ok (.new 41, 3) := by decide +kernel
theorem dX11_read_3 : decode cX11_read 3 = .ok (.dup, 1) := by decide +kernel
theorem dX11_read_4 : decode cX11_read 4 = .ok (.aload_n 0, 1) := by decide +kernel
theorem dX11_read_5 : decode cX11_read 5 = .ok (.getfield 7, 3) := by decide +kernel
theorem dX11_read_8 : decode cX11_read 8 = .ok (.aload_n 0, 1) := by decide +kernel
theorem dX11_read_9 : decode cX11_read 9 = .ok (.getfield 23, 3) := by decide +kernel
theorem dX11_read_12 : decode cX11_read 12 = .ok (.invokespecial 43, 3) := by decide +kernel
theorem dX11_read_15 : decode cX11_read 15 = .ok (.astore_n 1, 1) := by decide +kernel
theorem dX11_read_16 : decode cX11_read 16 = .ok (.aload_n 0, 1) := by decide +kernel
theorem dX11_read_17 : decode cX11_read 17 = .ok (.iconst 0, 1) := by decide +kernel
theorem dX11_read_18 : decode cX11_read 18 = .ok (.putfield 23, 3) := by decide +kernel
theorem dX11_read_21 : decode cX11_read 21 = .ok (.new 46, 3) := by decide +kernel
theorem dX11_read_24 : decode cX11_read 24 = .ok (.dup, 1) := by decide +kernel
theorem dX11_read_25 : decode cX11_read 25 = .ok (.aload_n 1, 1) := by decide +kernel
theorem dX11_read_26 : decode cX11_read 26 = .ok (.invokespecial 48, 3) := by decide +kernel
theorem dX11_read_29 : decode cX11_read 29 = .ok (.astore_n 2, 1) := by decide +kernel
theorem dX11_read_30 : decode cX11_read 30 = .ok (.aload_n 2, 1) := by decide +kernel
theorem dX11_read_31 : decode cX11_read 31 = .ok (.invokevirtual 51, 3) := by decide +kernel
theorem dX11_read_34 : decode cX11_read 34 = .ok (.istore_n 3, 1) := by decide +kernel
theorem dX11_read_35 : decode cX11_read 35 = .ok (.iload_n 3, 1) := by decide +kernel
theorem dX11_read_36 : decode cX11_read 36 = .ok (.ifCond .eq 14, 3) := by decide +kernel
theorem dX11_read_39 : decode cX11_read 39 = .ok (.aload_n 0, 1) := by decide +kernel
theorem dX11_read_40 : decode cX11_read 40 = .ok (.aload_n 2, 1) := by decide +kernel
theorem dX11_read_41 : decode cX11_read 41 = .ok (.getfield 55, 3) := by decide +kernel
theorem dX11_read_44 : decode cX11_read 44 = .ok (.putfield 13, 3) := by decide +kernel
theorem dX11_read_47 : decode cX11_read 47 = .ok (.iload_n 3, 1) := by decide +kernel
theorem dX11_read_48 : decode cX11_read 48 = .ok (.ineg, 1) := by decide +kernel
theorem dX11_read_49 : decode cX11_read 49 = .ok (.ireturn, 1) := by decide +kernel
theorem dX11_register_0 : decode cX11_register 0 = .ok (.aload_n 0, 1) := by decide +kernel
theorem dX11_register_1 : decode cX11_register 1 = .ok (.iload_n 1, 1) := by decide +kernel
theorem dX11_register_2 : decode cX11_register 2 = .ok (.invokevirtual 295, 3) := by decide +kernel
theorem dX11_register_5 : decode cX11_register 5 = .ok (.astore_n 3, 1) := by decide +kernel
theorem dX11_register_6 : decode cX11_register 6 = .ok (.aload_n 3, 1) := by decide +kernel
theorem dX11_register_7 : decode cX11_register 7 = .ok (.ifnonnull 7, 3) := by decide +kernel
theorem dX11_register_10 : decode cX11_register 10 = .ok (.lconst 0, 1) := by decide +kernel
theorem dX11_register_11 : decode cX11_register 11 = .ok (.goto 8, 3) := by decide +kernel
theorem dX11_register_19 : decode cX11_register 19 = .ok (.lreturn, 1) := by decide +kernel
theorem dX11_run_0 : decode cX11_run 0 = .ok (.aload_n 0, 1) := by decide +kernel
theorem dX11_run_1 : decode cX11_run 1 = .ok (.getfield 67, 3) := by decide +kernel
theorem dX11_run_4 : decode cX11_run 4 = .ok (.ifnull 15, 3) := by decide +kernel
theorem dX11_run_19 : decode cX11_run 19 = .ok (.bipush (-14), 2) := by decide +kernel
theorem dX11_run_21 : decode cX11_run 21 = .ok (.ireturn, 1) := by decide +kernel
theorem dX11_same_0 : decode cX11_same 0 = .ok (.aload_n 0, 1) := by decide +kernel
theorem dX11_same_1 : decode cX11_same 1 = .ok (.getfield 67, 3) := by decide +kernel
theorem dX11_same_4 : decode cX11_same 4 = .ok (.ifnonnull 5, 3) := by decide +kernel
theorem dX11_same_7 : decode cX11_same 7 = .ok (.iconst 0, 1) := by decide +kernel
theorem dX11_same_8 : decode cX11_same 8 = .ok (.ireturn, 1) := by decide +kernel
theorem dX11_size_0 : decode cX11_size 0 = .ok (.aload_n 0, 1) := by decide +kernel
theorem dX11_size_1 : decode cX11_size 1 = .ok (.getfield 84, 3) := by decide +kernel
theorem dX11_size_4 : decode cX11_size 4 = .ok (.ifnull 16, 3) := by decide +kernel
theorem dX11_size_20 : decode cX11_size 20 = .ok (.bipush (-14), 2) := by decide +kernel
theorem dX11_size_22 : decode cX11_size 22 = .ok (.ireturn, 1) := by decide +kernel
theorem dX11_strays_0 : decode cX11_strays 0 = .ok (.aload_n 0, 1) := by decide +kernel
theorem dX11_strays_1 : decode cX11_strays 1 = .ok (.getfield 226, 3) := by decide +kernel
theorem dX11_strays_4 : decode cX11_strays 4 = .ok (.ireturn, 1) := by decide +kernel
theorem dX11_text_0 : decode cX11_text 0 = .ok (.aload_n 0, 1) := by decide +kernel
theorem dX11_text_1 : decode cX11_text 1 = .ok (.iload_n 1, 1) := by decide +kernel
theorem dX11_text_2 : decode cX11_text 2 = .ok (.invokevirtual 295, 3) := by decide +kernel
theorem dX11_text_5 : decode cX11_text 5 = .ok (.astore_n 3, 1) := by decide +kernel
theorem dX11_text_6 : decode cX11_text 6 = .ok (.aload_n 3, 1) := by decide +kernel
theorem dX11_text_7 : decode cX11_text 7 = .ok (.ifnonnull 7, 3) := by decide +kernel
theorem dX11_text_10 : decode cX11_text 10 = .ok (.iconst (-1), 1) := by decide +kernel
theorem dX11_text_11 : decode cX11_text 11 = .ok (.goto 8, 3) := by decide +kernel
theorem dX11_text_19 : decode cX11_text 19 = .ok (.ireturn, 1) := by decide +kernel
theorem dX11_told_0 : decode cX11_told 0 = .ok (.aload_n 0, 1) := by decide +kernel
theorem dX11_told_1 : decode cX11_told 1 = .ok (.iload_n 1, 1) := by decide +kernel
theorem dX11_told_2 : decode cX11_told 2 = .ok (.invokevirtual 295, 3) := by decide +kernel
theorem dX11_told_5 : decode cX11_told 5 = .ok (.astore_n 3, 1) := by decide +kernel
theorem dX11_told_6 : decode cX11_told 6 = .ok (.aload_n 3, 1) := by decide +kernel
theorem dX11_told_7 : decode cX11_told 7 = .ok (.ifnull 12, 3) := by decide +kernel
theorem dX11_told_19 : decode cX11_told 19 = .ok (.bipush (-14), 2) := by decide +kernel
theorem dX11_told_21 : decode cX11_told 21 = .ok (.ireturn, 1) := by decide +kernel
theorem dX11_trace_0 : decode cX11_trace 0 = .ok (.aload_n 0, 1) := by decide +kernel
theorem dX11_trace_1 : decode cX11_trace 1 = .ok (.iload_n 1, 1) := by decide +kernel
theorem dX11_trace_2 : decode cX11_trace 2 = .ok (.invokevirtual 295, 3) := by decide +kernel
theorem dX11_trace_5 : decode cX11_trace 5 = .ok (.astore 4, 2) := by decide +kernel
theorem dX11_trace_7 : decode cX11_trace 7 = .ok (.aload 4, 2) := by decide +kernel
theorem dX11_trace_9 : decode cX11_trace 9 = .ok (.ifnonnull 7, 3) := by decide +kernel
theorem dX11_trace_12 : decode cX11_trace 12 = .ok (.lconst 0, 1) := by decide +kernel
theorem dX11_trace_13 : decode cX11_trace 13 = .ok (.goto 10, 3) := by decide +kernel
theorem dX11_trace_23 : decode cX11_trace 23 = .ok (.lreturn, 1) := by decide +kernel
theorem dX11_trayWord_0 : decode cX11_trayWord 0 = .ok (.iconst 0, 1) := by decide +kernel
theorem dX11_trayWord_1 : decode cX11_trayWord 1 = .ok (.istore_n 3, 1) := by decide +kernel
theorem dX11_trayWord_2 : decode cX11_trayWord 2 = .ok (.iload_n 3, 1) := by decide +kernel
theorem dX11_trayWord_3 : decode cX11_trayWord 3 = .ok (.iconst 4, 1) := by decide +kernel
theorem dX11_trayWord_4 : decode cX11_trayWord 4 = .ok (.if_icmp .ge 38, 3) := by decide +kernel
theorem dX11_trayWord_7 : decode cX11_trayWord 7 = .ok (.iload_n 1, 1) := by decide +kernel
theorem dX11_trayWord_8 : decode cX11_trayWord 8 = .ok (.iload_n 3, 1) := by decide +kernel
theorem dX11_trayWord_9 : decode cX11_trayWord 9 = .ok (.iadd, 1) := by decide +kernel
theorem dX11_trayWord_10 : decode cX11_trayWord 10 = .ok (.aload_n 0, 1) := by decide +kernel
theorem dX11_trayWord_11 : decode cX11_trayWord 11 = .ok (.getfield 7, 3) := by decide +kernel
theorem dX11_trayWord_14 : decode cX11_trayWord 14 = .ok (.arraylength, 1) := by decide +kernel
theorem dX11_trayWord_15 : decode cX11_trayWord 15 = .ok (.if_icmp .ge 21, 3) := by decide +kernel
theorem dX11_trayWord_18 : decode cX11_trayWord 18 = .ok (.aload_n 0, 1) := by decide +kernel
theorem dX11_trayWord_19 : decode cX11_trayWord 19 = .ok (.getfield 7, 3) := by decide +kernel
theorem dX11_trayWord_22 : decode cX11_trayWord 22 = .ok (.iload_n 1, 1) := by decide +kernel
theorem dX11_trayWord_23 : decode cX11_trayWord 23 = .ok (.iload_n 3, 1) := by decide +kernel
theorem dX11_trayWord_24 : decode cX11_trayWord 24 = .ok (.iadd, 1) := by decide +kernel
theorem dX11_trayWord_25 : decode cX11_trayWord 25 = .ok (.iload_n 2, 1) := by decide +kernel
theorem dX11_trayWord_26 : decode cX11_trayWord 26 = .ok (.bipush 24, 2) := by decide +kernel
theorem dX11_trayWord_28 : decode cX11_trayWord 28 = .ok (.bipush 8, 2) := by decide +kernel
theorem dX11_trayWord_30 : decode cX11_trayWord 30 = .ok (.iload_n 3, 1) := by decide +kernel
theorem dX11_trayWord_31 : decode cX11_trayWord 31 = .ok (.imul, 1) := by decide +kernel
theorem dX11_trayWord_32 : decode cX11_trayWord 32 = .ok (.isub, 1) := by decide +kernel
theorem dX11_trayWord_33 : decode cX11_trayWord 33 = .ok (.iushr, 1) := by decide +kernel
theorem dX11_trayWord_34 : decode cX11_trayWord 34 = .ok (.i2b, 1) := by decide +kernel
theorem dX11_trayWord_35 : decode cX11_trayWord 35 = .ok (.bastore, 1) := by decide +kernel
theorem dX11_trayWord_36 : decode cX11_trayWord 36 = .ok (.iinc 3 1, 3) := by decide +kernel
theorem dX11_trayWord_39 : decode cX11_trayWord 39 = .ok (.goto (-37), 3) := by decide +kernel
theorem dX11_trayWord_42 : decode cX11_trayWord 42 = .ok (.return_, 1) := by decide +kernel
theorem dX11_visit_0 : decode cX11_visit 0 = .ok (.aload_n 0, 1) := by decide +kernel
theorem dX11_visit_1 : decode cX11_visit 1 = .ok (.iload_n 1, 1) := by decide +kernel
theorem dX11_visit_2 : decode cX11_visit 2 = .ok (.invokevirtual 295, 3) := by decide +kernel
theorem dX11_visit_5 : decode cX11_visit 5 = .ok (.astore_n 3, 1) := by decide +kernel
theorem dX11_visit_6 : decode cX11_visit 6 = .ok (.aload_n 3, 1) := by decide +kernel
theorem dX11_visit_7 : decode cX11_visit 7 = .ok (.ifnonnull 7, 3) := by decide +kernel
theorem dX11_visit_10 : decode cX11_visit 10 = .ok (.iconst (-1), 1) := by decide +kernel
theorem dX11_visit_11 : decode cX11_visit 11 = .ok (.goto 8, 3) := by decide +kernel
theorem dX11_visit_19 : decode cX11_visit 19 = .ok (.ireturn, 1) := by decide +kernel
theorem dX11_way_0 : decode cX11_way 0 = .ok (.aload_n 0, 1) := by decide +kernel
theorem dX11_way_1 : decode cX11_way 1 = .ok (.getfield 76, 3) := by decide +kernel
theorem dX11_way_4 : decode cX11_way 4 = .ok (.ifnonnull 7, 3) := by decide +kernel
theorem dX11_way_7 : decode cX11_way 7 = .ok (.lconst 0, 1) := by decide +kernel
theorem dX11_way_8 : decode cX11_way 8 = .ok (.goto 12, 3) := by decide +kernel
theorem dX11_way_20 : decode cX11_way 20 = .ok (.lreturn, 1) := by decide +kernel
theorem dX11_weight_0 : decode cX11_weight 0 = .ok (.aload_n 0, 1) := by decide +kernel
theorem dX11_weight_1 : decode cX11_weight 1 = .ok (.getfield 67, 3) := by decide +kernel
theorem dX11_weight_4 : decode cX11_weight 4 = .ok (.ifnull 30, 3) := by decide +kernel
theorem dX11_weight_34 : decode cX11_weight 34 = .ok (.ldc2_w 126, 3) := by decide +kernel
theorem dX11_weight_37 : decode cX11_weight 37 = .ok (.lreturn, 1) := by decide +kernel
theorem dX12_begins_0 : decode cX12_begins 0 = .ok (.aload_n 0, 1) := by decide +kernel
theorem dX12_begins_1 : decode cX12_begins 1 = .ok (.getfield 84, 3) := by decide +kernel
theorem dX12_begins_4 : decode cX12_begins 4 = .ok (.bipush 64, 2) := by decide +kernel
theorem dX12_begins_6 : decode cX12_begins 6 = .ok (.if_icmp .ge 14, 3) := by decide +kernel
theorem dX12_begins_9 : decode cX12_begins 9 = .ok (.aload_n 0, 1) := by decide +kernel
theorem dX12_begins_10 : decode cX12_begins 10 = .ok (.iconst 0, 1) := by decide +kernel
theorem dX12_begins_11 : decode cX12_begins 11 = .ok (.aload_n 0, 1) := by decide +kernel
theorem dX12_begins_12 : decode cX12_begins 12 = .ok (.getfield 84, 3) := by decide +kernel
theorem dX12_begins_15 : decode cX12_begins 15 = .ok (.i2l, 1) := by decide +kernel
theorem dX12_begins_16 : decode cX12_begins 16 = .ok (.invokevirtual 52, 3) := by decide +kernel
theorem dX12_begins_19 : decode cX12_begins 19 = .ok (.ireturn, 1) := by decide +kernel
theorem dX12_broken_0 : decode cX12_broken 0 = .ok (.aload_n 0, 1) := by decide +kernel
theorem dX12_broken_1 : decode cX12_broken 1 = .ok (.invokevirtual 56, 3) := by decide +kernel
theorem dX12_broken_4 : decode cX12_broken 4 = .ok (.ifCond .ne 5, 3) := by decide +kernel
theorem dX12_broken_7 : decode cX12_broken 7 = .ok (.iconst 1, 1) := by decide +kernel
theorem dX12_broken_8 : decode cX12_broken 8 = .ok (.ireturn, 1) := by decide +kernel
theorem dX12_init_0 : decode cX12_init 0 = .ok (.aload_n 0, 1) := by decide +kernel
theorem dX12_init_1 : decode cX12_init 1 = .ok (.invokespecial 1, 3) := by decide +kernel
theorem dX12_init_4 : decode cX12_init 4 = .ok (.aload_n 0, 1) := by decide +kernel
theorem dX12_init_5 : decode cX12_init 5 = .ok (.iconst 4, 1) := by decide +kernel
theorem dX12_init_6 : decode cX12_init 6 = .ok (.newarray .int, 2) := by decide +kernel
theorem dX12_init_8 : decode cX12_init 8 = .ok (.putfield 7, 3) := by decide +kernel
theorem dX12_init_11 : decode cX12_init 11 = .ok (.aload_n 0, 1) := by decide +kernel
theorem dX12_init_12 : decode cX12_init 12 = .ok (.iconst 4, 1) := by decide +kernel
theorem dX12_init_13 : decode cX12_init 13 = .ok (.newarray .int, 2) := by decide +kernel
theorem dX12_init_15 : decode cX12_init 15 = .ok (.putfield 13, 3) := by decide +kernel
theorem dX12_init_18 : decode cX12_init 18 = .ok (.aload_n 0, 1) := by decide +kernel
theorem dX12_init_19 : decode cX12_init 19 = .ok (.iconst 4, 1) := by decide +kernel
theorem dX12_init_20 : decode cX12_init 20 = .ok (.newarray .long, 2) := by decide +kernel
theorem dX12_init_22 : decode cX12_init 22 = .ok (.putfield 16, 3) := by decide +kernel
theorem dX12_init_25 : decode cX12_init 25 = .ok (.aload_n 0, 1) := by decide +kernel
theorem dX12_init_26 : decode cX12_init 26 = .ok (.iconst 4, 1) := by decide +kernel
theorem dX12_init_27 : decode cX12_init 27 = .ok (.newarray .int, 2) := by decide +kernel
theorem dX12_init_29 : decode cX12_init 29 = .ok (.putfield 20, 3) := by decide +kernel
theorem dX12_init_32 : decode cX12_init 32 = .ok (.aload_n 0, 1) := by decide +kernel
theorem dX12_init_33 : decode cX12_init 33 = .ok (.bipush 16, 2) := by decide +kernel
theorem dX12_init_35 : decode cX12_init 35 = .ok (.newarray .int, 2) := by decide +kernel
theorem dX12_init_37 : decode cX12_init 37 = .ok (.putfield 23, 3) := by decide +kernel
theorem dX12_init_40 : decode cX12_init 40 = .ok (.aload_n 0, 1) := by decide +kernel
theorem dX12_init_41 : decode cX12_init 41 = .ok (.bipush 16, 2) := by decide +kernel
theorem dX12_init_43 : decode cX12_init 43 = .ok (.newarray .int, 2) := by decide +kernel
theorem dX12_init_45 : decode cX12_init 45 = .ok (.putfield 26, 3) := by decide +kernel
theorem dX12_init_48 : decode cX12_init 48 = .ok (.aload_n 0, 1) := by decide +kernel
theorem dX12_init_49 : decode cX12_init 49 = .ok (.bipush 16, 2) := by decide +kernel
theorem dX12_init_51 : decode cX12_init 51 = .ok (.newarray .long, 2) := by decide +kernel
theorem dX12_init_53 : decode cX12_init 53 = .ok (.putfield 29, 3) := by decide +kernel
theorem dX12_init_56 : decode cX12_init 56 = .ok (.aload_n 0, 1) := by decide +kernel
theorem dX12_init_57 : decode cX12_init 57 = .ok (.bipush 16, 2) := by decide +kernel
theorem dX12_init_59 : decode cX12_init 59 = .ok (.newarray .long, 2) := by decide +kernel
theorem dX12_init_61 : decode cX12_init 61 = .ok (.putfield 32, 3) := by decide +kernel
theorem dX12_init_64 : decode cX12_init 64 = .ok (.aload_n 0, 1) := by decide +kernel
theorem dX12_init_65 : decode cX12_init 65 = .ok (.bipush 16, 2) := by decide +kernel
theorem dX12_init_67 : decode cX12_init 67 = .ok (.newarray .long, 2) := by decide +kernel
theorem dX12_init_69 : decode cX12_init 69 = .ok (.putfield 35, 3) := by decide +kernel
theorem dX12_init_72 : decode cX12_init 72 = .ok (.return_, 1) := by decide +kernel
theorem dX12_is_0 : decode cX12_is 0 = .ok (.iload_n 1, 1) := by decide +kernel
theorem dX12_is_1 : decode cX12_is 1 = .ok (.ifCond .ne 8, 3) := by decide +kernel
theorem dX12_is_4 : decode cX12_is 4 = .ok (.aload_n 0, 1) := by decide +kernel
theorem dX12_is_5 : decode cX12_is 5 = .ok (.lload_n 2, 1) := by decide +kernel
theorem dX12_is_6 : decode cX12_is 6 = .ok (.putfield 48, 3) := by decide +kernel
theorem dX12_is_9 : decode cX12_is 9 = .ok (.iload_n 1, 1) := by decide +kernel
theorem dX12_is_10 : decode cX12_is 10 = .ok (.ireturn, 1) := by decide +kernel
theorem dX13_init_0 : decode cX13_init 0 = .ok (.aload_n 0, 1) := by decide +kernel
theorem dX13_init_1 : decode cX13_init 1 = .ok (.invokespecial 3, 3) := by decide +kernel
theorem dX13_init_4 : decode cX13_init 4 = .ok (.aload_n 0, 1) := by decide +kernel
theorem dX13_init_5 : decode cX13_init 5 = .ok (.bipush 32, 2) := by decide +kernel
theorem dX13_init_7 : decode cX13_init 7 = .ok (.newarray .long, 2) := by decide +kernel
theorem dX13_init_9 : decode cX13_init 9 = .ok (.putfield 9, 3) := by decide +kernel
theorem dX13_init_12 : decode cX13_init 12 = .ok (.aload_n 0, 1) := by decide +kernel
theorem dX13_init_13 : decode cX13_init 13 = .ok (.bipush 32, 2) := by decide +kernel
theorem dX13_init_15 : decode cX13_init 15 = .ok (.newarray .byte, 2) := by decide +kernel
theorem dX13_init_17 : decode cX13_init 17 = .ok (.putfield 15, 3) := by decide +kernel
theorem dX13_init_20 : decode cX13_init 20 = .ok (.aload_n 0, 1) := by decide +kernel
theorem dX13_init_21 : decode cX13_init 21 = .ok (.bipush 32, 2) := by decide +kernel
theorem dX13_init_23 : decode cX13_init 23 = .ok (.newarray .int, 2) := by decide +kernel
theorem dX13_init_25 : decode cX13_init 25 = .ok (.putfield 19, 3) := by decide +kernel
theorem dX13_init_28 : decode cX13_init 28 = .ok (.aload_n 0, 1) := by decide +kernel
theorem dX13_init_29 : decode cX13_init 29 = .ok (.ldc 23, 2) := by decide +kernel
theorem dX13_init_31 : decode cX13_init 31 = .ok (.newarray .byte, 2) := by decide +kernel
theorem dX13_init_33 : decode cX13_init 33 = .ok (.putfield 24, 3) := by decide +kernel
theorem dX13_init_36 : decode cX13_init 36 = .ok (.aload_n 0, 1) := by decide +kernel
theorem dX13_init_37 : decode cX13_init 37 = .ok (.sipush 15692, 3) := by decide +kernel
theorem dX13_init_40 : decode cX13_init 40 = .ok (.newarray .byte, 2) := by decide +kernel
theorem dX13_init_42 : decode cX13_init 42 = .ok (.putfield 27, 3) := by decide +kernel
theorem dX13_init_45 : decode cX13_init 45 = .ok (.aload_n 0, 1) := by decide +kernel
theorem dX13_init_46 : decode cX13_init 46 = .ok (.sipush 15692, 3) := by decide +kernel
theorem dX13_init_49 : decode cX13_init 49 = .ok (.newarray .int, 2) := by decide +kernel
theorem dX13_init_51 : decode cX13_init 51 = .ok (.putfield 30, 3) := by decide +kernel
theorem dX13_init_54 : decode cX13_init 54 = .ok (.aload_n 0, 1) := by decide +kernel
theorem dX13_init_55 : decode cX13_init 55 = .ok (.sipush 4096, 3) := by decide +kernel
theorem dX13_init_58 : decode cX13_init 58 = .ok (.newarray .int, 2) := by decide +kernel
theorem dX13_init_60 : decode cX13_init 60 = .ok (.putfield 33, 3) := by decide +kernel
theorem dX13_init_63 : decode cX13_init 63 = .ok (.aload_n 0, 1) := by decide +kernel
theorem dX13_init_64 : decode cX13_init 64 = .ok (.sipush 800, 3) := by decide +kernel
theorem dX13_init_67 : decode cX13_init 67 = .ok (.newarray .long, 2) := by decide +kernel
theorem dX13_init_69 : decode cX13_init 69 = .ok (.putfield 36, 3) := by decide +kernel
theorem dX13_init_72 : decode cX13_init 72 = .ok (.aload_n 0, 1) := by decide +kernel
theorem dX13_init_73 : decode cX13_init 73 = .ok (.sipush 16384, 3) := by decide +kernel
theorem dX13_init_76 : decode cX13_init 76 = .ok (.newarray .byte, 2) := by decide +kernel
theorem dX13_init_78 : decode cX13_init 78 = .ok (.putfield 39, 3) := by decide +kernel
theorem dX13_init_81 : decode cX13_init 81 = .ok (.aload_n 0, 1) := by decide +kernel
theorem dX13_init_82 : decode cX13_init 82 = .ok (.aload_n 1, 1) := by decide +kernel
theorem dX13_init_83 : decode cX13_init 83 = .ok (.putfield 42, 3) := by decide +kernel
theorem dX13_init_86 : decode cX13_init 86 = .ok (.aload_n 0, 1) := by decide +kernel
theorem dX13_init_87 : decode cX13_init 87 = .ok (.iload_n 2, 1) := by decide +kernel
theorem dX13_init_88 : decode cX13_init 88 = .ok (.putfield 46, 3) := by decide +kernel
theorem dX13_init_91 : decode cX13_init 91 = .ok (.return_, 1) := by decide +kernel
theorem dX14_init_0 : decode cX14_init 0 = .ok (.aload_n 0, 1) := by decide +kernel
theorem dX14_init_1 : decode cX14_init 1 = .ok (.invokespecial 3, 3) := by decide +kernel
theorem dX14_init_4 : decode cX14_init 4 = .ok (.aload_n 0, 1) := by decide +kernel
theorem dX14_init_5 : decode cX14_init 5 = .ok (.sipush 15002, 3) := by decide +kernel
theorem dX14_init_8 : decode cX14_init 8 = .ok (.newarray .int, 2) := by decide +kernel
theorem dX14_init_10 : decode cX14_init 10 = .ok (.putfield 9, 3) := by decide +kernel
theorem dX14_init_13 : decode cX14_init 13 = .ok (.aload_n 0, 1) := by decide +kernel
theorem dX14_init_14 : decode cX14_init 14 = .ok (.sipush 15002, 3) := by decide +kernel
theorem dX14_init_17 : decode cX14_init 17 = .ok (.newarray .int, 2) := by decide +kernel
theorem dX14_init_19 : decode cX14_init 19 = .ok (.putfield 15, 3) := by decide +kernel
theorem dX14_init_22 : decode cX14_init 22 = .ok (.aload_n 0, 1) := by decide +kernel
theorem dX14_init_23 : decode cX14_init 23 = .ok (.sipush 15002, 3) := by decide +kernel
theorem dX14_init_26 : decode cX14_init 26 = .ok (.newarray .byte, 2) := by decide +kernel
theorem dX14_init_28 : decode cX14_init 28 = .ok (.putfield 18, 3) := by decide +kernel
theorem dX14_init_31 : decode cX14_init 31 = .ok (.aload_n 0, 1) := by decide +kernel
theorem dX14_init_32 : decode cX14_init 32 = .ok (.sipush 15002, 3) := by decide +kernel
theorem dX14_init_35 : decode cX14_init 35 = .ok (.newarray .boolean, 2) := by decide +kernel
theorem dX14_init_37 : decode cX14_init 37 = .ok (.putfield 22, 3) := by decide +kernel
theorem dX14_init_40 : decode cX14_init 40 = .ok (.aload_n 0, 1) := by decide +kernel
theorem dX14_init_41 : decode cX14_init 41 = .ok (.sipush 15002, 3) := by decide +kernel
theorem dX14_init_44 : decode cX14_init 44 = .ok (.newarray .boolean, 2) := by decide +kernel
theorem dX14_init_46 : decode cX14_init 46 = .ok (.putfield 26, 3) := by decide +kernel
theorem dX14_init_49 : decode cX14_init 49 = .ok (.aload_n 0, 1) := by decide +kernel
theorem dX14_init_50 : decode cX14_init 50 = .ok (.sipush 15002, 3) := by decide +kernel
theorem dX14_init_53 : decode cX14_init 53 = .ok (.newarray .int, 2) := by decide +kernel
theorem dX14_init_55 : decode cX14_init 55 = .ok (.putfield 29, 3) := by decide +kernel
theorem dX14_init_58 : decode cX14_init 58 = .ok (.aload_n 0, 1) := by decide +kernel
theorem dX14_init_59 : decode cX14_init 59 = .ok (.aload_n 1, 1) := by decide +kernel
theorem dX14_init_60 : decode cX14_init 60 = .ok (.putfield 32, 3) := by decide +kernel
theorem dX14_init_63 : decode cX14_init 63 = .ok (.return_, 1) := by decide +kernel
theorem dX15_block_0 : decode cX15_block 0 = .ok (.aload_n 0, 1) := by decide +kernel
theorem dX15_block_1 : decode cX15_block 1 = .ok (.getfield 265, 3) := by decide +kernel
theorem dX15_block_4 : decode cX15_block 4 = .ok (.ifCond .eq 15, 3) := by decide +kernel
theorem dX15_block_19 : decode cX15_block 19 = .ok (.ldc2_w 408, 3) := by decide +kernel
theorem dX15_block_22 : decode cX15_block 22 = .ok (.lreturn, 1) := by decide +kernel
theorem dX15_calls_0 : decode cX15_calls 0 = .ok (.lconst 0, 1) := by decide +kernel
theorem dX15_calls_1 : decode cX15_calls 1 = .ok (.lstore_n 3, 1) := by decide +kernel
theorem dX15_calls_2 : decode cX15_calls 2 = .ok (.iconst 0, 1) := by decide +kernel
theorem dX15_calls_3 : decode cX15_calls 3 = .ok (.istore 5, 2) := by decide +kernel
theorem dX15_calls_5 : decode cX15_calls 5 = .ok (.iload 5, 2) := by decide +kernel
theorem dX15_calls_7 : decode cX15_calls 7 = .ok (.aload_n 0, 1) := by decide +kernel
theorem dX15_calls_8 : decode cX15_calls 8 = .ok (.getfield 272, 3) := by decide +kernel
theorem dX15_calls_11 : decode cX15_calls 11 = .ok (.if_icmp .ge 68, 3) := by decide +kernel
theorem dX15_calls_79 : decode cX15_calls 79 = .ok (.lload_n 3, 1) := by decide +kernel
theorem dX15_calls_80 : decode cX15_calls 80 = .ok (.lreturn, 1) := by decide +kernel
theorem dX15_check_0 : decode cX15_check 0 = .ok (.aload_n 0, 1) := by decide +kernel
theorem dX15_check_1 : decode cX15_check 1 = .ok (.getfield 275, 3) := by decide +kernel
theorem dX15_check_4 : decode cX15_check 4 = .ok (.ifCond .ne 6, 3) := by decide +kernel
theorem dX15_check_7 : decode cX15_check 7 = .ok (.bipush (-14), 2) := by decide +kernel
theorem dX15_check_9 : decode cX15_check 9 = .ok (.ireturn, 1) := by decide +kernel
theorem dX15_count_0 : decode cX15_count 0 = .ok (.iload_n 1, 1) := by decide +kernel
theorem dX15_count_1 : decode cX15_count 1 = .ok (.ifCond .lt 8, 3) := by decide +kernel
theorem dX15_count_4 : decode cX15_count 4 = .ok (.iload_n 1, 1) := by decide +kernel
theorem dX15_count_5 : decode cX15_count 5 = .ok (.iconst 4, 1) := by decide +kernel
theorem dX15_count_6 : decode cX15_count 6 = .ok (.if_icmp .le 6, 3) := by decide +kernel
theorem dX15_count_9 : decode cX15_count 9 = .ok (.bipush (-14), 2) := by decide +kernel
theorem dX15_count_11 : decode cX15_count 11 = .ok (.ireturn, 1) := by decide +kernel
theorem dX15_count_12 : decode cX15_count 12 = .ok (.aload_n 0, 1) := by decide +kernel
theorem dX15_count_13 : decode cX15_count 13 = .ok (.getfield 265, 3) := by decide +kernel
theorem dX15_count_16 : decode cX15_count 16 = .ok (.ifCond .ne 5, 3) := by decide +kernel
theorem dX15_count_19 : decode cX15_count 19 = .ok (.iconst 0, 1) := by decide +kernel
theorem dX15_count_20 : decode cX15_count 20 = .ok (.ireturn, 1) := by decide +kernel
theorem dX15_edge_0 : decode cX15_edge 0 = .ok (.aload_n 0, 1) := by decide +kernel
theorem dX15_edge_1 : decode cX15_edge 1 = .ok (.getfield 265, 3) := by decide +kernel
theorem dX15_edge_4 : decode cX15_edge 4 = .ok (.ifCond .ne 6, 3) := by decide +kernel
theorem dX15_edge_7 : decode cX15_edge 7 = .ok (.bipush (-14), 2) := by decide +kernel
theorem dX15_edge_9 : decode cX15_edge 9 = .ok (.ireturn, 1) := by decide +kernel
theorem dX15_end_0 : decode cX15_end 0 = .ok (.iload_n 1, 1) := by decide +kernel
theorem dX15_end_1 : decode cX15_end 1 = .ok (.ifCond .lt 11, 3) := by decide +kernel
theorem dX15_end_4 : decode cX15_end 4 = .ok (.iload_n 1, 1) := by decide +kernel
theorem dX15_end_5 : decode cX15_end 5 = .ok (.aload_n 0, 1) := by decide +kernel
theorem dX15_end_6 : decode cX15_end 6 = .ok (.getfield 178, 3) := by decide +kernel
theorem dX15_end_9 : decode cX15_end 9 = .ok (.if_icmp .le 5, 3) := by decide +kernel
theorem dX15_end_12 : decode cX15_end 12 = .ok (.iconst 0, 1) := by decide +kernel
theorem dX15_end_13 : decode cX15_end 13 = .ok (.ireturn, 1) := by decide +kernel
theorem dX15_end_14 : decode cX15_end 14 = .ok (.aload_n 0, 1) := by decide +kernel
theorem dX15_end_15 : decode cX15_end 15 = .ok (.iload_n 1, 1) := by decide +kernel
theorem dX15_end_16 : decode cX15_end 16 = .ok (.putfield 178, 3) := by decide +kernel
theorem dX15_end_19 : decode cX15_end 19 = .ok (.iconst 1, 1) := by decide +kernel
theorem dX15_end_20 : decode cX15_end 20 = .ok (.ireturn, 1) := by decide +kernel
theorem dX15_feed_0 : decode cX15_feed 0 = .ok (.aload_n 0, 1) := by decide +kernel
theorem dX15_feed_1 : decode cX15_feed 1 = .ok (.getfield 178, 3) := by decide +kernel
theorem dX15_feed_4 : decode cX15_feed 4 = .ok (.bipush 20, 2) := by decide +kernel
theorem dX15_feed_6 : decode cX15_feed 6 = .ok (.iadd, 1) := by decide +kernel
theorem dX15_feed_7 : decode cX15_feed 7 = .ok (.ldc 9, 2) := by decide +kernel
theorem dX15_feed_9 : decode cX15_feed 9 = .ok (.if_icmp .gt 15, 3) := by decide +kernel
theorem dX15_feed_12 : decode cX15_feed 12 = .ok (.aload_n 0, 1) := by decide +kernel
theorem dX15_feed_13 : decode cX15_feed 13 = .ok (.getfield 182, 3) := by decide +kernel
theorem dX15_feed_16 : decode cX15_feed 16 = .ok (.bipush 20, 2) := by decide +kernel
theorem dX15_feed_18 : decode cX15_feed 18 = .ok (.iadd, 1) := by decide +kernel
theorem dX15_feed_19 : decode cX15_feed 19 = .ok (.ldc 185, 2) := by decide +kernel
theorem dX15_feed_21 : decode cX15_feed 21 = .ok (.if_icmp .le 5, 3) := by decide +kernel
theorem dX15_feed_26 : decode cX15_feed 26 = .ok (.aload_n 0, 1) := by decide +kernel
theorem dX15_feed_27 : decode cX15_feed 27 = .ok (.iload_n 1, 1) := by decide +kernel
theorem dX15_feed_28 : decode cX15_feed 28 = .ok (.invokevirtual 186, 3) := by decide +kernel
theorem dX15_feed_31 : decode cX15_feed 31 = .ok (.aload_n 0, 1) := by decide +kernel
theorem dX15_feed_32 : decode cX15_feed 32 = .ok (.iload_n 2, 1) := by decide +kernel
theorem dX15_feed_33 : decode cX15_feed 33 = .ok (.invokevirtual 186, 3) := by decide +kernel
theorem dX15_feed_36 : decode cX15_feed 36 = .ok (.aload_n 0, 1) := by decide +kernel
theorem dX15_feed_37 : decode cX15_feed 37 = .ok (.iload_n 3, 1) := by decide +kernel
theorem dX15_feed_38 : decode cX15_feed 38 = .ok (.invokevirtual 186, 3) := by decide +kernel
theorem dX15_feed_41 : decode cX15_feed 41 = .ok (.aload_n 0, 1) := by decide +kernel
theorem dX15_feed_42 : decode cX15_feed 42 = .ok (.iload 4, 2) := by decide +kernel
theorem dX15_feed_44 : decode cX15_feed 44 = .ok (.invokevirtual 186, 3) := by decide +kernel
theorem dX15_feed_47 : decode cX15_feed 47 = .ok (.aload_n 0, 1) := by decide +kernel
theorem dX15_feed_48 : decode cX15_feed 48 = .ok (.iload 5, 2) := by decide +kernel
theorem dX15_feed_50 : decode cX15_feed 50 = .ok (.invokevirtual 186, 3) := by decide +kernel
theorem dX15_feed_53 : decode cX15_feed 53 = .ok (.aload_n 0, 1) := by decide +kernel
theorem dX15_feed_54 : decode cX15_feed 54 = .ok (.dup, 1) := by decide +kernel
theorem dX15_feed_55 : decode cX15_feed 55 = .ok (.getfield 182, 3) := by decide +kernel
theorem dX15_feed_58 : decode cX15_feed 58 = .ok (.bipush 20, 2) := by decide +kernel
theorem dX15_feed_60 : decode cX15_feed 60 = .ok (.iadd, 1) := by decide +kernel
theorem dX15_feed_61 : decode cX15_feed 61 = .ok (.putfield 182, 3) := by decide +kernel
theorem dX15_feed_64 : decode cX15_feed 64 = .ok (.aload_n 0, 1) := by decide +kernel
theorem dX15_feed_65 : decode cX15_feed 65 = .ok (.getfield 178, 3) := by decide +kernel
theorem dX15_feed_68 : decode cX15_feed 68 = .ok (.ireturn, 1) := by decide +kernel
theorem dX15_four_0 : decode cX15_four 0 = .ok (.bipush 24, 2) := by decide +kernel
theorem dX15_four_2 : decode cX15_four 2 = .ok (.istore_n 2, 1) := by decide +kernel
theorem dX15_four_3 : decode cX15_four 3 = .ok (.iload_n 2, 1) := by decide +kernel
theorem dX15_four_4 : decode cX15_four 4 = .ok (.ifCond .lt 32, 3) := by decide +kernel
theorem dX15_four_7 : decode cX15_four 7 = .ok (.aload_n 0, 1) := by decide +kernel
theorem dX15_four_8 : decode cX15_four 8 = .ok (.getfield 10, 3) := by decide +kernel
theorem dX15_four_11 : decode cX15_four 11 = .ok (.aload_n 0, 1) := by decide +kernel
theorem dX15_four_12 : decode cX15_four 12 = .ok (.getfield 178, 3) := by decide +kernel
theorem dX15_four_15 : decode cX15_four 15 = .ok (.iload_n 1, 1) := by decide +kernel
theorem dX15_four_16 : decode cX15_four 16 = .ok (.iload_n 2, 1) := by decide +kernel
theorem dX15_four_17 : decode cX15_four 17 = .ok (.ishr, 1) := by decide +kernel
theorem dX15_four_18 : decode cX15_four 18 = .ok (.i2b, 1) := by decide +kernel
theorem dX15_four_19 : decode cX15_four 19 = .ok (.bastore, 1) := by decide +kernel
theorem dX15_four_20 : decode cX15_four 20 = .ok (.aload_n 0, 1) := by decide +kernel
theorem dX15_four_21 : decode cX15_four 21 = .ok (.dup, 1) := by decide +kernel
theorem dX15_four_22 : decode cX15_four 22 = .ok (.getfield 178, 3) := by decide +kernel
theorem dX15_four_25 : decode cX15_four 25 = .ok (.iconst 1, 1) := by decide +kernel
theorem dX15_four_26 : decode cX15_four 26 = .ok (.iadd, 1) := by decide +kernel
theorem dX15_four_27 : decode cX15_four 27 = .ok (.putfield 178, 3) := by decide +kernel
theorem dX15_four_30 : decode cX15_four 30 = .ok (.iinc 2 (-8), 3) := by decide +kernel
theorem dX15_four_33 : decode cX15_four 33 = .ok (.goto (-30), 3) := by decide +kernel
theorem dX15_four_36 : decode cX15_four 36 = .ok (.return_, 1) := by decide +kernel
theorem dX15_function_0 : decode cX15_function 0 = .ok (.aload_n 0, 1) := by decide +kernel
theorem dX15_function_1 : decode cX15_function 1 = .ok (.getfield 265, 3) := by decide +kernel
theorem dX15_function_4 : decode cX15_function 4 = .ok (.ifCond .eq 24, 3) := by decide +kernel
theorem dX15_function_28 : decode cX15_function 28 = .ok (.ldc2_w 408, 3) := by decide +kernel
theorem dX15_function_31 : decode cX15_function 31 = .ok (.lreturn, 1) := by decide +kernel
theorem dX15_init_0 : decode cX15_init 0 = .ok (.aload_n 0, 1) := by decide +kernel
theorem dX15_init_1 : decode cX15_init 1 = .ok (.invokespecial 1, 3) := by decide +kernel
theorem dX15_init_4 : decode cX15_init 4 = .ok (.aload_n 0, 1) := by decide +kernel
theorem dX15_init_5 : decode cX15_init 5 = .ok (.ldc 9, 2) := by decide +kernel
theorem dX15_init_7 : decode cX15_init 7 = .ok (.newarray .byte, 2) := by decide +kernel
theorem dX15_init_9 : decode cX15_init 9 = .ok (.putfield 10, 3) := by decide +kernel
theorem dX15_init_12 : decode cX15_init 12 = .ok (.aload_n 0, 1) := by decide +kernel
theorem dX15_init_13 : decode cX15_init 13 = .ok (.ldc 9, 2) := by decide +kernel
theorem dX15_init_15 : decode cX15_init 15 = .ok (.newarray .byte, 2) := by decide +kernel
theorem dX15_init_17 : decode cX15_init 17 = .ok (.putfield 14, 3) := by decide +kernel
theorem dX15_init_20 : decode cX15_init 20 = .ok (.aload_n 0, 1) := by decide +kernel
theorem dX15_init_21 : decode cX15_init 21 = .ok (.ldc 9, 2) := by decide +kernel
theorem dX15_init_23 : decode cX15_init 23 = .ok (.newarray .byte, 2) := by decide +kernel
theorem dX15_init_25 : decode cX15_init 25 = .ok (.putfield 17, 3) := by decide +kernel
theorem dX15_init_28 : decode cX15_init 28 = .ok (.aload_n 0, 1) := by decide +kernel
theorem dX15_init_29 : decode cX15_init 29 = .ok (.new 20, 3) := by decide +kernel
theorem dX15_init_32 : decode cX15_init 32 = .ok (.dup, 1) := by decide +kernel
theorem dX15_init_33 : decode cX15_init 33 = .ok (.invokespecial 22, 3) := by decide +kernel
theorem dX15_init_36 : decode cX15_init 36 = .ok (.putfield 23, 3) := by decide +kernel
theorem dX15_init_39 : decode cX15_init 39 = .ok (.aload_n 0, 1) := by decide +kernel
theorem dX15_init_40 : decode cX15_init 40 = .ok (.new 20, 3) := by decide +kernel
theorem dX15_init_43 : decode cX15_init 43 = .ok (.dup, 1) := by decide +kernel
theorem dX15_init_44 : decode cX15_init 44 = .ok (.invokespecial 22, 3) := by decide +kernel
theorem dX15_init_47 : decode cX15_init 47 = .ok (.putfield 27, 3) := by decide +kernel
theorem dX15_init_50 : decode cX15_init 50 = .ok (.aload_n 0, 1) := by decide +kernel
theorem dX15_init_51 : decode cX15_init 51 = .ok (.ldc2_w 30, 3) := by decide +kernel
theorem dX15_init_54 : decode cX15_init 54 = .ok (.putfield 32, 3) := by decide +kernel
theorem dX15_init_57 : decode cX15_init 57 = .ok (.aload_n 0, 1) := by decide +kernel
theorem dX15_init_58 : decode cX15_init 58 = .ok (.sipush 15002, 3) := by decide +kernel
theorem dX15_init_61 : decode cX15_init 61 = .ok (.newarray .int, 2) := by decide +kernel
theorem dX15_init_63 : decode cX15_init 63 = .ok (.putfield 36, 3) := by decide +kernel
theorem dX15_init_66 : decode cX15_init 66 = .ok (.aload_n 0, 1) := by decide +kernel
theorem dX15_init_67 : decode cX15_init 67 = .ok (.sipush 15002, 3) := by decide +kernel
theorem dX15_init_70 : decode cX15_init 70 = .ok (.newarray .int, 2) := by decide +kernel
theorem dX15_init_72 : decode cX15_init 72 = .ok (.putfield 40, 3) := by decide +kernel
theorem dX15_init_75 : decode cX15_init 75 = .ok (.aload_n 0, 1) := by decide +kernel
theorem dX15_init_76 : decode cX15_init 76 = .ok (.sipush 15002, 3) := by decide +kernel
theorem dX15_init_79 : decode cX15_init 79 = .ok (.newarray .int, 2) := by decide +kernel
theorem dX15_init_81 : decode cX15_init 81 = .ok (.putfield 43, 3) := by decide +kernel
theorem dX15_init_84 : decode cX15_init 84 = .ok (.aload_n 0, 1) := by decide +kernel
theorem dX15_init_85 : decode cX15_init 85 = .ok (.sipush 15002, 3) := by decide +kernel
theorem dX15_init_88 : decode cX15_init 88 = .ok (.newarray .boolean, 2) := by decide +kernel
theorem dX15_init_90 : decode cX15_init 90 = .ok (.putfield 46, 3) := by decide +kernel
theorem dX15_init_93 : decode cX15_init 93 = .ok (.aload_n 0, 1) := by decide +kernel
theorem dX15_init_94 : decode cX15_init 94 = .ok (.sipush 15002, 3) := by decide +kernel
theorem dX15_init_97 : decode cX15_init 97 = .ok (.newarray .int, 2) := by decide +kernel
theorem dX15_init_99 : decode cX15_init 99 = .ok (.putfield 50, 3) := by decide +kernel
theorem dX15_init_102 : decode cX15_init 102 = .ok (.aload_n 0, 1) := by decide +kernel
theorem dX15_init_103 : decode cX15_init 103 = .ok (.sipush 15002, 3) := by decide +kernel
theorem dX15_init_106 : decode cX15_init 106 = .ok (.newarray .int, 2) := by decide +kernel
theorem dX15_init_108 : decode cX15_init 108 = .ok (.putfield 53, 3) := by decide +kernel
theorem dX15_init_111 : decode cX15_init 111 = .ok (.aload_n 0, 1) := by decide +kernel
theorem dX15_init_112 : decode cX15_init 112 = .ok (.sipush 15002, 3) := by decide +kernel
theorem dX15_init_115 : decode cX15_init 115 = .ok (.newarray .int, 2) := by decide +kernel
theorem dX15_init_117 : decode cX15_init 117 = .ok (.putfield 56, 3) := by decide +kernel
theorem dX15_init_120 : decode cX15_init 120 = .ok (.aload_n 0, 1) := by decide +kernel
theorem dX15_init_121 : decode cX15_init 121 = .ok (.sipush 15002, 3) := by decide +kernel
theorem dX15_init_124 : decode cX15_init 124 = .ok (.newarray .int, 2) := by decide +kernel
theorem dX15_init_126 : decode cX15_init 126 = .ok (.putfield 59, 3) := by decide +kernel
theorem dX15_init_129 : decode cX15_init 129 = .ok (.aload_n 0, 1) := by decide +kernel
theorem dX15_init_130 : decode cX15_init 130 = .ok (.sipush 15002, 3) := by decide +kernel
theorem dX15_init_133 : decode cX15_init 133 = .ok (.newarray .int, 2) := by decide +kernel
theorem dX15_init_135 : decode cX15_init 135 = .ok (.putfield 62, 3) := by decide +kernel
theorem dX15_init_138 : decode cX15_init 138 = .ok (.aload_n 0, 1) := by decide +kernel
theorem dX15_init_139 : decode cX15_init 139 = .ok (.sipush 15002, 3) := by decide +kernel
theorem dX15_init_142 : decode cX15_init 142 = .ok (.newarray .int, 2) := by decide +kernel
theorem dX15_init_144 : decode cX15_init 144 = .ok (.putfield 65, 3) := by decide +kernel
theorem dX15_init_147 : decode cX15_init 147 = .ok (.aload_n 0, 1) := by decide +kernel
theorem dX15_init_148 : decode cX15_init 148 = .ok (.sipush 15002, 3) := by decide +kernel
theorem dX15_init_151 : decode cX15_init 151 = .ok (.newarray .int, 2) := by decide +kernel
theorem dX15_init_153 : decode cX15_init 153 = .ok (.putfield 68, 3) := by decide +kernel
theorem dX15_init_156 : decode cX15_init 156 = .ok (.aload_n 0, 1) := by decide +kernel
theorem dX15_init_157 : decode cX15_init 157 = .ok (.sipush 15002, 3) := by decide +kernel
theorem dX15_init_160 : decode cX15_init 160 = .ok (.newarray .int, 2) := by decide +kernel
theorem dX15_init_162 : decode cX15_init 162 = .ok (.putfield 71, 3) := by decide +kernel
theorem dX15_init_165 : decode cX15_init 165 = .ok (.aload_n 0, 1) := by decide +kernel
theorem dX15_init_166 : decode cX15_init 166 = .ok (.sipush 15002, 3) := by decide +kernel
theorem dX15_init_169 : decode cX15_init 169 = .ok (.newarray .boolean, 2) := by decide +kernel
theorem dX15_init_171 : decode cX15_init 171 = .ok (.putfield 74, 3) := by decide +kernel
theorem dX15_init_174 : decode cX15_init 174 = .ok (.aload_n 0, 1) := by decide +kernel
theorem dX15_init_175 : decode cX15_init 175 = .ok (.bipush 64, 2) := by decide +kernel
theorem dX15_init_177 : decode cX15_init 177 = .ok (.newarray .int, 2) := by decide +kernel
theorem dX15_init_179 : decode cX15_init 179 = .ok (.putfield 77, 3) := by decide +kernel
theorem dX15_init_182 : decode cX15_init 182 = .ok (.aload_n 0, 1) := by decide +kernel
theorem dX15_init_183 : decode cX15_init 183 = .ok (.bipush 64, 2) := by decide +kernel
theorem dX15_init_185 : decode cX15_init 185 = .ok (.newarray .int, 2) := by decide +kernel
theorem dX15_init_187 : decode cX15_init 187 = .ok (.putfield 80, 3) := by decide +kernel
theorem dX15_init_190 : decode cX15_init 190 = .ok (.aload_n 0, 1) := by decide +kernel
theorem dX15_init_191 : decode cX15_init 191 = .ok (.bipush 64, 2) := by decide +kernel
theorem dX15_init_193 : decode cX15_init 193 = .ok (.newarray .boolean, 2) := by decide +kernel
theorem dX15_init_195 : decode cX15_init 195 = .ok (.putfield 83, 3) := by decide +kernel
theorem dX15_init_198 : decode cX15_init 198 = .ok (.aload_n 0, 1) := by decide +kernel
theorem dX15_init_199 : decode cX15_init 199 = .ok (.bipush 64, 2) := by decide +kernel
theorem dX15_init_201 : decode cX15_init 201 = .ok (.newarray .long, 2) := by decide +kernel
theorem dX15_init_203 : decode cX15_init 203 = .ok (.putfield 86, 3) := by decide +kernel
theorem dX15_init_206 : decode cX15_init 206 = .ok (.aload_n 0, 1) := by decide +kernel
theorem dX15_init_207 : decode cX15_init 207 = .ok (.sipush 15002, 3) := by decide +kernel
theorem dX15_init_210 : decode cX15_init 210 = .ok (.newarray .boolean, 2) := by decide +kernel
theorem dX15_init_212 : decode cX15_init 212 = .ok (.putfield 90, 3) := by decide +kernel
theorem dX15_init_215 : decode cX15_init 215 = .ok (.aload_n 0, 1) := by decide +kernel
theorem dX15_init_216 : decode cX15_init 216 = .ok (.sipush 15002, 3) := by decide +kernel
theorem dX15_init_219 : decode cX15_init 219 = .ok (.newarray .int, 2) := by decide +kernel
theorem dX15_init_221 : decode cX15_init 221 = .ok (.putfield 93, 3) := by decide +kernel
theorem dX15_init_224 : decode cX15_init 224 = .ok (.aload_n 0, 1) := by decide +kernel
theorem dX15_init_225 : decode cX15_init 225 = .ok (.sipush 15002, 3) := by decide +kernel
theorem dX15_init_228 : decode cX15_init 228 = .ok (.newarray .int, 2) := by decide +kernel
theorem dX15_init_230 : decode cX15_init 230 = .ok (.putfield 96, 3) := by decide +kernel
theorem dX15_init_233 : decode cX15_init 233 = .ok (.aload_n 0, 1) := by decide +kernel
theorem dX15_init_234 : decode cX15_init 234 = .ok (.sipush 15002, 3) := by decide +kernel
theorem dX15_init_237 : decode cX15_init 237 = .ok (.newarray .boolean, 2) := by decide +kernel
theorem dX15_init_239 : decode cX15_init 239 = .ok (.putfield 99, 3) := by decide +kernel
theorem dX15_init_242 : decode cX15_init 242 = .ok (.aload_n 0, 1) := by decide +kernel
theorem dX15_init_243 : decode cX15_init 243 = .ok (.sipush 15002, 3) := by decide +kernel
theorem dX15_init_246 : decode cX15_init 246 = .ok (.newarray .int, 2) := by decide +kernel
theorem dX15_init_248 : decode cX15_init 248 = .ok (.putfield 102, 3) := by decide +kernel
theorem dX15_init_251 : decode cX15_init 251 = .ok (.aload_n 0, 1) := by decide +kernel
theorem dX15_init_252 : decode cX15_init 252 = .ok (.sipush 15002, 3) := by decide +kernel
theorem dX15_init_255 : decode cX15_init 255 = .ok (.newarray .int, 2) := by decide +kernel
theorem dX15_init_257 : decode cX15_init 257 = .ok (.putfield 105, 3) := by decide +kernel
theorem dX15_init_260 : decode cX15_init 260 = .ok (.aload_n 0, 1) := by decide +kernel
theorem dX15_init_261 : decode cX15_init 261 = .ok (.sipush 15002, 3) := by decide +kernel
theorem dX15_init_264 : decode cX15_init 264 = .ok (.newarray .long, 2) := by decide +kernel
theorem dX15_init_266 : decode cX15_init 266 = .ok (.putfield 108, 3) := by decide +kernel
theorem dX15_init_269 : decode cX15_init 269 = .ok (.aload_n 0, 1) := by decide +kernel
theorem dX15_init_270 : decode cX15_init 270 = .ok (.sipush 15002, 3) := by decide +kernel
theorem dX15_init_273 : decode cX15_init 273 = .ok (.newarray .long, 2) := by decide +kernel
theorem dX15_init_275 : decode cX15_init 275 = .ok (.putfield 111, 3) := by decide +kernel
theorem dX15_init_278 : decode cX15_init 278 = .ok (.aload_n 0, 1) := by decide +kernel
theorem dX15_init_279 : decode cX15_init 279 = .ok (.sipush 15002, 3) := by decide +kernel
theorem dX15_init_282 : decode cX15_init 282 = .ok (.newarray .int, 2) := by decide +kernel
theorem dX15_init_284 : decode cX15_init 284 = .ok (.putfield 114, 3) := by decide +kernel
theorem dX15_init_287 : decode cX15_init 287 = .ok (.aload_n 0, 1) := by decide +kernel
theorem dX15_init_288 : decode cX15_init 288 = .ok (.sipush 15002, 3) := by decide +kernel
theorem dX15_init_291 : decode cX15_init 291 = .ok (.newarray .int, 2) := by decide +kernel
theorem dX15_init_293 : decode cX15_init 293 = .ok (.putfield 117, 3) := by decide +kernel
theorem dX15_init_296 : decode cX15_init 296 = .ok (.aload_n 0, 1) := by decide +kernel
theorem dX15_init_297 : decode cX15_init 297 = .ok (.sipush 15002, 3) := by decide +kernel
theorem dX15_init_300 : decode cX15_init 300 = .ok (.newarray .int, 2) := by decide +kernel
theorem dX15_init_302 : decode cX15_init 302 = .ok (.putfield 120, 3) := by decide +kernel
theorem dX15_init_305 : decode cX15_init 305 = .ok (.aload_n 0, 1) := by decide +kernel
theorem dX15_init_306 : decode cX15_init 306 = .ok (.sipush 15002, 3) := by decide +kernel
theorem dX15_init_309 : decode cX15_init 309 = .ok (.newarray .long, 2) := by decide +kernel
theorem dX15_init_311 : decode cX15_init 311 = .ok (.putfield 123, 3) := by decide +kernel
theorem dX15_init_314 : decode cX15_init 314 = .ok (.aload_n 0, 1) := by decide +kernel
theorem dX15_init_315 : decode cX15_init 315 = .ok (.sipush 15002, 3) := by decide +kernel
theorem dX15_init_318 : decode cX15_init 318 = .ok (.newarray .long, 2) := by decide +kernel
theorem dX15_init_320 : decode cX15_init 320 = .ok (.putfield 126, 3) := by decide +kernel
theorem dX15_init_323 : decode cX15_init 323 = .ok (.aload_n 0, 1) := by decide +kernel
theorem dX15_init_324 : decode cX15_init 324 = .ok (.sipush 15002, 3) := by decide +kernel
theorem dX15_init_327 : decode cX15_init 327 = .ok (.newarray .long, 2) := by decide +kernel
theorem dX15_init_329 : decode cX15_init 329 = .ok (.putfield 129, 3) := by decide +kernel
theorem dX15_init_332 : decode cX15_init 332 = .ok (.aload_n 0, 1) := by decide +kernel
theorem dX15_init_333 : decode cX15_init 333 = .ok (.sipush 15002, 3) := by decide +kernel
theorem dX15_init_336 : decode cX15_init 336 = .ok (.newarray .int, 2) := by decide +kernel
theorem dX15_init_338 : decode cX15_init 338 = .ok (.putfield 132, 3) := by decide +kernel
theorem dX15_init_341 : decode cX15_init 341 = .ok (.aload_n 0, 1) := by decide +kernel
theorem dX15_init_342 : decode cX15_init 342 = .ok (.sipush 15002, 3) := by decide +kernel
theorem dX15_init_345 : decode cX15_init 345 = .ok (.newarray .long, 2) := by decide +kernel
theorem dX15_init_347 : decode cX15_init 347 = .ok (.putfield 135, 3) := by decide +kernel
theorem dX15_init_350 : decode cX15_init 350 = .ok (.aload_n 0, 1) := by decide +kernel
theorem dX15_init_351 : decode cX15_init 351 = .ok (.new 138, 3) := by decide +kernel
theorem dX15_init_354 : decode cX15_init 354 = .ok (.dup, 1) := by decide +kernel
theorem dX15_init_355 : decode cX15_init 355 = .ok (.aload_n 0, 1) := by decide +kernel
theorem dX15_init_356 : decode cX15_init 356 = .ok (.invokespecial 140, 3) := by decide +kernel
theorem dX15_init_359 : decode cX15_init 359 = .ok (.putfield 143, 3) := by decide +kernel
theorem dX15_init_362 : decode cX15_init 362 = .ok (.aload_n 0, 1) := by decide +kernel
theorem dX15_init_363 : decode cX15_init 363 = .ok (.new 138, 3) := by decide +kernel
theorem dX15_init_366 : decode cX15_init 366 = .ok (.dup, 1) := by decide +kernel
theorem dX15_init_367 : decode cX15_init 367 = .ok (.aload_n 0, 1) := by decide +kernel
theorem dX15_init_368 : decode cX15_init 368 = .ok (.invokespecial 140, 3) := by decide +kernel
theorem dX15_init_371 : decode cX15_init 371 = .ok (.putfield 147, 3) := by decide +kernel
theorem dX15_init_374 : decode cX15_init 374 = .ok (.aload_n 0, 1) := by decide +kernel
theorem dX15_init_375 : decode cX15_init 375 = .ok (.ldc 150, 2) := by decide +kernel
theorem dX15_init_377 : decode cX15_init 377 = .ok (.newarray .byte, 2) := by decide +kernel
theorem dX15_init_379 : decode cX15_init 379 = .ok (.putfield 151, 3) := by decide +kernel
theorem dX15_init_382 : decode cX15_init 382 = .ok (.aload_n 0, 1) := by decide +kernel
theorem dX15_init_383 : decode cX15_init 383 = .ok (.sipush 15002, 3) := by decide +kernel
theorem dX15_init_386 : decode cX15_init 386 = .ok (.newarray .boolean, 2) := by decide +kernel
theorem dX15_init_388 : decode cX15_init 388 = .ok (.putfield 154, 3) := by decide +kernel
theorem dX15_init_391 : decode cX15_init 391 = .ok (.aload_n 0, 1) := by decide +kernel
theorem dX15_init_392 : decode cX15_init 392 = .ok (.sipush 15002, 3) := by decide +kernel
theorem dX15_init_395 : decode cX15_init 395 = .ok (.newarray .boolean, 2) := by decide +kernel
theorem dX15_init_397 : decode cX15_init 397 = .ok (.putfield 157, 3) := by decide +kernel
theorem dX15_init_400 : decode cX15_init 400 = .ok (.aload_n 0, 1) := by decide +kernel
theorem dX15_init_401 : decode cX15_init 401 = .ok (.new 20, 3) := by decide +kernel
theorem dX15_init_404 : decode cX15_init 404 = .ok (.dup, 1) := by decide +kernel
theorem dX15_init_405 : decode cX15_init 405 = .ok (.invokespecial 22, 3) := by decide +kernel
theorem dX15_init_408 : decode cX15_init 408 = .ok (.putfield 160, 3) := by decide +kernel
theorem dX15_init_411 : decode cX15_init 411 = .ok (.aload_n 0, 1) := by decide +kernel
theorem dX15_init_412 : decode cX15_init 412 = .ok (.new 163, 3) := by decide +kernel
theorem dX15_init_415 : decode cX15_init 415 = .ok (.dup, 1) := by decide +kernel
theorem dX15_init_416 : decode cX15_init 416 = .ok (.aload_n 0, 1) := by decide +kernel
theorem dX15_init_417 : decode cX15_init 417 = .ok (.iconst 0, 1) := by decide +kernel
theorem dX15_init_418 : decode cX15_init 418 = .ok (.invokespecial 165, 3) := by decide +kernel
theorem dX15_init_421 : decode cX15_init 421 = .ok (.putfield 168, 3) := by decide +kernel
theorem dX15_init_424 : decode cX15_init 424 = .ok (.aload_n 0, 1) := by decide +kernel
theorem dX15_init_425 : decode cX15_init 425 = .ok (.new 163, 3) := by decide +kernel
theorem dX15_init_428 : decode cX15_init 428 = .ok (.dup, 1) := by decide +kernel
theorem dX15_init_429 : decode cX15_init 429 = .ok (.aload_n 0, 1) := by decide +kernel
theorem dX15_init_430 : decode cX15_init 430 = .ok (.iconst 1, 1) := by decide +kernel
theorem dX15_init_431 : decode cX15_init 431 = .ok (.invokespecial 165, 3) := by decide +kernel
theorem dX15_init_434 : decode cX15_init 434 = .ok (.putfield 172, 3) := by decide +kernel
theorem dX15_init_437 : decode cX15_init 437 = .ok (.aload_n 0, 1) := by decide +kernel
theorem dX15_init_438 : decode cX15_init 438 = .ok (.new 163, 3) := by decide +kernel
theorem dX15_init_441 : decode cX15_init 441 = .ok (.dup, 1) := by decide +kernel
theorem dX15_init_442 : decode cX15_init 442 = .ok (.aload_n 0, 1) := by decide +kernel
theorem dX15_init_443 : decode cX15_init 443 = .ok (.iconst 2, 1) := by decide +kernel
theorem dX15_init_444 : decode cX15_init 444 = .ok (.invokespecial 165, 3) := by decide +kernel
theorem dX15_init_447 : decode cX15_init 447 = .ok (.putfield 175, 3) := by decide +kernel
theorem dX15_init_450 : decode cX15_init 450 = .ok (.return_, 1) := by decide +kernel
theorem dX15_keeps_0 : decode cX15_keeps 0 = .ok (.aload_n 0, 1) := by decide +kernel
theorem dX15_keeps_1 : decode cX15_keeps 1 = .ok (.iconst 1, 1) := by decide +kernel
theorem dX15_keeps_2 : decode cX15_keeps 2 = .ok (.invokevirtual 594, 3) := by decide +kernel
theorem dX15_keeps_5 : decode cX15_keeps 5 = .ok (.astore_n 3, 1) := by decide +kernel
theorem dX15_keeps_6 : decode cX15_keeps 6 = .ok (.aload_n 3, 1) := by decide +kernel
theorem dX15_keeps_7 : decode cX15_keeps 7 = .ok (.ifnull 13, 3) := by decide +kernel
theorem dX15_keeps_20 : decode cX15_keeps 20 = .ok (.iconst (-1), 1) := by decide +kernel
theorem dX15_keeps_21 : decode cX15_keeps 21 = .ok (.goto 10, 3) := by decide +kernel
theorem dX15_keeps_31 : decode cX15_keeps 31 = .ok (.istore 4, 2) := by decide +kernel
theorem dX15_keeps_33 : decode cX15_keeps 33 = .ok (.iload 4, 2) := by decide +kernel
theorem dX15_keeps_35 : decode cX15_keeps 35 = .ok (.ifCond .ge 7, 3) := by decide +kernel
theorem dX15_keeps_38 : decode cX15_keeps 38 = .ok (.iconst (-1), 1) := by decide +kernel
theorem dX15_keeps_39 : decode cX15_keeps 39 = .ok (.goto 13, 3) := by decide +kernel
theorem dX15_keeps_52 : decode cX15_keeps 52 = .ok (.ireturn, 1) := by decide +kernel
theorem dX15_kind_0 : decode cX15_kind 0 = .ok (.aload_n 0, 1) := by decide +kernel
theorem dX15_kind_1 : decode cX15_kind 1 = .ok (.iconst 1, 1) := by decide +kernel
theorem dX15_kind_2 : decode cX15_kind 2 = .ok (.invokevirtual 594, 3) := by decide +kernel
theorem dX15_kind_5 : decode cX15_kind 5 = .ok (.astore_n 2, 1) := by decide +kernel
theorem dX15_kind_6 : decode cX15_kind 6 = .ok (.aload_n 2, 1) := by decide +kernel
theorem dX15_kind_7 : decode cX15_kind 7 = .ok (.ifnull 13, 3) := by decide +kernel
theorem dX15_kind_20 : decode cX15_kind 20 = .ok (.iconst (-1), 1) := by decide +kernel
theorem dX15_kind_21 : decode cX15_kind 21 = .ok (.goto 9, 3) := by decide +kernel
theorem dX15_kind_30 : decode cX15_kind 30 = .ok (.ireturn, 1) := by decide +kernel
theorem dX15_known_0 : decode cX15_known 0 = .ok (.aload_n 0, 1) := by decide +kernel
theorem dX15_known_1 : decode cX15_known 1 = .ok (.iload_n 1, 1) := by decide +kernel
theorem dX15_known_2 : decode cX15_known 2 = .ok (.invokevirtual 587, 3) := by decide +kernel
theorem dX15_known_5 : decode cX15_known 5 = .ok (.astore_n 2, 1) := by decide +kernel
theorem dX15_known_6 : decode cX15_known 6 = .ok (.aload_n 2, 1) := by decide +kernel
theorem dX15_known_7 : decode cX15_known 7 = .ok (.ifnull 10, 3) := by decide +kernel
theorem dX15_known_10 : decode cX15_known 10 = .ok (.aload_n 2, 1) := by decide +kernel
theorem dX15_known_11 : decode cX15_known 11 = .ok (.getfield 584, 3) := by decide +kernel
theorem dX15_known_14 : decode cX15_known 14 = .ok (.ifCond .ne 7, 3) := by decide +kernel
theorem dX15_known_17 : decode cX15_known 17 = .ok (.aconst_null, 1) := by decide +kernel
theorem dX15_known_18 : decode cX15_known 18 = .ok (.goto 4, 3) := by decide +kernel
theorem dX15_known_22 : decode cX15_known 22 = .ok (.areturn, 1) := by decide +kernel
theorem dX15_laid_0 : decode cX15_laid 0 = .ok (.aload_n 0, 1) := by decide +kernel
theorem dX15_laid_1 : decode cX15_laid 1 = .ok (.getfield 275, 3) := by decide +kernel
theorem dX15_laid_4 : decode cX15_laid 4 = .ok (.ifCond .eq 12, 3) := by decide +kernel
theorem dX15_laid_16 : decode cX15_laid 16 = .ok (.bipush (-14), 2) := by decide +kernel
theorem dX15_laid_18 : decode cX15_laid 18 = .ok (.ireturn, 1) := by decide +kernel
theorem dX15_lay_0 : decode cX15_lay 0 = .ok (.aload_n 0, 1) := by decide +kernel
theorem dX15_lay_1 : decode cX15_lay 1 = .ok (.getfield 265, 3) := by decide +kernel
theorem dX15_lay_4 : decode cX15_lay 4 = .ok (.ifCond .ne 6, 3) := by decide +kernel
theorem dX15_lay_7 : decode cX15_lay 7 = .ok (.bipush (-14), 2) := by decide +kernel
theorem dX15_lay_9 : decode cX15_lay 9 = .ok (.ireturn, 1) := by decide +kernel
theorem dX15_memory_0 : decode cX15_memory 0 = .ok (.aload_n 0, 1) := by decide +kernel
theorem dX15_memory_1 : decode cX15_memory 1 = .ok (.iload_n 1, 1) := by decide +kernel
theorem dX15_memory_2 : decode cX15_memory 2 = .ok (.invokevirtual 594, 3) := by decide +kernel
theorem dX15_memory_5 : decode cX15_memory 5 = .ok (.astore 4, 2) := by decide +kernel
theorem dX15_memory_7 : decode cX15_memory 7 = .ok (.aload 4, 2) := by decide +kernel
theorem dX15_memory_9 : decode cX15_memory 9 = .ok (.ifnonnull 7, 3) := by decide +kernel
theorem dX15_memory_12 : decode cX15_memory 12 = .ok (.iconst (-1), 1) := by decide +kernel
theorem dX15_memory_13 : decode cX15_memory 13 = .ok (.goto 10, 3) := by decide +kernel
theorem dX15_memory_23 : decode cX15_memory 23 = .ok (.istore 5, 2) := by decide +kernel
theorem dX15_memory_25 : decode cX15_memory 25 = .ok (.iload 5, 2) := by decide +kernel
theorem dX15_memory_27 : decode cX15_memory 27 = .ok (.ifCond .ge 7, 3) := by decide +kernel
theorem dX15_memory_30 : decode cX15_memory 30 = .ok (.iconst (-1), 1) := by decide +kernel
theorem dX15_memory_31 : decode cX15_memory 31 = .ok (.goto 15, 3) := by decide +kernel
theorem dX15_memory_46 : decode cX15_memory 46 = .ok (.ireturn, 1) := by decide +kernel
theorem dX15_moved_0 : decode cX15_moved 0 = .ok (.aload_n 0, 1) := by decide +kernel
theorem dX15_moved_1 : decode cX15_moved 1 = .ok (.lload_n 1, 1) := by decide +kernel
theorem dX15_moved_2 : decode cX15_moved 2 = .ok (.invokevirtual 423, 3) := by decide +kernel
theorem dX15_moved_5 : decode cX15_moved 5 = .ok (.istore_n 3, 1) := by decide +kernel
theorem dX15_moved_6 : decode cX15_moved 6 = .ok (.aload_n 0, 1) := by decide +kernel
theorem dX15_moved_7 : decode cX15_moved 7 = .ok (.getfield 275, 3) := by decide +kernel
theorem dX15_moved_10 : decode cX15_moved 10 = .ok (.ifCond .eq 7, 3) := by decide +kernel
theorem dX15_moved_17 : decode cX15_moved 17 = .ok (.ldc2_w 408, 3) := by decide +kernel
theorem dX15_moved_20 : decode cX15_moved 20 = .ok (.goto 21, 3) := by decide +kernel
theorem dX15_moved_41 : decode cX15_moved 41 = .ok (.lreturn, 1) := by decide +kernel
theorem dX15_newer_0 : decode cX15_newer 0 = .ok (.aload_n 0, 1) := by decide +kernel
theorem dX15_newer_1 : decode cX15_newer 1 = .ok (.iconst 1, 1) := by decide +kernel
theorem dX15_newer_2 : decode cX15_newer 2 = .ok (.invokevirtual 594, 3) := by decide +kernel
theorem dX15_newer_5 : decode cX15_newer 5 = .ok (.astore_n 2, 1) := by decide +kernel
theorem dX15_newer_6 : decode cX15_newer 6 = .ok (.aload_n 2, 1) := by decide +kernel
theorem dX15_newer_7 : decode cX15_newer 7 = .ok (.ifnull 13, 3) := by decide +kernel
theorem dX15_newer_20 : decode cX15_newer 20 = .ok (.lconst 0, 1) := by decide +kernel
theorem dX15_newer_21 : decode cX15_newer 21 = .ok (.lreturn, 1) := by decide +kernel
theorem dX15_newest_0 : decode cX15_newest 0 = .ok (.aload_n 0, 1) := by decide +kernel
theorem dX15_newest_1 : decode cX15_newest 1 = .ok (.lload_n 1, 1) := by decide +kernel
theorem dX15_newest_2 : decode cX15_newest 2 = .ok (.invokevirtual 648, 3) := by decide +kernel
theorem dX15_newest_5 : decode cX15_newest 5 = .ok (.istore_n 3, 1) := by decide +kernel
theorem dX15_newest_6 : decode cX15_newest 6 = .ok (.iload_n 3, 1) := by decide +kernel
theorem dX15_newest_7 : decode cX15_newest 7 = .ok (.iconst 1, 1) := by decide +kernel
theorem dX15_newest_8 : decode cX15_newest 8 = .ok (.if_icmp .ge 5, 3) := by decide +kernel
theorem dX15_newest_11 : decode cX15_newest 11 = .ok (.lconst 0, 1) := by decide +kernel
theorem dX15_newest_12 : decode cX15_newest 12 = .ok (.lreturn, 1) := by decide +kernel
theorem dX15_order_0 : decode cX15_order 0 = .ok (.aload_n 0, 1) := by decide +kernel
theorem dX15_order_1 : decode cX15_order 1 = .ok (.getfield 275, 3) := by decide +kernel
theorem dX15_order_4 : decode cX15_order 4 = .ok (.ifCond .eq 27, 3) := by decide +kernel
theorem dX15_order_31 : decode cX15_order 31 = .ok (.iconst (-1), 1) := by decide +kernel
theorem dX15_order_32 : decode cX15_order 32 = .ok (.ireturn, 1) := by decide +kernel
theorem dX15_out_0 : decode cX15_out 0 = .ok (.aload_n 0, 1) := by decide +kernel
theorem dX15_out_1 : decode cX15_out 1 = .ok (.getfield 275, 3) := by decide +kernel
theorem dX15_out_4 : decode cX15_out 4 = .ok (.ifCond .eq 28, 3) := by decide +kernel
theorem dX15_out_32 : decode cX15_out 32 = .ok (.iconst (-1), 1) := by decide +kernel
theorem dX15_out_33 : decode cX15_out 33 = .ok (.ireturn, 1) := by decide +kernel
theorem dX15_place_0 : decode cX15_place 0 = .ok (.aload_n 0, 1) := by decide +kernel
theorem dX15_place_1 : decode cX15_place 1 = .ok (.getfield 32, 3) := by decide +kernel
theorem dX15_place_4 : decode cX15_place 4 = .ok (.l2i, 1) := by decide +kernel
theorem dX15_place_5 : decode cX15_place 5 = .ok (.ireturn, 1) := by decide +kernel
theorem dX15_read_0 : decode cX15_read 0 = .ok (.aload_n 0, 1) := by decide +kernel
theorem dX15_read_1 : decode cX15_read 1 = .ok (.getfield 178, 3) := by decide +kernel
theorem dX15_read_4 : decode cX15_read 4 = .ok (.istore_n 1, 1) := by decide +kernel
theorem dX15_read_5 : decode cX15_read 5 = .ok (.aload_n 0, 1) := by decide +kernel
theorem dX15_read_6 : decode cX15_read 6 = .ok (.iconst 0, 1) := by decide +kernel
theorem dX15_read_7 : decode cX15_read 7 = .ok (.putfield 178, 3) := by decide +kernel
theorem dX15_read_10 : decode cX15_read 10 = .ok (.iconst 0, 1) := by decide +kernel
theorem dX15_read_11 : decode cX15_read 11 = .ok (.istore_n 2, 1) := by decide +kernel
theorem dX15_read_12 : decode cX15_read 12 = .ok (.iload_n 2, 1) := by decide +kernel
theorem dX15_read_13 : decode cX15_read 13 = .ok (.iload_n 1, 1) := by decide +kernel
theorem dX15_read_14 : decode cX15_read 14 = .ok (.if_icmp .ge 21, 3) := by decide +kernel
theorem dX15_read_35 : decode cX15_read 35 = .ok (.aload_n 0, 1) := by decide +kernel
theorem dX15_read_36 : decode cX15_read 36 = .ok (.getfield 27, 3) := by decide +kernel
theorem dX15_read_39 : decode cX15_read 39 = .ok (.astore_n 2, 1) := by decide +kernel
theorem dX15_read_40 : decode cX15_read 40 = .ok (.aload_n 2, 1) := by decide +kernel
theorem dX15_read_41 : decode cX15_read 41 = .ok (.aload_n 0, 1) := by decide +kernel
theorem dX15_read_42 : decode cX15_read 42 = .ok (.getfield 17, 3) := by decide +kernel
theorem dX15_read_45 : decode cX15_read 45 = .ok (.putfield 251, 3) := by decide +kernel
theorem dX15_read_48 : decode cX15_read 48 = .ok (.aload_n 2, 1) := by decide +kernel
theorem dX15_read_49 : decode cX15_read 49 = .ok (.iload_n 1, 1) := by decide +kernel
theorem dX15_read_50 : decode cX15_read 50 = .ok (.putfield 254, 3) := by decide +kernel
theorem dX15_read_53 : decode cX15_read 53 = .ok (.aload_n 2, 1) := by decide +kernel
theorem dX15_read_54 : decode cX15_read 54 = .ok (.invokevirtual 257, 3) := by decide +kernel
theorem dX15_read_57 : decode cX15_read 57 = .ok (.istore_n 3, 1) := by decide +kernel
theorem dX15_read_58 : decode cX15_read 58 = .ok (.iload_n 3, 1) := by decide +kernel
theorem dX15_read_59 : decode cX15_read 59 = .ok (.ifCond .le 14, 3) := by decide +kernel
theorem dX15_read_62 : decode cX15_read 62 = .ok (.aload_n 0, 1) := by decide +kernel
theorem dX15_read_63 : decode cX15_read 63 = .ok (.aload_n 2, 1) := by decide +kernel
theorem dX15_read_64 : decode cX15_read 64 = .ok (.getfield 261, 3) := by decide +kernel
theorem dX15_read_67 : decode cX15_read 67 = .ok (.putfield 32, 3) := by decide +kernel
theorem dX15_read_70 : decode cX15_read 70 = .ok (.iload_n 3, 1) := by decide +kernel
theorem dX15_read_71 : decode cX15_read 71 = .ok (.ineg, 1) := by decide +kernel
theorem dX15_read_72 : decode cX15_read 72 = .ok (.ireturn, 1) := by decide +kernel
theorem dX15_register_0 : decode cX15_register 0 = .ok (.aload_n 0, 1) := by decide +kernel
theorem dX15_register_1 : decode cX15_register 1 = .ok (.iload_n 1, 1) := by decide +kernel
theorem dX15_register_2 : decode cX15_register 2 = .ok (.invokevirtual 594, 3) := by decide +kernel
theorem dX15_register_5 : decode cX15_register 5 = .ok (.astore_n 3, 1) := by decide +kernel
theorem dX15_register_6 : decode cX15_register 6 = .ok (.aload_n 3, 1) := by decide +kernel
theorem dX15_register_7 : decode cX15_register 7 = .ok (.ifnull 13, 3) := by decide +kernel
theorem dX15_register_20 : decode cX15_register 20 = .ok (.lconst 0, 1) := by decide +kernel
theorem dX15_register_21 : decode cX15_register 21 = .ok (.goto 9, 3) := by decide +kernel
theorem dX15_register_30 : decode cX15_register 30 = .ok (.lreturn, 1) := by decide +kernel
theorem dX15_run_0 : decode cX15_run 0 = .ok (.aload_n 0, 1) := by decide +kernel
theorem dX15_run_1 : decode cX15_run 1 = .ok (.getfield 265, 3) := by decide +kernel
theorem dX15_run_4 : decode cX15_run 4 = .ok (.ifCond .eq 15, 3) := by decide +kernel
theorem dX15_run_19 : decode cX15_run 19 = .ok (.bipush (-14), 2) := by decide +kernel
theorem dX15_run_21 : decode cX15_run 21 = .ok (.ireturn, 1) := by decide +kernel
theorem dX15_runOf_0 : decode cX15_runOf 0 = .ok (.iload_n 1, 1) := by decide +kernel
theorem dX15_runOf_1 : decode cX15_runOf 1 = .ok (.ifCond .ne 10, 3) := by decide +kernel
theorem dX15_runOf_4 : decode cX15_runOf 4 = .ok (.aload_n 0, 1) := by decide +kernel
theorem dX15_runOf_5 : decode cX15_runOf 5 = .ok (.getfield 168, 3) := by decide +kernel
theorem dX15_runOf_8 : decode cX15_runOf 8 = .ok (.goto 28, 3) := by decide +kernel
theorem dX15_runOf_11 : decode cX15_runOf 11 = .ok (.iload_n 1, 1) := by decide +kernel
theorem dX15_runOf_12 : decode cX15_runOf 12 = .ok (.iconst 1, 1) := by decide +kernel
theorem dX15_runOf_13 : decode cX15_runOf 13 = .ok (.if_icmp .ne 10, 3) := by decide +kernel
theorem dX15_runOf_16 : decode cX15_runOf 16 = .ok (.aload_n 0, 1) := by decide +kernel
theorem dX15_runOf_17 : decode cX15_runOf 17 = .ok (.getfield 172, 3) := by decide +kernel
theorem dX15_runOf_20 : decode cX15_runOf 20 = .ok (.goto 16, 3) := by decide +kernel
theorem dX15_runOf_23 : decode cX15_runOf 23 = .ok (.iload_n 1, 1) := by decide +kernel
theorem dX15_runOf_24 : decode cX15_runOf 24 = .ok (.iconst 2, 1) := by decide +kernel
theorem dX15_runOf_25 : decode cX15_runOf 25 = .ok (.if_icmp .ne 10, 3) := by decide +kernel
theorem dX15_runOf_28 : decode cX15_runOf 28 = .ok (.aload_n 0, 1) := by decide +kernel
theorem dX15_runOf_29 : decode cX15_runOf 29 = .ok (.getfield 175, 3) := by decide +kernel
theorem dX15_runOf_32 : decode cX15_runOf 32 = .ok (.goto 4, 3) := by decide +kernel
theorem dX15_runOf_35 : decode cX15_runOf 35 = .ok (.aconst_null, 1) := by decide +kernel
theorem dX15_runOf_36 : decode cX15_runOf 36 = .ok (.areturn, 1) := by decide +kernel
theorem dX15_same_0 : decode cX15_same 0 = .ok (.aload_n 0, 1) := by decide +kernel
theorem dX15_same_1 : decode cX15_same 1 = .ok (.getfield 265, 3) := by decide +kernel
theorem dX15_same_4 : decode cX15_same 4 = .ok (.ifCond .ne 5, 3) := by decide +kernel
theorem dX15_same_7 : decode cX15_same 7 = .ok (.iconst 0, 1) := by decide +kernel
theorem dX15_same_8 : decode cX15_same 8 = .ok (.ireturn, 1) := by decide +kernel
theorem dX15_size_0 : decode cX15_size 0 = .ok (.aload_n 0, 1) := by decide +kernel
theorem dX15_size_1 : decode cX15_size 1 = .ok (.getfield 275, 3) := by decide +kernel
theorem dX15_size_4 : decode cX15_size 4 = .ok (.ifCond .eq 10, 3) := by decide +kernel
theorem dX15_size_14 : decode cX15_size 14 = .ok (.bipush (-14), 2) := by decide +kernel
theorem dX15_size_16 : decode cX15_size 16 = .ok (.ireturn, 1) := by decide +kernel
theorem dX15_strays_0 : decode cX15_strays 0 = .ok (.aload_n 0, 1) := by decide +kernel
theorem dX15_strays_1 : decode cX15_strays 1 = .ok (.getfield 518, 3) := by decide +kernel
theorem dX15_strays_4 : decode cX15_strays 4 = .ok (.ireturn, 1) := by decide +kernel
theorem dX15_text_0 : decode cX15_text 0 = .ok (.aload_n 0, 1) := by decide +kernel
theorem dX15_text_1 : decode cX15_text 1 = .ok (.iload_n 1, 1) := by decide +kernel
theorem dX15_text_2 : decode cX15_text 2 = .ok (.invokevirtual 594, 3) := by decide +kernel
theorem dX15_text_5 : decode cX15_text 5 = .ok (.astore_n 3, 1) := by decide +kernel
theorem dX15_text_6 : decode cX15_text 6 = .ok (.aload_n 3, 1) := by decide +kernel
theorem dX15_text_7 : decode cX15_text 7 = .ok (.ifnull 22, 3) := by decide +kernel
theorem dX15_text_29 : decode cX15_text 29 = .ok (.iconst (-1), 1) := by decide +kernel
theorem dX15_text_30 : decode cX15_text 30 = .ok (.goto 13, 3) := by decide +kernel
theorem dX15_text_43 : decode cX15_text 43 = .ok (.ireturn, 1) := by decide +kernel
theorem dX15_told_0 : decode cX15_told 0 = .ok (.aload_n 0, 1) := by decide +kernel
theorem dX15_told_1 : decode cX15_told 1 = .ok (.iload_n 1, 1) := by decide +kernel
theorem dX15_told_2 : decode cX15_told 2 = .ok (.invokevirtual 594, 3) := by decide +kernel
theorem dX15_told_5 : decode cX15_told 5 = .ok (.astore_n 3, 1) := by decide +kernel
theorem dX15_told_6 : decode cX15_told 6 = .ok (.aload_n 3, 1) := by decide +kernel
theorem dX15_told_7 : decode cX15_told 7 = .ok (.ifnonnull 6, 3) := by decide +kernel
theorem dX15_told_10 : decode cX15_told 10 = .ok (.bipush (-14), 2) := by decide +kernel
theorem dX15_told_12 : decode cX15_told 12 = .ok (.ireturn, 1) := by decide +kernel
theorem dX15_trace_0 : decode cX15_trace 0 = .ok (.aload_n 0, 1) := by decide +kernel
theorem dX15_trace_1 : decode cX15_trace 1 = .ok (.iload_n 1, 1) := by decide +kernel
theorem dX15_trace_2 : decode cX15_trace 2 = .ok (.invokevirtual 594, 3) := by decide +kernel
theorem dX15_trace_5 : decode cX15_trace 5 = .ok (.astore 4, 2) := by decide +kernel
theorem dX15_trace_7 : decode cX15_trace 7 = .ok (.aload 4, 2) := by decide +kernel
theorem dX15_trace_9 : decode cX15_trace 9 = .ok (.ifnull 32, 3) := by decide +kernel
theorem dX15_trace_41 : decode cX15_trace 41 = .ok (.lconst 0, 1) := by decide +kernel
theorem dX15_trace_42 : decode cX15_trace 42 = .ok (.goto 14, 3) := by decide +kernel
theorem dX15_trace_56 : decode cX15_trace 56 = .ok (.lreturn, 1) := by decide +kernel
theorem dX15_visit_0 : decode cX15_visit 0 = .ok (.aload_n 0, 1) := by decide +kernel
theorem dX15_visit_1 : decode cX15_visit 1 = .ok (.iload_n 1, 1) := by decide +kernel
theorem dX15_visit_2 : decode cX15_visit 2 = .ok (.invokevirtual 594, 3) := by decide +kernel
theorem dX15_visit_5 : decode cX15_visit 5 = .ok (.astore_n 3, 1) := by decide +kernel
theorem dX15_visit_6 : decode cX15_visit 6 = .ok (.aload_n 3, 1) := by decide +kernel
theorem dX15_visit_7 : decode cX15_visit 7 = .ok (.ifnull 15, 3) := by decide +kernel
theorem dX15_visit_22 : decode cX15_visit 22 = .ok (.iconst (-1), 1) := by decide +kernel
theorem dX15_visit_23 : decode cX15_visit 23 = .ok (.goto 9, 3) := by decide +kernel
theorem dX15_visit_32 : decode cX15_visit 32 = .ok (.ireturn, 1) := by decide +kernel
theorem dX15_way_0 : decode cX15_way 0 = .ok (.iconst 0, 1) := by decide +kernel
theorem dX15_way_1 : decode cX15_way 1 = .ok (.istore_n 3, 1) := by decide +kernel
theorem dX15_way_2 : decode cX15_way 2 = .ok (.iload_n 3, 1) := by decide +kernel
theorem dX15_way_3 : decode cX15_way 3 = .ok (.aload_n 0, 1) := by decide +kernel
theorem dX15_way_4 : decode cX15_way 4 = .ok (.getfield 272, 3) := by decide +kernel
theorem dX15_way_7 : decode cX15_way 7 = .ok (.if_icmp .ge 52, 3) := by decide +kernel
theorem dX15_way_59 : decode cX15_way 59 = .ok (.lconst 0, 1) := by decide +kernel
theorem dX15_way_60 : decode cX15_way 60 = .ok (.lreturn, 1) := by decide +kernel
theorem dX15_weight_0 : decode cX15_weight 0 = .ok (.aload_n 0, 1) := by decide +kernel
theorem dX15_weight_1 : decode cX15_weight 1 = .ok (.getfield 275, 3) := by decide +kernel
theorem dX15_weight_4 : decode cX15_weight 4 = .ok (.ifCond .eq 24, 3) := by decide +kernel
theorem dX15_weight_28 : decode cX15_weight 28 = .ok (.ldc2_w 408, 3) := by decide +kernel
theorem dX15_weight_31 : decode cX15_weight 31 = .ok (.lreturn, 1) := by decide +kernel
theorem dX15_wordAt_0 : decode cX15_wordAt 0 = .ok (.aload_n 0, 1) := by decide +kernel
theorem dX15_wordAt_1 : decode cX15_wordAt 1 = .ok (.getfield 265, 3) := by decide +kernel
theorem dX15_wordAt_4 : decode cX15_wordAt 4 = .ok (.ifCond .eq 36, 3) := by decide +kernel
theorem dX15_wordAt_40 : decode cX15_wordAt 40 = .ok (.iconst (-1), 1) := by decide +kernel
theorem dX15_wordAt_41 : decode cX15_wordAt 41 = .ok (.ireturn, 1) := by decide +kernel
theorem dX4_init_0 : decode cX4_init 0 = .ok (.aload_n 0, 1) := by decide +kernel
theorem dX4_init_1 : decode cX4_init 1 = .ok (.invokespecial 1, 3) := by decide +kernel
theorem dX4_init_4 : decode cX4_init 4 = .ok (.aload_n 0, 1) := by decide +kernel
theorem dX4_init_5 : decode cX4_init 5 = .ok (.iconst 0, 1) := by decide +kernel
theorem dX4_init_6 : decode cX4_init 6 = .ok (.iload_n 2, 1) := by decide +kernel
theorem dX4_init_7 : decode cX4_init 7 = .ok (.aload_n 1, 1) := by decide +kernel
theorem dX4_init_8 : decode cX4_init 8 = .ok (.arraylength, 1) := by decide +kernel
theorem dX4_init_9 : decode cX4_init 9 = .ok (.invokestatic 7, 3) := by decide +kernel
theorem dX4_init_12 : decode cX4_init 12 = .ok (.invokestatic 13, 3) := by decide +kernel
theorem dX4_init_15 : decode cX4_init 15 = .ok (.newarray .byte, 2) := by decide +kernel
theorem dX4_init_17 : decode cX4_init 17 = .ok (.putfield 16, 3) := by decide +kernel
theorem dX4_init_20 : decode cX4_init 20 = .ok (.aload_n 1, 1) := by decide +kernel
theorem dX4_init_21 : decode cX4_init 21 = .ok (.iconst 0, 1) := by decide +kernel
theorem dX4_init_22 : decode cX4_init 22 = .ok (.aload_n 0, 1) := by decide +kernel
theorem dX4_init_23 : decode cX4_init 23 = .ok (.getfield 16, 3) := by decide +kernel
theorem dX4_init_26 : decode cX4_init 26 = .ok (.iconst 0, 1) := by decide +kernel
theorem dX4_init_27 : decode cX4_init 27 = .ok (.aload_n 0, 1) := by decide +kernel
theorem dX4_init_28 : decode cX4_init 28 = .ok (.getfield 16, 3) := by decide +kernel
theorem dX4_init_31 : decode cX4_init 31 = .ok (.arraylength, 1) := by decide +kernel
theorem dX4_init_32 : decode cX4_init 32 = .ok (.invokestatic 22, 3) := by decide +kernel
theorem dX4_init_35 : decode cX4_init 35 = .ok (.aload_n 0, 1) := by decide +kernel
theorem dX4_init_36 : decode cX4_init 36 = .ok (.aload_n 0, 1) := by decide +kernel
theorem dX4_init_37 : decode cX4_init 37 = .ok (.getfield 16, 3) := by decide +kernel
theorem dX4_init_40 : decode cX4_init 40 = .ok (.arraylength, 1) := by decide +kernel
theorem dX4_init_41 : decode cX4_init 41 = .ok (.putfield 28, 3) := by decide +kernel
theorem dX4_init_44 : decode cX4_init 44 = .ok (.aload_n 0, 1) := by decide +kernel
theorem dX4_init_45 : decode cX4_init 45 = .ok (.iconst 0, 1) := by decide +kernel
theorem dX4_init_46 : decode cX4_init 46 = .ok (.newarray .int, 2) := by decide +kernel
theorem dX4_init_48 : decode cX4_init 48 = .ok (.putfield 32, 3) := by decide +kernel
theorem dX4_init_51 : decode cX4_init 51 = .ok (.aload_n 0, 1) := by decide +kernel
theorem dX4_init_52 : decode cX4_init 52 = .ok (.aload_n 0, 1) := by decide +kernel
theorem dX4_init_53 : decode cX4_init 53 = .ok (.getfield 32, 3) := by decide +kernel
theorem dX4_init_56 : decode cX4_init 56 = .ok (.putfield 36, 3) := by decide +kernel
theorem dX4_init_59 : decode cX4_init 59 = .ok (.aload_n 0, 1) := by decide +kernel
theorem dX4_init_60 : decode cX4_init 60 = .ok (.ldc 41, 2) := by decide +kernel
theorem dX4_init_62 : decode cX4_init 62 = .ok (.putfield 42, 3) := by decide +kernel
theorem dX4_init_65 : decode cX4_init 65 = .ok (.return_, 1) := by decide +kernel
