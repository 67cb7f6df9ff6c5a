theorem dX5_init_0 : decode cX5_init 0 = .ok (.aload_n 0, 1) := by decide +kernel
theorem dX5_init_1 : decode cX5_init 1 = .ok (.invokespecial 1, 3) := by decide +kernel
theorem dX5_init_4 : decode cX5_init 4 = .ok (.aload_n 0, 1) := by decide +kernel
theorem dX5_init_5 : decode cX5_init 5 = .ok (.new 7, 3) := by decide +kernel
theorem dX5_init_8 : decode cX5_init 8 = .ok (.dup, 1) := by decide +kernel
theorem dX5_init_9 : decode cX5_init 9 = .ok (.invokespecial 9, 3) := by decide +kernel
theorem dX5_init_12 : decode cX5_init 12 = .ok (.putfield 10, 3) := by decide +kernel
theorem dX5_init_15 : decode cX5_init 15 = .ok (.aload_n 0, 1) := by decide +kernel
theorem dX5_init_16 : decode cX5_init 16 = .ok (.new 16, 3) := by decide +kernel
theorem dX5_init_19 : decode cX5_init 19 = .ok (.dup, 1) := by decide +kernel
theorem dX5_init_20 : decode cX5_init 20 = .ok (.invokespecial 18, 3) := by decide +kernel
theorem dX5_init_23 : decode cX5_init 23 = .ok (.putfield 19, 3) := by decide +kernel
theorem dX5_init_26 : decode cX5_init 26 = .ok (.aload_n 0, 1) := by decide +kernel
theorem dX5_init_27 : decode cX5_init 27 = .ok (.new 23, 3) := by decide +kernel
theorem dX5_init_30 : decode cX5_init 30 = .ok (.dup, 1) := by decide +kernel
theorem dX5_init_31 : decode cX5_init 31 = .ok (.invokespecial 25, 3) := by decide +kernel
theorem dX5_init_34 : decode cX5_init 34 = .ok (.putfield 26, 3) := by decide +kernel
theorem dX5_init_37 : decode cX5_init 37 = .ok (.aload_n 0, 1) := by decide +kernel
theorem dX5_init_38 : decode cX5_init 38 = .ok (.new 30, 3) := by decide +kernel
theorem dX5_init_41 : decode cX5_init 41 = .ok (.dup, 1) := by decide +kernel
theorem dX5_init_42 : decode cX5_init 42 = .ok (.invokespecial 32, 3) := by decide +kernel
theorem dX5_init_45 : decode cX5_init 45 = .ok (.putfield 33, 3) := by decide +kernel
theorem dX5_init_48 : decode cX5_init 48 = .ok (.return_, 1) := by decide +kernel
theorem dX5_set_0 : decode cX5_set 0 = .ok (.aload_n 0, 1) := by decide +kernel
theorem dX5_set_1 : decode cX5_set 1 = .ok (.getfield 10, 3) := by decide +kernel
theorem dX5_set_4 : decode cX5_set 4 = .ok (.iload_n 1, 1) := by decide +kernel
theorem dX5_set_5 : decode cX5_set 5 = .ok (.iload_n 2, 1) := by decide +kernel
theorem dX5_set_6 : decode cX5_set 6 = .ok (.invokevirtual 37, 3) := by decide +kernel
theorem dX5_set_9 : decode cX5_set 9 = .ok (.istore_n 3, 1) := by decide +kernel
theorem dX5_set_10 : decode cX5_set 10 = .ok (.iload_n 3, 1) := by decide +kernel
theorem dX5_set_11 : decode cX5_set 11 = .ok (.ifCond .eq 5, 3) := by decide +kernel
theorem dX5_set_14 : decode cX5_set 14 = .ok (.iload_n 3, 1) := by decide +kernel
theorem dX5_set_15 : decode cX5_set 15 = .ok (.ireturn, 1) := by decide +kernel
theorem dX5_set_16 : decode cX5_set 16 = .ok (.aload_n 0, 1) := by decide +kernel
theorem dX5_set_17 : decode cX5_set 17 = .ok (.getfield 19, 3) := by decide +kernel
theorem dX5_set_20 : decode cX5_set 20 = .ok (.aload_n 0, 1) := by decide +kernel
theorem dX5_set_21 : decode cX5_set 21 = .ok (.getfield 10, 3) := by decide +kernel
theorem dX5_set_24 : decode cX5_set 24 = .ok (.invokevirtual 41, 3) := by decide +kernel
theorem dX5_set_27 : decode cX5_set 27 = .ok (.aload_n 0, 1) := by decide +kernel
theorem dX5_set_28 : decode cX5_set 28 = .ok (.getfield 10, 3) := by decide +kernel
theorem dX5_set_31 : decode cX5_set 31 = .ok (.iload_n 1, 1) := by decide +kernel
theorem dX5_set_32 : decode cX5_set 32 = .ok (.iload_n 2, 1) := by decide +kernel
theorem dX5_set_33 : decode cX5_set 33 = .ok (.invokevirtual 45, 3) := by decide +kernel
theorem dX5_set_36 : decode cX5_set 36 = .ok (.sipush 1000, 3) := by decide +kernel
theorem dX5_set_39 : decode cX5_set 39 = .ok (.iadd, 1) := by decide +kernel
theorem dX5_set_40 : decode cX5_set 40 = .ok (.ireturn, 1) := by decide +kernel
theorem dX5_feed_0 : decode cX5_feed 0 = .ok (.aload_n 0, 1) := by decide +kernel
theorem dX5_feed_1 : decode cX5_feed 1 = .ok (.getfield 10, 3) := by decide +kernel
theorem dX5_feed_4 : decode cX5_feed 4 = .ok (.iload_n 1, 1) := by decide +kernel
theorem dX5_feed_5 : decode cX5_feed 5 = .ok (.iload_n 2, 1) := by decide +kernel
theorem dX5_feed_6 : decode cX5_feed 6 = .ok (.invokevirtual 48, 3) := by decide +kernel
theorem dX5_feed_9 : decode cX5_feed 9 = .ok (.istore_n 3, 1) := by decide +kernel
theorem dX5_feed_10 : decode cX5_feed 10 = .ok (.iload_n 3, 1) := by decide +kernel
theorem dX5_feed_11 : decode cX5_feed 11 = .ok (.ifCond .eq 5, 3) := by decide +kernel
theorem dX5_feed_14 : decode cX5_feed 14 = .ok (.iload_n 3, 1) := by decide +kernel
theorem dX5_feed_15 : decode cX5_feed 15 = .ok (.ireturn, 1) := by decide +kernel
theorem dX5_feed_16 : decode cX5_feed 16 = .ok (.aload_n 0, 1) := by decide +kernel
theorem dX5_feed_17 : decode cX5_feed 17 = .ok (.getfield 19, 3) := by decide +kernel
theorem dX5_feed_20 : decode cX5_feed 20 = .ok (.aload_n 0, 1) := by decide +kernel
theorem dX5_feed_21 : decode cX5_feed 21 = .ok (.getfield 10, 3) := by decide +kernel
theorem dX5_feed_24 : decode cX5_feed 24 = .ok (.invokevirtual 41, 3) := by decide +kernel
theorem dX5_feed_27 : decode cX5_feed 27 = .ok (.aload_n 0, 1) := by decide +kernel
theorem dX5_feed_28 : decode cX5_feed 28 = .ok (.getfield 10, 3) := by decide +kernel
theorem dX5_feed_31 : decode cX5_feed 31 = .ok (.iload_n 1, 1) := by decide +kernel
theorem dX5_feed_32 : decode cX5_feed 32 = .ok (.iload_n 2, 1) := by decide +kernel
theorem dX5_feed_33 : decode cX5_feed 33 = .ok (.invokevirtual 51, 3) := by decide +kernel
theorem dX5_feed_36 : decode cX5_feed 36 = .ok (.ireturn, 1) := by decide +kernel
theorem dX5_clear_0 : decode cX5_clear 0 = .ok (.aload_n 0, 1) := by decide +kernel
theorem dX5_clear_1 : decode cX5_clear 1 = .ok (.getfield 19, 3) := by decide +kernel
theorem dX5_clear_4 : decode cX5_clear 4 = .ok (.aload_n 0, 1) := by decide +kernel
theorem dX5_clear_5 : decode cX5_clear 5 = .ok (.getfield 10, 3) := by decide +kernel
theorem dX5_clear_8 : decode cX5_clear 8 = .ok (.invokevirtual 41, 3) := by decide +kernel
theorem dX5_clear_11 : decode cX5_clear 11 = .ok (.aload_n 0, 1) := by decide +kernel
theorem dX5_clear_12 : decode cX5_clear 12 = .ok (.getfield 10, 3) := by decide +kernel
theorem dX5_clear_15 : decode cX5_clear 15 = .ok (.invokevirtual 54, 3) := by decide +kernel
theorem dX5_clear_18 : decode cX5_clear 18 = .ok (.ireturn, 1) := by decide +kernel
theorem dX5_drop_0 : decode cX5_drop 0 = .ok (.aload_n 0, 1) := by decide +kernel
theorem dX5_drop_1 : decode cX5_drop 1 = .ok (.getfield 10, 3) := by decide +kernel
theorem dX5_drop_4 : decode cX5_drop 4 = .ok (.getfield 58, 3) := by decide +kernel
theorem dX5_drop_7 : decode cX5_drop 7 = .ok (.iload_n 1, 1) := by decide +kernel
theorem dX5_drop_8 : decode cX5_drop 8 = .ok (.invokevirtual 62, 3) := by decide +kernel
theorem dX5_drop_11 : decode cX5_drop 11 = .ok (.ifCond .ne 5, 3) := by decide +kernel
theorem dX5_drop_14 : decode cX5_drop 14 = .ok (.iconst (-1), 1) := by decide +kernel
theorem dX5_drop_15 : decode cX5_drop 15 = .ok (.ireturn, 1) := by decide +kernel
theorem dX5_drop_16 : decode cX5_drop 16 = .ok (.aload_n 0, 1) := by decide +kernel
theorem dX5_drop_17 : decode cX5_drop 17 = .ok (.getfield 19, 3) := by decide +kernel
theorem dX5_drop_20 : decode cX5_drop 20 = .ok (.aload_n 0, 1) := by decide +kernel
theorem dX5_drop_21 : decode cX5_drop 21 = .ok (.getfield 10, 3) := by decide +kernel
theorem dX5_drop_24 : decode cX5_drop 24 = .ok (.invokevirtual 41, 3) := by decide +kernel
theorem dX5_drop_27 : decode cX5_drop 27 = .ok (.aload_n 0, 1) := by decide +kernel
theorem dX5_drop_28 : decode cX5_drop 28 = .ok (.getfield 10, 3) := by decide +kernel
theorem dX5_drop_31 : decode cX5_drop 31 = .ok (.getfield 58, 3) := by decide +kernel
theorem dX5_drop_34 : decode cX5_drop 34 = .ok (.iload_n 1, 1) := by decide +kernel
theorem dX5_drop_35 : decode cX5_drop 35 = .ok (.invokevirtual 68, 3) := by decide +kernel
theorem dX5_drop_38 : decode cX5_drop 38 = .ok (.aload_n 0, 1) := by decide +kernel
theorem dX5_drop_39 : decode cX5_drop 39 = .ok (.getfield 10, 3) := by decide +kernel
theorem dX5_drop_42 : decode cX5_drop 42 = .ok (.getfield 58, 3) := by decide +kernel
theorem dX5_drop_45 : decode cX5_drop 45 = .ok (.getfield 72, 3) := by decide +kernel
theorem dX5_drop_48 : decode cX5_drop 48 = .ok (.ireturn, 1) := by decide +kernel
theorem dX5_segment_0 : decode cX5_segment 0 = .ok (.aload_n 0, 1) := by decide +kernel
theorem dX5_segment_1 : decode cX5_segment 1 = .ok (.getfield 10, 3) := by decide +kernel
theorem dX5_segment_4 : decode cX5_segment 4 = .ok (.getfield 58, 3) := by decide +kernel
theorem dX5_segment_7 : decode cX5_segment 7 = .ok (.iload_n 1, 1) := by decide +kernel
theorem dX5_segment_8 : decode cX5_segment 8 = .ok (.invokevirtual 62, 3) := by decide +kernel
theorem dX5_segment_11 : decode cX5_segment 11 = .ok (.ifCond .ne 5, 3) := by decide +kernel
theorem dX5_segment_14 : decode cX5_segment 14 = .ok (.iconst (-1), 1) := by decide +kernel
theorem dX5_segment_15 : decode cX5_segment 15 = .ok (.ireturn, 1) := by decide +kernel
theorem dX5_segment_16 : decode cX5_segment 16 = .ok (.iload_n 2, 1) := by decide +kernel
theorem dX5_segment_17 : decode cX5_segment 17 = .ok (.tableswitch 108 0 7 #[47, 47, 47, 47, 60, 73, 86, 99], 47) := by decide +kernel
theorem dX5_segment_64 : decode cX5_segment 64 = .ok (.aload_n 0, 1) := by decide +kernel
theorem dX5_segment_65 : decode cX5_segment 65 = .ok (.getfield 10, 3) := by decide +kernel
theorem dX5_segment_68 : decode cX5_segment 68 = .ok (.getfield 58, 3) := by decide +kernel
theorem dX5_segment_71 : decode cX5_segment 71 = .ok (.iload_n 1, 1) := by decide +kernel
theorem dX5_segment_72 : decode cX5_segment 72 = .ok (.iload_n 2, 1) := by decide +kernel
theorem dX5_segment_73 : decode cX5_segment 73 = .ok (.invokevirtual 76, 3) := by decide +kernel
theorem dX5_segment_76 : decode cX5_segment 76 = .ok (.ireturn, 1) := by decide +kernel
theorem dX5_segment_77 : decode cX5_segment 77 = .ok (.aload_n 0, 1) := by decide +kernel
theorem dX5_segment_78 : decode cX5_segment 78 = .ok (.getfield 10, 3) := by decide +kernel
theorem dX5_segment_81 : decode cX5_segment 81 = .ok (.iload_n 1, 1) := by decide +kernel
theorem dX5_segment_82 : decode cX5_segment 82 = .ok (.invokevirtual 79, 3) := by decide +kernel
theorem dX5_segment_85 : decode cX5_segment 85 = .ok (.sipush 1000, 3) := by decide +kernel
theorem dX5_segment_88 : decode cX5_segment 88 = .ok (.iadd, 1) := by decide +kernel
theorem dX5_segment_89 : decode cX5_segment 89 = .ok (.ireturn, 1) := by decide +kernel
theorem dX5_segment_90 : decode cX5_segment 90 = .ok (.aload_n 0, 1) := by decide +kernel
theorem dX5_segment_91 : decode cX5_segment 91 = .ok (.getfield 10, 3) := by decide +kernel
theorem dX5_segment_94 : decode cX5_segment 94 = .ok (.iload_n 1, 1) := by decide +kernel
theorem dX5_segment_95 : decode cX5_segment 95 = .ok (.invokevirtual 83, 3) := by decide +kernel
theorem dX5_segment_98 : decode cX5_segment 98 = .ok (.sipush 1000, 3) := by decide +kernel
theorem dX5_segment_101 : decode cX5_segment 101 = .ok (.iadd, 1) := by decide +kernel
theorem dX5_segment_102 : decode cX5_segment 102 = .ok (.ireturn, 1) := by decide +kernel
theorem dX5_segment_103 : decode cX5_segment 103 = .ok (.aload_n 0, 1) := by decide +kernel
theorem dX5_segment_104 : decode cX5_segment 104 = .ok (.getfield 10, 3) := by decide +kernel
theorem dX5_segment_107 : decode cX5_segment 107 = .ok (.iload_n 1, 1) := by decide +kernel
theorem dX5_segment_108 : decode cX5_segment 108 = .ok (.invokevirtual 86, 3) := by decide +kernel
theorem dX5_segment_111 : decode cX5_segment 111 = .ok (.sipush 10000, 3) := by decide +kernel
theorem dX5_segment_114 : decode cX5_segment 114 = .ok (.iadd, 1) := by decide +kernel
theorem dX5_segment_115 : decode cX5_segment 115 = .ok (.ireturn, 1) := by decide +kernel
theorem dX5_segment_116 : decode cX5_segment 116 = .ok (.aload_n 0, 1) := by decide +kernel
theorem dX5_segment_117 : decode cX5_segment 117 = .ok (.getfield 10, 3) := by decide +kernel
theorem dX5_segment_120 : decode cX5_segment 120 = .ok (.iload_n 1, 1) := by decide +kernel
theorem dX5_segment_121 : decode cX5_segment 121 = .ok (.invokevirtual 89, 3) := by decide +kernel
theorem dX5_segment_124 : decode cX5_segment 124 = .ok (.ireturn, 1) := by decide +kernel
theorem dX5_segment_125 : decode cX5_segment 125 = .ok (.bipush (-2), 2) := by decide +kernel
theorem dX5_segment_127 : decode cX5_segment 127 = .ok (.ireturn, 1) := by decide +kernel
theorem dX5_sampleOf_0 : decode cX5_sampleOf 0 = .ok (.aload_n 0, 1) := by decide +kernel
theorem dX5_sampleOf_1 : decode cX5_sampleOf 1 = .ok (.getfield 10, 3) := by decide +kernel
theorem dX5_sampleOf_4 : decode cX5_sampleOf 4 = .ok (.getfield 58, 3) := by decide +kernel
theorem dX5_sampleOf_7 : decode cX5_sampleOf 7 = .ok (.iload_n 1, 1) := by decide +kernel
theorem dX5_sampleOf_8 : decode cX5_sampleOf 8 = .ok (.invokevirtual 62, 3) := by decide +kernel
theorem dX5_sampleOf_11 : decode cX5_sampleOf 11 = .ok (.ifCond .eq 23, 3) := by decide +kernel
theorem dX5_sampleOf_14 : decode cX5_sampleOf 14 = .ok (.iload_n 2, 1) := by decide +kernel
theorem dX5_sampleOf_15 : decode cX5_sampleOf 15 = .ok (.ifCond .lt 19, 3) := by decide +kernel
theorem dX5_sampleOf_18 : decode cX5_sampleOf 18 = .ok (.iload_n 2, 1) := by decide +kernel
theorem dX5_sampleOf_19 : decode cX5_sampleOf 19 = .ok (.aload_n 0, 1) := by decide +kernel
theorem dX5_sampleOf_20 : decode cX5_sampleOf 20 = .ok (.getfield 10, 3) := by decide +kernel
theorem dX5_sampleOf_23 : decode cX5_sampleOf 23 = .ok (.getfield 58, 3) := by decide +kernel
theorem dX5_sampleOf_26 : decode cX5_sampleOf 26 = .ok (.iload_n 1, 1) := by decide +kernel
theorem dX5_sampleOf_27 : decode cX5_sampleOf 27 = .ok (.iconst 1, 1) := by decide +kernel
theorem dX5_sampleOf_28 : decode cX5_sampleOf 28 = .ok (.invokevirtual 76, 3) := by decide +kernel
theorem dX5_sampleOf_31 : decode cX5_sampleOf 31 = .ok (.if_icmp .lt 5, 3) := by decide +kernel
theorem dX5_sampleOf_34 : decode cX5_sampleOf 34 = .ok (.iconst (-1), 1) := by decide +kernel
theorem dX5_sampleOf_35 : decode cX5_sampleOf 35 = .ok (.ireturn, 1) := by decide +kernel
theorem dX5_sampleOf_36 : decode cX5_sampleOf 36 = .ok (.aload_n 0, 1) := by decide +kernel
theorem dX5_sampleOf_37 : decode cX5_sampleOf 37 = .ok (.getfield 10, 3) := by decide +kernel
theorem dX5_sampleOf_40 : decode cX5_sampleOf 40 = .ok (.aload_n 0, 1) := by decide +kernel
theorem dX5_sampleOf_41 : decode cX5_sampleOf 41 = .ok (.getfield 10, 3) := by decide +kernel
theorem dX5_sampleOf_44 : decode cX5_sampleOf 44 = .ok (.getfield 58, 3) := by decide +kernel
theorem dX5_sampleOf_47 : decode cX5_sampleOf 47 = .ok (.iload_n 1, 1) := by decide +kernel
theorem dX5_sampleOf_48 : decode cX5_sampleOf 48 = .ok (.invokevirtual 92, 3) := by decide +kernel
theorem dX5_sampleOf_51 : decode cX5_sampleOf 51 = .ok (.iload_n 2, 1) := by decide +kernel
theorem dX5_sampleOf_52 : decode cX5_sampleOf 52 = .ok (.iadd, 1) := by decide +kernel
theorem dX5_sampleOf_53 : decode cX5_sampleOf 53 = .ok (.invokevirtual 95, 3) := by decide +kernel
theorem dX5_sampleOf_56 : decode cX5_sampleOf 56 = .ok (.sipush 1000, 3) := by decide +kernel
theorem dX5_sampleOf_59 : decode cX5_sampleOf 59 = .ok (.iadd, 1) := by decide +kernel
theorem dX5_sampleOf_60 : decode cX5_sampleOf 60 = .ok (.ireturn, 1) := by decide +kernel
theorem dX5_sample_0 : decode cX5_sample 0 = .ok (.iload_n 1, 1) := by decide +kernel
theorem dX5_sample_1 : decode cX5_sample 1 = .ok (.ifCond .lt 14, 3) := by decide +kernel
theorem dX5_sample_4 : decode cX5_sample 4 = .ok (.iload_n 1, 1) := by decide +kernel
theorem dX5_sample_5 : decode cX5_sample 5 = .ok (.aload_n 0, 1) := by decide +kernel
theorem dX5_sample_6 : decode cX5_sample 6 = .ok (.getfield 10, 3) := by decide +kernel
theorem dX5_sample_9 : decode cX5_sample 9 = .ok (.getfield 98, 3) := by decide +kernel
theorem dX5_sample_12 : decode cX5_sample 12 = .ok (.if_icmp .lt 5, 3) := by decide +kernel
theorem dX5_sample_15 : decode cX5_sample 15 = .ok (.iconst (-1), 1) := by decide +kernel
theorem dX5_sample_16 : decode cX5_sample 16 = .ok (.ireturn, 1) := by decide +kernel
theorem dX5_sample_17 : decode cX5_sample 17 = .ok (.aload_n 0, 1) := by decide +kernel
theorem dX5_sample_18 : decode cX5_sample 18 = .ok (.getfield 10, 3) := by decide +kernel
theorem dX5_sample_21 : decode cX5_sample 21 = .ok (.iload_n 1, 1) := by decide +kernel
theorem dX5_sample_22 : decode cX5_sample 22 = .ok (.invokevirtual 95, 3) := by decide +kernel
theorem dX5_sample_25 : decode cX5_sample 25 = .ok (.sipush 1000, 3) := by decide +kernel
theorem dX5_sample_28 : decode cX5_sample 28 = .ok (.iadd, 1) := by decide +kernel
theorem dX5_sample_29 : decode cX5_sample 29 = .ok (.ireturn, 1) := by decide +kernel
theorem dX5_count_0 : decode cX5_count 0 = .ok (.iload_n 1, 1) := by decide +kernel
theorem dX5_count_1 : decode cX5_count 1 = .ok (.ifCond .lt 9, 3) := by decide +kernel
theorem dX5_count_4 : decode cX5_count 4 = .ok (.iload_n 1, 1) := by decide +kernel
theorem dX5_count_5 : decode cX5_count 5 = .ok (.bipush 21, 2) := by decide +kernel
theorem dX5_count_7 : decode cX5_count 7 = .ok (.if_icmp .le 6, 3) := by decide +kernel
theorem dX5_count_10 : decode cX5_count 10 = .ok (.bipush (-2), 2) := by decide +kernel
theorem dX5_count_12 : decode cX5_count 12 = .ok (.ireturn, 1) := by decide +kernel
theorem dX5_count_13 : decode cX5_count 13 = .ok (.iload_n 1, 1) := by decide +kernel
theorem dX5_count_14 : decode cX5_count 14 = .ok (.bipush 21, 2) := by decide +kernel
theorem dX5_count_16 : decode cX5_count 16 = .ok (.if_icmp .ne 11, 3) := by decide +kernel
theorem dX5_count_19 : decode cX5_count 19 = .ok (.aload_n 0, 1) := by decide +kernel
theorem dX5_count_20 : decode cX5_count 20 = .ok (.getfield 19, 3) := by decide +kernel
theorem dX5_count_23 : decode cX5_count 23 = .ok (.getfield 101, 3) := by decide +kernel
theorem dX5_count_26 : decode cX5_count 26 = .ok (.ireturn, 1) := by decide +kernel
theorem dX5_count_27 : decode cX5_count 27 = .ok (.iload_n 1, 1) := by decide +kernel
theorem dX5_count_28 : decode cX5_count 28 = .ok (.bipush 20, 2) := by decide +kernel
theorem dX5_count_30 : decode cX5_count 30 = .ok (.if_icmp .ne 11, 3) := by decide +kernel
theorem dX5_count_33 : decode cX5_count 33 = .ok (.aload_n 0, 1) := by decide +kernel
theorem dX5_count_34 : decode cX5_count 34 = .ok (.getfield 33, 3) := by decide +kernel
theorem dX5_count_37 : decode cX5_count 37 = .ok (.getfield 102, 3) := by decide +kernel
theorem dX5_count_40 : decode cX5_count 40 = .ok (.ireturn, 1) := by decide +kernel
theorem dX5_count_41 : decode cX5_count 41 = .ok (.iload_n 1, 1) := by decide +kernel
theorem dX5_count_42 : decode cX5_count 42 = .ok (.bipush 10, 2) := by decide +kernel
theorem dX5_count_44 : decode cX5_count 44 = .ok (.if_icmp .lt 19, 3) := by decide +kernel
theorem dX5_count_47 : decode cX5_count 47 = .ok (.aload_n 0, 1) := by decide +kernel
theorem dX5_count_48 : decode cX5_count 48 = .ok (.getfield 10, 3) := by decide +kernel
theorem dX5_count_51 : decode cX5_count 51 = .ok (.iload_n 1, 1) := by decide +kernel
theorem dX5_count_52 : decode cX5_count 52 = .ok (.bipush 10, 2) := by decide +kernel
theorem dX5_count_54 : decode cX5_count 54 = .ok (.isub, 1) := by decide +kernel
theorem dX5_count_55 : decode cX5_count 55 = .ok (.invokevirtual 105, 3) := by decide +kernel
theorem dX5_count_58 : decode cX5_count 58 = .ok (.sipush 1000, 3) := by decide +kernel
theorem dX5_count_61 : decode cX5_count 61 = .ok (.iadd, 1) := by decide +kernel
theorem dX5_count_62 : decode cX5_count 62 = .ok (.ireturn, 1) := by decide +kernel
theorem dX5_count_63 : decode cX5_count 63 = .ok (.aload_n 0, 1) := by decide +kernel
theorem dX5_count_64 : decode cX5_count 64 = .ok (.getfield 10, 3) := by decide +kernel
theorem dX5_count_67 : decode cX5_count 67 = .ok (.iload_n 1, 1) := by decide +kernel
theorem dX5_count_68 : decode cX5_count 68 = .ok (.invokevirtual 108, 3) := by decide +kernel
theorem dX5_count_71 : decode cX5_count 71 = .ok (.ireturn, 1) := by decide +kernel
theorem dX5_fires_0 : decode cX5_fires 0 = .ok (.iload_n 1, 1) := by decide +kernel
theorem dX5_fires_1 : decode cX5_fires 1 = .ok (.bipush (-100), 2) := by decide +kernel
theorem dX5_fires_3 : decode cX5_fires 3 = .ok (.if_icmp .lt 9, 3) := by decide +kernel
theorem dX5_fires_6 : decode cX5_fires 6 = .ok (.iload_n 1, 1) := by decide +kernel
theorem dX5_fires_7 : decode cX5_fires 7 = .ok (.bipush 100, 2) := by decide +kernel
theorem dX5_fires_9 : decode cX5_fires 9 = .ok (.if_icmp .le 6, 3) := by decide +kernel
theorem dX5_fires_12 : decode cX5_fires 12 = .ok (.bipush (-2), 2) := by decide +kernel
theorem dX5_fires_14 : decode cX5_fires 14 = .ok (.ireturn, 1) := by decide +kernel
theorem dX5_fires_15 : decode cX5_fires 15 = .ok (.iload_n 1, 1) := by decide +kernel
theorem dX5_fires_16 : decode cX5_fires 16 = .ok (.aload_n 0, 1) := by decide +kernel
theorem dX5_fires_17 : decode cX5_fires 17 = .ok (.getfield 10, 3) := by decide +kernel
theorem dX5_fires_20 : decode cX5_fires 20 = .ok (.invokevirtual 110, 3) := by decide +kernel
theorem dX5_fires_23 : decode cX5_fires 23 = .ok (.if_icmp .le 6, 3) := by decide +kernel
theorem dX5_fires_26 : decode cX5_fires 26 = .ok (.bipush (-5), 2) := by decide +kernel
theorem dX5_fires_28 : decode cX5_fires 28 = .ok (.ireturn, 1) := by decide +kernel
theorem dX5_fires_29 : decode cX5_fires 29 = .ok (.aload_n 0, 1) := by decide +kernel
theorem dX5_fires_30 : decode cX5_fires 30 = .ok (.getfield 10, 3) := by decide +kernel
theorem dX5_fires_33 : decode cX5_fires 33 = .ok (.iload_n 1, 1) := by decide +kernel
theorem dX5_fires_34 : decode cX5_fires 34 = .ok (.invokevirtual 113, 3) := by decide +kernel
theorem dX5_fires_37 : decode cX5_fires 37 = .ok (.ireturn, 1) := by decide +kernel
theorem dX5_bestLevel_0 : decode cX5_bestLevel 0 = .ok (.iload_n 1, 1) := by decide +kernel
theorem dX5_bestLevel_1 : decode cX5_bestLevel 1 = .ok (.ifCond .eq 11, 3) := by decide +kernel
theorem dX5_bestLevel_4 : decode cX5_bestLevel 4 = .ok (.iload_n 1, 1) := by decide +kernel
theorem dX5_bestLevel_5 : decode cX5_bestLevel 5 = .ok (.iconst 1, 1) := by decide +kernel
theorem dX5_bestLevel_6 : decode cX5_bestLevel 6 = .ok (.if_icmp .eq 6, 3) := by decide +kernel
theorem dX5_bestLevel_9 : decode cX5_bestLevel 9 = .ok (.bipush (-2), 2) := by decide +kernel
theorem dX5_bestLevel_11 : decode cX5_bestLevel 11 = .ok (.ireturn, 1) := by decide +kernel
theorem dX5_bestLevel_12 : decode cX5_bestLevel 12 = .ok (.bipush (-100), 2) := by decide +kernel
theorem dX5_bestLevel_14 : decode cX5_bestLevel 14 = .ok (.istore_n 2, 1) := by decide +kernel
theorem dX5_bestLevel_15 : decode cX5_bestLevel 15 = .ok (.aload_n 0, 1) := by decide +kernel
theorem dX5_bestLevel_16 : decode cX5_bestLevel 16 = .ok (.getfield 10, 3) := by decide +kernel
theorem dX5_bestLevel_19 : decode cX5_bestLevel 19 = .ok (.iload_n 2, 1) := by decide +kernel
theorem dX5_bestLevel_20 : decode cX5_bestLevel 20 = .ok (.invokevirtual 113, 3) := by decide +kernel
theorem dX5_bestLevel_23 : decode cX5_bestLevel 23 = .ok (.istore_n 3, 1) := by decide +kernel
theorem dX5_bestLevel_24 : decode cX5_bestLevel 24 = .ok (.aload_n 0, 1) := by decide +kernel
theorem dX5_bestLevel_25 : decode cX5_bestLevel 25 = .ok (.getfield 10, 3) := by decide +kernel
theorem dX5_bestLevel_28 : decode cX5_bestLevel 28 = .ok (.invokevirtual 110, 3) := by decide +kernel
theorem dX5_bestLevel_31 : decode cX5_bestLevel 31 = .ok (.istore 4, 2) := by decide +kernel
theorem dX5_bestLevel_33 : decode cX5_bestLevel 33 = .ok (.bipush (-99), 2) := by decide +kernel
theorem dX5_bestLevel_35 : decode cX5_bestLevel 35 = .ok (.istore 5, 2) := by decide +kernel
theorem dX5_bestLevel_37 : decode cX5_bestLevel 37 = .ok (.iload 5, 2) := by decide +kernel
theorem dX5_bestLevel_39 : decode cX5_bestLevel 39 = .ok (.iload 4, 2) := by decide +kernel
theorem dX5_bestLevel_41 : decode cX5_bestLevel 41 = .ok (.if_icmp .gt 32, 3) := by decide +kernel
theorem dX5_bestLevel_44 : decode cX5_bestLevel 44 = .ok (.aload_n 0, 1) := by decide +kernel
theorem dX5_bestLevel_45 : decode cX5_bestLevel 45 = .ok (.getfield 10, 3) := by decide +kernel
theorem dX5_bestLevel_48 : decode cX5_bestLevel 48 = .ok (.iload 5, 2) := by decide +kernel
theorem dX5_bestLevel_50 : decode cX5_bestLevel 50 = .ok (.invokevirtual 113, 3) := by decide +kernel
theorem dX5_bestLevel_53 : decode cX5_bestLevel 53 = .ok (.istore 6, 2) := by decide +kernel
theorem dX5_bestLevel_55 : decode cX5_bestLevel 55 = .ok (.iload 6, 2) := by decide +kernel
theorem dX5_bestLevel_57 : decode cX5_bestLevel 57 = .ok (.iload_n 3, 1) := by decide +kernel
theorem dX5_bestLevel_58 : decode cX5_bestLevel 58 = .ok (.if_icmp .le 9, 3) := by decide +kernel
theorem dX5_bestLevel_61 : decode cX5_bestLevel 61 = .ok (.iload 5, 2) := by decide +kernel
theorem dX5_bestLevel_63 : decode cX5_bestLevel 63 = .ok (.istore_n 2, 1) := by decide +kernel
theorem dX5_bestLevel_64 : decode cX5_bestLevel 64 = .ok (.iload 6, 2) := by decide +kernel
theorem dX5_bestLevel_66 : decode cX5_bestLevel 66 = .ok (.istore_n 3, 1) := by decide +kernel
theorem dX5_bestLevel_67 : decode cX5_bestLevel 67 = .ok (.iinc 5 1, 3) := by decide +kernel
theorem dX5_bestLevel_70 : decode cX5_bestLevel 70 = .ok (.goto (-33), 3) := by decide +kernel
theorem dX5_bestLevel_73 : decode cX5_bestLevel 73 = .ok (.iload_n 1, 1) := by decide +kernel
theorem dX5_bestLevel_74 : decode cX5_bestLevel 74 = .ok (.ifCond .ne 11, 3) := by decide +kernel
theorem dX5_bestLevel_77 : decode cX5_bestLevel 77 = .ok (.iload_n 2, 1) := by decide +kernel
theorem dX5_bestLevel_78 : decode cX5_bestLevel 78 = .ok (.sipush 1000, 3) := by decide +kernel
theorem dX5_bestLevel_81 : decode cX5_bestLevel 81 = .ok (.iadd, 1) := by decide +kernel
theorem dX5_bestLevel_82 : decode cX5_bestLevel 82 = .ok (.goto 4, 3) := by decide +kernel
theorem dX5_bestLevel_85 : decode cX5_bestLevel 85 = .ok (.iload_n 3, 1) := by decide +kernel
theorem dX5_bestLevel_86 : decode cX5_bestLevel 86 = .ok (.ireturn, 1) := by decide +kernel
theorem dX5_unlike_0 : decode cX5_unlike 0 = .ok (.aload_n 0, 1) := by decide +kernel
theorem dX5_unlike_1 : decode cX5_unlike 1 = .ok (.getfield 10, 3) := by decide +kernel
theorem dX5_unlike_4 : decode cX5_unlike 4 = .ok (.getfield 58, 3) := by decide +kernel
theorem dX5_unlike_7 : decode cX5_unlike 7 = .ok (.iload_n 1, 1) := by decide +kernel
theorem dX5_unlike_8 : decode cX5_unlike 8 = .ok (.invokevirtual 62, 3) := by decide +kernel
theorem dX5_unlike_11 : decode cX5_unlike 11 = .ok (.ifCond .eq 17, 3) := by decide +kernel
theorem dX5_unlike_14 : decode cX5_unlike 14 = .ok (.aload_n 0, 1) := by decide +kernel
theorem dX5_unlike_15 : decode cX5_unlike 15 = .ok (.getfield 10, 3) := by decide +kernel
theorem dX5_unlike_18 : decode cX5_unlike 18 = .ok (.getfield 58, 3) := by decide +kernel
theorem dX5_unlike_21 : decode cX5_unlike 21 = .ok (.iload_n 2, 1) := by decide +kernel
theorem dX5_unlike_22 : decode cX5_unlike 22 = .ok (.invokevirtual 62, 3) := by decide +kernel
theorem dX5_unlike_25 : decode cX5_unlike 25 = .ok (.ifCond .ne 5, 3) := by decide +kernel
theorem dX5_unlike_28 : decode cX5_unlike 28 = .ok (.iconst (-1), 1) := by decide +kernel
theorem dX5_unlike_29 : decode cX5_unlike 29 = .ok (.ireturn, 1) := by decide +kernel
theorem dX5_unlike_30 : decode cX5_unlike 30 = .ok (.aload_n 0, 1) := by decide +kernel
theorem dX5_unlike_31 : decode cX5_unlike 31 = .ok (.getfield 10, 3) := by decide +kernel
theorem dX5_unlike_34 : decode cX5_unlike 34 = .ok (.iload_n 1, 1) := by decide +kernel
theorem dX5_unlike_35 : decode cX5_unlike 35 = .ok (.iload_n 2, 1) := by decide +kernel
theorem dX5_unlike_36 : decode cX5_unlike 36 = .ok (.invokevirtual 116, 3) := by decide +kernel
theorem dX5_unlike_39 : decode cX5_unlike 39 = .ok (.ireturn, 1) := by decide +kernel
theorem dX5_nearest_0 : decode cX5_nearest 0 = .ok (.aload_n 0, 1) := by decide +kernel
theorem dX5_nearest_1 : decode cX5_nearest 1 = .ok (.getfield 10, 3) := by decide +kernel
theorem dX5_nearest_4 : decode cX5_nearest 4 = .ok (.getfield 58, 3) := by decide +kernel
theorem dX5_nearest_7 : decode cX5_nearest 7 = .ok (.iload_n 1, 1) := by decide +kernel
theorem dX5_nearest_8 : decode cX5_nearest 8 = .ok (.invokevirtual 62, 3) := by decide +kernel
theorem dX5_nearest_11 : decode cX5_nearest 11 = .ok (.ifCond .ne 5, 3) := by decide +kernel
theorem dX5_nearest_14 : decode cX5_nearest 14 = .ok (.iconst (-1), 1) := by decide +kernel
theorem dX5_nearest_15 : decode cX5_nearest 15 = .ok (.ireturn, 1) := by decide +kernel
theorem dX5_nearest_16 : decode cX5_nearest 16 = .ok (.bipush (-6), 2) := by decide +kernel
theorem dX5_nearest_18 : decode cX5_nearest 18 = .ok (.istore_n 2, 1) := by decide +kernel
theorem dX5_nearest_19 : decode cX5_nearest 19 = .ok (.iconst 0, 1) := by decide +kernel
theorem dX5_nearest_20 : decode cX5_nearest 20 = .ok (.istore_n 3, 1) := by decide +kernel
theorem dX5_nearest_21 : decode cX5_nearest 21 = .ok (.iconst 0, 1) := by decide +kernel
theorem dX5_nearest_22 : decode cX5_nearest 22 = .ok (.istore 4, 2) := by decide +kernel
theorem dX5_nearest_24 : decode cX5_nearest 24 = .ok (.iload 4, 2) := by decide +kernel
theorem dX5_nearest_26 : decode cX5_nearest 26 = .ok (.aload_n 0, 1) := by decide +kernel
theorem dX5_nearest_27 : decode cX5_nearest 27 = .ok (.getfield 10, 3) := by decide +kernel
theorem dX5_nearest_30 : decode cX5_nearest 30 = .ok (.getfield 58, 3) := by decide +kernel
theorem dX5_nearest_33 : decode cX5_nearest 33 = .ok (.getfield 72, 3) := by decide +kernel
theorem dX5_nearest_36 : decode cX5_nearest 36 = .ok (.if_icmp .ge 45, 3) := by decide +kernel
theorem dX5_nearest_39 : decode cX5_nearest 39 = .ok (.iload 4, 2) := by decide +kernel
theorem dX5_nearest_41 : decode cX5_nearest 41 = .ok (.iload_n 1, 1) := by decide +kernel
theorem dX5_nearest_42 : decode cX5_nearest 42 = .ok (.if_icmp .eq 33, 3) := by decide +kernel
theorem dX5_nearest_45 : decode cX5_nearest 45 = .ok (.aload_n 0, 1) := by decide +kernel
theorem dX5_nearest_46 : decode cX5_nearest 46 = .ok (.getfield 10, 3) := by decide +kernel
theorem dX5_nearest_49 : decode cX5_nearest 49 = .ok (.iload_n 1, 1) := by decide +kernel
theorem dX5_nearest_50 : decode cX5_nearest 50 = .ok (.iload 4, 2) := by decide +kernel
theorem dX5_nearest_52 : decode cX5_nearest 52 = .ok (.invokevirtual 116, 3) := by decide +kernel
theorem dX5_nearest_55 : decode cX5_nearest 55 = .ok (.istore 5, 2) := by decide +kernel
theorem dX5_nearest_57 : decode cX5_nearest 57 = .ok (.iload_n 2, 1) := by decide +kernel
theorem dX5_nearest_58 : decode cX5_nearest 58 = .ok (.bipush (-6), 2) := by decide +kernel
theorem dX5_nearest_60 : decode cX5_nearest 60 = .ok (.if_icmp .eq 9, 3) := by decide +kernel
theorem dX5_nearest_63 : decode cX5_nearest 63 = .ok (.iload 5, 2) := by decide +kernel
theorem dX5_nearest_65 : decode cX5_nearest 65 = .ok (.iload_n 3, 1) := by decide +kernel
theorem dX5_nearest_66 : decode cX5_nearest 66 = .ok (.if_icmp .ge 9, 3) := by decide +kernel
theorem dX5_nearest_69 : decode cX5_nearest 69 = .ok (.iload 4, 2) := by decide +kernel
theorem dX5_nearest_71 : decode cX5_nearest 71 = .ok (.istore_n 2, 1) := by decide +kernel
theorem dX5_nearest_72 : decode cX5_nearest 72 = .ok (.iload 5, 2) := by decide +kernel
theorem dX5_nearest_74 : decode cX5_nearest 74 = .ok (.istore_n 3, 1) := by decide +kernel
theorem dX5_nearest_75 : decode cX5_nearest 75 = .ok (.iinc 4 1, 3) := by decide +kernel
theorem dX5_nearest_78 : decode cX5_nearest 78 = .ok (.goto (-54), 3) := by decide +kernel
theorem dX5_nearest_81 : decode cX5_nearest 81 = .ok (.iload_n 2, 1) := by decide +kernel
theorem dX5_nearest_82 : decode cX5_nearest 82 = .ok (.ireturn, 1) := by decide +kernel
theorem dX5_undo_0 : decode cX5_undo 0 = .ok (.aload_n 0, 1) := by decide +kernel
theorem dX5_undo_1 : decode cX5_undo 1 = .ok (.getfield 19, 3) := by decide +kernel
theorem dX5_undo_4 : decode cX5_undo 4 = .ok (.getfield 101, 3) := by decide +kernel
theorem dX5_undo_7 : decode cX5_undo 7 = .ok (.ifCond .ne 6, 3) := by decide +kernel
theorem dX5_undo_10 : decode cX5_undo 10 = .ok (.bipush (-5), 2) := by decide +kernel
theorem dX5_undo_12 : decode cX5_undo 12 = .ok (.ireturn, 1) := by decide +kernel
theorem dX5_undo_13 : decode cX5_undo 13 = .ok (.aload_n 0, 1) := by decide +kernel
theorem dX5_undo_14 : decode cX5_undo 14 = .ok (.getfield 19, 3) := by decide +kernel
theorem dX5_undo_17 : decode cX5_undo 17 = .ok (.aload_n 0, 1) := by decide +kernel
theorem dX5_undo_18 : decode cX5_undo 18 = .ok (.getfield 10, 3) := by decide +kernel
theorem dX5_undo_21 : decode cX5_undo 21 = .ok (.invokevirtual 153, 3) := by decide +kernel
theorem dX5_undo_24 : decode cX5_undo 24 = .ok (.aload_n 0, 1) := by decide +kernel
theorem dX5_undo_25 : decode cX5_undo 25 = .ok (.getfield 19, 3) := by decide +kernel
theorem dX5_undo_28 : decode cX5_undo 28 = .ok (.getfield 101, 3) := by decide +kernel
theorem dX5_undo_31 : decode cX5_undo 31 = .ok (.ireturn, 1) := by decide +kernel
theorem dX5_at_0 : decode cX5_at 0 = .ok (.iload_n 1, 1) := by decide +kernel
theorem dX5_at_1 : decode cX5_at 1 = .ok (.ifCond .lt 15, 3) := by decide +kernel
theorem dX5_at_4 : decode cX5_at 4 = .ok (.iload_n 1, 1) := by decide +kernel
theorem dX5_at_5 : decode cX5_at 5 = .ok (.aload_n 0, 1) := by decide +kernel
theorem dX5_at_6 : decode cX5_at 6 = .ok (.arraylength, 1) := by decide +kernel
theorem dX5_at_7 : decode cX5_at 7 = .ok (.if_icmp .ge 9, 3) := by decide +kernel
theorem dX5_at_10 : decode cX5_at 10 = .ok (.aload_n 0, 1) := by decide +kernel
theorem dX5_at_11 : decode cX5_at 11 = .ok (.iload_n 1, 1) := by decide +kernel
theorem dX5_at_12 : decode cX5_at 12 = .ok (.iaload, 1) := by decide +kernel
theorem dX5_at_13 : decode cX5_at 13 = .ok (.goto 4, 3) := by decide +kernel
theorem dX5_at_16 : decode cX5_at 16 = .ok (.iconst 0, 1) := by decide +kernel
theorem dX5_at_17 : decode cX5_at 17 = .ok (.ireturn, 1) := by decide +kernel
theorem dX5_writeAt_0 : decode cX5_writeAt 0 = .ok (.iload_n 1, 1) := by decide +kernel
theorem dX5_writeAt_1 : decode cX5_writeAt 1 = .ok (.ifCond .lt 13, 3) := by decide +kernel
theorem dX5_writeAt_4 : decode cX5_writeAt 4 = .ok (.iload_n 1, 1) := by decide +kernel
theorem dX5_writeAt_5 : decode cX5_writeAt 5 = .ok (.aload_n 0, 1) := by decide +kernel
theorem dX5_writeAt_6 : decode cX5_writeAt 6 = .ok (.arraylength, 1) := by decide +kernel
theorem dX5_writeAt_7 : decode cX5_writeAt 7 = .ok (.if_icmp .ge 7, 3) := by decide +kernel
theorem dX5_writeAt_10 : decode cX5_writeAt 10 = .ok (.aload_n 0, 1) := by decide +kernel
theorem dX5_writeAt_11 : decode cX5_writeAt 11 = .ok (.iload_n 1, 1) := by decide +kernel
theorem dX5_writeAt_12 : decode cX5_writeAt 12 = .ok (.iload_n 2, 1) := by decide +kernel
theorem dX5_writeAt_13 : decode cX5_writeAt 13 = .ok (.iastore, 1) := by decide +kernel
theorem dX5_writeAt_14 : decode cX5_writeAt 14 = .ok (.return_, 1) := by decide +kernel
theorem dX5_copyRow_0 : decode cX5_copyRow 0 = .ok (.aload_n 0, 1) := by decide +kernel
theorem dX5_copyRow_1 : decode cX5_copyRow 1 = .ok (.iconst 0, 1) := by decide +kernel
theorem dX5_copyRow_2 : decode cX5_copyRow 2 = .ok (.aload_n 1, 1) := by decide +kernel
theorem dX5_copyRow_3 : decode cX5_copyRow 3 = .ok (.iconst 0, 1) := by decide +kernel
theorem dX5_copyRow_4 : decode cX5_copyRow 4 = .ok (.aload_n 0, 1) := by decide +kernel
theorem dX5_copyRow_5 : decode cX5_copyRow 5 = .ok (.arraylength, 1) := by decide +kernel
theorem dX5_copyRow_6 : decode cX5_copyRow 6 = .ok (.aload_n 1, 1) := by decide +kernel
theorem dX5_copyRow_7 : decode cX5_copyRow 7 = .ok (.arraylength, 1) := by decide +kernel
theorem dX5_copyRow_8 : decode cX5_copyRow 8 = .ok (.invokestatic 165, 3) := by decide +kernel
theorem dX5_copyRow_11 : decode cX5_copyRow 11 = .ok (.invokestatic 170, 3) := by decide +kernel
theorem dX5_copyRow_14 : decode cX5_copyRow 14 = .ok (.return_, 1) := by decide +kernel
theorem dX5_memoryAt_0 : decode cX5_memoryAt 0 = .ok (.iload_n 1, 1) := by decide +kernel
theorem dX5_memoryAt_1 : decode cX5_memoryAt 1 = .ok (.ifCond .lt 15, 3) := by decide +kernel
theorem dX5_memoryAt_4 : decode cX5_memoryAt 4 = .ok (.iload_n 1, 1) := by decide +kernel
theorem dX5_memoryAt_5 : decode cX5_memoryAt 5 = .ok (.aload_n 0, 1) := by decide +kernel
theorem dX5_memoryAt_6 : decode cX5_memoryAt 6 = .ok (.arraylength, 1) := by decide +kernel
theorem dX5_memoryAt_7 : decode cX5_memoryAt 7 = .ok (.if_icmp .ge 9, 3) := by decide +kernel
theorem dX5_memoryAt_10 : decode cX5_memoryAt 10 = .ok (.aload_n 0, 1) := by decide +kernel
theorem dX5_memoryAt_11 : decode cX5_memoryAt 11 = .ok (.iload_n 1, 1) := by decide +kernel
theorem dX5_memoryAt_12 : decode cX5_memoryAt 12 = .ok (.aaload, 1) := by decide +kernel
theorem dX5_memoryAt_13 : decode cX5_memoryAt 13 = .ok (.goto 4, 3) := by decide +kernel
theorem dX5_memoryAt_16 : decode cX5_memoryAt 16 = .ok (.aconst_null, 1) := by decide +kernel
theorem dX5_memoryAt_17 : decode cX5_memoryAt 17 = .ok (.areturn, 1) := by decide +kernel
