theorem dX3_act_322 : decode cX3_act 322 = .ok (.return_, 1) := by decide +kernel
theorem dX3_run_0 : decode cX3_run 0 = .ok (.aload_n 0, 1) := by decide +kernel
theorem dX3_run_1 : decode cX3_run 1 = .ok (.iconst 0, 1) := by decide +kernel
theorem dX3_run_2 : decode cX3_run 2 = .ok (.putfield 41, 3) := by decide +kernel
theorem dX3_run_5 : decode cX3_run 5 = .ok (.iload_n 1, 1) := by decide +kernel
theorem dX3_run_6 : decode cX3_run 6 = .ok (.iconst 0, 1) := by decide +kernel
theorem dX3_run_7 : decode cX3_run 7 = .ok (.sipush 500, 3) := by decide +kernel
theorem dX3_run_10 : decode cX3_run 10 = .ok (.invokestatic 45, 3) := by decide +kernel
theorem dX3_run_13 : decode cX3_run 13 = .ok (.ifCond .ne 10, 3) := by decide +kernel
theorem dX3_run_16 : decode cX3_run 16 = .ok (.aload_n 0, 1) := by decide +kernel
theorem dX3_run_17 : decode cX3_run 17 = .ok (.iconst 3, 1) := by decide +kernel
theorem dX3_run_18 : decode cX3_run 18 = .ok (.putfield 41, 3) := by decide +kernel
theorem dX3_run_21 : decode cX3_run 21 = .ok (.iconst 0, 1) := by decide +kernel
theorem dX3_run_22 : decode cX3_run 22 = .ok (.ireturn, 1) := by decide +kernel
theorem dX3_run_23 : decode cX3_run 23 = .ok (.iconst 0, 1) := by decide +kernel
theorem dX3_run_24 : decode cX3_run 24 = .ok (.istore_n 2, 1) := by decide +kernel
theorem dX3_run_25 : decode cX3_run 25 = .ok (.iconst 1, 1) := by decide +kernel
theorem dX3_run_26 : decode cX3_run 26 = .ok (.istore_n 3, 1) := by decide +kernel
theorem dX3_run_27 : decode cX3_run 27 = .ok (.iload_n 2, 1) := by decide +kernel
theorem dX3_run_28 : decode cX3_run 28 = .ok (.iload_n 1, 1) := by decide +kernel
theorem dX3_run_29 : decode cX3_run 29 = .ok (.if_icmp .ge 73, 3) := by decide +kernel
theorem dX3_run_32 : decode cX3_run 32 = .ok (.iload_n 3, 1) := by decide +kernel
theorem dX3_run_33 : decode cX3_run 33 = .ok (.ifCond .eq 69, 3) := by decide +kernel
theorem dX3_run_36 : decode cX3_run 36 = .ok (.aload_n 0, 1) := by decide +kernel
theorem dX3_run_37 : decode cX3_run 37 = .ok (.getfield 63, 3) := by decide +kernel
theorem dX3_run_40 : decode cX3_run 40 = .ok (.aload_n 0, 1) := by decide +kernel
theorem dX3_run_41 : decode cX3_run 41 = .ok (.getfield 60, 3) := by decide +kernel
theorem dX3_run_44 : decode cX3_run 44 = .ok (.if_icmp .ge 58, 3) := by decide +kernel
theorem dX3_run_47 : decode cX3_run 47 = .ok (.aload_n 0, 1) := by decide +kernel
theorem dX3_run_48 : decode cX3_run 48 = .ok (.aload_n 0, 1) := by decide +kernel
theorem dX3_run_49 : decode cX3_run 49 = .ok (.aload_n 0, 1) := by decide +kernel
theorem dX3_run_50 : decode cX3_run 50 = .ok (.getfield 63, 3) := by decide +kernel
theorem dX3_run_53 : decode cX3_run 53 = .ok (.invokevirtual 107, 3) := by decide +kernel
theorem dX3_run_56 : decode cX3_run 56 = .ok (.putfield 41, 3) := by decide +kernel
theorem dX3_run_59 : decode cX3_run 59 = .ok (.aload_n 0, 1) := by decide +kernel
theorem dX3_run_60 : decode cX3_run 60 = .ok (.getfield 41, 3) := by decide +kernel
theorem dX3_run_63 : decode cX3_run 63 = .ok (.ifCond .le 5, 3) := by decide +kernel
theorem dX3_run_66 : decode cX3_run 66 = .ok (.iconst 0, 1) := by decide +kernel
theorem dX3_run_67 : decode cX3_run 67 = .ok (.ireturn, 1) := by decide +kernel
theorem dX3_run_68 : decode cX3_run 68 = .ok (.aload_n 0, 1) := by decide +kernel
theorem dX3_run_69 : decode cX3_run 69 = .ok (.getfield 16, 3) := by decide +kernel
theorem dX3_run_72 : decode cX3_run 72 = .ok (.iconst 4, 1) := by decide +kernel
theorem dX3_run_73 : decode cX3_run 73 = .ok (.aload_n 0, 1) := by decide +kernel
theorem dX3_run_74 : decode cX3_run 74 = .ok (.getfield 63, 3) := by decide +kernel
theorem dX3_run_77 : decode cX3_run 77 = .ok (.imul, 1) := by decide +kernel
theorem dX3_run_78 : decode cX3_run 78 = .ok (.iaload, 1) := by decide +kernel
theorem dX3_run_79 : decode cX3_run 79 = .ok (.ifCond .eq 7, 3) := by decide +kernel
theorem dX3_run_82 : decode cX3_run 82 = .ok (.iconst 1, 1) := by decide +kernel
theorem dX3_run_83 : decode cX3_run 83 = .ok (.goto 4, 3) := by decide +kernel
theorem dX3_run_86 : decode cX3_run 86 = .ok (.iconst 0, 1) := by decide +kernel
theorem dX3_run_87 : decode cX3_run 87 = .ok (.istore_n 3, 1) := by decide +kernel
theorem dX3_run_88 : decode cX3_run 88 = .ok (.aload_n 0, 1) := by decide +kernel
theorem dX3_run_89 : decode cX3_run 89 = .ok (.aload_n 0, 1) := by decide +kernel
theorem dX3_run_90 : decode cX3_run 90 = .ok (.getfield 63, 3) := by decide +kernel
theorem dX3_run_93 : decode cX3_run 93 = .ok (.invokevirtual 110, 3) := by decide +kernel
theorem dX3_run_96 : decode cX3_run 96 = .ok (.iinc 2 1, 3) := by decide +kernel
theorem dX3_run_99 : decode cX3_run 99 = .ok (.goto (-72), 3) := by decide +kernel
theorem dX3_run_102 : decode cX3_run 102 = .ok (.iload_n 2, 1) := by decide +kernel
theorem dX3_run_103 : decode cX3_run 103 = .ok (.ireturn, 1) := by decide +kernel
theorem dX3_next_0 : decode cX3_next 0 = .ok (.aload_n 0, 1) := by decide +kernel
theorem dX3_next_1 : decode cX3_next 1 = .ok (.iconst 0, 1) := by decide +kernel
theorem dX3_next_2 : decode cX3_next 2 = .ok (.putfield 41, 3) := by decide +kernel
theorem dX3_next_5 : decode cX3_next 5 = .ok (.aload_n 0, 1) := by decide +kernel
theorem dX3_next_6 : decode cX3_next 6 = .ok (.getfield 63, 3) := by decide +kernel
theorem dX3_next_9 : decode cX3_next 9 = .ok (.ireturn, 1) := by decide +kernel
theorem dX3_open_0 : decode cX3_open 0 = .ok (.aload_n 0, 1) := by decide +kernel
theorem dX3_open_1 : decode cX3_open 1 = .ok (.iconst 0, 1) := by decide +kernel
theorem dX3_open_2 : decode cX3_open 2 = .ok (.putfield 41, 3) := by decide +kernel
theorem dX3_open_5 : decode cX3_open 5 = .ok (.aload_n 0, 1) := by decide +kernel
theorem dX3_open_6 : decode cX3_open 6 = .ok (.getfield 66, 3) := by decide +kernel
theorem dX3_open_9 : decode cX3_open 9 = .ok (.ireturn, 1) := by decide +kernel
theorem dX3_frame_0 : decode cX3_frame 0 = .ok (.aload_n 0, 1) := by decide +kernel
theorem dX3_frame_1 : decode cX3_frame 1 = .ok (.iconst 0, 1) := by decide +kernel
theorem dX3_frame_2 : decode cX3_frame 2 = .ok (.putfield 41, 3) := by decide +kernel
theorem dX3_frame_5 : decode cX3_frame 5 = .ok (.iload_n 1, 1) := by decide +kernel
theorem dX3_frame_6 : decode cX3_frame 6 = .ok (.iconst 0, 1) := by decide +kernel
theorem dX3_frame_7 : decode cX3_frame 7 = .ok (.iconst 3, 1) := by decide +kernel
theorem dX3_frame_8 : decode cX3_frame 8 = .ok (.invokestatic 45, 3) := by decide +kernel
theorem dX3_frame_11 : decode cX3_frame 11 = .ok (.ifCond .eq 12, 3) := by decide +kernel
theorem dX3_frame_14 : decode cX3_frame 14 = .ok (.aload_n 0, 1) := by decide +kernel
theorem dX3_frame_15 : decode cX3_frame 15 = .ok (.getfield 22, 3) := by decide +kernel
theorem dX3_frame_18 : decode cX3_frame 18 = .ok (.iload_n 1, 1) := by decide +kernel
theorem dX3_frame_19 : decode cX3_frame 19 = .ok (.iaload, 1) := by decide +kernel
theorem dX3_frame_20 : decode cX3_frame 20 = .ok (.goto 4, 3) := by decide +kernel
theorem dX3_frame_23 : decode cX3_frame 23 = .ok (.iconst 0, 1) := by decide +kernel
theorem dX3_frame_24 : decode cX3_frame 24 = .ok (.ireturn, 1) := by decide +kernel
theorem dX3_set_0 : decode cX3_set 0 = .ok (.aload_n 0, 1) := by decide +kernel
theorem dX3_set_1 : decode cX3_set 1 = .ok (.iconst 0, 1) := by decide +kernel
theorem dX3_set_2 : decode cX3_set 2 = .ok (.putfield 41, 3) := by decide +kernel
theorem dX3_set_5 : decode cX3_set 5 = .ok (.iload_n 1, 1) := by decide +kernel
theorem dX3_set_6 : decode cX3_set 6 = .ok (.iconst 0, 1) := by decide +kernel
theorem dX3_set_7 : decode cX3_set 7 = .ok (.iconst 3, 1) := by decide +kernel
theorem dX3_set_8 : decode cX3_set 8 = .ok (.invokestatic 45, 3) := by decide +kernel
theorem dX3_set_11 : decode cX3_set 11 = .ok (.ifCond .ne 5, 3) := by decide +kernel
theorem dX3_set_14 : decode cX3_set 14 = .ok (.iconst 0, 1) := by decide +kernel
theorem dX3_set_15 : decode cX3_set 15 = .ok (.ireturn, 1) := by decide +kernel
theorem dX3_set_16 : decode cX3_set 16 = .ok (.aload_n 0, 1) := by decide +kernel
theorem dX3_set_17 : decode cX3_set 17 = .ok (.getfield 22, 3) := by decide +kernel
theorem dX3_set_20 : decode cX3_set 20 = .ok (.iload_n 1, 1) := by decide +kernel
theorem dX3_set_21 : decode cX3_set 21 = .ok (.iload_n 2, 1) := by decide +kernel
theorem dX3_set_22 : decode cX3_set 22 = .ok (.iastore, 1) := by decide +kernel
theorem dX3_set_23 : decode cX3_set 23 = .ok (.iconst 1, 1) := by decide +kernel
theorem dX3_set_24 : decode cX3_set 24 = .ok (.ireturn, 1) := by decide +kernel
theorem dX3_root_0 : decode cX3_root 0 = .ok (.aload_n 0, 1) := by decide +kernel
theorem dX3_root_1 : decode cX3_root 1 = .ok (.iconst 0, 1) := by decide +kernel
theorem dX3_root_2 : decode cX3_root 2 = .ok (.putfield 41, 3) := by decide +kernel
theorem dX3_root_5 : decode cX3_root 5 = .ok (.iload_n 1, 1) := by decide +kernel
theorem dX3_root_6 : decode cX3_root 6 = .ok (.iconst 0, 1) := by decide +kernel
theorem dX3_root_7 : decode cX3_root 7 = .ok (.iconst 3, 1) := by decide +kernel
theorem dX3_root_8 : decode cX3_root 8 = .ok (.invokestatic 45, 3) := by decide +kernel
theorem dX3_root_11 : decode cX3_root 11 = .ok (.ifCond .eq 12, 3) := by decide +kernel
theorem dX3_root_14 : decode cX3_root 14 = .ok (.aload_n 0, 1) := by decide +kernel
theorem dX3_root_15 : decode cX3_root 15 = .ok (.getfield 25, 3) := by decide +kernel
theorem dX3_root_18 : decode cX3_root 18 = .ok (.iload_n 1, 1) := by decide +kernel
theorem dX3_root_19 : decode cX3_root 19 = .ok (.iaload, 1) := by decide +kernel
theorem dX3_root_20 : decode cX3_root 20 = .ok (.goto 4, 3) := by decide +kernel
theorem dX3_root_23 : decode cX3_root 23 = .ok (.iconst (-1), 1) := by decide +kernel
theorem dX3_root_24 : decode cX3_root 24 = .ok (.ireturn, 1) := by decide +kernel
theorem dX3_blocks_0 : decode cX3_blocks 0 = .ok (.aload_n 0, 1) := by decide +kernel
theorem dX3_blocks_1 : decode cX3_blocks 1 = .ok (.iconst 0, 1) := by decide +kernel
theorem dX3_blocks_2 : decode cX3_blocks 2 = .ok (.putfield 41, 3) := by decide +kernel
theorem dX3_blocks_5 : decode cX3_blocks 5 = .ok (.iconst 0, 1) := by decide +kernel
theorem dX3_blocks_6 : decode cX3_blocks 6 = .ok (.istore_n 1, 1) := by decide +kernel
theorem dX3_blocks_7 : decode cX3_blocks 7 = .ok (.iconst 1, 1) := by decide +kernel
theorem dX3_blocks_8 : decode cX3_blocks 8 = .ok (.istore_n 2, 1) := by decide +kernel
theorem dX3_blocks_9 : decode cX3_blocks 9 = .ok (.iload_n 2, 1) := by decide +kernel
theorem dX3_blocks_10 : decode cX3_blocks 10 = .ok (.bipush 25, 2) := by decide +kernel
theorem dX3_blocks_12 : decode cX3_blocks 12 = .ok (.if_icmp .ge 21, 3) := by decide +kernel
theorem dX3_blocks_15 : decode cX3_blocks 15 = .ok (.aload_n 0, 1) := by decide +kernel
theorem dX3_blocks_16 : decode cX3_blocks 16 = .ok (.getfield 28, 3) := by decide +kernel
theorem dX3_blocks_19 : decode cX3_blocks 19 = .ok (.iload_n 2, 1) := by decide +kernel
theorem dX3_blocks_20 : decode cX3_blocks 20 = .ok (.iaload, 1) := by decide +kernel
theorem dX3_blocks_21 : decode cX3_blocks 21 = .ok (.ifCond .lt 6, 3) := by decide +kernel
theorem dX3_blocks_24 : decode cX3_blocks 24 = .ok (.iinc 1 1, 3) := by decide +kernel
theorem dX3_blocks_27 : decode cX3_blocks 27 = .ok (.iinc 2 1, 3) := by decide +kernel
theorem dX3_blocks_30 : decode cX3_blocks 30 = .ok (.goto (-21), 3) := by decide +kernel
theorem dX3_blocks_33 : decode cX3_blocks 33 = .ok (.iload_n 1, 1) := by decide +kernel
theorem dX3_blocks_34 : decode cX3_blocks 34 = .ok (.ireturn, 1) := by decide +kernel
theorem dX3_count_0 : decode cX3_count 0 = .ok (.aload_n 0, 1) := by decide +kernel
theorem dX3_count_1 : decode cX3_count 1 = .ok (.iconst 0, 1) := by decide +kernel
theorem dX3_count_2 : decode cX3_count 2 = .ok (.putfield 41, 3) := by decide +kernel
theorem dX3_count_5 : decode cX3_count 5 = .ok (.aload_n 0, 1) := by decide +kernel
theorem dX3_count_6 : decode cX3_count 6 = .ok (.iload_n 1, 1) := by decide +kernel
theorem dX3_count_7 : decode cX3_count 7 = .ok (.invokevirtual 114, 3) := by decide +kernel
theorem dX3_count_10 : decode cX3_count 10 = .ok (.ifCond .ne 5, 3) := by decide +kernel
theorem dX3_count_13 : decode cX3_count 13 = .ok (.iconst (-1), 1) := by decide +kernel
theorem dX3_count_14 : decode cX3_count 14 = .ok (.ireturn, 1) := by decide +kernel
theorem dX3_count_15 : decode cX3_count 15 = .ok (.aload_n 0, 1) := by decide +kernel
theorem dX3_count_16 : decode cX3_count 16 = .ok (.invokevirtual 73, 3) := by decide +kernel
theorem dX3_count_19 : decode cX3_count 19 = .ok (.aload_n 0, 1) := by decide +kernel
theorem dX3_count_20 : decode cX3_count 20 = .ok (.getfield 34, 3) := by decide +kernel
theorem dX3_count_23 : decode cX3_count 23 = .ok (.iload_n 1, 1) := by decide +kernel
theorem dX3_count_24 : decode cX3_count 24 = .ok (.iaload, 1) := by decide +kernel
theorem dX3_count_25 : decode cX3_count 25 = .ok (.ireturn, 1) := by decide +kernel
theorem dX3_typeOf_0 : decode cX3_typeOf 0 = .ok (.aload_n 0, 1) := by decide +kernel
theorem dX3_typeOf_1 : decode cX3_typeOf 1 = .ok (.iconst 0, 1) := by decide +kernel
theorem dX3_typeOf_2 : decode cX3_typeOf 2 = .ok (.putfield 41, 3) := by decide +kernel
theorem dX3_typeOf_5 : decode cX3_typeOf 5 = .ok (.aload_n 0, 1) := by decide +kernel
theorem dX3_typeOf_6 : decode cX3_typeOf 6 = .ok (.iload_n 1, 1) := by decide +kernel
theorem dX3_typeOf_7 : decode cX3_typeOf 7 = .ok (.invokevirtual 114, 3) := by decide +kernel
theorem dX3_typeOf_10 : decode cX3_typeOf 10 = .ok (.ifCond .eq 12, 3) := by decide +kernel
theorem dX3_typeOf_13 : decode cX3_typeOf 13 = .ok (.aload_n 0, 1) := by decide +kernel
theorem dX3_typeOf_14 : decode cX3_typeOf 14 = .ok (.getfield 28, 3) := by decide +kernel
theorem dX3_typeOf_17 : decode cX3_typeOf 17 = .ok (.iload_n 1, 1) := by decide +kernel
theorem dX3_typeOf_18 : decode cX3_typeOf 18 = .ok (.iaload, 1) := by decide +kernel
theorem dX3_typeOf_19 : decode cX3_typeOf 19 = .ok (.goto 4, 3) := by decide +kernel
theorem dX3_typeOf_22 : decode cX3_typeOf 22 = .ok (.iconst (-1), 1) := by decide +kernel
theorem dX3_typeOf_23 : decode cX3_typeOf 23 = .ok (.ireturn, 1) := by decide +kernel
theorem dX3_word_0 : decode cX3_word 0 = .ok (.aload_n 0, 1) := by decide +kernel
theorem dX3_word_1 : decode cX3_word 1 = .ok (.iconst 0, 1) := by decide +kernel
theorem dX3_word_2 : decode cX3_word 2 = .ok (.putfield 41, 3) := by decide +kernel
theorem dX3_word_5 : decode cX3_word 5 = .ok (.aload_n 0, 1) := by decide +kernel
theorem dX3_word_6 : decode cX3_word 6 = .ok (.iload_n 1, 1) := by decide +kernel
theorem dX3_word_7 : decode cX3_word 7 = .ok (.invokevirtual 114, 3) := by decide +kernel
theorem dX3_word_10 : decode cX3_word 10 = .ok (.ifCond .eq 39, 3) := by decide +kernel
theorem dX3_word_13 : decode cX3_word 13 = .ok (.iload_n 2, 1) := by decide +kernel
theorem dX3_word_14 : decode cX3_word 14 = .ok (.iconst 0, 1) := by decide +kernel
theorem dX3_word_15 : decode cX3_word 15 = .ok (.aload_n 0, 1) := by decide +kernel
theorem dX3_word_16 : decode cX3_word 16 = .ok (.getfield 7, 3) := by decide +kernel
theorem dX3_word_19 : decode cX3_word 19 = .ok (.aload_n 0, 1) := by decide +kernel
theorem dX3_word_20 : decode cX3_word 20 = .ok (.getfield 28, 3) := by decide +kernel
theorem dX3_word_23 : decode cX3_word 23 = .ok (.iload_n 1, 1) := by decide +kernel
theorem dX3_word_24 : decode cX3_word 24 = .ok (.iaload, 1) := by decide +kernel
theorem dX3_word_25 : decode cX3_word 25 = .ok (.iaload, 1) := by decide +kernel
theorem dX3_word_26 : decode cX3_word 26 = .ok (.iconst 1, 1) := by decide +kernel
theorem dX3_word_27 : decode cX3_word 27 = .ok (.isub, 1) := by decide +kernel
theorem dX3_word_28 : decode cX3_word 28 = .ok (.invokestatic 45, 3) := by decide +kernel
theorem dX3_word_31 : decode cX3_word 31 = .ok (.ifCond .eq 18, 3) := by decide +kernel
theorem dX3_word_34 : decode cX3_word 34 = .ok (.aload_n 0, 1) := by decide +kernel
theorem dX3_word_35 : decode cX3_word 35 = .ok (.getfield 31, 3) := by decide +kernel
theorem dX3_word_38 : decode cX3_word 38 = .ok (.bipush 6, 2) := by decide +kernel
theorem dX3_word_40 : decode cX3_word 40 = .ok (.iload_n 1, 1) := by decide +kernel
theorem dX3_word_41 : decode cX3_word 41 = .ok (.imul, 1) := by decide +kernel
theorem dX3_word_42 : decode cX3_word 42 = .ok (.iload_n 2, 1) := by decide +kernel
theorem dX3_word_43 : decode cX3_word 43 = .ok (.iadd, 1) := by decide +kernel
theorem dX3_word_44 : decode cX3_word 44 = .ok (.iaload, 1) := by decide +kernel
theorem dX3_word_45 : decode cX3_word 45 = .ok (.i2l, 1) := by decide +kernel
theorem dX3_word_46 : decode cX3_word 46 = .ok (.goto 6, 3) := by decide +kernel
theorem dX3_word_49 : decode cX3_word 49 = .ok (.ldc2_w 117, 3) := by decide +kernel
theorem dX3_word_52 : decode cX3_word 52 = .ok (.lreturn, 1) := by decide +kernel
theorem dX3_given_0 : decode cX3_given 0 = .ok (.aload_n 0, 1) := by decide +kernel
theorem dX3_given_1 : decode cX3_given 1 = .ok (.iconst 0, 1) := by decide +kernel
theorem dX3_given_2 : decode cX3_given 2 = .ok (.putfield 41, 3) := by decide +kernel
theorem dX3_given_5 : decode cX3_given 5 = .ok (.aload_n 0, 1) := by decide +kernel
theorem dX3_given_6 : decode cX3_given 6 = .ok (.getfield 76, 3) := by decide +kernel
theorem dX3_given_9 : decode cX3_given 9 = .ok (.ireturn, 1) := by decide +kernel
theorem dX3_lost_0 : decode cX3_lost 0 = .ok (.aload_n 0, 1) := by decide +kernel
theorem dX3_lost_1 : decode cX3_lost 1 = .ok (.iconst 0, 1) := by decide +kernel
theorem dX3_lost_2 : decode cX3_lost 2 = .ok (.putfield 41, 3) := by decide +kernel
theorem dX3_lost_5 : decode cX3_lost 5 = .ok (.aload_n 0, 1) := by decide +kernel
theorem dX3_lost_6 : decode cX3_lost 6 = .ok (.invokevirtual 119, 3) := by decide +kernel
theorem dX3_lost_9 : decode cX3_lost 9 = .ok (.iconst 0, 1) := by decide +kernel
theorem dX3_lost_10 : decode cX3_lost 10 = .ok (.istore_n 1, 1) := by decide +kernel
theorem dX3_lost_11 : decode cX3_lost 11 = .ok (.iconst 1, 1) := by decide +kernel
theorem dX3_lost_12 : decode cX3_lost 12 = .ok (.istore_n 2, 1) := by decide +kernel
theorem dX3_lost_13 : decode cX3_lost 13 = .ok (.iload_n 2, 1) := by decide +kernel
theorem dX3_lost_14 : decode cX3_lost 14 = .ok (.bipush 25, 2) := by decide +kernel
theorem dX3_lost_16 : decode cX3_lost 16 = .ok (.if_icmp .ge 30, 3) := by decide +kernel
theorem dX3_lost_19 : decode cX3_lost 19 = .ok (.aload_n 0, 1) := by decide +kernel
theorem dX3_lost_20 : decode cX3_lost 20 = .ok (.getfield 28, 3) := by decide +kernel
theorem dX3_lost_23 : decode cX3_lost 23 = .ok (.iload_n 2, 1) := by decide +kernel
theorem dX3_lost_24 : decode cX3_lost 24 = .ok (.iaload, 1) := by decide +kernel
theorem dX3_lost_25 : decode cX3_lost 25 = .ok (.ifCond .lt 15, 3) := by decide +kernel
theorem dX3_lost_28 : decode cX3_lost 28 = .ok (.aload_n 0, 1) := by decide +kernel
theorem dX3_lost_29 : decode cX3_lost 29 = .ok (.getfield 37, 3) := by decide +kernel
theorem dX3_lost_32 : decode cX3_lost 32 = .ok (.iload_n 2, 1) := by decide +kernel
theorem dX3_lost_33 : decode cX3_lost 33 = .ok (.baload, 1) := by decide +kernel
theorem dX3_lost_34 : decode cX3_lost 34 = .ok (.ifCond .ne 6, 3) := by decide +kernel
theorem dX3_lost_37 : decode cX3_lost 37 = .ok (.iinc 1 1, 3) := by decide +kernel
theorem dX3_lost_40 : decode cX3_lost 40 = .ok (.iinc 2 1, 3) := by decide +kernel
theorem dX3_lost_43 : decode cX3_lost 43 = .ok (.goto (-30), 3) := by decide +kernel
theorem dX3_lost_46 : decode cX3_lost 46 = .ok (.iload_n 1, 1) := by decide +kernel
theorem dX3_lost_47 : decode cX3_lost 47 = .ok (.ireturn, 1) := by decide +kernel
theorem dX3_collect_0 : decode cX3_collect 0 = .ok (.aload_n 0, 1) := by decide +kernel
theorem dX3_collect_1 : decode cX3_collect 1 = .ok (.invokevirtual 122, 3) := by decide +kernel
theorem dX3_collect_4 : decode cX3_collect 4 = .ok (.istore_n 1, 1) := by decide +kernel
theorem dX3_collect_5 : decode cX3_collect 5 = .ok (.iconst 1, 1) := by decide +kernel
theorem dX3_collect_6 : decode cX3_collect 6 = .ok (.istore_n 2, 1) := by decide +kernel
theorem dX3_collect_7 : decode cX3_collect 7 = .ok (.iload_n 2, 1) := by decide +kernel
theorem dX3_collect_8 : decode cX3_collect 8 = .ok (.bipush 25, 2) := by decide +kernel
theorem dX3_collect_10 : decode cX3_collect 10 = .ok (.if_icmp .ge 25, 3) := by decide +kernel
theorem dX3_collect_13 : decode cX3_collect 13 = .ok (.aload_n 0, 1) := by decide +kernel
theorem dX3_collect_14 : decode cX3_collect 14 = .ok (.getfield 37, 3) := by decide +kernel
theorem dX3_collect_17 : decode cX3_collect 17 = .ok (.iload_n 2, 1) := by decide +kernel
theorem dX3_collect_18 : decode cX3_collect 18 = .ok (.baload, 1) := by decide +kernel
theorem dX3_collect_19 : decode cX3_collect 19 = .ok (.ifCond .ne 10, 3) := by decide +kernel
theorem dX3_collect_22 : decode cX3_collect 22 = .ok (.aload_n 0, 1) := by decide +kernel
theorem dX3_collect_23 : decode cX3_collect 23 = .ok (.getfield 28, 3) := by decide +kernel
theorem dX3_collect_26 : decode cX3_collect 26 = .ok (.iload_n 2, 1) := by decide +kernel
theorem dX3_collect_27 : decode cX3_collect 27 = .ok (.iconst (-1), 1) := by decide +kernel
theorem dX3_collect_28 : decode cX3_collect 28 = .ok (.iastore, 1) := by decide +kernel
theorem dX3_collect_29 : decode cX3_collect 29 = .ok (.iinc 2 1, 3) := by decide +kernel
theorem dX3_collect_32 : decode cX3_collect 32 = .ok (.goto (-25), 3) := by decide +kernel
theorem dX3_collect_35 : decode cX3_collect 35 = .ok (.aload_n 0, 1) := by decide +kernel
theorem dX3_collect_36 : decode cX3_collect 36 = .ok (.dup, 1) := by decide +kernel
theorem dX3_collect_37 : decode cX3_collect 37 = .ok (.getfield 76, 3) := by decide +kernel
theorem dX3_collect_40 : decode cX3_collect 40 = .ok (.iload_n 1, 1) := by decide +kernel
theorem dX3_collect_41 : decode cX3_collect 41 = .ok (.iadd, 1) := by decide +kernel
theorem dX3_collect_42 : decode cX3_collect 42 = .ok (.putfield 76, 3) := by decide +kernel
theorem dX3_collect_45 : decode cX3_collect 45 = .ok (.iload_n 1, 1) := by decide +kernel
theorem dX3_collect_46 : decode cX3_collect 46 = .ok (.ireturn, 1) := by decide +kernel
