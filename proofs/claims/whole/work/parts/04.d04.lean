theorem dX2_init_0 : decode cX2_init 0 = .ok (.aload_n 0, 1) := by decide +kernel
theorem dX2_init_1 : decode cX2_init 1 = .ok (.invokespecial 3, 3) := by decide +kernel
theorem dX2_init_4 : decode cX2_init 4 = .ok (.aload_n 0, 1) := by decide +kernel
theorem dX2_init_5 : decode cX2_init 5 = .ok (.new 9, 3) := by decide +kernel
theorem dX2_init_8 : decode cX2_init 8 = .ok (.dup, 1) := by decide +kernel
theorem dX2_init_9 : decode cX2_init 9 = .ok (.invokespecial 11, 3) := by decide +kernel
theorem dX2_init_12 : decode cX2_init 12 = .ok (.putfield 12, 3) := by decide +kernel
theorem dX2_init_15 : decode cX2_init 15 = .ok (.aload_n 0, 1) := by decide +kernel
theorem dX2_init_16 : decode cX2_init 16 = .ok (.new 16, 3) := by decide +kernel
theorem dX2_init_19 : decode cX2_init 19 = .ok (.dup, 1) := by decide +kernel
theorem dX2_init_20 : decode cX2_init 20 = .ok (.invokespecial 18, 3) := by decide +kernel
theorem dX2_init_23 : decode cX2_init 23 = .ok (.putfield 19, 3) := by decide +kernel
theorem dX2_init_26 : decode cX2_init 26 = .ok (.aload_n 0, 1) := by decide +kernel
theorem dX2_init_27 : decode cX2_init 27 = .ok (.bipush 8, 2) := by decide +kernel
theorem dX2_init_29 : decode cX2_init 29 = .ok (.newarray .int, 2) := by decide +kernel
theorem dX2_init_31 : decode cX2_init 31 = .ok (.putfield 23, 3) := by decide +kernel
theorem dX2_init_34 : decode cX2_init 34 = .ok (.aload_n 0, 1) := by decide +kernel
theorem dX2_init_35 : decode cX2_init 35 = .ok (.iconst 0, 1) := by decide +kernel
theorem dX2_init_36 : decode cX2_init 36 = .ok (.putfield 27, 3) := by decide +kernel
theorem dX2_init_39 : decode cX2_init 39 = .ok (.aload_n 0, 1) := by decide +kernel
theorem dX2_init_40 : decode cX2_init 40 = .ok (.iconst 0, 1) := by decide +kernel
theorem dX2_init_41 : decode cX2_init 41 = .ok (.putfield 31, 3) := by decide +kernel
theorem dX2_init_44 : decode cX2_init 44 = .ok (.return_, 1) := by decide +kernel
theorem dX2_type_0 : decode cX2_type 0 = .ok (.iload_n 1, 1) := by decide +kernel
theorem dX2_type_1 : decode cX2_type 1 = .ok (.invokestatic 34, 3) := by decide +kernel
theorem dX2_type_4 : decode cX2_type 4 = .ok (.ifCond .eq 14, 3) := by decide +kernel
theorem dX2_type_7 : decode cX2_type 7 = .ok (.iload_n 2, 1) := by decide +kernel
theorem dX2_type_8 : decode cX2_type 8 = .ok (.iconst 1, 1) := by decide +kernel
theorem dX2_type_9 : decode cX2_type 9 = .ok (.if_icmp .lt 9, 3) := by decide +kernel
theorem dX2_type_12 : decode cX2_type 12 = .ok (.iload_n 2, 1) := by decide +kernel
theorem dX2_type_13 : decode cX2_type 13 = .ok (.bipush 6, 2) := by decide +kernel
theorem dX2_type_15 : decode cX2_type 15 = .ok (.if_icmp .le 5, 3) := by decide +kernel
theorem dX2_type_18 : decode cX2_type 18 = .ok (.iconst 0, 1) := by decide +kernel
theorem dX2_type_19 : decode cX2_type 19 = .ok (.ireturn, 1) := by decide +kernel
theorem dX2_type_20 : decode cX2_type 20 = .ok (.iload_n 3, 1) := by decide +kernel
theorem dX2_type_21 : decode cX2_type 21 = .ok (.ifCond .lt 20, 3) := by decide +kernel
theorem dX2_type_24 : decode cX2_type 24 = .ok (.iload_n 3, 1) := by decide +kernel
theorem dX2_type_25 : decode cX2_type 25 = .ok (.iload_n 2, 1) := by decide +kernel
theorem dX2_type_26 : decode cX2_type 26 = .ok (.ishr, 1) := by decide +kernel
theorem dX2_type_27 : decode cX2_type 27 = .ok (.ifCond .ne 14, 3) := by decide +kernel
theorem dX2_type_30 : decode cX2_type 30 = .ok (.aload_n 0, 1) := by decide +kernel
theorem dX2_type_31 : decode cX2_type 31 = .ok (.getfield 19, 3) := by decide +kernel
theorem dX2_type_34 : decode cX2_type 34 = .ok (.iload_n 1, 1) := by decide +kernel
theorem dX2_type_35 : decode cX2_type 35 = .ok (.invokevirtual 38, 3) := by decide +kernel
theorem dX2_type_38 : decode cX2_type 38 = .ok (.ifCond .eq 5, 3) := by decide +kernel
theorem dX2_type_41 : decode cX2_type 41 = .ok (.iconst 0, 1) := by decide +kernel
theorem dX2_type_42 : decode cX2_type 42 = .ok (.ireturn, 1) := by decide +kernel
theorem dX2_type_43 : decode cX2_type 43 = .ok (.aload_n 0, 1) := by decide +kernel
theorem dX2_type_44 : decode cX2_type 44 = .ok (.getfield 19, 3) := by decide +kernel
theorem dX2_type_47 : decode cX2_type 47 = .ok (.iload_n 1, 1) := by decide +kernel
theorem dX2_type_48 : decode cX2_type 48 = .ok (.iload_n 2, 1) := by decide +kernel
theorem dX2_type_49 : decode cX2_type 49 = .ok (.iload_n 3, 1) := by decide +kernel
theorem dX2_type_50 : decode cX2_type 50 = .ok (.invokevirtual 41, 3) := by decide +kernel
theorem dX2_type_53 : decode cX2_type 53 = .ok (.iconst 1, 1) := by decide +kernel
theorem dX2_type_54 : decode cX2_type 54 = .ok (.ireturn, 1) := by decide +kernel
theorem dX2_add_0 : decode cX2_add 0 = .ok (.iload_n 1, 1) := by decide +kernel
theorem dX2_add_1 : decode cX2_add 1 = .ok (.ifCond .lt 11, 3) := by decide +kernel
theorem dX2_add_4 : decode cX2_add 4 = .ok (.iload_n 1, 1) := by decide +kernel
theorem dX2_add_5 : decode cX2_add 5 = .ok (.getstatic 45, 3) := by decide +kernel
theorem dX2_add_8 : decode cX2_add 8 = .ok (.arraylength, 1) := by decide +kernel
theorem dX2_add_9 : decode cX2_add 9 = .ok (.if_icmp .lt 5, 3) := by decide +kernel
theorem dX2_add_12 : decode cX2_add 12 = .ok (.iconst (-1), 1) := by decide +kernel
theorem dX2_add_13 : decode cX2_add 13 = .ok (.ireturn, 1) := by decide +kernel
theorem dX2_add_14 : decode cX2_add 14 = .ok (.getstatic 45, 3) := by decide +kernel
theorem dX2_add_17 : decode cX2_add 17 = .ok (.iload_n 1, 1) := by decide +kernel
theorem dX2_add_18 : decode cX2_add 18 = .ok (.iaload, 1) := by decide +kernel
theorem dX2_add_19 : decode cX2_add 19 = .ok (.iload_n 2, 1) := by decide +kernel
theorem dX2_add_20 : decode cX2_add 20 = .ok (.invokestatic 48, 3) := by decide +kernel
theorem dX2_add_23 : decode cX2_add 23 = .ok (.ifCond .eq 28, 3) := by decide +kernel
theorem dX2_add_26 : decode cX2_add 26 = .ok (.getstatic 52, 3) := by decide +kernel
theorem dX2_add_29 : decode cX2_add 29 = .ok (.iload_n 1, 1) := by decide +kernel
theorem dX2_add_30 : decode cX2_add 30 = .ok (.iaload, 1) := by decide +kernel
theorem dX2_add_31 : decode cX2_add 31 = .ok (.iload_n 3, 1) := by decide +kernel
theorem dX2_add_32 : decode cX2_add 32 = .ok (.invokestatic 48, 3) := by decide +kernel
theorem dX2_add_35 : decode cX2_add 35 = .ok (.ifCond .eq 16, 3) := by decide +kernel
theorem dX2_add_38 : decode cX2_add 38 = .ok (.getstatic 55, 3) := by decide +kernel
theorem dX2_add_41 : decode cX2_add 41 = .ok (.iload_n 1, 1) := by decide +kernel
theorem dX2_add_42 : decode cX2_add 42 = .ok (.iaload, 1) := by decide +kernel
theorem dX2_add_43 : decode cX2_add 43 = .ok (.iload 4, 2) := by decide +kernel
theorem dX2_add_45 : decode cX2_add 45 = .ok (.invokestatic 48, 3) := by decide +kernel
theorem dX2_add_48 : decode cX2_add 48 = .ok (.ifCond .ne 6, 3) := by decide +kernel
theorem dX2_add_51 : decode cX2_add 51 = .ok (.bipush (-2), 2) := by decide +kernel
theorem dX2_add_53 : decode cX2_add 53 = .ok (.ireturn, 1) := by decide +kernel
theorem dX2_add_54 : decode cX2_add 54 = .ok (.aload_n 0, 1) := by decide +kernel
theorem dX2_add_55 : decode cX2_add 55 = .ok (.getfield 12, 3) := by decide +kernel
theorem dX2_add_58 : decode cX2_add 58 = .ok (.invokevirtual 58, 3) := by decide +kernel
theorem dX2_add_61 : decode cX2_add 61 = .ok (.ifCond .eq 6, 3) := by decide +kernel
theorem dX2_add_64 : decode cX2_add 64 = .ok (.bipush (-3), 2) := by decide +kernel
theorem dX2_add_66 : decode cX2_add 66 = .ok (.ireturn, 1) := by decide +kernel
theorem dX2_add_67 : decode cX2_add 67 = .ok (.aload_n 0, 1) := by decide +kernel
theorem dX2_add_68 : decode cX2_add 68 = .ok (.getfield 12, 3) := by decide +kernel
theorem dX2_add_71 : decode cX2_add 71 = .ok (.iload_n 1, 1) := by decide +kernel
theorem dX2_add_72 : decode cX2_add 72 = .ok (.iload_n 2, 1) := by decide +kernel
theorem dX2_add_73 : decode cX2_add 73 = .ok (.iload_n 3, 1) := by decide +kernel
theorem dX2_add_74 : decode cX2_add 74 = .ok (.iload 4, 2) := by decide +kernel
theorem dX2_add_76 : decode cX2_add 76 = .ok (.invokevirtual 62, 3) := by decide +kernel
theorem dX2_add_79 : decode cX2_add 79 = .ok (.ireturn, 1) := by decide +kernel
theorem dX2_clear_0 : decode cX2_clear 0 = .ok (.aload_n 0, 1) := by decide +kernel
theorem dX2_clear_1 : decode cX2_clear 1 = .ok (.iconst 0, 1) := by decide +kernel
theorem dX2_clear_2 : decode cX2_clear 2 = .ok (.invokevirtual 66, 3) := by decide +kernel
theorem dX2_clear_5 : decode cX2_clear 5 = .ok (.aload_n 0, 1) := by decide +kernel
theorem dX2_clear_6 : decode cX2_clear 6 = .ok (.getfield 12, 3) := by decide +kernel
theorem dX2_clear_9 : decode cX2_clear 9 = .ok (.invokevirtual 70, 3) := by decide +kernel
theorem dX2_clear_12 : decode cX2_clear 12 = .ok (.ireturn, 1) := by decide +kernel
theorem dX2_start_0 : decode cX2_start 0 = .ok (.iload_n 1, 1) := by decide +kernel
theorem dX2_start_1 : decode cX2_start 1 = .ok (.invokestatic 74, 3) := by decide +kernel
theorem dX2_start_4 : decode cX2_start 4 = .ok (.ifCond .ne 5, 3) := by decide +kernel
theorem dX2_start_7 : decode cX2_start 7 = .ok (.iconst 0, 1) := by decide +kernel
theorem dX2_start_8 : decode cX2_start 8 = .ok (.ireturn, 1) := by decide +kernel
theorem dX2_start_9 : decode cX2_start 9 = .ok (.aload_n 0, 1) := by decide +kernel
theorem dX2_start_10 : decode cX2_start 10 = .ok (.iload_n 1, 1) := by decide +kernel
theorem dX2_start_11 : decode cX2_start 11 = .ok (.invokevirtual 66, 3) := by decide +kernel
theorem dX2_start_14 : decode cX2_start 14 = .ok (.iconst 1, 1) := by decide +kernel
theorem dX2_start_15 : decode cX2_start 15 = .ok (.ireturn, 1) := by decide +kernel
theorem dX2_run_0 : decode cX2_run 0 = .ok (.iload_n 1, 1) := by decide +kernel
theorem dX2_run_1 : decode cX2_run 1 = .ok (.ifCond .lt 10, 3) := by decide +kernel
theorem dX2_run_4 : decode cX2_run 4 = .ok (.iload_n 1, 1) := by decide +kernel
theorem dX2_run_5 : decode cX2_run 5 = .ok (.sipush 500, 3) := by decide +kernel
theorem dX2_run_8 : decode cX2_run 8 = .ok (.if_icmp .le 13, 3) := by decide +kernel
theorem dX2_run_11 : decode cX2_run 11 = .ok (.new 77, 3) := by decide +kernel
theorem dX2_run_14 : decode cX2_run 14 = .ok (.dup, 1) := by decide +kernel
theorem dX2_run_15 : decode cX2_run 15 = .ok (.ldc 79, 2) := by decide +kernel
theorem dX2_run_17 : decode cX2_run 17 = .ok (.invokespecial 81, 3) := by decide +kernel
theorem dX2_run_20 : decode cX2_run 20 = .ok (.athrow, 1) := by decide +kernel
theorem dX2_run_21 : decode cX2_run 21 = .ok (.iconst 0, 1) := by decide +kernel
theorem dX2_run_22 : decode cX2_run 22 = .ok (.istore_n 2, 1) := by decide +kernel
theorem dX2_run_23 : decode cX2_run 23 = .ok (.iload_n 2, 1) := by decide +kernel
theorem dX2_run_24 : decode cX2_run 24 = .ok (.iload_n 1, 1) := by decide +kernel
theorem dX2_run_25 : decode cX2_run 25 = .ok (.if_icmp .ge 51, 3) := by decide +kernel
theorem dX2_run_28 : decode cX2_run 28 = .ok (.aload_n 0, 1) := by decide +kernel
theorem dX2_run_29 : decode cX2_run 29 = .ok (.getfield 12, 3) := by decide +kernel
theorem dX2_run_32 : decode cX2_run 32 = .ok (.aload_n 0, 1) := by decide +kernel
theorem dX2_run_33 : decode cX2_run 33 = .ok (.getfield 31, 3) := by decide +kernel
theorem dX2_run_36 : decode cX2_run 36 = .ok (.invokevirtual 84, 3) := by decide +kernel
theorem dX2_run_39 : decode cX2_run 39 = .ok (.ifCond .ne 5, 3) := by decide +kernel
theorem dX2_run_42 : decode cX2_run 42 = .ok (.iload_n 2, 1) := by decide +kernel
theorem dX2_run_43 : decode cX2_run 43 = .ok (.ireturn, 1) := by decide +kernel
theorem dX2_run_44 : decode cX2_run 44 = .ok (.aload_n 0, 1) := by decide +kernel
theorem dX2_run_45 : decode cX2_run 45 = .ok (.getfield 12, 3) := by decide +kernel
theorem dX2_run_48 : decode cX2_run 48 = .ok (.aload_n 0, 1) := by decide +kernel
theorem dX2_run_49 : decode cX2_run 49 = .ok (.getfield 31, 3) := by decide +kernel
theorem dX2_run_52 : decode cX2_run 52 = .ok (.invokevirtual 87, 3) := by decide +kernel
theorem dX2_run_55 : decode cX2_run 55 = .ok (.ifCond .ne 7, 3) := by decide +kernel
theorem dX2_run_58 : decode cX2_run 58 = .ok (.iload_n 2, 1) := by decide +kernel
theorem dX2_run_59 : decode cX2_run 59 = .ok (.iconst 1, 1) := by decide +kernel
theorem dX2_run_60 : decode cX2_run 60 = .ok (.iadd, 1) := by decide +kernel
theorem dX2_run_61 : decode cX2_run 61 = .ok (.ireturn, 1) := by decide +kernel
theorem dX2_run_62 : decode cX2_run 62 = .ok (.aload_n 0, 1) := by decide +kernel
theorem dX2_run_63 : decode cX2_run 63 = .ok (.aload_n 0, 1) := by decide +kernel
theorem dX2_run_64 : decode cX2_run 64 = .ok (.getfield 31, 3) := by decide +kernel
theorem dX2_run_67 : decode cX2_run 67 = .ok (.invokevirtual 91, 3) := by decide +kernel
theorem dX2_run_70 : decode cX2_run 70 = .ok (.iinc 2 1, 3) := by decide +kernel
theorem dX2_run_73 : decode cX2_run 73 = .ok (.goto (-50), 3) := by decide +kernel
theorem dX2_run_76 : decode cX2_run 76 = .ok (.iload_n 1, 1) := by decide +kernel
theorem dX2_run_77 : decode cX2_run 77 = .ok (.ireturn, 1) := by decide +kernel
theorem dX2_next_0 : decode cX2_next 0 = .ok (.aload_n 0, 1) := by decide +kernel
theorem dX2_next_1 : decode cX2_next 1 = .ok (.getfield 31, 3) := by decide +kernel
theorem dX2_next_4 : decode cX2_next 4 = .ok (.ireturn, 1) := by decide +kernel
theorem dX2_open_0 : decode cX2_open 0 = .ok (.aload_n 0, 1) := by decide +kernel
theorem dX2_open_1 : decode cX2_open 1 = .ok (.getfield 27, 3) := by decide +kernel
theorem dX2_open_4 : decode cX2_open 4 = .ok (.ireturn, 1) := by decide +kernel
theorem dX2_frame_0 : decode cX2_frame 0 = .ok (.iload_n 1, 1) := by decide +kernel
theorem dX2_frame_1 : decode cX2_frame 1 = .ok (.invokestatic 94, 3) := by decide +kernel
theorem dX2_frame_4 : decode cX2_frame 4 = .ok (.ifCond .eq 14, 3) := by decide +kernel
theorem dX2_frame_7 : decode cX2_frame 7 = .ok (.aload_n 0, 1) := by decide +kernel
theorem dX2_frame_8 : decode cX2_frame 8 = .ok (.getfield 19, 3) := by decide +kernel
theorem dX2_frame_11 : decode cX2_frame 11 = .ok (.iload_n 1, 1) := by decide +kernel
theorem dX2_frame_12 : decode cX2_frame 12 = .ok (.invokevirtual 97, 3) := by decide +kernel
theorem dX2_frame_15 : decode cX2_frame 15 = .ok (.goto 4, 3) := by decide +kernel
theorem dX2_frame_18 : decode cX2_frame 18 = .ok (.iconst 0, 1) := by decide +kernel
theorem dX2_frame_19 : decode cX2_frame 19 = .ok (.ireturn, 1) := by decide +kernel
theorem dX2_set_0 : decode cX2_set 0 = .ok (.iload_n 1, 1) := by decide +kernel
theorem dX2_set_1 : decode cX2_set 1 = .ok (.invokestatic 94, 3) := by decide +kernel
theorem dX2_set_4 : decode cX2_set 4 = .ok (.ifCond .ne 5, 3) := by decide +kernel
theorem dX2_set_7 : decode cX2_set 7 = .ok (.iconst 0, 1) := by decide +kernel
theorem dX2_set_8 : decode cX2_set 8 = .ok (.ireturn, 1) := by decide +kernel
theorem dX2_set_9 : decode cX2_set 9 = .ok (.aload_n 0, 1) := by decide +kernel
theorem dX2_set_10 : decode cX2_set 10 = .ok (.getfield 19, 3) := by decide +kernel
theorem dX2_set_13 : decode cX2_set 13 = .ok (.iload_n 1, 1) := by decide +kernel
theorem dX2_set_14 : decode cX2_set 14 = .ok (.iload_n 2, 1) := by decide +kernel
theorem dX2_set_15 : decode cX2_set 15 = .ok (.invokevirtual 100, 3) := by decide +kernel
theorem dX2_set_18 : decode cX2_set 18 = .ok (.iconst 1, 1) := by decide +kernel
theorem dX2_set_19 : decode cX2_set 19 = .ok (.ireturn, 1) := by decide +kernel
theorem dX2_root_0 : decode cX2_root 0 = .ok (.iload_n 1, 1) := by decide +kernel
theorem dX2_root_1 : decode cX2_root 1 = .ok (.ifCond .lt 21, 3) := by decide +kernel
theorem dX2_root_4 : decode cX2_root 4 = .ok (.iload_n 1, 1) := by decide +kernel
theorem dX2_root_5 : decode cX2_root 5 = .ok (.iconst 4, 1) := by decide +kernel
theorem dX2_root_6 : decode cX2_root 6 = .ok (.if_icmp .ge 16, 3) := by decide +kernel
theorem dX2_root_9 : decode cX2_root 9 = .ok (.aload_n 0, 1) := by decide +kernel
theorem dX2_root_10 : decode cX2_root 10 = .ok (.getfield 19, 3) := by decide +kernel
theorem dX2_root_13 : decode cX2_root 13 = .ok (.iconst 4, 1) := by decide +kernel
theorem dX2_root_14 : decode cX2_root 14 = .ok (.iload_n 1, 1) := by decide +kernel
theorem dX2_root_15 : decode cX2_root 15 = .ok (.iadd, 1) := by decide +kernel
theorem dX2_root_16 : decode cX2_root 16 = .ok (.invokevirtual 97, 3) := by decide +kernel
theorem dX2_root_19 : decode cX2_root 19 = .ok (.goto 4, 3) := by decide +kernel
theorem dX2_root_22 : decode cX2_root 22 = .ok (.iconst (-1), 1) := by decide +kernel
theorem dX2_root_23 : decode cX2_root 23 = .ok (.ireturn, 1) := by decide +kernel
theorem dX2_blocks_0 : decode cX2_blocks 0 = .ok (.aload_n 0, 1) := by decide +kernel
theorem dX2_blocks_1 : decode cX2_blocks 1 = .ok (.getfield 19, 3) := by decide +kernel
theorem dX2_blocks_4 : decode cX2_blocks 4 = .ok (.invokevirtual 104, 3) := by decide +kernel
theorem dX2_blocks_7 : decode cX2_blocks 7 = .ok (.ireturn, 1) := by decide +kernel
theorem dX2_count_0 : decode cX2_count 0 = .ok (.aload_n 0, 1) := by decide +kernel
theorem dX2_count_1 : decode cX2_count 1 = .ok (.getfield 19, 3) := by decide +kernel
theorem dX2_count_4 : decode cX2_count 4 = .ok (.iload_n 1, 1) := by decide +kernel
theorem dX2_count_5 : decode cX2_count 5 = .ok (.invokevirtual 107, 3) := by decide +kernel
theorem dX2_count_8 : decode cX2_count 8 = .ok (.ireturn, 1) := by decide +kernel
theorem dX2_typeOf_0 : decode cX2_typeOf 0 = .ok (.aload_n 0, 1) := by decide +kernel
theorem dX2_typeOf_1 : decode cX2_typeOf 1 = .ok (.getfield 19, 3) := by decide +kernel
theorem dX2_typeOf_4 : decode cX2_typeOf 4 = .ok (.iload_n 1, 1) := by decide +kernel
theorem dX2_typeOf_5 : decode cX2_typeOf 5 = .ok (.invokevirtual 110, 3) := by decide +kernel
theorem dX2_typeOf_8 : decode cX2_typeOf 8 = .ok (.ireturn, 1) := by decide +kernel
theorem dX2_word_0 : decode cX2_word 0 = .ok (.aload_n 0, 1) := by decide +kernel
theorem dX2_word_1 : decode cX2_word 1 = .ok (.getfield 19, 3) := by decide +kernel
theorem dX2_word_4 : decode cX2_word 4 = .ok (.iload_n 1, 1) := by decide +kernel
theorem dX2_word_5 : decode cX2_word 5 = .ok (.iload_n 2, 1) := by decide +kernel
theorem dX2_word_6 : decode cX2_word 6 = .ok (.invokevirtual 113, 3) := by decide +kernel
theorem dX2_word_9 : decode cX2_word 9 = .ok (.ifCond .eq 19, 3) := by decide +kernel
theorem dX2_word_12 : decode cX2_word 12 = .ok (.aload_n 0, 1) := by decide +kernel
theorem dX2_word_13 : decode cX2_word 13 = .ok (.getfield 19, 3) := by decide +kernel
theorem dX2_word_16 : decode cX2_word 16 = .ok (.iload_n 1, 1) := by decide +kernel
theorem dX2_word_17 : decode cX2_word 17 = .ok (.iload_n 2, 1) := by decide +kernel
theorem dX2_word_18 : decode cX2_word 18 = .ok (.invokestatic 116, 3) := by decide +kernel
theorem dX2_word_21 : decode cX2_word 21 = .ok (.invokevirtual 97, 3) := by decide +kernel
theorem dX2_word_24 : decode cX2_word 24 = .ok (.i2l, 1) := by decide +kernel
theorem dX2_word_25 : decode cX2_word 25 = .ok (.goto 6, 3) := by decide +kernel
theorem dX2_word_28 : decode cX2_word 28 = .ok (.ldc2_w 120, 3) := by decide +kernel
theorem dX2_word_31 : decode cX2_word 31 = .ok (.lreturn, 1) := by decide +kernel
theorem dX2_given_0 : decode cX2_given 0 = .ok (.aload_n 0, 1) := by decide +kernel
theorem dX2_given_1 : decode cX2_given 1 = .ok (.getfield 19, 3) := by decide +kernel
theorem dX2_given_4 : decode cX2_given 4 = .ok (.invokevirtual 122, 3) := by decide +kernel
theorem dX2_given_7 : decode cX2_given 7 = .ok (.ireturn, 1) := by decide +kernel
theorem dX2_lost_0 : decode cX2_lost 0 = .ok (.aload_n 0, 1) := by decide +kernel
theorem dX2_lost_1 : decode cX2_lost 1 = .ok (.getfield 19, 3) := by decide +kernel
theorem dX2_lost_4 : decode cX2_lost 4 = .ok (.invokevirtual 125, 3) := by decide +kernel
theorem dX2_lost_7 : decode cX2_lost 7 = .ok (.ireturn, 1) := by decide +kernel
theorem dX2_collect_0 : decode cX2_collect 0 = .ok (.aload_n 0, 1) := by decide +kernel
theorem dX2_collect_1 : decode cX2_collect 1 = .ok (.getfield 19, 3) := by decide +kernel
theorem dX2_collect_4 : decode cX2_collect 4 = .ok (.invokevirtual 128, 3) := by decide +kernel
theorem dX2_collect_7 : decode cX2_collect 7 = .ok (.ireturn, 1) := by decide +kernel
theorem dX2_isType_0 : decode cX2_isType 0 = .ok (.iload_n 0, 1) := by decide +kernel
theorem dX2_isType_1 : decode cX2_isType 1 = .ok (.ifCond .lt 12, 3) := by decide +kernel
theorem dX2_isType_4 : decode cX2_isType 4 = .ok (.iload_n 0, 1) := by decide +kernel
theorem dX2_isType_5 : decode cX2_isType 5 = .ok (.iconst 4, 1) := by decide +kernel
theorem dX2_isType_6 : decode cX2_isType 6 = .ok (.if_icmp .ge 7, 3) := by decide +kernel
theorem dX2_isType_9 : decode cX2_isType 9 = .ok (.iconst 1, 1) := by decide +kernel
theorem dX2_isType_10 : decode cX2_isType 10 = .ok (.goto 4, 3) := by decide +kernel
theorem dX2_isType_13 : decode cX2_isType 13 = .ok (.iconst 0, 1) := by decide +kernel
theorem dX2_isType_14 : decode cX2_isType 14 = .ok (.ireturn, 1) := by decide +kernel
theorem dX2_isPlace_0 : decode cX2_isPlace 0 = .ok (.iload_n 0, 1) := by decide +kernel
theorem dX2_isPlace_1 : decode cX2_isPlace 1 = .ok (.ifCond .lt 13, 3) := by decide +kernel
theorem dX2_isPlace_4 : decode cX2_isPlace 4 = .ok (.iload_n 0, 1) := by decide +kernel
theorem dX2_isPlace_5 : decode cX2_isPlace 5 = .ok (.bipush 40, 2) := by decide +kernel
theorem dX2_isPlace_7 : decode cX2_isPlace 7 = .ok (.if_icmp .ge 7, 3) := by decide +kernel
theorem dX2_isPlace_10 : decode cX2_isPlace 10 = .ok (.iconst 1, 1) := by decide +kernel
theorem dX2_isPlace_11 : decode cX2_isPlace 11 = .ok (.goto 4, 3) := by decide +kernel
theorem dX2_isPlace_14 : decode cX2_isPlace 14 = .ok (.iconst 0, 1) := by decide +kernel
theorem dX2_isPlace_15 : decode cX2_isPlace 15 = .ok (.ireturn, 1) := by decide +kernel
theorem dX2_isFrameInt_0 : decode cX2_isFrameInt 0 = .ok (.iload_n 0, 1) := by decide +kernel
theorem dX2_isFrameInt_1 : decode cX2_isFrameInt 1 = .ok (.ifCond .lt 12, 3) := by decide +kernel
theorem dX2_isFrameInt_4 : decode cX2_isFrameInt 4 = .ok (.iload_n 0, 1) := by decide +kernel
theorem dX2_isFrameInt_5 : decode cX2_isFrameInt 5 = .ok (.iconst 4, 1) := by decide +kernel
theorem dX2_isFrameInt_6 : decode cX2_isFrameInt 6 = .ok (.if_icmp .ge 7, 3) := by decide +kernel
theorem dX2_isFrameInt_9 : decode cX2_isFrameInt 9 = .ok (.iconst 1, 1) := by decide +kernel
theorem dX2_isFrameInt_10 : decode cX2_isFrameInt 10 = .ok (.goto 4, 3) := by decide +kernel
theorem dX2_isFrameInt_13 : decode cX2_isFrameInt 13 = .ok (.iconst 0, 1) := by decide +kernel
theorem dX2_isFrameInt_14 : decode cX2_isFrameInt 14 = .ok (.ireturn, 1) := by decide +kernel
theorem dX2_isOperand_0 : decode cX2_isOperand 0 = .ok (.iload_n 0, 1) := by decide +kernel
theorem dX2_isOperand_1 : decode cX2_isOperand 1 = .ok (.ifCond .lt 9, 3) := by decide +kernel
theorem dX2_isOperand_4 : decode cX2_isOperand 4 = .ok (.iload_n 0, 1) := by decide +kernel
theorem dX2_isOperand_5 : decode cX2_isOperand 5 = .ok (.bipush 8, 2) := by decide +kernel
theorem dX2_isOperand_7 : decode cX2_isOperand 7 = .ok (.if_icmp .lt 15, 3) := by decide +kernel
theorem dX2_isOperand_10 : decode cX2_isOperand 10 = .ok (.iload_n 0, 1) := by decide +kernel
theorem dX2_isOperand_11 : decode cX2_isOperand 11 = .ok (.bipush 16, 2) := by decide +kernel
theorem dX2_isOperand_13 : decode cX2_isOperand 13 = .ok (.if_icmp .lt 13, 3) := by decide +kernel
theorem dX2_isOperand_16 : decode cX2_isOperand 16 = .ok (.iload_n 0, 1) := by decide +kernel
theorem dX2_isOperand_17 : decode cX2_isOperand 17 = .ok (.bipush 48, 2) := by decide +kernel
theorem dX2_isOperand_19 : decode cX2_isOperand 19 = .ok (.if_icmp .ge 7, 3) := by decide +kernel
theorem dX2_isOperand_22 : decode cX2_isOperand 22 = .ok (.iconst 1, 1) := by decide +kernel
theorem dX2_isOperand_23 : decode cX2_isOperand 23 = .ok (.goto 4, 3) := by decide +kernel
theorem dX2_isOperand_26 : decode cX2_isOperand 26 = .ok (.iconst 0, 1) := by decide +kernel
theorem dX2_isOperand_27 : decode cX2_isOperand 27 = .ok (.ireturn, 1) := by decide +kernel
theorem dX2_fits_0 : decode cX2_fits 0 = .ok (.iload_n 0, 1) := by decide +kernel
theorem dX2_fits_1 : decode cX2_fits 1 = .ok (.tableswitch 46 1 4 #[31, 31, 36, 41], 31) := by decide +kernel
theorem dX2_fits_32 : decode cX2_fits 32 = .ok (.iload_n 1, 1) := by decide +kernel
theorem dX2_fits_33 : decode cX2_fits 33 = .ok (.invokestatic 131, 3) := by decide +kernel
theorem dX2_fits_36 : decode cX2_fits 36 = .ok (.ireturn, 1) := by decide +kernel
theorem dX2_fits_37 : decode cX2_fits 37 = .ok (.iload_n 1, 1) := by decide +kernel
theorem dX2_fits_38 : decode cX2_fits 38 = .ok (.invokestatic 74, 3) := by decide +kernel
theorem dX2_fits_41 : decode cX2_fits 41 = .ok (.ireturn, 1) := by decide +kernel
theorem dX2_fits_42 : decode cX2_fits 42 = .ok (.iload_n 1, 1) := by decide +kernel
theorem dX2_fits_43 : decode cX2_fits 43 = .ok (.invokestatic 34, 3) := by decide +kernel
theorem dX2_fits_46 : decode cX2_fits 46 = .ok (.ireturn, 1) := by decide +kernel
theorem dX2_fits_47 : decode cX2_fits 47 = .ok (.iconst 1, 1) := by decide +kernel
theorem dX2_fits_48 : decode cX2_fits 48 = .ok (.ireturn, 1) := by decide +kernel
theorem dX2_goTo_0 : decode cX2_goTo 0 = .ok (.aload_n 0, 1) := by decide +kernel
theorem dX2_goTo_1 : decode cX2_goTo 1 = .ok (.iload_n 1, 1) := by decide +kernel
theorem dX2_goTo_2 : decode cX2_goTo 2 = .ok (.putfield 31, 3) := by decide +kernel
theorem dX2_goTo_5 : decode cX2_goTo 5 = .ok (.aload_n 0, 1) := by decide +kernel
theorem dX2_goTo_6 : decode cX2_goTo 6 = .ok (.iconst 0, 1) := by decide +kernel
theorem dX2_goTo_7 : decode cX2_goTo 7 = .ok (.putfield 27, 3) := by decide +kernel
theorem dX2_goTo_10 : decode cX2_goTo 10 = .ok (.return_, 1) := by decide +kernel
theorem dX2_doInstruction_0 : decode cX2_doInstruction 0 = .ok (.aload_n 0, 1) := by decide +kernel
theorem dX2_doInstruction_1 : decode cX2_doInstruction 1 = .ok (.getfield 12, 3) := by decide +kernel
theorem dX2_doInstruction_4 : decode cX2_doInstruction 4 = .ok (.iload_n 1, 1) := by decide +kernel
theorem dX2_doInstruction_5 : decode cX2_doInstruction 5 = .ok (.invokevirtual 87, 3) := by decide +kernel
theorem dX2_doInstruction_8 : decode cX2_doInstruction 8 = .ok (.istore_n 2, 1) := by decide +kernel
theorem dX2_doInstruction_9 : decode cX2_doInstruction 9 = .ok (.aload_n 0, 1) := by decide +kernel
theorem dX2_doInstruction_10 : decode cX2_doInstruction 10 = .ok (.getfield 12, 3) := by decide +kernel
theorem dX2_doInstruction_13 : decode cX2_doInstruction 13 = .ok (.iload_n 1, 1) := by decide +kernel
theorem dX2_doInstruction_14 : decode cX2_doInstruction 14 = .ok (.invokevirtual 134, 3) := by decide +kernel
theorem dX2_doInstruction_17 : decode cX2_doInstruction 17 = .ok (.istore_n 3, 1) := by decide +kernel
theorem dX2_doInstruction_18 : decode cX2_doInstruction 18 = .ok (.aload_n 0, 1) := by decide +kernel
theorem dX2_doInstruction_19 : decode cX2_doInstruction 19 = .ok (.getfield 12, 3) := by decide +kernel
theorem dX2_doInstruction_22 : decode cX2_doInstruction 22 = .ok (.iload_n 1, 1) := by decide +kernel
theorem dX2_doInstruction_23 : decode cX2_doInstruction 23 = .ok (.invokevirtual 137, 3) := by decide +kernel
theorem dX2_doInstruction_26 : decode cX2_doInstruction 26 = .ok (.istore 4, 2) := by decide +kernel
theorem dX2_doInstruction_28 : decode cX2_doInstruction 28 = .ok (.aload_n 0, 1) := by decide +kernel
theorem dX2_doInstruction_29 : decode cX2_doInstruction 29 = .ok (.getfield 12, 3) := by decide +kernel
theorem dX2_doInstruction_32 : decode cX2_doInstruction 32 = .ok (.iload_n 1, 1) := by decide +kernel
theorem dX2_doInstruction_33 : decode cX2_doInstruction 33 = .ok (.invokevirtual 140, 3) := by decide +kernel
theorem dX2_doInstruction_36 : decode cX2_doInstruction 36 = .ok (.istore 5, 2) := by decide +kernel
theorem dX2_doInstruction_38 : decode cX2_doInstruction 38 = .ok (.aload_n 0, 1) := by decide +kernel
theorem dX2_doInstruction_39 : decode cX2_doInstruction 39 = .ok (.getstatic 45, 3) := by decide +kernel
theorem dX2_doInstruction_42 : decode cX2_doInstruction 42 = .ok (.iload_n 2, 1) := by decide +kernel
theorem dX2_doInstruction_43 : decode cX2_doInstruction 43 = .ok (.iaload, 1) := by decide +kernel
theorem dX2_doInstruction_44 : decode cX2_doInstruction 44 = .ok (.iload_n 3, 1) := by decide +kernel
theorem dX2_doInstruction_45 : decode cX2_doInstruction 45 = .ok (.invokevirtual 143, 3) := by decide +kernel
theorem dX2_doInstruction_48 : decode cX2_doInstruction 48 = .ok (.aload_n 0, 1) := by decide +kernel
theorem dX2_doInstruction_49 : decode cX2_doInstruction 49 = .ok (.getstatic 52, 3) := by decide +kernel
theorem dX2_doInstruction_52 : decode cX2_doInstruction 52 = .ok (.iload_n 2, 1) := by decide +kernel
theorem dX2_doInstruction_53 : decode cX2_doInstruction 53 = .ok (.iaload, 1) := by decide +kernel
theorem dX2_doInstruction_54 : decode cX2_doInstruction 54 = .ok (.iload 4, 2) := by decide +kernel
theorem dX2_doInstruction_56 : decode cX2_doInstruction 56 = .ok (.invokevirtual 143, 3) := by decide +kernel
theorem dX2_doInstruction_59 : decode cX2_doInstruction 59 = .ok (.aload_n 0, 1) := by decide +kernel
theorem dX2_doInstruction_60 : decode cX2_doInstruction 60 = .ok (.getstatic 55, 3) := by decide +kernel
theorem dX2_doInstruction_63 : decode cX2_doInstruction 63 = .ok (.iload_n 2, 1) := by decide +kernel
theorem dX2_doInstruction_64 : decode cX2_doInstruction 64 = .ok (.iaload, 1) := by decide +kernel
theorem dX2_doInstruction_65 : decode cX2_doInstruction 65 = .ok (.iload 5, 2) := by decide +kernel
theorem dX2_doInstruction_67 : decode cX2_doInstruction 67 = .ok (.invokevirtual 143, 3) := by decide +kernel
theorem dX2_doInstruction_70 : decode cX2_doInstruction 70 = .ok (.aload_n 0, 1) := by decide +kernel
theorem dX2_doInstruction_71 : decode cX2_doInstruction 71 = .ok (.iload_n 2, 1) := by decide +kernel
theorem dX2_doInstruction_72 : decode cX2_doInstruction 72 = .ok (.invokevirtual 146, 3) := by decide +kernel
theorem dX2_doInstruction_75 : decode cX2_doInstruction 75 = .ok (.getstatic 45, 3) := by decide +kernel
theorem dX2_doInstruction_78 : decode cX2_doInstruction 78 = .ok (.iload_n 2, 1) := by decide +kernel
theorem dX2_doInstruction_79 : decode cX2_doInstruction 79 = .ok (.iaload, 1) := by decide +kernel
theorem dX2_doInstruction_80 : decode cX2_doInstruction 80 = .ok (.iconst 1, 1) := by decide +kernel
theorem dX2_doInstruction_81 : decode cX2_doInstruction 81 = .ok (.if_icmp .ne 30, 3) := by decide +kernel
theorem dX2_doInstruction_84 : decode cX2_doInstruction 84 = .ok (.aload_n 0, 1) := by decide +kernel
theorem dX2_doInstruction_85 : decode cX2_doInstruction 85 = .ok (.getfield 19, 3) := by decide +kernel
theorem dX2_doInstruction_88 : decode cX2_doInstruction 88 = .ok (.aload_n 0, 1) := by decide +kernel
