theorem dX0_dropPointer_27 : decode cX0_dropPointer 27 = .ok (.aload_n 0, 1) := by decide +kernel
theorem dX0_dropPointer_28 : decode cX0_dropPointer 28 = .ok (.getfield 34, 3) := by decide +kernel
theorem dX0_dropPointer_31 : decode cX0_dropPointer 31 = .ok (.iload_n 2, 1) := by decide +kernel
theorem dX0_dropPointer_32 : decode cX0_dropPointer 32 = .ok (.iaload, 1) := by decide +kernel
theorem dX0_dropPointer_33 : decode cX0_dropPointer 33 = .ok (.invokevirtual 82, 3) := by decide +kernel
theorem dX0_dropPointer_36 : decode cX0_dropPointer 36 = .ok (.iinc 2 1, 3) := by decide +kernel
theorem dX0_dropPointer_39 : decode cX0_dropPointer 39 = .ok (.goto (-27), 3) := by decide +kernel
theorem dX0_dropPointer_42 : decode cX0_dropPointer 42 = .ok (.return_, 1) := by decide +kernel
theorem dX0_dropPointersOf_0 : decode cX0_dropPointersOf 0 = .ok (.iconst 0, 1) := by decide +kernel
theorem dX0_dropPointersOf_1 : decode cX0_dropPointersOf 1 = .ok (.istore_n 2, 1) := by decide +kernel
theorem dX0_dropPointersOf_2 : decode cX0_dropPointersOf 2 = .ok (.iload_n 2, 1) := by decide +kernel
theorem dX0_dropPointersOf_3 : decode cX0_dropPointersOf 3 = .ok (.bipush 6, 2) := by decide +kernel
theorem dX0_dropPointersOf_8 : decode cX0_dropPointersOf 8 = .ok (.aload_n 0, 1) := by decide +kernel
theorem dX0_dropPointersOf_11 : decode cX0_dropPointersOf 11 = .ok (.invokevirtual 69, 3) := by decide +kernel
theorem dX0_dropPointersOf_14 : decode cX0_dropPointersOf 14 = .ok (.ifCond .eq 17, 3) := by decide +kernel
theorem dX0_dropPointersOf_17 : decode cX0_dropPointersOf 17 = .ok (.aload_n 0, 1) := by decide +kernel
theorem dX0_dropPointersOf_18 : decode cX0_dropPointersOf 18 = .ok (.aload_n 0, 1) := by decide +kernel
theorem dX0_dropPointersOf_22 : decode cX0_dropPointersOf 22 = .ok (.iload_n 1, 1) := by decide +kernel
theorem dX0_dropPointersOf_27 : decode cX0_dropPointersOf 27 = .ok (.iaload, 1) := by decide +kernel
theorem dX0_dropPointersOf_28 : decode cX0_dropPointersOf 28 = .ok (.invokevirtual 79, 3) := by decide +kernel
theorem dX0_dropPointersOf_31 : decode cX0_dropPointersOf 31 = .ok (.iinc 2 1, 3) := by decide +kernel
theorem dX0_dropPointersOf_37 : decode cX0_dropPointersOf 37 = .ok (.return_, 1) := by decide +kernel
theorem dX0_countLess_0 : decode cX0_countLess 0 = .ok (.aload_n 0, 1) := by decide +kernel
theorem dX0_countLess_1 : decode cX0_countLess 1 = .ok (.iload_n 1, 1) := by decide +kernel
theorem dX0_countLess_2 : decode cX0_countLess 2 = .ok (.invokevirtual 62, 3) := by decide +kernel
theorem dX0_countLess_5 : decode cX0_countLess 5 = .ok (.ifCond .ne 4, 3) := by decide +kernel
theorem dX0_countLess_8 : decode cX0_countLess 8 = .ok (.return_, 1) := by decide +kernel
theorem dX0_countLess_9 : decode cX0_countLess 9 = .ok (.aload_n 0, 1) := by decide +kernel
theorem dX0_countLess_10 : decode cX0_countLess 10 = .ok (.getfield 28, 3) := by decide +kernel
theorem dX0_countLess_13 : decode cX0_countLess 13 = .ok (.iload_n 1, 1) := by decide +kernel
theorem dX0_countLess_14 : decode cX0_countLess 14 = .ok (.dup2, 1) := by decide +kernel
theorem dX0_countLess_15 : decode cX0_countLess 15 = .ok (.iaload, 1) := by decide +kernel
theorem dX0_countLess_16 : decode cX0_countLess 16 = .ok (.iconst 1, 1) := by decide +kernel
theorem dX0_countLess_17 : decode cX0_countLess 17 = .ok (.isub, 1) := by decide +kernel
theorem dX0_countLess_18 : decode cX0_countLess 18 = .ok (.iastore, 1) := by decide +kernel
theorem dX0_countLess_19 : decode cX0_countLess 19 = .ok (.aload_n 0, 1) := by decide +kernel
theorem dX0_countLess_20 : decode cX0_countLess 20 = .ok (.getfield 28, 3) := by decide +kernel
theorem dX0_countLess_23 : decode cX0_countLess 23 = .ok (.iload_n 1, 1) := by decide +kernel
theorem dX0_countLess_24 : decode cX0_countLess 24 = .ok (.iaload, 1) := by decide +kernel
theorem dX0_countLess_25 : decode cX0_countLess 25 = .ok (.ifCond .ne 13, 3) := by decide +kernel
theorem dX0_countLess_28 : decode cX0_countLess 28 = .ok (.aload_n 0, 1) := by decide +kernel
theorem dX0_countLess_29 : decode cX0_countLess 29 = .ok (.iload_n 1, 1) := by decide +kernel
theorem dX0_countLess_30 : decode cX0_countLess 30 = .ok (.invokevirtual 85, 3) := by decide +kernel
theorem dX0_countLess_33 : decode cX0_countLess 33 = .ok (.aload_n 0, 1) := by decide +kernel
theorem dX0_countLess_34 : decode cX0_countLess 34 = .ok (.iload_n 1, 1) := by decide +kernel
theorem dX0_countLess_35 : decode cX0_countLess 35 = .ok (.invokevirtual 88, 3) := by decide +kernel
theorem dX0_countLess_38 : decode cX0_countLess 38 = .ok (.return_, 1) := by decide +kernel
theorem dX0_giveBack_0 : decode cX0_giveBack 0 = .ok (.aload_n 0, 1) := by decide +kernel
theorem dX0_giveBack_1 : decode cX0_giveBack 1 = .ok (.getfield 21, 3) := by decide +kernel
theorem dX0_giveBack_4 : decode cX0_giveBack 4 = .ok (.iload_n 1, 1) := by decide +kernel
theorem dX0_giveBack_5 : decode cX0_giveBack 5 = .ok (.iconst 0, 1) := by decide +kernel
theorem dX0_giveBack_6 : decode cX0_giveBack 6 = .ok (.bastore, 1) := by decide +kernel
theorem dX0_giveBack_7 : decode cX0_giveBack 7 = .ok (.aload_n 0, 1) := by decide +kernel
theorem dX0_giveBack_8 : decode cX0_giveBack 8 = .ok (.dup, 1) := by decide +kernel
theorem dX0_giveBack_9 : decode cX0_giveBack 9 = .ok (.getfield 41, 3) := by decide +kernel
theorem dX0_giveBack_12 : decode cX0_giveBack 12 = .ok (.iconst 1, 1) := by decide +kernel
theorem dX0_giveBack_13 : decode cX0_giveBack 13 = .ok (.isub, 1) := by decide +kernel
theorem dX0_giveBack_14 : decode cX0_giveBack 14 = .ok (.putfield 41, 3) := by decide +kernel
theorem dX0_giveBack_17 : decode cX0_giveBack 17 = .ok (.aload_n 0, 1) := by decide +kernel
theorem dX0_giveBack_18 : decode cX0_giveBack 18 = .ok (.dup, 1) := by decide +kernel
theorem dX0_giveBack_19 : decode cX0_giveBack 19 = .ok (.getfield 44, 3) := by decide +kernel
theorem dX0_giveBack_22 : decode cX0_giveBack 22 = .ok (.iconst 1, 1) := by decide +kernel
theorem dX0_giveBack_23 : decode cX0_giveBack 23 = .ok (.iadd, 1) := by decide +kernel
theorem dX0_giveBack_24 : decode cX0_giveBack 24 = .ok (.putfield 44, 3) := by decide +kernel
theorem dX0_giveBack_27 : decode cX0_giveBack 27 = .ok (.return_, 1) := by decide +kernel
theorem dX0_enqueue_0 : decode cX0_enqueue 0 = .ok (.aload_n 0, 1) := by decide +kernel
theorem dX0_enqueue_1 : decode cX0_enqueue 1 = .ok (.getfield 37, 3) := by decide +kernel
theorem dX0_enqueue_4 : decode cX0_enqueue 4 = .ok (.bipush 24, 2) := by decide +kernel
theorem dX0_enqueue_6 : decode cX0_enqueue 6 = .ok (.if_icmp .ge 23, 3) := by decide +kernel
theorem dX0_enqueue_9 : decode cX0_enqueue 9 = .ok (.aload_n 0, 1) := by decide +kernel
theorem dX0_enqueue_10 : decode cX0_enqueue 10 = .ok (.getfield 34, 3) := by decide +kernel
theorem dX0_enqueue_13 : decode cX0_enqueue 13 = .ok (.aload_n 0, 1) := by decide +kernel
theorem dX0_enqueue_14 : decode cX0_enqueue 14 = .ok (.getfield 37, 3) := by decide +kernel
theorem dX0_enqueue_17 : decode cX0_enqueue 17 = .ok (.iload_n 1, 1) := by decide +kernel
theorem dX0_enqueue_18 : decode cX0_enqueue 18 = .ok (.iastore, 1) := by decide +kernel
theorem dX0_enqueue_19 : decode cX0_enqueue 19 = .ok (.aload_n 0, 1) := by decide +kernel
theorem dX0_enqueue_20 : decode cX0_enqueue 20 = .ok (.dup, 1) := by decide +kernel
theorem dX0_enqueue_21 : decode cX0_enqueue 21 = .ok (.getfield 37, 3) := by decide +kernel
theorem dX0_enqueue_24 : decode cX0_enqueue 24 = .ok (.iconst 1, 1) := by decide +kernel
theorem dX0_enqueue_25 : decode cX0_enqueue 25 = .ok (.iadd, 1) := by decide +kernel
theorem dX0_enqueue_26 : decode cX0_enqueue 26 = .ok (.putfield 37, 3) := by decide +kernel
theorem dX0_enqueue_29 : decode cX0_enqueue 29 = .ok (.return_, 1) := by decide +kernel
theorem dX0_findLost_0 : decode cX0_findLost 0 = .ok (.aload_n 0, 1) := by decide +kernel
theorem dX0_findLost_1 : decode cX0_findLost 1 = .ok (.iconst 0, 1) := by decide +kernel
theorem dX0_findLost_2 : decode cX0_findLost 2 = .ok (.putfield 37, 3) := by decide +kernel
theorem dX0_findLost_5 : decode cX0_findLost 5 = .ok (.iconst 1, 1) := by decide +kernel
theorem dX0_findLost_6 : decode cX0_findLost 6 = .ok (.istore_n 1, 1) := by decide +kernel
theorem dX0_findLost_7 : decode cX0_findLost 7 = .ok (.iload_n 1, 1) := by decide +kernel
theorem dX0_findLost_8 : decode cX0_findLost 8 = .ok (.bipush 24, 2) := by decide +kernel
theorem dX0_findLost_10 : decode cX0_findLost 10 = .ok (.if_icmp .gt 16, 3) := by decide +kernel
theorem dX0_findLost_13 : decode cX0_findLost 13 = .ok (.aload_n 0, 1) := by decide +kernel
theorem dX0_findLost_14 : decode cX0_findLost 14 = .ok (.getfield 31, 3) := by decide +kernel
theorem dX0_findLost_17 : decode cX0_findLost 17 = .ok (.iload_n 1, 1) := by decide +kernel
theorem dX0_findLost_18 : decode cX0_findLost 18 = .ok (.iconst 0, 1) := by decide +kernel
theorem dX0_findLost_19 : decode cX0_findLost 19 = .ok (.bastore, 1) := by decide +kernel
theorem dX0_findLost_20 : decode cX0_findLost 20 = .ok (.iinc 1 1, 3) := by decide +kernel
theorem dX0_findLost_23 : decode cX0_findLost 23 = .ok (.goto (-16), 3) := by decide +kernel
theorem dX0_findLost_26 : decode cX0_findLost 26 = .ok (.iconst 0, 1) := by decide +kernel
theorem dX0_findLost_27 : decode cX0_findLost 27 = .ok (.istore_n 1, 1) := by decide +kernel
theorem dX0_findLost_28 : decode cX0_findLost 28 = .ok (.iload_n 1, 1) := by decide +kernel
theorem dX0_findLost_29 : decode cX0_findLost 29 = .ok (.iconst 4, 1) := by decide +kernel
theorem dX0_findLost_30 : decode cX0_findLost 30 = .ok (.if_icmp .ge 21, 3) := by decide +kernel
theorem dX0_findLost_33 : decode cX0_findLost 33 = .ok (.aload_n 0, 1) := by decide +kernel
theorem dX0_findLost_34 : decode cX0_findLost 34 = .ok (.aload_n 0, 1) := by decide +kernel
theorem dX0_findLost_35 : decode cX0_findLost 35 = .ok (.getfield 18, 3) := by decide +kernel
theorem dX0_findLost_38 : decode cX0_findLost 38 = .ok (.iconst 4, 1) := by decide +kernel
theorem dX0_findLost_39 : decode cX0_findLost 39 = .ok (.iload_n 1, 1) := by decide +kernel
theorem dX0_findLost_40 : decode cX0_findLost 40 = .ok (.iadd, 1) := by decide +kernel
theorem dX0_findLost_41 : decode cX0_findLost 41 = .ok (.iaload, 1) := by decide +kernel
theorem dX0_findLost_42 : decode cX0_findLost 42 = .ok (.invokevirtual 91, 3) := by decide +kernel
theorem dX0_findLost_45 : decode cX0_findLost 45 = .ok (.iinc 1 1, 3) := by decide +kernel
theorem dX0_findLost_48 : decode cX0_findLost 48 = .ok (.goto (-20), 3) := by decide +kernel
theorem dX0_findLost_51 : decode cX0_findLost 51 = .ok (.iconst 0, 1) := by decide +kernel
theorem dX0_findLost_52 : decode cX0_findLost 52 = .ok (.istore_n 1, 1) := by decide +kernel
theorem dX0_findLost_53 : decode cX0_findLost 53 = .ok (.iload_n 1, 1) := by decide +kernel
theorem dX0_findLost_54 : decode cX0_findLost 54 = .ok (.aload_n 0, 1) := by decide +kernel
theorem dX0_findLost_55 : decode cX0_findLost 55 = .ok (.getfield 37, 3) := by decide +kernel
theorem dX0_findLost_58 : decode cX0_findLost 58 = .ok (.if_icmp .ge 25, 3) := by decide +kernel
theorem dX0_findLost_61 : decode cX0_findLost 61 = .ok (.iload_n 1, 1) := by decide +kernel
theorem dX0_findLost_62 : decode cX0_findLost 62 = .ok (.bipush 24, 2) := by decide +kernel
theorem dX0_findLost_64 : decode cX0_findLost 64 = .ok (.if_icmp .ge 19, 3) := by decide +kernel
theorem dX0_findLost_67 : decode cX0_findLost 67 = .ok (.aload_n 0, 1) := by decide +kernel
theorem dX0_findLost_68 : decode cX0_findLost 68 = .ok (.aload_n 0, 1) := by decide +kernel
theorem dX0_findLost_69 : decode cX0_findLost 69 = .ok (.getfield 34, 3) := by decide +kernel
theorem dX0_findLost_72 : decode cX0_findLost 72 = .ok (.iload_n 1, 1) := by decide +kernel
theorem dX0_findLost_73 : decode cX0_findLost 73 = .ok (.iaload, 1) := by decide +kernel
theorem dX0_findLost_74 : decode cX0_findLost 74 = .ok (.invokevirtual 94, 3) := by decide +kernel
theorem dX0_findLost_77 : decode cX0_findLost 77 = .ok (.iinc 1 1, 3) := by decide +kernel
theorem dX0_findLost_80 : decode cX0_findLost 80 = .ok (.goto (-27), 3) := by decide +kernel
theorem dX0_findLost_83 : decode cX0_findLost 83 = .ok (.aload_n 0, 1) := by decide +kernel
theorem dX0_findLost_84 : decode cX0_findLost 84 = .ok (.getfield 41, 3) := by decide +kernel
theorem dX0_findLost_87 : decode cX0_findLost 87 = .ok (.aload_n 0, 1) := by decide +kernel
theorem dX0_findLost_88 : decode cX0_findLost 88 = .ok (.getfield 37, 3) := by decide +kernel
theorem dX0_findLost_91 : decode cX0_findLost 91 = .ok (.isub, 1) := by decide +kernel
theorem dX0_findLost_92 : decode cX0_findLost 92 = .ok (.ireturn, 1) := by decide +kernel
theorem dX0_reachPointersOf_0 : decode cX0_reachPointersOf 0 = .ok (.iconst 0, 1) := by decide +kernel
theorem dX0_reachPointersOf_1 : decode cX0_reachPointersOf 1 = .ok (.istore_n 2, 1) := by decide +kernel
theorem dX0_reachPointersOf_2 : decode cX0_reachPointersOf 2 = .ok (.iload_n 2, 1) := by decide +kernel
theorem dX0_reachPointersOf_3 : decode cX0_reachPointersOf 3 = .ok (.bipush 6, 2) := by decide +kernel
theorem dX0_reachPointersOf_5 : decode cX0_reachPointersOf 5 = .ok (.if_icmp .ge 32, 3) := by decide +kernel
theorem dX0_reachPointersOf_8 : decode cX0_reachPointersOf 8 = .ok (.aload_n 0, 1) := by decide +kernel
theorem dX0_reachPointersOf_9 : decode cX0_reachPointersOf 9 = .ok (.iload_n 1, 1) := by decide +kernel
theorem dX0_reachPointersOf_10 : decode cX0_reachPointersOf 10 = .ok (.iload_n 2, 1) := by decide +kernel
theorem dX0_reachPointersOf_11 : decode cX0_reachPointersOf 11 = .ok (.invokevirtual 58, 3) := by decide +kernel
theorem dX0_reachPointersOf_14 : decode cX0_reachPointersOf 14 = .ok (.ifCond .eq 17, 3) := by decide +kernel
theorem dX0_reachPointersOf_17 : decode cX0_reachPointersOf 17 = .ok (.aload_n 0, 1) := by decide +kernel
theorem dX0_reachPointersOf_18 : decode cX0_reachPointersOf 18 = .ok (.aload_n 0, 1) := by decide +kernel
theorem dX0_reachPointersOf_19 : decode cX0_reachPointersOf 19 = .ok (.getfield 18, 3) := by decide +kernel
theorem dX0_reachPointersOf_22 : decode cX0_reachPointersOf 22 = .ok (.iload_n 1, 1) := by decide +kernel
theorem dX0_reachPointersOf_23 : decode cX0_reachPointersOf 23 = .ok (.iload_n 2, 1) := by decide +kernel
theorem dX0_reachPointersOf_24 : decode cX0_reachPointersOf 24 = .ok (.invokestatic 54, 3) := by decide +kernel
theorem dX0_reachPointersOf_27 : decode cX0_reachPointersOf 27 = .ok (.iaload, 1) := by decide +kernel
theorem dX0_reachPointersOf_28 : decode cX0_reachPointersOf 28 = .ok (.invokevirtual 91, 3) := by decide +kernel
theorem dX0_reachPointersOf_31 : decode cX0_reachPointersOf 31 = .ok (.iinc 2 1, 3) := by decide +kernel
theorem dX0_reachPointersOf_34 : decode cX0_reachPointersOf 34 = .ok (.goto (-32), 3) := by decide +kernel
theorem dX0_reachPointersOf_37 : decode cX0_reachPointersOf 37 = .ok (.return_, 1) := by decide +kernel
theorem dX0_reach_0 : decode cX0_reach 0 = .ok (.aload_n 0, 1) := by decide +kernel
theorem dX0_reach_1 : decode cX0_reach 1 = .ok (.iload_n 1, 1) := by decide +kernel
theorem dX0_reach_2 : decode cX0_reach 2 = .ok (.invokevirtual 62, 3) := by decide +kernel
theorem dX0_reach_5 : decode cX0_reach 5 = .ok (.ifCond .eq 24, 3) := by decide +kernel
theorem dX0_reach_8 : decode cX0_reach 8 = .ok (.aload_n 0, 1) := by decide +kernel
theorem dX0_reach_9 : decode cX0_reach 9 = .ok (.getfield 31, 3) := by decide +kernel
theorem dX0_reach_12 : decode cX0_reach 12 = .ok (.iload_n 1, 1) := by decide +kernel
theorem dX0_reach_13 : decode cX0_reach 13 = .ok (.baload, 1) := by decide +kernel
theorem dX0_reach_14 : decode cX0_reach 14 = .ok (.ifCond .ne 15, 3) := by decide +kernel
theorem dX0_reach_17 : decode cX0_reach 17 = .ok (.aload_n 0, 1) := by decide +kernel
theorem dX0_reach_18 : decode cX0_reach 18 = .ok (.getfield 31, 3) := by decide +kernel
theorem dX0_reach_21 : decode cX0_reach 21 = .ok (.iload_n 1, 1) := by decide +kernel
theorem dX0_reach_22 : decode cX0_reach 22 = .ok (.iconst 1, 1) := by decide +kernel
theorem dX0_reach_23 : decode cX0_reach 23 = .ok (.bastore, 1) := by decide +kernel
theorem dX0_reach_24 : decode cX0_reach 24 = .ok (.aload_n 0, 1) := by decide +kernel
theorem dX0_reach_25 : decode cX0_reach 25 = .ok (.iload_n 1, 1) := by decide +kernel
theorem dX0_reach_26 : decode cX0_reach 26 = .ok (.invokevirtual 88, 3) := by decide +kernel
theorem dX0_reach_29 : decode cX0_reach 29 = .ok (.return_, 1) := by decide +kernel
theorem dX0_giveBackLost_0 : decode cX0_giveBackLost 0 = .ok (.aload_n 0, 1) := by decide +kernel
theorem dX0_giveBackLost_1 : decode cX0_giveBackLost 1 = .ok (.invokevirtual 97, 3) := by decide +kernel
theorem dX0_giveBackLost_4 : decode cX0_giveBackLost 4 = .ok (.istore_n 1, 1) := by decide +kernel
theorem dX0_giveBackLost_5 : decode cX0_giveBackLost 5 = .ok (.iconst 1, 1) := by decide +kernel
theorem dX0_giveBackLost_6 : decode cX0_giveBackLost 6 = .ok (.istore_n 2, 1) := by decide +kernel
theorem dX0_giveBackLost_7 : decode cX0_giveBackLost 7 = .ok (.iload_n 2, 1) := by decide +kernel
theorem dX0_giveBackLost_8 : decode cX0_giveBackLost 8 = .ok (.bipush 24, 2) := by decide +kernel
theorem dX0_giveBackLost_10 : decode cX0_giveBackLost 10 = .ok (.if_icmp .gt 37, 3) := by decide +kernel
theorem dX0_giveBackLost_13 : decode cX0_giveBackLost 13 = .ok (.aload_n 0, 1) := by decide +kernel
theorem dX0_giveBackLost_14 : decode cX0_giveBackLost 14 = .ok (.getfield 21, 3) := by decide +kernel
theorem dX0_giveBackLost_17 : decode cX0_giveBackLost 17 = .ok (.iload_n 2, 1) := by decide +kernel
theorem dX0_giveBackLost_18 : decode cX0_giveBackLost 18 = .ok (.baload, 1) := by decide +kernel
theorem dX0_giveBackLost_19 : decode cX0_giveBackLost 19 = .ok (.ifCond .eq 22, 3) := by decide +kernel
theorem dX0_giveBackLost_22 : decode cX0_giveBackLost 22 = .ok (.aload_n 0, 1) := by decide +kernel
theorem dX0_giveBackLost_23 : decode cX0_giveBackLost 23 = .ok (.getfield 31, 3) := by decide +kernel
theorem dX0_giveBackLost_26 : decode cX0_giveBackLost 26 = .ok (.iload_n 2, 1) := by decide +kernel
theorem dX0_giveBackLost_27 : decode cX0_giveBackLost 27 = .ok (.baload, 1) := by decide +kernel
theorem dX0_giveBackLost_28 : decode cX0_giveBackLost 28 = .ok (.ifCond .ne 13, 3) := by decide +kernel
theorem dX0_giveBackLost_31 : decode cX0_giveBackLost 31 = .ok (.aload_n 0, 1) := by decide +kernel
theorem dX0_giveBackLost_32 : decode cX0_giveBackLost 32 = .ok (.iload_n 2, 1) := by decide +kernel
theorem dX0_giveBackLost_33 : decode cX0_giveBackLost 33 = .ok (.invokevirtual 101, 3) := by decide +kernel
theorem dX0_giveBackLost_36 : decode cX0_giveBackLost 36 = .ok (.aload_n 0, 1) := by decide +kernel
theorem dX0_giveBackLost_37 : decode cX0_giveBackLost 37 = .ok (.iload_n 2, 1) := by decide +kernel
theorem dX0_giveBackLost_38 : decode cX0_giveBackLost 38 = .ok (.invokevirtual 85, 3) := by decide +kernel
theorem dX0_giveBackLost_41 : decode cX0_giveBackLost 41 = .ok (.iinc 2 1, 3) := by decide +kernel
theorem dX0_giveBackLost_44 : decode cX0_giveBackLost 44 = .ok (.goto (-37), 3) := by decide +kernel
theorem dX0_giveBackLost_47 : decode cX0_giveBackLost 47 = .ok (.iload_n 1, 1) := by decide +kernel
theorem dX0_giveBackLost_48 : decode cX0_giveBackLost 48 = .ok (.ireturn, 1) := by decide +kernel
theorem dX0_takeOffCountsOf_0 : decode cX0_takeOffCountsOf 0 = .ok (.iconst 0, 1) := by decide +kernel
theorem dX0_takeOffCountsOf_1 : decode cX0_takeOffCountsOf 1 = .ok (.istore_n 2, 1) := by decide +kernel
theorem dX0_takeOffCountsOf_2 : decode cX0_takeOffCountsOf 2 = .ok (.iload_n 2, 1) := by decide +kernel
theorem dX0_takeOffCountsOf_3 : decode cX0_takeOffCountsOf 3 = .ok (.bipush 6, 2) := by decide +kernel
theorem dX0_takeOffCountsOf_5 : decode cX0_takeOffCountsOf 5 = .ok (.if_icmp .ge 56, 3) := by decide +kernel
theorem dX0_takeOffCountsOf_8 : decode cX0_takeOffCountsOf 8 = .ok (.aload_n 0, 1) := by decide +kernel
theorem dX0_takeOffCountsOf_9 : decode cX0_takeOffCountsOf 9 = .ok (.iload_n 1, 1) := by decide +kernel
theorem dX0_takeOffCountsOf_10 : decode cX0_takeOffCountsOf 10 = .ok (.iload_n 2, 1) := by decide +kernel
theorem dX0_takeOffCountsOf_11 : decode cX0_takeOffCountsOf 11 = .ok (.invokevirtual 58, 3) := by decide +kernel
theorem dX0_takeOffCountsOf_14 : decode cX0_takeOffCountsOf 14 = .ok (.ifCond .eq 41, 3) := by decide +kernel
theorem dX0_takeOffCountsOf_17 : decode cX0_takeOffCountsOf 17 = .ok (.aload_n 0, 1) := by decide +kernel
theorem dX0_takeOffCountsOf_18 : decode cX0_takeOffCountsOf 18 = .ok (.getfield 18, 3) := by decide +kernel
theorem dX0_takeOffCountsOf_21 : decode cX0_takeOffCountsOf 21 = .ok (.iload_n 1, 1) := by decide +kernel
theorem dX0_takeOffCountsOf_22 : decode cX0_takeOffCountsOf 22 = .ok (.iload_n 2, 1) := by decide +kernel
theorem dX0_takeOffCountsOf_23 : decode cX0_takeOffCountsOf 23 = .ok (.invokestatic 54, 3) := by decide +kernel
theorem dX0_takeOffCountsOf_26 : decode cX0_takeOffCountsOf 26 = .ok (.iaload, 1) := by decide +kernel
theorem dX0_takeOffCountsOf_27 : decode cX0_takeOffCountsOf 27 = .ok (.istore_n 3, 1) := by decide +kernel
theorem dX0_takeOffCountsOf_28 : decode cX0_takeOffCountsOf 28 = .ok (.aload_n 0, 1) := by decide +kernel
theorem dX0_takeOffCountsOf_29 : decode cX0_takeOffCountsOf 29 = .ok (.iload_n 3, 1) := by decide +kernel
theorem dX0_takeOffCountsOf_30 : decode cX0_takeOffCountsOf 30 = .ok (.invokevirtual 62, 3) := by decide +kernel
theorem dX0_takeOffCountsOf_33 : decode cX0_takeOffCountsOf 33 = .ok (.ifCond .eq 22, 3) := by decide +kernel
theorem dX0_takeOffCountsOf_36 : decode cX0_takeOffCountsOf 36 = .ok (.aload_n 0, 1) := by decide +kernel
theorem dX0_takeOffCountsOf_37 : decode cX0_takeOffCountsOf 37 = .ok (.getfield 31, 3) := by decide +kernel
theorem dX0_takeOffCountsOf_40 : decode cX0_takeOffCountsOf 40 = .ok (.iload_n 3, 1) := by decide +kernel
theorem dX0_takeOffCountsOf_41 : decode cX0_takeOffCountsOf 41 = .ok (.baload, 1) := by decide +kernel
theorem dX0_takeOffCountsOf_42 : decode cX0_takeOffCountsOf 42 = .ok (.ifCond .eq 13, 3) := by decide +kernel
theorem dX0_takeOffCountsOf_45 : decode cX0_takeOffCountsOf 45 = .ok (.aload_n 0, 1) := by decide +kernel
theorem dX0_takeOffCountsOf_46 : decode cX0_takeOffCountsOf 46 = .ok (.getfield 28, 3) := by decide +kernel
theorem dX0_takeOffCountsOf_49 : decode cX0_takeOffCountsOf 49 = .ok (.iload_n 3, 1) := by decide +kernel
theorem dX0_takeOffCountsOf_50 : decode cX0_takeOffCountsOf 50 = .ok (.dup2, 1) := by decide +kernel
theorem dX0_takeOffCountsOf_51 : decode cX0_takeOffCountsOf 51 = .ok (.iaload, 1) := by decide +kernel
theorem dX0_takeOffCountsOf_52 : decode cX0_takeOffCountsOf 52 = .ok (.iconst 1, 1) := by decide +kernel
theorem dX0_takeOffCountsOf_53 : decode cX0_takeOffCountsOf 53 = .ok (.isub, 1) := by decide +kernel
theorem dX0_takeOffCountsOf_54 : decode cX0_takeOffCountsOf 54 = .ok (.iastore, 1) := by decide +kernel
theorem dX0_takeOffCountsOf_55 : decode cX0_takeOffCountsOf 55 = .ok (.iinc 2 1, 3) := by decide +kernel
theorem dX0_takeOffCountsOf_58 : decode cX0_takeOffCountsOf 58 = .ok (.goto (-56), 3) := by decide +kernel
theorem dX0_takeOffCountsOf_61 : decode cX0_takeOffCountsOf 61 = .ok (.return_, 1) := by decide +kernel
