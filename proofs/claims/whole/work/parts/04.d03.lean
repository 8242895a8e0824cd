theorem dX0_isPointerWord_11 : decode cX0_isPointerWord 11 = .ok (.iload_n 2, 1) := by decide +kernel
theorem dX0_isPointerWord_12 : decode cX0_isPointerWord 12 = .ok (.invokevirtual 69, 3) := by decide +kernel
theorem dX0_isPointerWord_15 : decode cX0_isPointerWord 15 = .ok (.ifCond .eq 7, 3) := by decide +kernel
theorem dX0_isMapped_0 : decode cX0_isMapped 0 = .ok (.aload_n 0, 1) := by decide +kernel
theorem dX0_isMapped_1 : decode cX0_isMapped 1 = .ok (.getfield 15, 3) := by decide +kernel
theorem dX0_isMapped_4 : decode cX0_isMapped 4 = .ok (.aload_n 0, 1) := by decide +kernel
theorem dX0_isMapped_5 : decode cX0_isMapped 5 = .ok (.getfield 25, 3) := by decide +kernel
theorem dX0_isMapped_8 : decode cX0_isMapped 8 = .ok (.iload_n 1, 1) := by decide +kernel
theorem dX0_isMapped_9 : decode cX0_isMapped 9 = .ok (.iaload, 1) := by decide +kernel
theorem dX0_isMapped_10 : decode cX0_isMapped 10 = .ok (.iaload, 1) := by decide +kernel
theorem dX0_isMapped_11 : decode cX0_isMapped 11 = .ok (.iload_n 2, 1) := by decide +kernel
theorem dX0_isMapped_12 : decode cX0_isMapped 12 = .ok (.ishr, 1) := by decide +kernel
theorem dX0_isMapped_13 : decode cX0_isMapped 13 = .ok (.iconst 1, 1) := by decide +kernel
theorem dX0_isMapped_14 : decode cX0_isMapped 14 = .ok (.iand, 1) := by decide +kernel
theorem dX0_isMapped_15 : decode cX0_isMapped 15 = .ok (.iconst 1, 1) := by decide +kernel
theorem dX0_isMapped_16 : decode cX0_isMapped 16 = .ok (.if_icmp .ne 7, 3) := by decide +kernel
theorem dX0_isMapped_19 : decode cX0_isMapped 19 = .ok (.iconst 1, 1) := by decide +kernel
theorem dX0_isMapped_20 : decode cX0_isMapped 20 = .ok (.goto 4, 3) := by decide +kernel
theorem dX0_isMapped_23 : decode cX0_isMapped 23 = .ok (.iconst 0, 1) := by decide +kernel
theorem dX0_isMapped_24 : decode cX0_isMapped 24 = .ok (.ireturn, 1) := by decide +kernel
theorem dX0_dropPointersOf_5 : decode cX0_dropPointersOf 5 = .ok (.if_icmp .ge 32, 3) := by decide +kernel
theorem dX0_dropPointersOf_9 : decode cX0_dropPointersOf 9 = .ok (.iload_n 1, 1) := by decide +kernel
theorem dX0_dropPointersOf_10 : decode cX0_dropPointersOf 10 = .ok (.iload_n 2, 1) := by decide +kernel
theorem dX0_dropPointersOf_19 : decode cX0_dropPointersOf 19 = .ok (.getfield 18, 3) := by decide +kernel
theorem dX0_dropPointersOf_23 : decode cX0_dropPointersOf 23 = .ok (.iload_n 2, 1) := by decide +kernel
theorem dX0_dropPointersOf_24 : decode cX0_dropPointersOf 24 = .ok (.invokestatic 54, 3) := by decide +kernel
theorem dX0_dropPointersOf_34 : decode cX0_dropPointersOf 34 = .ok (.goto (-32), 3) := by decide +kernel
theorem dX1_init_0 : decode cX1_init 0 = .ok (.aload_n 0, 1) := by decide +kernel
theorem dX1_init_1 : decode cX1_init 1 = .ok (.invokespecial 3, 3) := by decide +kernel
theorem dX1_init_4 : decode cX1_init 4 = .ok (.aload_n 0, 1) := by decide +kernel
theorem dX1_init_5 : decode cX1_init 5 = .ok (.bipush 40, 2) := by decide +kernel
theorem dX1_init_7 : decode cX1_init 7 = .ok (.newarray .int, 2) := by decide +kernel
theorem dX1_init_9 : decode cX1_init 9 = .ok (.putfield 9, 3) := by decide +kernel
theorem dX1_init_12 : decode cX1_init 12 = .ok (.aload_n 0, 1) := by decide +kernel
theorem dX1_init_13 : decode cX1_init 13 = .ok (.bipush 40, 2) := by decide +kernel
theorem dX1_init_15 : decode cX1_init 15 = .ok (.newarray .int, 2) := by decide +kernel
theorem dX1_init_17 : decode cX1_init 17 = .ok (.putfield 15, 3) := by decide +kernel
theorem dX1_init_20 : decode cX1_init 20 = .ok (.aload_n 0, 1) := by decide +kernel
theorem dX1_init_21 : decode cX1_init 21 = .ok (.bipush 40, 2) := by decide +kernel
theorem dX1_init_23 : decode cX1_init 23 = .ok (.newarray .int, 2) := by decide +kernel
theorem dX1_init_25 : decode cX1_init 25 = .ok (.putfield 18, 3) := by decide +kernel
theorem dX1_init_28 : decode cX1_init 28 = .ok (.aload_n 0, 1) := by decide +kernel
theorem dX1_init_29 : decode cX1_init 29 = .ok (.bipush 40, 2) := by decide +kernel
theorem dX1_init_31 : decode cX1_init 31 = .ok (.newarray .int, 2) := by decide +kernel
theorem dX1_init_33 : decode cX1_init 33 = .ok (.putfield 21, 3) := by decide +kernel
theorem dX1_init_36 : decode cX1_init 36 = .ok (.aload_n 0, 1) := by decide +kernel
theorem dX1_init_37 : decode cX1_init 37 = .ok (.iconst 0, 1) := by decide +kernel
theorem dX1_init_38 : decode cX1_init 38 = .ok (.putfield 24, 3) := by decide +kernel
theorem dX1_init_41 : decode cX1_init 41 = .ok (.return_, 1) := by decide +kernel
theorem dX1_isFull_0 : decode cX1_isFull 0 = .ok (.aload_n 0, 1) := by decide +kernel
theorem dX1_isFull_1 : decode cX1_isFull 1 = .ok (.getfield 24, 3) := by decide +kernel
theorem dX1_isFull_4 : decode cX1_isFull 4 = .ok (.bipush 40, 2) := by decide +kernel
theorem dX1_isFull_6 : decode cX1_isFull 6 = .ok (.if_icmp .lt 7, 3) := by decide +kernel
theorem dX1_isFull_9 : decode cX1_isFull 9 = .ok (.iconst 1, 1) := by decide +kernel
theorem dX1_isFull_10 : decode cX1_isFull 10 = .ok (.goto 4, 3) := by decide +kernel
theorem dX1_isFull_13 : decode cX1_isFull 13 = .ok (.iconst 0, 1) := by decide +kernel
theorem dX1_isFull_14 : decode cX1_isFull 14 = .ok (.ireturn, 1) := by decide +kernel
theorem dX1_has_0 : decode cX1_has 0 = .ok (.iload_n 1, 1) := by decide +kernel
theorem dX1_has_1 : decode cX1_has 1 = .ok (.ifCond .lt 15, 3) := by decide +kernel
theorem dX1_has_4 : decode cX1_has 4 = .ok (.iload_n 1, 1) := by decide +kernel
theorem dX1_has_5 : decode cX1_has 5 = .ok (.aload_n 0, 1) := by decide +kernel
theorem dX1_has_6 : decode cX1_has 6 = .ok (.getfield 24, 3) := by decide +kernel
theorem dX1_has_9 : decode cX1_has 9 = .ok (.if_icmp .ge 7, 3) := by decide +kernel
theorem dX1_has_12 : decode cX1_has 12 = .ok (.iconst 1, 1) := by decide +kernel
theorem dX1_has_13 : decode cX1_has 13 = .ok (.goto 4, 3) := by decide +kernel
theorem dX1_has_16 : decode cX1_has 16 = .ok (.iconst 0, 1) := by decide +kernel
theorem dX1_has_17 : decode cX1_has 17 = .ok (.ireturn, 1) := by decide +kernel
theorem dX1_append_0 : decode cX1_append 0 = .ok (.aload_n 0, 1) := by decide +kernel
theorem dX1_append_1 : decode cX1_append 1 = .ok (.getfield 24, 3) := by decide +kernel
theorem dX1_append_4 : decode cX1_append 4 = .ok (.istore 5, 2) := by decide +kernel
theorem dX1_append_6 : decode cX1_append 6 = .ok (.aload_n 0, 1) := by decide +kernel
theorem dX1_append_7 : decode cX1_append 7 = .ok (.getfield 9, 3) := by decide +kernel
theorem dX1_append_10 : decode cX1_append 10 = .ok (.iload 5, 2) := by decide +kernel
theorem dX1_append_12 : decode cX1_append 12 = .ok (.iload_n 1, 1) := by decide +kernel
theorem dX1_append_13 : decode cX1_append 13 = .ok (.iastore, 1) := by decide +kernel
theorem dX1_append_14 : decode cX1_append 14 = .ok (.aload_n 0, 1) := by decide +kernel
theorem dX1_append_15 : decode cX1_append 15 = .ok (.getfield 15, 3) := by decide +kernel
theorem dX1_append_18 : decode cX1_append 18 = .ok (.iload 5, 2) := by decide +kernel
theorem dX1_append_20 : decode cX1_append 20 = .ok (.iload_n 2, 1) := by decide +kernel
theorem dX1_append_21 : decode cX1_append 21 = .ok (.iastore, 1) := by decide +kernel
theorem dX1_append_22 : decode cX1_append 22 = .ok (.aload_n 0, 1) := by decide +kernel
theorem dX1_append_23 : decode cX1_append 23 = .ok (.getfield 18, 3) := by decide +kernel
theorem dX1_append_26 : decode cX1_append 26 = .ok (.iload 5, 2) := by decide +kernel
theorem dX1_append_28 : decode cX1_append 28 = .ok (.iload_n 3, 1) := by decide +kernel
theorem dX1_append_29 : decode cX1_append 29 = .ok (.iastore, 1) := by decide +kernel
theorem dX1_append_30 : decode cX1_append 30 = .ok (.aload_n 0, 1) := by decide +kernel
theorem dX1_append_31 : decode cX1_append 31 = .ok (.getfield 21, 3) := by decide +kernel
theorem dX1_append_34 : decode cX1_append 34 = .ok (.iload 5, 2) := by decide +kernel
theorem dX1_append_36 : decode cX1_append 36 = .ok (.iload 4, 2) := by decide +kernel
theorem dX1_append_38 : decode cX1_append 38 = .ok (.iastore, 1) := by decide +kernel
theorem dX1_append_39 : decode cX1_append 39 = .ok (.aload_n 0, 1) := by decide +kernel
theorem dX1_append_40 : decode cX1_append 40 = .ok (.dup, 1) := by decide +kernel
theorem dX1_append_41 : decode cX1_append 41 = .ok (.getfield 24, 3) := by decide +kernel
theorem dX1_append_44 : decode cX1_append 44 = .ok (.iconst 1, 1) := by decide +kernel
theorem dX1_append_45 : decode cX1_append 45 = .ok (.iadd, 1) := by decide +kernel
theorem dX1_append_46 : decode cX1_append 46 = .ok (.putfield 24, 3) := by decide +kernel
theorem dX1_append_49 : decode cX1_append 49 = .ok (.iload 5, 2) := by decide +kernel
theorem dX1_append_51 : decode cX1_append 51 = .ok (.ireturn, 1) := by decide +kernel
theorem dX1_removeAll_0 : decode cX1_removeAll 0 = .ok (.aload_n 0, 1) := by decide +kernel
theorem dX1_removeAll_1 : decode cX1_removeAll 1 = .ok (.getfield 24, 3) := by decide +kernel
theorem dX1_removeAll_4 : decode cX1_removeAll 4 = .ok (.istore_n 1, 1) := by decide +kernel
theorem dX1_removeAll_5 : decode cX1_removeAll 5 = .ok (.aload_n 0, 1) := by decide +kernel
theorem dX1_removeAll_6 : decode cX1_removeAll 6 = .ok (.iconst 0, 1) := by decide +kernel
theorem dX1_removeAll_7 : decode cX1_removeAll 7 = .ok (.putfield 24, 3) := by decide +kernel
theorem dX1_removeAll_10 : decode cX1_removeAll 10 = .ok (.iload_n 1, 1) := by decide +kernel
theorem dX1_removeAll_11 : decode cX1_removeAll 11 = .ok (.ireturn, 1) := by decide +kernel
theorem dX1_opAt_0 : decode cX1_opAt 0 = .ok (.aload_n 0, 1) := by decide +kernel
theorem dX1_opAt_1 : decode cX1_opAt 1 = .ok (.getfield 9, 3) := by decide +kernel
theorem dX1_opAt_4 : decode cX1_opAt 4 = .ok (.iload_n 1, 1) := by decide +kernel
theorem dX1_opAt_5 : decode cX1_opAt 5 = .ok (.iaload, 1) := by decide +kernel
theorem dX1_opAt_6 : decode cX1_opAt 6 = .ok (.ireturn, 1) := by decide +kernel
theorem dX1_xAt_0 : decode cX1_xAt 0 = .ok (.aload_n 0, 1) := by decide +kernel
theorem dX1_xAt_1 : decode cX1_xAt 1 = .ok (.getfield 15, 3) := by decide +kernel
theorem dX1_xAt_4 : decode cX1_xAt 4 = .ok (.iload_n 1, 1) := by decide +kernel
theorem dX1_xAt_5 : decode cX1_xAt 5 = .ok (.iaload, 1) := by decide +kernel
theorem dX1_xAt_6 : decode cX1_xAt 6 = .ok (.ireturn, 1) := by decide +kernel
theorem dX1_yAt_0 : decode cX1_yAt 0 = .ok (.aload_n 0, 1) := by decide +kernel
theorem dX1_yAt_1 : decode cX1_yAt 1 = .ok (.getfield 18, 3) := by decide +kernel
theorem dX1_yAt_4 : decode cX1_yAt 4 = .ok (.iload_n 1, 1) := by decide +kernel
theorem dX1_yAt_5 : decode cX1_yAt 5 = .ok (.iaload, 1) := by decide +kernel
theorem dX1_yAt_6 : decode cX1_yAt 6 = .ok (.ireturn, 1) := by decide +kernel
theorem dX1_zAt_0 : decode cX1_zAt 0 = .ok (.aload_n 0, 1) := by decide +kernel
theorem dX1_zAt_1 : decode cX1_zAt 1 = .ok (.getfield 21, 3) := by decide +kernel
theorem dX1_zAt_4 : decode cX1_zAt 4 = .ok (.iload_n 1, 1) := by decide +kernel
theorem dX1_zAt_5 : decode cX1_zAt 5 = .ok (.iaload, 1) := by decide +kernel
theorem dX1_zAt_6 : decode cX1_zAt 6 = .ok (.ireturn, 1) := by decide +kernel
