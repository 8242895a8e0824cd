theorem dX3_read_50 : decode cX3_read 50 = .ok (.getfield 82, 3) := by decide +kernel
theorem dX3_read_53 : decode cX3_read 53 = .ok (.iadd, 1) := by decide +kernel
theorem dX3_read_54 : decode cX3_read 54 = .ok (.iaload, 1) := by decide +kernel
theorem dX3_read_55 : decode cX3_read 55 = .ok (.ireturn, 1) := by decide +kernel
theorem dX3_write_0 : decode cX3_write 0 = .ok (.aload_n 0, 1) := by decide +kernel
theorem dX3_write_1 : decode cX3_write 1 = .ok (.iload_n 1, 1) := by decide +kernel
theorem dX3_write_2 : decode cX3_write 2 = .ok (.iconst 1, 1) := by decide +kernel
theorem dX3_write_3 : decode cX3_write 3 = .ok (.invokevirtual 85, 3) := by decide +kernel
theorem dX3_write_6 : decode cX3_write 6 = .ok (.istore_n 3, 1) := by decide +kernel
theorem dX3_write_7 : decode cX3_write 7 = .ok (.aload_n 0, 1) := by decide +kernel
theorem dX3_write_8 : decode cX3_write 8 = .ok (.getfield 79, 3) := by decide +kernel
theorem dX3_write_11 : decode cX3_write 11 = .ok (.iconst (-1), 1) := by decide +kernel
theorem dX3_write_12 : decode cX3_write 12 = .ok (.if_icmp .eq 24, 3) := by decide +kernel
theorem dX3_write_15 : decode cX3_write 15 = .ok (.aload_n 0, 1) := by decide +kernel
theorem dX3_write_16 : decode cX3_write 16 = .ok (.getfield 31, 3) := by decide +kernel
theorem dX3_write_19 : decode cX3_write 19 = .ok (.bipush 6, 2) := by decide +kernel
theorem dX3_write_21 : decode cX3_write 21 = .ok (.aload_n 0, 1) := by decide +kernel
theorem dX3_write_22 : decode cX3_write 22 = .ok (.getfield 79, 3) := by decide +kernel
theorem dX3_write_25 : decode cX3_write 25 = .ok (.imul, 1) := by decide +kernel
theorem dX3_write_26 : decode cX3_write 26 = .ok (.aload_n 0, 1) := by decide +kernel
theorem dX3_write_27 : decode cX3_write 27 = .ok (.getfield 82, 3) := by decide +kernel
theorem dX3_write_30 : decode cX3_write 30 = .ok (.iadd, 1) := by decide +kernel
theorem dX3_write_31 : decode cX3_write 31 = .ok (.iload_n 2, 1) := by decide +kernel
theorem dX3_write_32 : decode cX3_write 32 = .ok (.iastore, 1) := by decide +kernel
theorem dX3_write_33 : decode cX3_write 33 = .ok (.goto 27, 3) := by decide +kernel
theorem dX3_write_36 : decode cX3_write 36 = .ok (.iload_n 1, 1) := by decide +kernel
theorem dX3_write_37 : decode cX3_write 37 = .ok (.iconst 4, 1) := by decide +kernel
theorem dX3_write_38 : decode cX3_write 38 = .ok (.if_icmp .ge 13, 3) := by decide +kernel
theorem dX3_write_41 : decode cX3_write 41 = .ok (.aload_n 0, 1) := by decide +kernel
theorem dX3_write_42 : decode cX3_write 42 = .ok (.getfield 22, 3) := by decide +kernel
theorem dX3_write_45 : decode cX3_write 45 = .ok (.iload_n 1, 1) := by decide +kernel
theorem dX3_write_46 : decode cX3_write 46 = .ok (.iload_n 2, 1) := by decide +kernel
theorem dX3_write_47 : decode cX3_write 47 = .ok (.iastore, 1) := by decide +kernel
theorem dX3_write_48 : decode cX3_write 48 = .ok (.goto 12, 3) := by decide +kernel
theorem dX3_write_51 : decode cX3_write 51 = .ok (.aload_n 0, 1) := by decide +kernel
theorem dX3_write_52 : decode cX3_write 52 = .ok (.getfield 25, 3) := by decide +kernel
theorem dX3_write_55 : decode cX3_write 55 = .ok (.iload_n 1, 1) := by decide +kernel
theorem dX3_write_56 : decode cX3_write 56 = .ok (.iconst 4, 1) := by decide +kernel
theorem dX3_write_57 : decode cX3_write 57 = .ok (.isub, 1) := by decide +kernel
theorem dX3_write_58 : decode cX3_write 58 = .ok (.iload_n 2, 1) := by decide +kernel
theorem dX3_write_59 : decode cX3_write 59 = .ok (.iastore, 1) := by decide +kernel
theorem dX3_write_60 : decode cX3_write 60 = .ok (.return_, 1) := by decide +kernel
theorem dX3_fault_0 : decode cX3_fault 0 = .ok (.aload_n 0, 1) := by decide +kernel
theorem dX3_fault_1 : decode cX3_fault 1 = .ok (.getfield 16, 3) := by decide +kernel
theorem dX3_fault_4 : decode cX3_fault 4 = .ok (.iconst 4, 1) := by decide +kernel
theorem dX3_fault_5 : decode cX3_fault 5 = .ok (.iload_n 1, 1) := by decide +kernel
theorem dX3_fault_6 : decode cX3_fault 6 = .ok (.imul, 1) := by decide +kernel
theorem dX3_fault_7 : decode cX3_fault 7 = .ok (.iaload, 1) := by decide +kernel
theorem dX3_fault_8 : decode cX3_fault 8 = .ok (.istore_n 2, 1) := by decide +kernel
theorem dX3_fault_9 : decode cX3_fault 9 = .ok (.iconst 0, 1) := by decide +kernel
theorem dX3_fault_10 : decode cX3_fault 10 = .ok (.istore_n 3, 1) := by decide +kernel
theorem dX3_fault_11 : decode cX3_fault 11 = .ok (.iload_n 3, 1) := by decide +kernel
theorem dX3_fault_12 : decode cX3_fault 12 = .ok (.iconst 3, 1) := by decide +kernel
theorem dX3_fault_13 : decode cX3_fault 13 = .ok (.if_icmp .ge 60, 3) := by decide +kernel
theorem dX3_fault_16 : decode cX3_fault 16 = .ok (.iload_n 2, 1) := by decide +kernel
theorem dX3_fault_17 : decode cX3_fault 17 = .ok (.iload_n 3, 1) := by decide +kernel
theorem dX3_fault_18 : decode cX3_fault 18 = .ok (.invokestatic 49, 3) := by decide +kernel
theorem dX3_fault_21 : decode cX3_fault 21 = .ok (.istore 4, 2) := by decide +kernel
theorem dX3_fault_23 : decode cX3_fault 23 = .ok (.iload 4, 2) := by decide +kernel
theorem dX3_fault_25 : decode cX3_fault 25 = .ok (.iconst 1, 1) := by decide +kernel
theorem dX3_fault_26 : decode cX3_fault 26 = .ok (.if_icmp .eq 9, 3) := by decide +kernel
theorem dX3_fault_29 : decode cX3_fault 29 = .ok (.iload 4, 2) := by decide +kernel
theorem dX3_fault_31 : decode cX3_fault 31 = .ok (.iconst 2, 1) := by decide +kernel
theorem dX3_fault_32 : decode cX3_fault 32 = .ok (.if_icmp .ne 24, 3) := by decide +kernel
theorem dX3_fault_35 : decode cX3_fault 35 = .ok (.aload_n 0, 1) := by decide +kernel
theorem dX3_fault_36 : decode cX3_fault 36 = .ok (.aload_n 0, 1) := by decide +kernel
theorem dX3_fault_37 : decode cX3_fault 37 = .ok (.getfield 16, 3) := by decide +kernel
theorem dX3_fault_40 : decode cX3_fault 40 = .ok (.iconst 4, 1) := by decide +kernel
theorem dX3_fault_41 : decode cX3_fault 41 = .ok (.iload_n 1, 1) := by decide +kernel
theorem dX3_fault_42 : decode cX3_fault 42 = .ok (.imul, 1) := by decide +kernel
theorem dX3_fault_43 : decode cX3_fault 43 = .ok (.iconst 1, 1) := by decide +kernel
theorem dX3_fault_44 : decode cX3_fault 44 = .ok (.iadd, 1) := by decide +kernel
theorem dX3_fault_45 : decode cX3_fault 45 = .ok (.iload_n 3, 1) := by decide +kernel
theorem dX3_fault_46 : decode cX3_fault 46 = .ok (.iadd, 1) := by decide +kernel
theorem dX3_fault_47 : decode cX3_fault 47 = .ok (.iaload, 1) := by decide +kernel
theorem dX3_fault_48 : decode cX3_fault 48 = .ok (.iload 4, 2) := by decide +kernel
theorem dX3_fault_50 : decode cX3_fault 50 = .ok (.invokevirtual 85, 3) := by decide +kernel
theorem dX3_fault_53 : decode cX3_fault 53 = .ok (.goto 4, 3) := by decide +kernel
theorem dX3_fault_56 : decode cX3_fault 56 = .ok (.iconst 0, 1) := by decide +kernel
theorem dX3_fault_57 : decode cX3_fault 57 = .ok (.istore 5, 2) := by decide +kernel
theorem dX3_fault_59 : decode cX3_fault 59 = .ok (.iload 5, 2) := by decide +kernel
theorem dX3_fault_61 : decode cX3_fault 61 = .ok (.ifCond .le 6, 3) := by decide +kernel
theorem dX3_fault_64 : decode cX3_fault 64 = .ok (.iload 5, 2) := by decide +kernel
theorem dX3_fault_66 : decode cX3_fault 66 = .ok (.ireturn, 1) := by decide +kernel
theorem dX3_fault_67 : decode cX3_fault 67 = .ok (.iinc 3 1, 3) := by decide +kernel
theorem dX3_fault_70 : decode cX3_fault 70 = .ok (.goto (-59), 3) := by decide +kernel
theorem dX3_fault_73 : decode cX3_fault 73 = .ok (.iload_n 2, 1) := by decide +kernel
theorem dX3_fault_74 : decode cX3_fault 74 = .ok (.bipush 9, 2) := by decide +kernel
theorem dX3_fault_76 : decode cX3_fault 76 = .ok (.if_icmp .ne 10, 3) := by decide +kernel
theorem dX3_fault_79 : decode cX3_fault 79 = .ok (.aload_n 0, 1) := by decide +kernel
theorem dX3_fault_80 : decode cX3_fault 80 = .ok (.invokevirtual 88, 3) := by decide +kernel
theorem dX3_fault_83 : decode cX3_fault 83 = .ok (.ifCond .eq 18, 3) := by decide +kernel
theorem dX3_fault_86 : decode cX3_fault 86 = .ok (.iload_n 2, 1) := by decide +kernel
theorem dX3_fault_87 : decode cX3_fault 87 = .ok (.bipush 13, 2) := by decide +kernel
theorem dX3_fault_89 : decode cX3_fault 89 = .ok (.if_icmp .ne 14, 3) := by decide +kernel
theorem dX3_fault_92 : decode cX3_fault 92 = .ok (.aload_n 0, 1) := by decide +kernel
theorem dX3_fault_93 : decode cX3_fault 93 = .ok (.getfield 66, 3) := by decide +kernel
theorem dX3_fault_96 : decode cX3_fault 96 = .ok (.bipush 8, 2) := by decide +kernel
theorem dX3_fault_98 : decode cX3_fault 98 = .ok (.if_icmp .ne 5, 3) := by decide +kernel
theorem dX3_fault_101 : decode cX3_fault 101 = .ok (.iconst 4, 1) := by decide +kernel
theorem dX3_fault_102 : decode cX3_fault 102 = .ok (.ireturn, 1) := by decide +kernel
theorem dX3_fault_103 : decode cX3_fault 103 = .ok (.iload_n 2, 1) := by decide +kernel
theorem dX3_fault_104 : decode cX3_fault 104 = .ok (.bipush 14, 2) := by decide +kernel
theorem dX3_fault_106 : decode cX3_fault 106 = .ok (.if_icmp .ne 14, 3) := by decide +kernel
theorem dX3_fault_109 : decode cX3_fault 109 = .ok (.aload_n 0, 1) := by decide +kernel
theorem dX3_fault_110 : decode cX3_fault 110 = .ok (.getfield 66, 3) := by decide +kernel
theorem dX3_fault_113 : decode cX3_fault 113 = .ok (.ifCond .ne 7, 3) := by decide +kernel
theorem dX3_fault_116 : decode cX3_fault 116 = .ok (.iconst 1, 1) := by decide +kernel
theorem dX3_fault_117 : decode cX3_fault 117 = .ok (.goto 4, 3) := by decide +kernel
theorem dX3_fault_120 : decode cX3_fault 120 = .ok (.iconst 0, 1) := by decide +kernel
theorem dX3_fault_121 : decode cX3_fault 121 = .ok (.ireturn, 1) := by decide +kernel
theorem dX3_free_0 : decode cX3_free 0 = .ok (.iconst 1, 1) := by decide +kernel
theorem dX3_free_1 : decode cX3_free 1 = .ok (.istore_n 1, 1) := by decide +kernel
theorem dX3_free_2 : decode cX3_free 2 = .ok (.iload_n 1, 1) := by decide +kernel
theorem dX3_free_3 : decode cX3_free 3 = .ok (.bipush 25, 2) := by decide +kernel
theorem dX3_free_5 : decode cX3_free 5 = .ok (.if_icmp .ge 20, 3) := by decide +kernel
theorem dX3_free_8 : decode cX3_free 8 = .ok (.aload_n 0, 1) := by decide +kernel
theorem dX3_free_9 : decode cX3_free 9 = .ok (.getfield 28, 3) := by decide +kernel
theorem dX3_free_12 : decode cX3_free 12 = .ok (.iload_n 1, 1) := by decide +kernel
theorem dX3_free_13 : decode cX3_free 13 = .ok (.iaload, 1) := by decide +kernel
theorem dX3_free_14 : decode cX3_free 14 = .ok (.ifCond .ge 5, 3) := by decide +kernel
theorem dX3_free_17 : decode cX3_free 17 = .ok (.iload_n 1, 1) := by decide +kernel
theorem dX3_free_18 : decode cX3_free 18 = .ok (.ireturn, 1) := by decide +kernel
theorem dX3_free_19 : decode cX3_free 19 = .ok (.iinc 1 1, 3) := by decide +kernel
theorem dX3_free_22 : decode cX3_free 22 = .ok (.goto (-20), 3) := by decide +kernel
theorem dX3_free_25 : decode cX3_free 25 = .ok (.iconst 0, 1) := by decide +kernel
theorem dX3_free_26 : decode cX3_free 26 = .ok (.ireturn, 1) := by decide +kernel
theorem dX3_value_0 : decode cX3_value 0 = .ok (.iload_n 0, 1) := by decide +kernel
theorem dX3_value_1 : decode cX3_value 1 = .ok (.iconst 3, 1) := by decide +kernel
theorem dX3_value_2 : decode cX3_value 2 = .ok (.if_icmp .ne 9, 3) := by decide +kernel
theorem dX3_value_5 : decode cX3_value 5 = .ok (.iload_n 1, 1) := by decide +kernel
theorem dX3_value_6 : decode cX3_value 6 = .ok (.iload_n 2, 1) := by decide +kernel
theorem dX3_value_7 : decode cX3_value 7 = .ok (.iadd, 1) := by decide +kernel
theorem dX3_value_8 : decode cX3_value 8 = .ok (.goto 54, 3) := by decide +kernel
theorem dX3_value_11 : decode cX3_value 11 = .ok (.iload_n 0, 1) := by decide +kernel
theorem dX3_value_12 : decode cX3_value 12 = .ok (.iconst 4, 1) := by decide +kernel
theorem dX3_value_13 : decode cX3_value 13 = .ok (.if_icmp .ne 9, 3) := by decide +kernel
theorem dX3_value_16 : decode cX3_value 16 = .ok (.iload_n 1, 1) := by decide +kernel
theorem dX3_value_17 : decode cX3_value 17 = .ok (.iload_n 2, 1) := by decide +kernel
theorem dX3_value_18 : decode cX3_value 18 = .ok (.isub, 1) := by decide +kernel
theorem dX3_value_19 : decode cX3_value 19 = .ok (.goto 43, 3) := by decide +kernel
theorem dX3_value_22 : decode cX3_value 22 = .ok (.iload_n 0, 1) := by decide +kernel
theorem dX3_value_23 : decode cX3_value 23 = .ok (.iconst 5, 1) := by decide +kernel
theorem dX3_value_24 : decode cX3_value 24 = .ok (.if_icmp .ne 9, 3) := by decide +kernel
theorem dX3_value_27 : decode cX3_value 27 = .ok (.iload_n 1, 1) := by decide +kernel
theorem dX3_value_28 : decode cX3_value 28 = .ok (.iload_n 2, 1) := by decide +kernel
theorem dX3_value_29 : decode cX3_value 29 = .ok (.imul, 1) := by decide +kernel
theorem dX3_value_30 : decode cX3_value 30 = .ok (.goto 32, 3) := by decide +kernel
theorem dX3_value_33 : decode cX3_value 33 = .ok (.iload_n 0, 1) := by decide +kernel
theorem dX3_value_34 : decode cX3_value 34 = .ok (.bipush 6, 2) := by decide +kernel
theorem dX3_value_36 : decode cX3_value 36 = .ok (.if_icmp .ne 16, 3) := by decide +kernel
theorem dX3_value_39 : decode cX3_value 39 = .ok (.iload_n 1, 1) := by decide +kernel
theorem dX3_value_40 : decode cX3_value 40 = .ok (.iload_n 2, 1) := by decide +kernel
theorem dX3_value_41 : decode cX3_value 41 = .ok (.if_icmp .ge 7, 3) := by decide +kernel
theorem dX3_value_44 : decode cX3_value 44 = .ok (.iconst 1, 1) := by decide +kernel
theorem dX3_value_45 : decode cX3_value 45 = .ok (.goto 17, 3) := by decide +kernel
theorem dX3_value_48 : decode cX3_value 48 = .ok (.iconst 0, 1) := by decide +kernel
theorem dX3_value_49 : decode cX3_value 49 = .ok (.goto 13, 3) := by decide +kernel
theorem dX3_value_52 : decode cX3_value 52 = .ok (.iload_n 1, 1) := by decide +kernel
theorem dX3_value_53 : decode cX3_value 53 = .ok (.iload_n 2, 1) := by decide +kernel
theorem dX3_value_54 : decode cX3_value 54 = .ok (.if_icmp .ne 7, 3) := by decide +kernel
theorem dX3_value_57 : decode cX3_value 57 = .ok (.iconst 1, 1) := by decide +kernel
theorem dX3_value_58 : decode cX3_value 58 = .ok (.goto 4, 3) := by decide +kernel
theorem dX3_value_61 : decode cX3_value 61 = .ok (.iconst 0, 1) := by decide +kernel
theorem dX3_value_62 : decode cX3_value 62 = .ok (.ireturn, 1) := by decide +kernel
theorem dX3_act_0 : decode cX3_act 0 = .ok (.aload_n 0, 1) := by decide +kernel
theorem dX3_act_1 : decode cX3_act 1 = .ok (.getfield 16, 3) := by decide +kernel
theorem dX3_act_4 : decode cX3_act 4 = .ok (.iconst 4, 1) := by decide +kernel
theorem dX3_act_5 : decode cX3_act 5 = .ok (.iload_n 1, 1) := by decide +kernel
theorem dX3_act_6 : decode cX3_act 6 = .ok (.imul, 1) := by decide +kernel
theorem dX3_act_7 : decode cX3_act 7 = .ok (.iaload, 1) := by decide +kernel
theorem dX3_act_8 : decode cX3_act 8 = .ok (.istore_n 2, 1) := by decide +kernel
theorem dX3_act_9 : decode cX3_act 9 = .ok (.aload_n 0, 1) := by decide +kernel
theorem dX3_act_10 : decode cX3_act 10 = .ok (.getfield 16, 3) := by decide +kernel
theorem dX3_act_13 : decode cX3_act 13 = .ok (.iconst 4, 1) := by decide +kernel
theorem dX3_act_14 : decode cX3_act 14 = .ok (.iload_n 1, 1) := by decide +kernel
theorem dX3_act_15 : decode cX3_act 15 = .ok (.imul, 1) := by decide +kernel
theorem dX3_act_16 : decode cX3_act 16 = .ok (.iconst 1, 1) := by decide +kernel
theorem dX3_act_17 : decode cX3_act 17 = .ok (.iadd, 1) := by decide +kernel
theorem dX3_act_18 : decode cX3_act 18 = .ok (.iaload, 1) := by decide +kernel
theorem dX3_act_19 : decode cX3_act 19 = .ok (.istore_n 3, 1) := by decide +kernel
theorem dX3_act_20 : decode cX3_act 20 = .ok (.aload_n 0, 1) := by decide +kernel
theorem dX3_act_21 : decode cX3_act 21 = .ok (.getfield 16, 3) := by decide +kernel
theorem dX3_act_24 : decode cX3_act 24 = .ok (.iconst 4, 1) := by decide +kernel
theorem dX3_act_25 : decode cX3_act 25 = .ok (.iload_n 1, 1) := by decide +kernel
theorem dX3_act_26 : decode cX3_act 26 = .ok (.imul, 1) := by decide +kernel
theorem dX3_act_27 : decode cX3_act 27 = .ok (.iconst 2, 1) := by decide +kernel
theorem dX3_act_28 : decode cX3_act 28 = .ok (.iadd, 1) := by decide +kernel
theorem dX3_act_29 : decode cX3_act 29 = .ok (.iaload, 1) := by decide +kernel
theorem dX3_act_30 : decode cX3_act 30 = .ok (.istore 4, 2) := by decide +kernel
theorem dX3_act_32 : decode cX3_act 32 = .ok (.aload_n 0, 1) := by decide +kernel
theorem dX3_act_33 : decode cX3_act 33 = .ok (.getfield 16, 3) := by decide +kernel
theorem dX3_act_36 : decode cX3_act 36 = .ok (.iconst 4, 1) := by decide +kernel
theorem dX3_act_37 : decode cX3_act 37 = .ok (.iload_n 1, 1) := by decide +kernel
theorem dX3_act_38 : decode cX3_act 38 = .ok (.imul, 1) := by decide +kernel
theorem dX3_act_39 : decode cX3_act 39 = .ok (.iconst 3, 1) := by decide +kernel
theorem dX3_act_40 : decode cX3_act 40 = .ok (.iadd, 1) := by decide +kernel
theorem dX3_act_41 : decode cX3_act 41 = .ok (.iaload, 1) := by decide +kernel
theorem dX3_act_42 : decode cX3_act 42 = .ok (.istore 5, 2) := by decide +kernel
theorem dX3_act_44 : decode cX3_act 44 = .ok (.aload_n 0, 1) := by decide +kernel
theorem dX3_act_45 : decode cX3_act 45 = .ok (.iload_n 1, 1) := by decide +kernel
theorem dX3_act_46 : decode cX3_act 46 = .ok (.iconst 1, 1) := by decide +kernel
theorem dX3_act_47 : decode cX3_act 47 = .ok (.iadd, 1) := by decide +kernel
theorem dX3_act_48 : decode cX3_act 48 = .ok (.putfield 63, 3) := by decide +kernel
theorem dX3_act_51 : decode cX3_act 51 = .ok (.iload_n 2, 1) := by decide +kernel
theorem dX3_act_52 : decode cX3_act 52 = .ok (.ifCond .ne 8, 3) := by decide +kernel
theorem dX3_act_55 : decode cX3_act 55 = .ok (.aload_n 0, 1) := by decide +kernel
theorem dX3_act_56 : decode cX3_act 56 = .ok (.iload_n 1, 1) := by decide +kernel
theorem dX3_act_57 : decode cX3_act 57 = .ok (.putfield 63, 3) := by decide +kernel
theorem dX3_act_60 : decode cX3_act 60 = .ok (.iload_n 2, 1) := by decide +kernel
theorem dX3_act_61 : decode cX3_act 61 = .ok (.iconst 1, 1) := by decide +kernel
theorem dX3_act_62 : decode cX3_act 62 = .ok (.if_icmp .ne 10, 3) := by decide +kernel
theorem dX3_act_65 : decode cX3_act 65 = .ok (.aload_n 0, 1) := by decide +kernel
theorem dX3_act_66 : decode cX3_act 66 = .ok (.iload_n 3, 1) := by decide +kernel
theorem dX3_act_67 : decode cX3_act 67 = .ok (.iload 4, 2) := by decide +kernel
theorem dX3_act_69 : decode cX3_act 69 = .ok (.invokevirtual 92, 3) := by decide +kernel
theorem dX3_act_72 : decode cX3_act 72 = .ok (.iload_n 2, 1) := by decide +kernel
theorem dX3_act_73 : decode cX3_act 73 = .ok (.iconst 2, 1) := by decide +kernel
theorem dX3_act_74 : decode cX3_act 74 = .ok (.if_icmp .eq 9, 3) := by decide +kernel
theorem dX3_act_77 : decode cX3_act 77 = .ok (.iload_n 2, 1) := by decide +kernel
theorem dX3_act_78 : decode cX3_act 78 = .ok (.bipush 10, 2) := by decide +kernel
theorem dX3_act_80 : decode cX3_act 80 = .ok (.if_icmp .ne 18, 3) := by decide +kernel
theorem dX3_act_83 : decode cX3_act 83 = .ok (.aload_n 0, 1) := by decide +kernel
theorem dX3_act_84 : decode cX3_act 84 = .ok (.iload 4, 2) := by decide +kernel
theorem dX3_act_86 : decode cX3_act 86 = .ok (.invokevirtual 96, 3) := by decide +kernel
theorem dX3_act_89 : decode cX3_act 89 = .ok (.istore 6, 2) := by decide +kernel
theorem dX3_act_91 : decode cX3_act 91 = .ok (.aload_n 0, 1) := by decide +kernel
theorem dX3_act_92 : decode cX3_act 92 = .ok (.iload_n 3, 1) := by decide +kernel
theorem dX3_act_93 : decode cX3_act 93 = .ok (.iload 6, 2) := by decide +kernel
theorem dX3_act_95 : decode cX3_act 95 = .ok (.invokevirtual 92, 3) := by decide +kernel
theorem dX3_act_98 : decode cX3_act 98 = .ok (.iload_n 2, 1) := by decide +kernel
theorem dX3_act_99 : decode cX3_act 99 = .ok (.iconst 3, 1) := by decide +kernel
theorem dX3_act_100 : decode cX3_act 100 = .ok (.bipush 6, 2) := by decide +kernel
theorem dX3_act_102 : decode cX3_act 102 = .ok (.invokestatic 45, 3) := by decide +kernel
theorem dX3_act_105 : decode cX3_act 105 = .ok (.ifCond .ne 9, 3) := by decide +kernel
theorem dX3_act_108 : decode cX3_act 108 = .ok (.iload_n 2, 1) := by decide +kernel
theorem dX3_act_109 : decode cX3_act 109 = .ok (.bipush 12, 2) := by decide +kernel
theorem dX3_act_111 : decode cX3_act 111 = .ok (.if_icmp .ne 32, 3) := by decide +kernel
theorem dX3_act_114 : decode cX3_act 114 = .ok (.aload_n 0, 1) := by decide +kernel
theorem dX3_act_115 : decode cX3_act 115 = .ok (.iload 4, 2) := by decide +kernel
theorem dX3_act_117 : decode cX3_act 117 = .ok (.invokevirtual 96, 3) := by decide +kernel
theorem dX3_act_120 : decode cX3_act 120 = .ok (.istore 6, 2) := by decide +kernel
theorem dX3_act_122 : decode cX3_act 122 = .ok (.aload_n 0, 1) := by decide +kernel
theorem dX3_act_123 : decode cX3_act 123 = .ok (.iload 5, 2) := by decide +kernel
theorem dX3_act_125 : decode cX3_act 125 = .ok (.invokevirtual 96, 3) := by decide +kernel
theorem dX3_act_128 : decode cX3_act 128 = .ok (.istore 7, 2) := by decide +kernel
theorem dX3_act_130 : decode cX3_act 130 = .ok (.aload_n 0, 1) := by decide +kernel
theorem dX3_act_131 : decode cX3_act 131 = .ok (.iload_n 3, 1) := by decide +kernel
theorem dX3_act_132 : decode cX3_act 132 = .ok (.iload_n 2, 1) := by decide +kernel
theorem dX3_act_133 : decode cX3_act 133 = .ok (.iload 6, 2) := by decide +kernel
theorem dX3_act_135 : decode cX3_act 135 = .ok (.iload 7, 2) := by decide +kernel
theorem dX3_act_137 : decode cX3_act 137 = .ok (.invokestatic 100, 3) := by decide +kernel
theorem dX3_act_140 : decode cX3_act 140 = .ok (.invokevirtual 92, 3) := by decide +kernel
theorem dX3_act_143 : decode cX3_act 143 = .ok (.iload_n 2, 1) := by decide +kernel
theorem dX3_act_144 : decode cX3_act 144 = .ok (.bipush 7, 2) := by decide +kernel
theorem dX3_act_146 : decode cX3_act 146 = .ok (.if_icmp .eq 9, 3) := by decide +kernel
theorem dX3_act_149 : decode cX3_act 149 = .ok (.iload_n 2, 1) := by decide +kernel
theorem dX3_act_150 : decode cX3_act 150 = .ok (.bipush 13, 2) := by decide +kernel
theorem dX3_act_152 : decode cX3_act 152 = .ok (.if_icmp .ne 8, 3) := by decide +kernel
theorem dX3_act_155 : decode cX3_act 155 = .ok (.aload_n 0, 1) := by decide +kernel
theorem dX3_act_156 : decode cX3_act 156 = .ok (.iload_n 3, 1) := by decide +kernel
theorem dX3_act_157 : decode cX3_act 157 = .ok (.putfield 63, 3) := by decide +kernel
theorem dX3_act_160 : decode cX3_act 160 = .ok (.iload_n 2, 1) := by decide +kernel
theorem dX3_act_161 : decode cX3_act 161 = .ok (.bipush 8, 2) := by decide +kernel
theorem dX3_act_163 : decode cX3_act 163 = .ok (.if_icmp .ne 17, 3) := by decide +kernel
theorem dX3_act_166 : decode cX3_act 166 = .ok (.aload_n 0, 1) := by decide +kernel
theorem dX3_act_167 : decode cX3_act 167 = .ok (.iload 4, 2) := by decide +kernel
theorem dX3_act_169 : decode cX3_act 169 = .ok (.invokevirtual 96, 3) := by decide +kernel
theorem dX3_act_172 : decode cX3_act 172 = .ok (.ifCond .eq 8, 3) := by decide +kernel
theorem dX3_act_175 : decode cX3_act 175 = .ok (.aload_n 0, 1) := by decide +kernel
theorem dX3_act_176 : decode cX3_act 176 = .ok (.iload_n 3, 1) := by decide +kernel
theorem dX3_act_177 : decode cX3_act 177 = .ok (.putfield 63, 3) := by decide +kernel
theorem dX3_act_180 : decode cX3_act 180 = .ok (.iload_n 2, 1) := by decide +kernel
theorem dX3_act_181 : decode cX3_act 181 = .ok (.bipush 9, 2) := by decide +kernel
theorem dX3_act_183 : decode cX3_act 183 = .ok (.if_icmp .ne 55, 3) := by decide +kernel
theorem dX3_act_186 : decode cX3_act 186 = .ok (.aload_n 0, 1) := by decide +kernel
theorem dX3_act_187 : decode cX3_act 187 = .ok (.invokevirtual 88, 3) := by decide +kernel
theorem dX3_act_190 : decode cX3_act 190 = .ok (.istore 6, 2) := by decide +kernel
theorem dX3_act_192 : decode cX3_act 192 = .ok (.aload_n 0, 1) := by decide +kernel
theorem dX3_act_193 : decode cX3_act 193 = .ok (.getfield 28, 3) := by decide +kernel
theorem dX3_act_196 : decode cX3_act 196 = .ok (.iload 6, 2) := by decide +kernel
theorem dX3_act_198 : decode cX3_act 198 = .ok (.iload 4, 2) := by decide +kernel
theorem dX3_act_200 : decode cX3_act 200 = .ok (.iastore, 1) := by decide +kernel
theorem dX3_act_201 : decode cX3_act 201 = .ok (.iconst 0, 1) := by decide +kernel
theorem dX3_act_202 : decode cX3_act 202 = .ok (.istore 7, 2) := by decide +kernel
theorem dX3_act_204 : decode cX3_act 204 = .ok (.iload 7, 2) := by decide +kernel
theorem dX3_act_206 : decode cX3_act 206 = .ok (.bipush 6, 2) := by decide +kernel
theorem dX3_act_208 : decode cX3_act 208 = .ok (.if_icmp .ge 23, 3) := by decide +kernel
theorem dX3_act_211 : decode cX3_act 211 = .ok (.aload_n 0, 1) := by decide +kernel
theorem dX3_act_212 : decode cX3_act 212 = .ok (.getfield 31, 3) := by decide +kernel
theorem dX3_act_215 : decode cX3_act 215 = .ok (.bipush 6, 2) := by decide +kernel
theorem dX3_act_217 : decode cX3_act 217 = .ok (.iload 6, 2) := by decide +kernel
theorem dX3_act_219 : decode cX3_act 219 = .ok (.imul, 1) := by decide +kernel
theorem dX3_act_220 : decode cX3_act 220 = .ok (.iload 7, 2) := by decide +kernel
theorem dX3_act_222 : decode cX3_act 222 = .ok (.iadd, 1) := by decide +kernel
theorem dX3_act_223 : decode cX3_act 223 = .ok (.iconst 0, 1) := by decide +kernel
theorem dX3_act_224 : decode cX3_act 224 = .ok (.iastore, 1) := by decide +kernel
theorem dX3_act_225 : decode cX3_act 225 = .ok (.iinc 7 1, 3) := by decide +kernel
theorem dX3_act_228 : decode cX3_act 228 = .ok (.goto (-24), 3) := by decide +kernel
theorem dX3_act_231 : decode cX3_act 231 = .ok (.aload_n 0, 1) := by decide +kernel
theorem dX3_act_232 : decode cX3_act 232 = .ok (.iload_n 3, 1) := by decide +kernel
theorem dX3_act_233 : decode cX3_act 233 = .ok (.iload 6, 2) := by decide +kernel
theorem dX3_act_235 : decode cX3_act 235 = .ok (.invokevirtual 92, 3) := by decide +kernel
theorem dX3_act_238 : decode cX3_act 238 = .ok (.iload_n 2, 1) := by decide +kernel
theorem dX3_act_239 : decode cX3_act 239 = .ok (.bipush 11, 2) := by decide +kernel
theorem dX3_act_241 : decode cX3_act 241 = .ok (.if_icmp .ne 9, 3) := by decide +kernel
theorem dX3_act_244 : decode cX3_act 244 = .ok (.aload_n 0, 1) := by decide +kernel
theorem dX3_act_245 : decode cX3_act 245 = .ok (.iload_n 3, 1) := by decide +kernel
theorem dX3_act_246 : decode cX3_act 246 = .ok (.iconst 0, 1) := by decide +kernel
theorem dX3_act_247 : decode cX3_act 247 = .ok (.invokevirtual 92, 3) := by decide +kernel
theorem dX3_act_250 : decode cX3_act 250 = .ok (.iload_n 2, 1) := by decide +kernel
theorem dX3_act_251 : decode cX3_act 251 = .ok (.bipush 13, 2) := by decide +kernel
theorem dX3_act_253 : decode cX3_act 253 = .ok (.if_icmp .ne 25, 3) := by decide +kernel
theorem dX3_act_256 : decode cX3_act 256 = .ok (.aload_n 0, 1) := by decide +kernel
theorem dX3_act_257 : decode cX3_act 257 = .ok (.getfield 19, 3) := by decide +kernel
theorem dX3_act_260 : decode cX3_act 260 = .ok (.aload_n 0, 1) := by decide +kernel
theorem dX3_act_261 : decode cX3_act 261 = .ok (.getfield 66, 3) := by decide +kernel
theorem dX3_act_264 : decode cX3_act 264 = .ok (.iload_n 1, 1) := by decide +kernel
theorem dX3_act_265 : decode cX3_act 265 = .ok (.iconst 1, 1) := by decide +kernel
theorem dX3_act_266 : decode cX3_act 266 = .ok (.iadd, 1) := by decide +kernel
theorem dX3_act_267 : decode cX3_act 267 = .ok (.iastore, 1) := by decide +kernel
theorem dX3_act_268 : decode cX3_act 268 = .ok (.aload_n 0, 1) := by decide +kernel
theorem dX3_act_269 : decode cX3_act 269 = .ok (.dup, 1) := by decide +kernel
theorem dX3_act_270 : decode cX3_act 270 = .ok (.getfield 66, 3) := by decide +kernel
theorem dX3_act_273 : decode cX3_act 273 = .ok (.iconst 1, 1) := by decide +kernel
theorem dX3_act_274 : decode cX3_act 274 = .ok (.iadd, 1) := by decide +kernel
theorem dX3_act_275 : decode cX3_act 275 = .ok (.putfield 66, 3) := by decide +kernel
theorem dX3_act_278 : decode cX3_act 278 = .ok (.iload_n 2, 1) := by decide +kernel
theorem dX3_act_279 : decode cX3_act 279 = .ok (.bipush 14, 2) := by decide +kernel
theorem dX3_act_281 : decode cX3_act 281 = .ok (.if_icmp .ne 26, 3) := by decide +kernel
theorem dX3_act_284 : decode cX3_act 284 = .ok (.aload_n 0, 1) := by decide +kernel
theorem dX3_act_285 : decode cX3_act 285 = .ok (.dup, 1) := by decide +kernel
theorem dX3_act_286 : decode cX3_act 286 = .ok (.getfield 66, 3) := by decide +kernel
theorem dX3_act_289 : decode cX3_act 289 = .ok (.iconst 1, 1) := by decide +kernel
theorem dX3_act_290 : decode cX3_act 290 = .ok (.isub, 1) := by decide +kernel
theorem dX3_act_291 : decode cX3_act 291 = .ok (.putfield 66, 3) := by decide +kernel
theorem dX3_act_294 : decode cX3_act 294 = .ok (.aload_n 0, 1) := by decide +kernel
theorem dX3_act_295 : decode cX3_act 295 = .ok (.aload_n 0, 1) := by decide +kernel
theorem dX3_act_296 : decode cX3_act 296 = .ok (.getfield 19, 3) := by decide +kernel
theorem dX3_act_299 : decode cX3_act 299 = .ok (.aload_n 0, 1) := by decide +kernel
theorem dX3_act_300 : decode cX3_act 300 = .ok (.getfield 66, 3) := by decide +kernel
theorem dX3_act_303 : decode cX3_act 303 = .ok (.iaload, 1) := by decide +kernel
theorem dX3_act_304 : decode cX3_act 304 = .ok (.putfield 63, 3) := by decide +kernel
theorem dX3_act_307 : decode cX3_act 307 = .ok (.iload_n 2, 1) := by decide +kernel
theorem dX3_act_308 : decode cX3_act 308 = .ok (.bipush 9, 2) := by decide +kernel
theorem dX3_act_310 : decode cX3_act 310 = .ok (.bipush 11, 2) := by decide +kernel
theorem dX3_act_312 : decode cX3_act 312 = .ok (.invokestatic 45, 3) := by decide +kernel
theorem dX3_act_315 : decode cX3_act 315 = .ok (.ifCond .eq 7, 3) := by decide +kernel
theorem dX3_act_318 : decode cX3_act 318 = .ok (.aload_n 0, 1) := by decide +kernel
theorem dX3_act_319 : decode cX3_act 319 = .ok (.invokevirtual 104, 3) := by decide +kernel
