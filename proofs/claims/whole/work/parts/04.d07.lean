theorem dX3_start_15 : decode cX3_start 15 = .ok (.iconst 0, 1) := by decide +kernel
theorem dX3_start_16 : decode cX3_start 16 = .ok (.ireturn, 1) := by decide +kernel
theorem dX3_start_17 : decode cX3_start 17 = .ok (.aload_n 0, 1) := by decide +kernel
theorem dX3_start_18 : decode cX3_start 18 = .ok (.iload_n 1, 1) := by decide +kernel
theorem dX3_start_19 : decode cX3_start 19 = .ok (.putfield 63, 3) := by decide +kernel
theorem dX3_start_22 : decode cX3_start 22 = .ok (.aload_n 0, 1) := by decide +kernel
theorem dX3_start_23 : decode cX3_start 23 = .ok (.iconst 0, 1) := by decide +kernel
theorem dX3_start_24 : decode cX3_start 24 = .ok (.putfield 66, 3) := by decide +kernel
theorem dX3_start_27 : decode cX3_start 27 = .ok (.iconst 1, 1) := by decide +kernel
theorem dX3_start_28 : decode cX3_start 28 = .ok (.ireturn, 1) := by decide +kernel
theorem dX3_isBlock_0 : decode cX3_isBlock 0 = .ok (.iload_n 1, 1) := by decide +kernel
theorem dX3_isBlock_1 : decode cX3_isBlock 1 = .ok (.iconst 1, 1) := by decide +kernel
theorem dX3_isBlock_2 : decode cX3_isBlock 2 = .ok (.bipush 24, 2) := by decide +kernel
theorem dX3_isBlock_4 : decode cX3_isBlock 4 = .ok (.invokestatic 45, 3) := by decide +kernel
theorem dX3_isBlock_7 : decode cX3_isBlock 7 = .ok (.ifCond .eq 16, 3) := by decide +kernel
theorem dX3_isBlock_10 : decode cX3_isBlock 10 = .ok (.aload_n 0, 1) := by decide +kernel
theorem dX3_isBlock_11 : decode cX3_isBlock 11 = .ok (.getfield 28, 3) := by decide +kernel
theorem dX3_isBlock_14 : decode cX3_isBlock 14 = .ok (.iload_n 1, 1) := by decide +kernel
theorem dX3_isBlock_15 : decode cX3_isBlock 15 = .ok (.iaload, 1) := by decide +kernel
theorem dX3_isBlock_16 : decode cX3_isBlock 16 = .ok (.ifCond .lt 7, 3) := by decide +kernel
theorem dX3_isBlock_19 : decode cX3_isBlock 19 = .ok (.iconst 1, 1) := by decide +kernel
theorem dX3_isBlock_20 : decode cX3_isBlock 20 = .ok (.goto 4, 3) := by decide +kernel
theorem dX3_isBlock_23 : decode cX3_isBlock 23 = .ok (.iconst 0, 1) := by decide +kernel
theorem dX3_isBlock_24 : decode cX3_isBlock 24 = .ok (.ireturn, 1) := by decide +kernel
theorem dX3_isPointer_0 : decode cX3_isPointer 0 = .ok (.aload_n 0, 1) := by decide +kernel
theorem dX3_isPointer_1 : decode cX3_isPointer 1 = .ok (.getfield 13, 3) := by decide +kernel
theorem dX3_isPointer_4 : decode cX3_isPointer 4 = .ok (.aload_n 0, 1) := by decide +kernel
theorem dX3_isPointer_5 : decode cX3_isPointer 5 = .ok (.getfield 28, 3) := by decide +kernel
theorem dX3_isPointer_8 : decode cX3_isPointer 8 = .ok (.iload_n 1, 1) := by decide +kernel
theorem dX3_isPointer_9 : decode cX3_isPointer 9 = .ok (.iaload, 1) := by decide +kernel
theorem dX3_isPointer_10 : decode cX3_isPointer 10 = .ok (.iaload, 1) := by decide +kernel
theorem dX3_isPointer_11 : decode cX3_isPointer 11 = .ok (.iload_n 2, 1) := by decide +kernel
theorem dX3_isPointer_12 : decode cX3_isPointer 12 = .ok (.ishr, 1) := by decide +kernel
theorem dX3_isPointer_13 : decode cX3_isPointer 13 = .ok (.iconst 1, 1) := by decide +kernel
theorem dX3_isPointer_14 : decode cX3_isPointer 14 = .ok (.iand, 1) := by decide +kernel
theorem dX3_isPointer_15 : decode cX3_isPointer 15 = .ok (.iconst 1, 1) := by decide +kernel
theorem dX3_isPointer_16 : decode cX3_isPointer 16 = .ok (.if_icmp .ne 7, 3) := by decide +kernel
theorem dX3_isPointer_19 : decode cX3_isPointer 19 = .ok (.iconst 1, 1) := by decide +kernel
theorem dX3_isPointer_20 : decode cX3_isPointer 20 = .ok (.goto 4, 3) := by decide +kernel
theorem dX3_isPointer_23 : decode cX3_isPointer 23 = .ok (.iconst 0, 1) := by decide +kernel
theorem dX3_isPointer_24 : decode cX3_isPointer 24 = .ok (.ireturn, 1) := by decide +kernel
theorem dX3_countAll_0 : decode cX3_countAll 0 = .ok (.iconst 0, 1) := by decide +kernel
theorem dX3_countAll_1 : decode cX3_countAll 1 = .ok (.istore_n 1, 1) := by decide +kernel
theorem dX3_countAll_2 : decode cX3_countAll 2 = .ok (.iload_n 1, 1) := by decide +kernel
theorem dX3_countAll_3 : decode cX3_countAll 3 = .ok (.bipush 25, 2) := by decide +kernel
theorem dX3_countAll_5 : decode cX3_countAll 5 = .ok (.if_icmp .ge 16, 3) := by decide +kernel
theorem dX3_countAll_8 : decode cX3_countAll 8 = .ok (.aload_n 0, 1) := by decide +kernel
theorem dX3_countAll_9 : decode cX3_countAll 9 = .ok (.getfield 34, 3) := by decide +kernel
theorem dX3_countAll_12 : decode cX3_countAll 12 = .ok (.iload_n 1, 1) := by decide +kernel
theorem dX3_countAll_13 : decode cX3_countAll 13 = .ok (.iconst 0, 1) := by decide +kernel
theorem dX3_countAll_14 : decode cX3_countAll 14 = .ok (.iastore, 1) := by decide +kernel
theorem dX3_countAll_15 : decode cX3_countAll 15 = .ok (.iinc 1 1, 3) := by decide +kernel
theorem dX3_countAll_18 : decode cX3_countAll 18 = .ok (.goto (-16), 3) := by decide +kernel
theorem dX3_countAll_21 : decode cX3_countAll 21 = .ok (.iconst 0, 1) := by decide +kernel
theorem dX3_countAll_22 : decode cX3_countAll 22 = .ok (.istore_n 1, 1) := by decide +kernel
theorem dX3_countAll_23 : decode cX3_countAll 23 = .ok (.iload_n 1, 1) := by decide +kernel
theorem dX3_countAll_24 : decode cX3_countAll 24 = .ok (.iconst 4, 1) := by decide +kernel
theorem dX3_countAll_25 : decode cX3_countAll 25 = .ok (.if_icmp .ge 24, 3) := by decide +kernel
theorem dX3_countAll_28 : decode cX3_countAll 28 = .ok (.aload_n 0, 1) := by decide +kernel
theorem dX3_countAll_29 : decode cX3_countAll 29 = .ok (.getfield 34, 3) := by decide +kernel
theorem dX3_countAll_32 : decode cX3_countAll 32 = .ok (.aload_n 0, 1) := by decide +kernel
theorem dX3_countAll_33 : decode cX3_countAll 33 = .ok (.getfield 25, 3) := by decide +kernel
theorem dX3_countAll_36 : decode cX3_countAll 36 = .ok (.iload_n 1, 1) := by decide +kernel
theorem dX3_countAll_37 : decode cX3_countAll 37 = .ok (.iaload, 1) := by decide +kernel
theorem dX3_countAll_38 : decode cX3_countAll 38 = .ok (.dup2, 1) := by decide +kernel
theorem dX3_countAll_39 : decode cX3_countAll 39 = .ok (.iaload, 1) := by decide +kernel
theorem dX3_countAll_40 : decode cX3_countAll 40 = .ok (.iconst 1, 1) := by decide +kernel
theorem dX3_countAll_41 : decode cX3_countAll 41 = .ok (.iadd, 1) := by decide +kernel
theorem dX3_countAll_42 : decode cX3_countAll 42 = .ok (.iastore, 1) := by decide +kernel
theorem dX3_countAll_43 : decode cX3_countAll 43 = .ok (.iinc 1 1, 3) := by decide +kernel
theorem dX3_countAll_46 : decode cX3_countAll 46 = .ok (.goto (-23), 3) := by decide +kernel
theorem dX3_countAll_49 : decode cX3_countAll 49 = .ok (.iconst 1, 1) := by decide +kernel
theorem dX3_countAll_50 : decode cX3_countAll 50 = .ok (.istore_n 1, 1) := by decide +kernel
theorem dX3_countAll_51 : decode cX3_countAll 51 = .ok (.iload_n 1, 1) := by decide +kernel
theorem dX3_countAll_52 : decode cX3_countAll 52 = .ok (.bipush 25, 2) := by decide +kernel
theorem dX3_countAll_54 : decode cX3_countAll 54 = .ok (.if_icmp .ge 73, 3) := by decide +kernel
theorem dX3_countAll_57 : decode cX3_countAll 57 = .ok (.aload_n 0, 1) := by decide +kernel
theorem dX3_countAll_58 : decode cX3_countAll 58 = .ok (.getfield 28, 3) := by decide +kernel
theorem dX3_countAll_61 : decode cX3_countAll 61 = .ok (.iload_n 1, 1) := by decide +kernel
theorem dX3_countAll_62 : decode cX3_countAll 62 = .ok (.iaload, 1) := by decide +kernel
theorem dX3_countAll_63 : decode cX3_countAll 63 = .ok (.ifCond .ge 6, 3) := by decide +kernel
theorem dX3_countAll_66 : decode cX3_countAll 66 = .ok (.goto 55, 3) := by decide +kernel
theorem dX3_countAll_69 : decode cX3_countAll 69 = .ok (.iconst 0, 1) := by decide +kernel
theorem dX3_countAll_70 : decode cX3_countAll 70 = .ok (.istore_n 2, 1) := by decide +kernel
theorem dX3_countAll_71 : decode cX3_countAll 71 = .ok (.iload_n 2, 1) := by decide +kernel
theorem dX3_countAll_72 : decode cX3_countAll 72 = .ok (.aload_n 0, 1) := by decide +kernel
theorem dX3_countAll_73 : decode cX3_countAll 73 = .ok (.getfield 7, 3) := by decide +kernel
theorem dX3_countAll_76 : decode cX3_countAll 76 = .ok (.aload_n 0, 1) := by decide +kernel
theorem dX3_countAll_77 : decode cX3_countAll 77 = .ok (.getfield 28, 3) := by decide +kernel
theorem dX3_countAll_80 : decode cX3_countAll 80 = .ok (.iload_n 1, 1) := by decide +kernel
theorem dX3_countAll_81 : decode cX3_countAll 81 = .ok (.iaload, 1) := by decide +kernel
theorem dX3_countAll_82 : decode cX3_countAll 82 = .ok (.iaload, 1) := by decide +kernel
theorem dX3_countAll_83 : decode cX3_countAll 83 = .ok (.if_icmp .ge 38, 3) := by decide +kernel
theorem dX3_countAll_86 : decode cX3_countAll 86 = .ok (.aload_n 0, 1) := by decide +kernel
theorem dX3_countAll_87 : decode cX3_countAll 87 = .ok (.iload_n 1, 1) := by decide +kernel
theorem dX3_countAll_88 : decode cX3_countAll 88 = .ok (.iload_n 2, 1) := by decide +kernel
theorem dX3_countAll_89 : decode cX3_countAll 89 = .ok (.invokevirtual 69, 3) := by decide +kernel
theorem dX3_countAll_92 : decode cX3_countAll 92 = .ok (.ifCond .eq 23, 3) := by decide +kernel
theorem dX3_countAll_95 : decode cX3_countAll 95 = .ok (.aload_n 0, 1) := by decide +kernel
theorem dX3_countAll_96 : decode cX3_countAll 96 = .ok (.getfield 34, 3) := by decide +kernel
theorem dX3_countAll_99 : decode cX3_countAll 99 = .ok (.aload_n 0, 1) := by decide +kernel
theorem dX3_countAll_100 : decode cX3_countAll 100 = .ok (.getfield 31, 3) := by decide +kernel
theorem dX3_countAll_103 : decode cX3_countAll 103 = .ok (.bipush 6, 2) := by decide +kernel
theorem dX3_countAll_105 : decode cX3_countAll 105 = .ok (.iload_n 1, 1) := by decide +kernel
theorem dX3_countAll_106 : decode cX3_countAll 106 = .ok (.imul, 1) := by decide +kernel
theorem dX3_countAll_107 : decode cX3_countAll 107 = .ok (.iload_n 2, 1) := by decide +kernel
theorem dX3_countAll_108 : decode cX3_countAll 108 = .ok (.iadd, 1) := by decide +kernel
theorem dX3_countAll_109 : decode cX3_countAll 109 = .ok (.iaload, 1) := by decide +kernel
theorem dX3_countAll_110 : decode cX3_countAll 110 = .ok (.dup2, 1) := by decide +kernel
theorem dX3_countAll_111 : decode cX3_countAll 111 = .ok (.iaload, 1) := by decide +kernel
theorem dX3_countAll_112 : decode cX3_countAll 112 = .ok (.iconst 1, 1) := by decide +kernel
theorem dX3_countAll_113 : decode cX3_countAll 113 = .ok (.iadd, 1) := by decide +kernel
theorem dX3_countAll_114 : decode cX3_countAll 114 = .ok (.iastore, 1) := by decide +kernel
theorem dX3_countAll_115 : decode cX3_countAll 115 = .ok (.iinc 2 1, 3) := by decide +kernel
theorem dX3_countAll_118 : decode cX3_countAll 118 = .ok (.goto (-47), 3) := by decide +kernel
theorem dX3_countAll_121 : decode cX3_countAll 121 = .ok (.iinc 1 1, 3) := by decide +kernel
theorem dX3_countAll_124 : decode cX3_countAll 124 = .ok (.goto (-73), 3) := by decide +kernel
theorem dX3_countAll_127 : decode cX3_countAll 127 = .ok (.return_, 1) := by decide +kernel
theorem dX3_giveBack_0 : decode cX3_giveBack 0 = .ok (.iconst 1, 1) := by decide +kernel
theorem dX3_giveBack_1 : decode cX3_giveBack 1 = .ok (.istore_n 1, 1) := by decide +kernel
theorem dX3_giveBack_2 : decode cX3_giveBack 2 = .ok (.iconst 0, 1) := by decide +kernel
theorem dX3_giveBack_3 : decode cX3_giveBack 3 = .ok (.istore_n 2, 1) := by decide +kernel
theorem dX3_giveBack_4 : decode cX3_giveBack 4 = .ok (.iload_n 2, 1) := by decide +kernel
theorem dX3_giveBack_5 : decode cX3_giveBack 5 = .ok (.bipush 26, 2) := by decide +kernel
theorem dX3_giveBack_7 : decode cX3_giveBack 7 = .ok (.if_icmp .ge 73, 3) := by decide +kernel
theorem dX3_giveBack_10 : decode cX3_giveBack 10 = .ok (.iload_n 1, 1) := by decide +kernel
theorem dX3_giveBack_11 : decode cX3_giveBack 11 = .ok (.ifCond .eq 69, 3) := by decide +kernel
theorem dX3_giveBack_14 : decode cX3_giveBack 14 = .ok (.iconst 0, 1) := by decide +kernel
theorem dX3_giveBack_15 : decode cX3_giveBack 15 = .ok (.istore_n 1, 1) := by decide +kernel
theorem dX3_giveBack_16 : decode cX3_giveBack 16 = .ok (.aload_n 0, 1) := by decide +kernel
theorem dX3_giveBack_17 : decode cX3_giveBack 17 = .ok (.invokevirtual 73, 3) := by decide +kernel
theorem dX3_giveBack_20 : decode cX3_giveBack 20 = .ok (.iconst 1, 1) := by decide +kernel
theorem dX3_giveBack_21 : decode cX3_giveBack 21 = .ok (.istore_n 3, 1) := by decide +kernel
theorem dX3_giveBack_22 : decode cX3_giveBack 22 = .ok (.iload_n 3, 1) := by decide +kernel
theorem dX3_giveBack_23 : decode cX3_giveBack 23 = .ok (.bipush 25, 2) := by decide +kernel
theorem dX3_giveBack_25 : decode cX3_giveBack 25 = .ok (.if_icmp .ge 49, 3) := by decide +kernel
theorem dX3_giveBack_28 : decode cX3_giveBack 28 = .ok (.aload_n 0, 1) := by decide +kernel
theorem dX3_giveBack_29 : decode cX3_giveBack 29 = .ok (.getfield 28, 3) := by decide +kernel
theorem dX3_giveBack_32 : decode cX3_giveBack 32 = .ok (.iload_n 3, 1) := by decide +kernel
theorem dX3_giveBack_33 : decode cX3_giveBack 33 = .ok (.iaload, 1) := by decide +kernel
theorem dX3_giveBack_34 : decode cX3_giveBack 34 = .ok (.ifCond .lt 34, 3) := by decide +kernel
theorem dX3_giveBack_37 : decode cX3_giveBack 37 = .ok (.aload_n 0, 1) := by decide +kernel
theorem dX3_giveBack_38 : decode cX3_giveBack 38 = .ok (.getfield 34, 3) := by decide +kernel
theorem dX3_giveBack_41 : decode cX3_giveBack 41 = .ok (.iload_n 3, 1) := by decide +kernel
theorem dX3_giveBack_42 : decode cX3_giveBack 42 = .ok (.iaload, 1) := by decide +kernel
theorem dX3_giveBack_43 : decode cX3_giveBack 43 = .ok (.ifCond .le 6, 3) := by decide +kernel
theorem dX3_giveBack_46 : decode cX3_giveBack 46 = .ok (.goto 22, 3) := by decide +kernel
theorem dX3_giveBack_49 : decode cX3_giveBack 49 = .ok (.aload_n 0, 1) := by decide +kernel
theorem dX3_giveBack_50 : decode cX3_giveBack 50 = .ok (.getfield 28, 3) := by decide +kernel
theorem dX3_giveBack_53 : decode cX3_giveBack 53 = .ok (.iload_n 3, 1) := by decide +kernel
theorem dX3_giveBack_54 : decode cX3_giveBack 54 = .ok (.iconst (-1), 1) := by decide +kernel
theorem dX3_giveBack_55 : decode cX3_giveBack 55 = .ok (.iastore, 1) := by decide +kernel
theorem dX3_giveBack_56 : decode cX3_giveBack 56 = .ok (.aload_n 0, 1) := by decide +kernel
theorem dX3_giveBack_57 : decode cX3_giveBack 57 = .ok (.dup, 1) := by decide +kernel
theorem dX3_giveBack_58 : decode cX3_giveBack 58 = .ok (.getfield 76, 3) := by decide +kernel
theorem dX3_giveBack_61 : decode cX3_giveBack 61 = .ok (.iconst 1, 1) := by decide +kernel
theorem dX3_giveBack_62 : decode cX3_giveBack 62 = .ok (.iadd, 1) := by decide +kernel
theorem dX3_giveBack_63 : decode cX3_giveBack 63 = .ok (.putfield 76, 3) := by decide +kernel
theorem dX3_giveBack_66 : decode cX3_giveBack 66 = .ok (.iconst 1, 1) := by decide +kernel
theorem dX3_giveBack_67 : decode cX3_giveBack 67 = .ok (.istore_n 1, 1) := by decide +kernel
theorem dX3_giveBack_68 : decode cX3_giveBack 68 = .ok (.iinc 3 1, 3) := by decide +kernel
theorem dX3_giveBack_71 : decode cX3_giveBack 71 = .ok (.goto (-49), 3) := by decide +kernel
theorem dX3_giveBack_74 : decode cX3_giveBack 74 = .ok (.iinc 2 1, 3) := by decide +kernel
theorem dX3_giveBack_77 : decode cX3_giveBack 77 = .ok (.goto (-73), 3) := by decide +kernel
theorem dX3_giveBack_80 : decode cX3_giveBack 80 = .ok (.return_, 1) := by decide +kernel
theorem dX3_reach_0 : decode cX3_reach 0 = .ok (.iconst 0, 1) := by decide +kernel
theorem dX3_reach_1 : decode cX3_reach 1 = .ok (.istore_n 1, 1) := by decide +kernel
theorem dX3_reach_2 : decode cX3_reach 2 = .ok (.iload_n 1, 1) := by decide +kernel
theorem dX3_reach_3 : decode cX3_reach 3 = .ok (.bipush 25, 2) := by decide +kernel
theorem dX3_reach_5 : decode cX3_reach 5 = .ok (.if_icmp .ge 16, 3) := by decide +kernel
theorem dX3_reach_8 : decode cX3_reach 8 = .ok (.aload_n 0, 1) := by decide +kernel
theorem dX3_reach_9 : decode cX3_reach 9 = .ok (.getfield 37, 3) := by decide +kernel
theorem dX3_reach_12 : decode cX3_reach 12 = .ok (.iload_n 1, 1) := by decide +kernel
theorem dX3_reach_13 : decode cX3_reach 13 = .ok (.iconst 0, 1) := by decide +kernel
theorem dX3_reach_14 : decode cX3_reach 14 = .ok (.bastore, 1) := by decide +kernel
theorem dX3_reach_15 : decode cX3_reach 15 = .ok (.iinc 1 1, 3) := by decide +kernel
theorem dX3_reach_18 : decode cX3_reach 18 = .ok (.goto (-16), 3) := by decide +kernel
theorem dX3_reach_21 : decode cX3_reach 21 = .ok (.iconst 0, 1) := by decide +kernel
theorem dX3_reach_22 : decode cX3_reach 22 = .ok (.istore_n 1, 1) := by decide +kernel
theorem dX3_reach_23 : decode cX3_reach 23 = .ok (.iload_n 1, 1) := by decide +kernel
theorem dX3_reach_24 : decode cX3_reach 24 = .ok (.iconst 4, 1) := by decide +kernel
theorem dX3_reach_25 : decode cX3_reach 25 = .ok (.if_icmp .ge 21, 3) := by decide +kernel
theorem dX3_reach_28 : decode cX3_reach 28 = .ok (.aload_n 0, 1) := by decide +kernel
theorem dX3_reach_29 : decode cX3_reach 29 = .ok (.getfield 37, 3) := by decide +kernel
theorem dX3_reach_32 : decode cX3_reach 32 = .ok (.aload_n 0, 1) := by decide +kernel
theorem dX3_reach_33 : decode cX3_reach 33 = .ok (.getfield 25, 3) := by decide +kernel
theorem dX3_reach_36 : decode cX3_reach 36 = .ok (.iload_n 1, 1) := by decide +kernel
theorem dX3_reach_37 : decode cX3_reach 37 = .ok (.iaload, 1) := by decide +kernel
theorem dX3_reach_38 : decode cX3_reach 38 = .ok (.iconst 1, 1) := by decide +kernel
theorem dX3_reach_39 : decode cX3_reach 39 = .ok (.bastore, 1) := by decide +kernel
theorem dX3_reach_40 : decode cX3_reach 40 = .ok (.iinc 1 1, 3) := by decide +kernel
theorem dX3_reach_43 : decode cX3_reach 43 = .ok (.goto (-20), 3) := by decide +kernel
theorem dX3_reach_46 : decode cX3_reach 46 = .ok (.iconst 0, 1) := by decide +kernel
theorem dX3_reach_47 : decode cX3_reach 47 = .ok (.istore_n 1, 1) := by decide +kernel
theorem dX3_reach_48 : decode cX3_reach 48 = .ok (.iload_n 1, 1) := by decide +kernel
theorem dX3_reach_49 : decode cX3_reach 49 = .ok (.bipush 25, 2) := by decide +kernel
theorem dX3_reach_51 : decode cX3_reach 51 = .ok (.if_icmp .ge 93, 3) := by decide +kernel
theorem dX3_reach_54 : decode cX3_reach 54 = .ok (.iconst 1, 1) := by decide +kernel
theorem dX3_reach_55 : decode cX3_reach 55 = .ok (.istore_n 2, 1) := by decide +kernel
theorem dX3_reach_56 : decode cX3_reach 56 = .ok (.iload_n 2, 1) := by decide +kernel
theorem dX3_reach_57 : decode cX3_reach 57 = .ok (.bipush 25, 2) := by decide +kernel
theorem dX3_reach_59 : decode cX3_reach 59 = .ok (.if_icmp .ge 79, 3) := by decide +kernel
theorem dX3_reach_62 : decode cX3_reach 62 = .ok (.aload_n 0, 1) := by decide +kernel
theorem dX3_reach_63 : decode cX3_reach 63 = .ok (.getfield 37, 3) := by decide +kernel
theorem dX3_reach_66 : decode cX3_reach 66 = .ok (.iload_n 2, 1) := by decide +kernel
theorem dX3_reach_67 : decode cX3_reach 67 = .ok (.baload, 1) := by decide +kernel
theorem dX3_reach_68 : decode cX3_reach 68 = .ok (.ifCond .eq 64, 3) := by decide +kernel
theorem dX3_reach_71 : decode cX3_reach 71 = .ok (.aload_n 0, 1) := by decide +kernel
theorem dX3_reach_72 : decode cX3_reach 72 = .ok (.getfield 28, 3) := by decide +kernel
theorem dX3_reach_75 : decode cX3_reach 75 = .ok (.iload_n 2, 1) := by decide +kernel
theorem dX3_reach_76 : decode cX3_reach 76 = .ok (.iaload, 1) := by decide +kernel
theorem dX3_reach_77 : decode cX3_reach 77 = .ok (.ifCond .ge 6, 3) := by decide +kernel
theorem dX3_reach_80 : decode cX3_reach 80 = .ok (.goto 52, 3) := by decide +kernel
theorem dX3_reach_83 : decode cX3_reach 83 = .ok (.iconst 0, 1) := by decide +kernel
theorem dX3_reach_84 : decode cX3_reach 84 = .ok (.istore_n 3, 1) := by decide +kernel
theorem dX3_reach_85 : decode cX3_reach 85 = .ok (.iload_n 3, 1) := by decide +kernel
theorem dX3_reach_86 : decode cX3_reach 86 = .ok (.aload_n 0, 1) := by decide +kernel
theorem dX3_reach_87 : decode cX3_reach 87 = .ok (.getfield 7, 3) := by decide +kernel
theorem dX3_reach_90 : decode cX3_reach 90 = .ok (.aload_n 0, 1) := by decide +kernel
theorem dX3_reach_91 : decode cX3_reach 91 = .ok (.getfield 28, 3) := by decide +kernel
theorem dX3_reach_94 : decode cX3_reach 94 = .ok (.iload_n 2, 1) := by decide +kernel
theorem dX3_reach_95 : decode cX3_reach 95 = .ok (.iaload, 1) := by decide +kernel
theorem dX3_reach_96 : decode cX3_reach 96 = .ok (.iaload, 1) := by decide +kernel
theorem dX3_reach_97 : decode cX3_reach 97 = .ok (.if_icmp .ge 35, 3) := by decide +kernel
theorem dX3_reach_100 : decode cX3_reach 100 = .ok (.aload_n 0, 1) := by decide +kernel
theorem dX3_reach_101 : decode cX3_reach 101 = .ok (.iload_n 2, 1) := by decide +kernel
theorem dX3_reach_102 : decode cX3_reach 102 = .ok (.iload_n 3, 1) := by decide +kernel
theorem dX3_reach_103 : decode cX3_reach 103 = .ok (.invokevirtual 69, 3) := by decide +kernel
theorem dX3_reach_106 : decode cX3_reach 106 = .ok (.ifCond .eq 20, 3) := by decide +kernel
theorem dX3_reach_109 : decode cX3_reach 109 = .ok (.aload_n 0, 1) := by decide +kernel
theorem dX3_reach_110 : decode cX3_reach 110 = .ok (.getfield 37, 3) := by decide +kernel
theorem dX3_reach_113 : decode cX3_reach 113 = .ok (.aload_n 0, 1) := by decide +kernel
theorem dX3_reach_114 : decode cX3_reach 114 = .ok (.getfield 31, 3) := by decide +kernel
theorem dX3_reach_117 : decode cX3_reach 117 = .ok (.bipush 6, 2) := by decide +kernel
theorem dX3_reach_119 : decode cX3_reach 119 = .ok (.iload_n 2, 1) := by decide +kernel
theorem dX3_reach_120 : decode cX3_reach 120 = .ok (.imul, 1) := by decide +kernel
theorem dX3_reach_121 : decode cX3_reach 121 = .ok (.iload_n 3, 1) := by decide +kernel
theorem dX3_reach_122 : decode cX3_reach 122 = .ok (.iadd, 1) := by decide +kernel
theorem dX3_reach_123 : decode cX3_reach 123 = .ok (.iaload, 1) := by decide +kernel
theorem dX3_reach_124 : decode cX3_reach 124 = .ok (.iconst 1, 1) := by decide +kernel
theorem dX3_reach_125 : decode cX3_reach 125 = .ok (.bastore, 1) := by decide +kernel
theorem dX3_reach_126 : decode cX3_reach 126 = .ok (.iinc 3 1, 3) := by decide +kernel
theorem dX3_reach_129 : decode cX3_reach 129 = .ok (.goto (-44), 3) := by decide +kernel
theorem dX3_reach_132 : decode cX3_reach 132 = .ok (.iinc 2 1, 3) := by decide +kernel
theorem dX3_reach_135 : decode cX3_reach 135 = .ok (.goto (-79), 3) := by decide +kernel
theorem dX3_reach_138 : decode cX3_reach 138 = .ok (.iinc 1 1, 3) := by decide +kernel
theorem dX3_reach_141 : decode cX3_reach 141 = .ok (.goto (-93), 3) := by decide +kernel
theorem dX3_reach_144 : decode cX3_reach 144 = .ok (.return_, 1) := by decide +kernel
theorem dX3_find_0 : decode cX3_find 0 = .ok (.iconst 0, 1) := by decide +kernel
theorem dX3_find_1 : decode cX3_find 1 = .ok (.istore_n 3, 1) := by decide +kernel
theorem dX3_find_2 : decode cX3_find 2 = .ok (.aload_n 0, 1) := by decide +kernel
theorem dX3_find_3 : decode cX3_find 3 = .ok (.iconst (-1), 1) := by decide +kernel
theorem dX3_find_4 : decode cX3_find 4 = .ok (.putfield 79, 3) := by decide +kernel
theorem dX3_find_7 : decode cX3_find 7 = .ok (.aload_n 0, 1) := by decide +kernel
theorem dX3_find_8 : decode cX3_find 8 = .ok (.iload_n 1, 1) := by decide +kernel
theorem dX3_find_9 : decode cX3_find 9 = .ok (.putfield 82, 3) := by decide +kernel
theorem dX3_find_12 : decode cX3_find 12 = .ok (.iload_n 1, 1) := by decide +kernel
theorem dX3_find_13 : decode cX3_find 13 = .ok (.bipush 16, 2) := by decide +kernel
theorem dX3_find_15 : decode cX3_find 15 = .ok (.if_icmp .ge 17, 3) := by decide +kernel
theorem dX3_find_18 : decode cX3_find 18 = .ok (.iload_n 1, 1) := by decide +kernel
theorem dX3_find_19 : decode cX3_find 19 = .ok (.iconst 3, 1) := by decide +kernel
theorem dX3_find_20 : decode cX3_find 20 = .ok (.if_icmp .le 7, 3) := by decide +kernel
theorem dX3_find_23 : decode cX3_find 23 = .ok (.iconst 1, 1) := by decide +kernel
theorem dX3_find_24 : decode cX3_find 24 = .ok (.goto 4, 3) := by decide +kernel
theorem dX3_find_27 : decode cX3_find 27 = .ok (.iconst 0, 1) := by decide +kernel
theorem dX3_find_28 : decode cX3_find 28 = .ok (.istore_n 3, 1) := by decide +kernel
theorem dX3_find_29 : decode cX3_find 29 = .ok (.goto 72, 3) := by decide +kernel
theorem dX3_find_32 : decode cX3_find 32 = .ok (.aload_n 0, 1) := by decide +kernel
theorem dX3_find_33 : decode cX3_find 33 = .ok (.aload_n 0, 1) := by decide +kernel
theorem dX3_find_34 : decode cX3_find 34 = .ok (.getfield 25, 3) := by decide +kernel
theorem dX3_find_37 : decode cX3_find 37 = .ok (.iload_n 1, 1) := by decide +kernel
theorem dX3_find_38 : decode cX3_find 38 = .ok (.bipush 16, 2) := by decide +kernel
theorem dX3_find_40 : decode cX3_find 40 = .ok (.isub, 1) := by decide +kernel
theorem dX3_find_41 : decode cX3_find 41 = .ok (.bipush 8, 2) := by decide +kernel
theorem dX3_find_43 : decode cX3_find 43 = .ok (.idiv, 1) := by decide +kernel
theorem dX3_find_44 : decode cX3_find 44 = .ok (.iaload, 1) := by decide +kernel
theorem dX3_find_45 : decode cX3_find 45 = .ok (.putfield 79, 3) := by decide +kernel
theorem dX3_find_48 : decode cX3_find 48 = .ok (.aload_n 0, 1) := by decide +kernel
theorem dX3_find_49 : decode cX3_find 49 = .ok (.iload_n 1, 1) := by decide +kernel
theorem dX3_find_50 : decode cX3_find 50 = .ok (.bipush 8, 2) := by decide +kernel
theorem dX3_find_52 : decode cX3_find 52 = .ok (.irem, 1) := by decide +kernel
theorem dX3_find_53 : decode cX3_find 53 = .ok (.putfield 82, 3) := by decide +kernel
theorem dX3_find_56 : decode cX3_find 56 = .ok (.aload_n 0, 1) := by decide +kernel
theorem dX3_find_57 : decode cX3_find 57 = .ok (.getfield 79, 3) := by decide +kernel
theorem dX3_find_60 : decode cX3_find 60 = .ok (.ifCond .ne 5, 3) := by decide +kernel
theorem dX3_find_63 : decode cX3_find 63 = .ok (.iconst 1, 1) := by decide +kernel
theorem dX3_find_64 : decode cX3_find 64 = .ok (.ireturn, 1) := by decide +kernel
theorem dX3_find_65 : decode cX3_find 65 = .ok (.aload_n 0, 1) := by decide +kernel
theorem dX3_find_66 : decode cX3_find 66 = .ok (.getfield 82, 3) := by decide +kernel
theorem dX3_find_69 : decode cX3_find 69 = .ok (.aload_n 0, 1) := by decide +kernel
theorem dX3_find_70 : decode cX3_find 70 = .ok (.getfield 7, 3) := by decide +kernel
theorem dX3_find_73 : decode cX3_find 73 = .ok (.aload_n 0, 1) := by decide +kernel
theorem dX3_find_74 : decode cX3_find 74 = .ok (.getfield 28, 3) := by decide +kernel
theorem dX3_find_77 : decode cX3_find 77 = .ok (.aload_n 0, 1) := by decide +kernel
theorem dX3_find_78 : decode cX3_find 78 = .ok (.getfield 79, 3) := by decide +kernel
theorem dX3_find_81 : decode cX3_find 81 = .ok (.iaload, 1) := by decide +kernel
theorem dX3_find_82 : decode cX3_find 82 = .ok (.iaload, 1) := by decide +kernel
theorem dX3_find_83 : decode cX3_find 83 = .ok (.if_icmp .lt 5, 3) := by decide +kernel
theorem dX3_find_86 : decode cX3_find 86 = .ok (.iconst 2, 1) := by decide +kernel
theorem dX3_find_87 : decode cX3_find 87 = .ok (.ireturn, 1) := by decide +kernel
theorem dX3_find_88 : decode cX3_find 88 = .ok (.aload_n 0, 1) := by decide +kernel
theorem dX3_find_89 : decode cX3_find 89 = .ok (.aload_n 0, 1) := by decide +kernel
theorem dX3_find_90 : decode cX3_find 90 = .ok (.getfield 79, 3) := by decide +kernel
theorem dX3_find_93 : decode cX3_find 93 = .ok (.aload_n 0, 1) := by decide +kernel
theorem dX3_find_94 : decode cX3_find 94 = .ok (.getfield 82, 3) := by decide +kernel
theorem dX3_find_97 : decode cX3_find 97 = .ok (.invokevirtual 69, 3) := by decide +kernel
theorem dX3_find_100 : decode cX3_find 100 = .ok (.istore_n 3, 1) := by decide +kernel
theorem dX3_find_101 : decode cX3_find 101 = .ok (.iload_n 3, 1) := by decide +kernel
theorem dX3_find_102 : decode cX3_find 102 = .ok (.iload_n 2, 1) := by decide +kernel
theorem dX3_find_103 : decode cX3_find 103 = .ok (.iconst 2, 1) := by decide +kernel
theorem dX3_find_104 : decode cX3_find 104 = .ok (.if_icmp .ne 7, 3) := by decide +kernel
theorem dX3_find_107 : decode cX3_find 107 = .ok (.iconst 1, 1) := by decide +kernel
theorem dX3_find_108 : decode cX3_find 108 = .ok (.goto 4, 3) := by decide +kernel
theorem dX3_find_111 : decode cX3_find 111 = .ok (.iconst 0, 1) := by decide +kernel
theorem dX3_find_112 : decode cX3_find 112 = .ok (.if_icmp .ne 7, 3) := by decide +kernel
theorem dX3_find_115 : decode cX3_find 115 = .ok (.iconst 0, 1) := by decide +kernel
theorem dX3_find_116 : decode cX3_find 116 = .ok (.goto 4, 3) := by decide +kernel
theorem dX3_find_119 : decode cX3_find 119 = .ok (.iconst 3, 1) := by decide +kernel
theorem dX3_find_120 : decode cX3_find 120 = .ok (.ireturn, 1) := by decide +kernel
theorem dX3_read_0 : decode cX3_read 0 = .ok (.aload_n 0, 1) := by decide +kernel
theorem dX3_read_1 : decode cX3_read 1 = .ok (.iload_n 1, 1) := by decide +kernel
theorem dX3_read_2 : decode cX3_read 2 = .ok (.iconst 1, 1) := by decide +kernel
theorem dX3_read_3 : decode cX3_read 3 = .ok (.invokevirtual 85, 3) := by decide +kernel
theorem dX3_read_6 : decode cX3_read 6 = .ok (.istore_n 2, 1) := by decide +kernel
theorem dX3_read_7 : decode cX3_read 7 = .ok (.aload_n 0, 1) := by decide +kernel
theorem dX3_read_8 : decode cX3_read 8 = .ok (.getfield 79, 3) := by decide +kernel
theorem dX3_read_11 : decode cX3_read 11 = .ok (.iconst (-1), 1) := by decide +kernel
theorem dX3_read_12 : decode cX3_read 12 = .ok (.if_icmp .ne 26, 3) := by decide +kernel
theorem dX3_read_15 : decode cX3_read 15 = .ok (.iload_n 1, 1) := by decide +kernel
theorem dX3_read_16 : decode cX3_read 16 = .ok (.iconst 4, 1) := by decide +kernel
theorem dX3_read_17 : decode cX3_read 17 = .ok (.if_icmp .ge 12, 3) := by decide +kernel
theorem dX3_read_20 : decode cX3_read 20 = .ok (.aload_n 0, 1) := by decide +kernel
theorem dX3_read_21 : decode cX3_read 21 = .ok (.getfield 22, 3) := by decide +kernel
theorem dX3_read_24 : decode cX3_read 24 = .ok (.iload_n 1, 1) := by decide +kernel
theorem dX3_read_25 : decode cX3_read 25 = .ok (.iaload, 1) := by decide +kernel
theorem dX3_read_26 : decode cX3_read 26 = .ok (.goto 11, 3) := by decide +kernel
theorem dX3_read_29 : decode cX3_read 29 = .ok (.aload_n 0, 1) := by decide +kernel
theorem dX3_read_30 : decode cX3_read 30 = .ok (.getfield 25, 3) := by decide +kernel
theorem dX3_read_33 : decode cX3_read 33 = .ok (.iload_n 1, 1) := by decide +kernel
theorem dX3_read_34 : decode cX3_read 34 = .ok (.iconst 4, 1) := by decide +kernel
theorem dX3_read_35 : decode cX3_read 35 = .ok (.isub, 1) := by decide +kernel
theorem dX3_read_36 : decode cX3_read 36 = .ok (.iaload, 1) := by decide +kernel
theorem dX3_read_37 : decode cX3_read 37 = .ok (.ireturn, 1) := by decide +kernel
theorem dX3_read_38 : decode cX3_read 38 = .ok (.aload_n 0, 1) := by decide +kernel
theorem dX3_read_39 : decode cX3_read 39 = .ok (.getfield 31, 3) := by decide +kernel
theorem dX3_read_42 : decode cX3_read 42 = .ok (.bipush 6, 2) := by decide +kernel
theorem dX3_read_44 : decode cX3_read 44 = .ok (.aload_n 0, 1) := by decide +kernel
theorem dX3_read_45 : decode cX3_read 45 = .ok (.getfield 79, 3) := by decide +kernel
theorem dX3_read_48 : decode cX3_read 48 = .ok (.imul, 1) := by decide +kernel
theorem dX3_read_49 : decode cX3_read 49 = .ok (.aload_n 0, 1) := by decide +kernel
