theorem dX3_init_0 : decode cX3_init 0 = .ok (.aload_n 0, 1) := by decide +kernel
theorem dX3_init_1 : decode cX3_init 1 = .ok (.invokespecial 1, 3) := by decide +kernel
theorem dX3_init_4 : decode cX3_init 4 = .ok (.aload_n 0, 1) := by decide +kernel
theorem dX3_init_5 : decode cX3_init 5 = .ok (.iconst 4, 1) := by decide +kernel
theorem dX3_init_6 : decode cX3_init 6 = .ok (.newarray .int, 2) := by decide +kernel
theorem dX3_init_8 : decode cX3_init 8 = .ok (.putfield 7, 3) := by decide +kernel
theorem dX3_init_11 : decode cX3_init 11 = .ok (.aload_n 0, 1) := by decide +kernel
theorem dX3_init_12 : decode cX3_init 12 = .ok (.iconst 4, 1) := by decide +kernel
theorem dX3_init_13 : decode cX3_init 13 = .ok (.newarray .int, 2) := by decide +kernel
theorem dX3_init_15 : decode cX3_init 15 = .ok (.putfield 13, 3) := by decide +kernel
theorem dX3_init_18 : decode cX3_init 18 = .ok (.aload_n 0, 1) := by decide +kernel
theorem dX3_init_19 : decode cX3_init 19 = .ok (.sipush 160, 3) := by decide +kernel
theorem dX3_init_22 : decode cX3_init 22 = .ok (.newarray .int, 2) := by decide +kernel
theorem dX3_init_24 : decode cX3_init 24 = .ok (.putfield 16, 3) := by decide +kernel
theorem dX3_init_27 : decode cX3_init 27 = .ok (.aload_n 0, 1) := by decide +kernel
theorem dX3_init_28 : decode cX3_init 28 = .ok (.bipush 8, 2) := by decide +kernel
theorem dX3_init_30 : decode cX3_init 30 = .ok (.newarray .int, 2) := by decide +kernel
theorem dX3_init_32 : decode cX3_init 32 = .ok (.putfield 19, 3) := by decide +kernel
theorem dX3_init_35 : decode cX3_init 35 = .ok (.aload_n 0, 1) := by decide +kernel
theorem dX3_init_36 : decode cX3_init 36 = .ok (.iconst 4, 1) := by decide +kernel
theorem dX3_init_37 : decode cX3_init 37 = .ok (.newarray .int, 2) := by decide +kernel
theorem dX3_init_39 : decode cX3_init 39 = .ok (.putfield 22, 3) := by decide +kernel
theorem dX3_init_42 : decode cX3_init 42 = .ok (.aload_n 0, 1) := by decide +kernel
theorem dX3_init_43 : decode cX3_init 43 = .ok (.iconst 4, 1) := by decide +kernel
theorem dX3_init_44 : decode cX3_init 44 = .ok (.newarray .int, 2) := by decide +kernel
theorem dX3_init_46 : decode cX3_init 46 = .ok (.putfield 25, 3) := by decide +kernel
theorem dX3_init_49 : decode cX3_init 49 = .ok (.aload_n 0, 1) := by decide +kernel
theorem dX3_init_50 : decode cX3_init 50 = .ok (.bipush 25, 2) := by decide +kernel
theorem dX3_init_52 : decode cX3_init 52 = .ok (.newarray .int, 2) := by decide +kernel
theorem dX3_init_54 : decode cX3_init 54 = .ok (.putfield 28, 3) := by decide +kernel
theorem dX3_init_57 : decode cX3_init 57 = .ok (.aload_n 0, 1) := by decide +kernel
theorem dX3_init_58 : decode cX3_init 58 = .ok (.sipush 150, 3) := by decide +kernel
theorem dX3_init_61 : decode cX3_init 61 = .ok (.newarray .int, 2) := by decide +kernel
theorem dX3_init_63 : decode cX3_init 63 = .ok (.putfield 31, 3) := by decide +kernel
theorem dX3_init_66 : decode cX3_init 66 = .ok (.aload_n 0, 1) := by decide +kernel
theorem dX3_init_67 : decode cX3_init 67 = .ok (.bipush 25, 2) := by decide +kernel
theorem dX3_init_69 : decode cX3_init 69 = .ok (.newarray .int, 2) := by decide +kernel
theorem dX3_init_71 : decode cX3_init 71 = .ok (.putfield 34, 3) := by decide +kernel
theorem dX3_init_74 : decode cX3_init 74 = .ok (.aload_n 0, 1) := by decide +kernel
theorem dX3_init_75 : decode cX3_init 75 = .ok (.bipush 25, 2) := by decide +kernel
theorem dX3_init_77 : decode cX3_init 77 = .ok (.newarray .boolean, 2) := by decide +kernel
theorem dX3_init_79 : decode cX3_init 79 = .ok (.putfield 37, 3) := by decide +kernel
theorem dX3_init_82 : decode cX3_init 82 = .ok (.iconst 0, 1) := by decide +kernel
theorem dX3_init_83 : decode cX3_init 83 = .ok (.istore_n 1, 1) := by decide +kernel
theorem dX3_init_84 : decode cX3_init 84 = .ok (.iload_n 1, 1) := by decide +kernel
theorem dX3_init_85 : decode cX3_init 85 = .ok (.iconst 4, 1) := by decide +kernel
theorem dX3_init_86 : decode cX3_init 86 = .ok (.if_icmp .ge 16, 3) := by decide +kernel
theorem dX3_init_89 : decode cX3_init 89 = .ok (.aload_n 0, 1) := by decide +kernel
theorem dX3_init_90 : decode cX3_init 90 = .ok (.getfield 7, 3) := by decide +kernel
theorem dX3_init_93 : decode cX3_init 93 = .ok (.iload_n 1, 1) := by decide +kernel
theorem dX3_init_94 : decode cX3_init 94 = .ok (.iconst 1, 1) := by decide +kernel
theorem dX3_init_95 : decode cX3_init 95 = .ok (.iastore, 1) := by decide +kernel
theorem dX3_init_96 : decode cX3_init 96 = .ok (.iinc 1 1, 3) := by decide +kernel
theorem dX3_init_99 : decode cX3_init 99 = .ok (.goto (-15), 3) := by decide +kernel
theorem dX3_init_102 : decode cX3_init 102 = .ok (.iconst 0, 1) := by decide +kernel
theorem dX3_init_103 : decode cX3_init 103 = .ok (.istore_n 1, 1) := by decide +kernel
theorem dX3_init_104 : decode cX3_init 104 = .ok (.iload_n 1, 1) := by decide +kernel
theorem dX3_init_105 : decode cX3_init 105 = .ok (.bipush 25, 2) := by decide +kernel
theorem dX3_init_107 : decode cX3_init 107 = .ok (.if_icmp .ge 16, 3) := by decide +kernel
theorem dX3_init_110 : decode cX3_init 110 = .ok (.aload_n 0, 1) := by decide +kernel
theorem dX3_init_111 : decode cX3_init 111 = .ok (.getfield 28, 3) := by decide +kernel
theorem dX3_init_114 : decode cX3_init 114 = .ok (.iload_n 1, 1) := by decide +kernel
theorem dX3_init_115 : decode cX3_init 115 = .ok (.iconst (-1), 1) := by decide +kernel
theorem dX3_init_116 : decode cX3_init 116 = .ok (.iastore, 1) := by decide +kernel
theorem dX3_init_117 : decode cX3_init 117 = .ok (.iinc 1 1, 3) := by decide +kernel
theorem dX3_init_120 : decode cX3_init 120 = .ok (.goto (-16), 3) := by decide +kernel
theorem dX3_init_123 : decode cX3_init 123 = .ok (.return_, 1) := by decide +kernel
theorem dX3_thrown_0 : decode cX3_thrown 0 = .ok (.aload_n 0, 1) := by decide +kernel
theorem dX3_thrown_1 : decode cX3_thrown 1 = .ok (.getfield 41, 3) := by decide +kernel
theorem dX3_thrown_4 : decode cX3_thrown 4 = .ok (.ireturn, 1) := by decide +kernel
theorem dX3_within_0 : decode cX3_within 0 = .ok (.iload_n 0, 1) := by decide +kernel
theorem dX3_within_1 : decode cX3_within 1 = .ok (.iload_n 1, 1) := by decide +kernel
theorem dX3_within_2 : decode cX3_within 2 = .ok (.if_icmp .lt 12, 3) := by decide +kernel
theorem dX3_within_5 : decode cX3_within 5 = .ok (.iload_n 0, 1) := by decide +kernel
theorem dX3_within_6 : decode cX3_within 6 = .ok (.iload_n 2, 1) := by decide +kernel
theorem dX3_within_7 : decode cX3_within 7 = .ok (.if_icmp .gt 7, 3) := by decide +kernel
theorem dX3_within_10 : decode cX3_within 10 = .ok (.iconst 1, 1) := by decide +kernel
theorem dX3_within_11 : decode cX3_within 11 = .ok (.goto 4, 3) := by decide +kernel
theorem dX3_within_14 : decode cX3_within 14 = .ok (.iconst 0, 1) := by decide +kernel
theorem dX3_within_15 : decode cX3_within 15 = .ok (.ireturn, 1) := by decide +kernel
theorem dX3_type_0 : decode cX3_type 0 = .ok (.aload_n 0, 1) := by decide +kernel
theorem dX3_type_1 : decode cX3_type 1 = .ok (.iconst 0, 1) := by decide +kernel
theorem dX3_type_2 : decode cX3_type 2 = .ok (.putfield 41, 3) := by decide +kernel
theorem dX3_type_5 : decode cX3_type 5 = .ok (.iload_n 1, 1) := by decide +kernel
theorem dX3_type_6 : decode cX3_type 6 = .ok (.iconst 0, 1) := by decide +kernel
theorem dX3_type_7 : decode cX3_type 7 = .ok (.iconst 3, 1) := by decide +kernel
theorem dX3_type_8 : decode cX3_type 8 = .ok (.invokestatic 45, 3) := by decide +kernel
theorem dX3_type_11 : decode cX3_type 11 = .ok (.ifCond .eq 23, 3) := by decide +kernel
theorem dX3_type_14 : decode cX3_type 14 = .ok (.iload_n 2, 1) := by decide +kernel
theorem dX3_type_15 : decode cX3_type 15 = .ok (.iconst 1, 1) := by decide +kernel
theorem dX3_type_16 : decode cX3_type 16 = .ok (.bipush 6, 2) := by decide +kernel
theorem dX3_type_18 : decode cX3_type 18 = .ok (.invokestatic 45, 3) := by decide +kernel
theorem dX3_type_21 : decode cX3_type 21 = .ok (.ifCond .eq 13, 3) := by decide +kernel
theorem dX3_type_24 : decode cX3_type 24 = .ok (.iload_n 3, 1) := by decide +kernel
theorem dX3_type_25 : decode cX3_type 25 = .ok (.ifCond .lt 9, 3) := by decide +kernel
theorem dX3_type_28 : decode cX3_type 28 = .ok (.iload_n 3, 1) := by decide +kernel
theorem dX3_type_29 : decode cX3_type 29 = .ok (.iload_n 2, 1) := by decide +kernel
theorem dX3_type_30 : decode cX3_type 30 = .ok (.ishr, 1) := by decide +kernel
theorem dX3_type_31 : decode cX3_type 31 = .ok (.ifCond .eq 5, 3) := by decide +kernel
theorem dX3_type_34 : decode cX3_type 34 = .ok (.iconst 0, 1) := by decide +kernel
theorem dX3_type_35 : decode cX3_type 35 = .ok (.ireturn, 1) := by decide +kernel
theorem dX3_type_36 : decode cX3_type 36 = .ok (.iconst 1, 1) := by decide +kernel
theorem dX3_type_37 : decode cX3_type 37 = .ok (.istore 4, 2) := by decide +kernel
theorem dX3_type_39 : decode cX3_type 39 = .ok (.iload 4, 2) := by decide +kernel
theorem dX3_type_41 : decode cX3_type 41 = .ok (.bipush 25, 2) := by decide +kernel
theorem dX3_type_43 : decode cX3_type 43 = .ok (.if_icmp .ge 22, 3) := by decide +kernel
theorem dX3_type_46 : decode cX3_type 46 = .ok (.aload_n 0, 1) := by decide +kernel
theorem dX3_type_47 : decode cX3_type 47 = .ok (.getfield 28, 3) := by decide +kernel
theorem dX3_type_50 : decode cX3_type 50 = .ok (.iload 4, 2) := by decide +kernel
theorem dX3_type_52 : decode cX3_type 52 = .ok (.iaload, 1) := by decide +kernel
theorem dX3_type_53 : decode cX3_type 53 = .ok (.iload_n 1, 1) := by decide +kernel
theorem dX3_type_54 : decode cX3_type 54 = .ok (.if_icmp .ne 5, 3) := by decide +kernel
theorem dX3_type_57 : decode cX3_type 57 = .ok (.iconst 0, 1) := by decide +kernel
theorem dX3_type_58 : decode cX3_type 58 = .ok (.ireturn, 1) := by decide +kernel
theorem dX3_type_59 : decode cX3_type 59 = .ok (.iinc 4 1, 3) := by decide +kernel
theorem dX3_type_62 : decode cX3_type 62 = .ok (.goto (-23), 3) := by decide +kernel
theorem dX3_type_65 : decode cX3_type 65 = .ok (.aload_n 0, 1) := by decide +kernel
theorem dX3_type_66 : decode cX3_type 66 = .ok (.getfield 7, 3) := by decide +kernel
theorem dX3_type_69 : decode cX3_type 69 = .ok (.iload_n 1, 1) := by decide +kernel
theorem dX3_type_70 : decode cX3_type 70 = .ok (.iload_n 2, 1) := by decide +kernel
theorem dX3_type_71 : decode cX3_type 71 = .ok (.iastore, 1) := by decide +kernel
theorem dX3_type_72 : decode cX3_type 72 = .ok (.aload_n 0, 1) := by decide +kernel
theorem dX3_type_73 : decode cX3_type 73 = .ok (.getfield 13, 3) := by decide +kernel
theorem dX3_type_76 : decode cX3_type 76 = .ok (.iload_n 1, 1) := by decide +kernel
theorem dX3_type_77 : decode cX3_type 77 = .ok (.iload_n 3, 1) := by decide +kernel
theorem dX3_type_78 : decode cX3_type 78 = .ok (.iastore, 1) := by decide +kernel
theorem dX3_type_79 : decode cX3_type 79 = .ok (.iconst 1, 1) := by decide +kernel
theorem dX3_type_80 : decode cX3_type 80 = .ok (.ireturn, 1) := by decide +kernel
theorem dX3_isOperand_0 : decode cX3_isOperand 0 = .ok (.iload_n 0, 1) := by decide +kernel
theorem dX3_isOperand_1 : decode cX3_isOperand 1 = .ok (.iconst 0, 1) := by decide +kernel
theorem dX3_isOperand_2 : decode cX3_isOperand 2 = .ok (.bipush 7, 2) := by decide +kernel
theorem dX3_isOperand_4 : decode cX3_isOperand 4 = .ok (.invokestatic 45, 3) := by decide +kernel
theorem dX3_isOperand_7 : decode cX3_isOperand 7 = .ok (.ifCond .ne 14, 3) := by decide +kernel
theorem dX3_isOperand_10 : decode cX3_isOperand 10 = .ok (.iload_n 0, 1) := by decide +kernel
theorem dX3_isOperand_11 : decode cX3_isOperand 11 = .ok (.bipush 16, 2) := by decide +kernel
theorem dX3_isOperand_13 : decode cX3_isOperand 13 = .ok (.bipush 47, 2) := by decide +kernel
theorem dX3_isOperand_15 : decode cX3_isOperand 15 = .ok (.invokestatic 45, 3) := by decide +kernel
theorem dX3_isOperand_18 : decode cX3_isOperand 18 = .ok (.ifCond .eq 7, 3) := by decide +kernel
theorem dX3_isOperand_21 : decode cX3_isOperand 21 = .ok (.iconst 1, 1) := by decide +kernel
theorem dX3_isOperand_22 : decode cX3_isOperand 22 = .ok (.goto 4, 3) := by decide +kernel
theorem dX3_isOperand_25 : decode cX3_isOperand 25 = .ok (.iconst 0, 1) := by decide +kernel
theorem dX3_isOperand_26 : decode cX3_isOperand 26 = .ok (.ireturn, 1) := by decide +kernel
theorem dX3_takes_0 : decode cX3_takes 0 = .ok (.iload_n 1, 1) := by decide +kernel
theorem dX3_takes_1 : decode cX3_takes 1 = .ok (.ifCond .ne 62, 3) := by decide +kernel
theorem dX3_takes_4 : decode cX3_takes 4 = .ok (.iload_n 0, 1) := by decide +kernel
theorem dX3_takes_5 : decode cX3_takes 5 = .ok (.bipush 7, 2) := by decide +kernel
theorem dX3_takes_7 : decode cX3_takes 7 = .ok (.if_icmp .eq 15, 3) := by decide +kernel
theorem dX3_takes_10 : decode cX3_takes 10 = .ok (.iload_n 0, 1) := by decide +kernel
theorem dX3_takes_11 : decode cX3_takes 11 = .ok (.bipush 8, 2) := by decide +kernel
theorem dX3_takes_13 : decode cX3_takes 13 = .ok (.if_icmp .eq 9, 3) := by decide +kernel
theorem dX3_takes_16 : decode cX3_takes 16 = .ok (.iload_n 0, 1) := by decide +kernel
theorem dX3_takes_17 : decode cX3_takes 17 = .ok (.bipush 13, 2) := by decide +kernel
theorem dX3_takes_19 : decode cX3_takes 19 = .ok (.if_icmp .ne 7, 3) := by decide +kernel
theorem dX3_takes_22 : decode cX3_takes 22 = .ok (.iconst 3, 1) := by decide +kernel
theorem dX3_takes_23 : decode cX3_takes 23 = .ok (.goto 39, 3) := by decide +kernel
theorem dX3_takes_26 : decode cX3_takes 26 = .ok (.iload_n 0, 1) := by decide +kernel
theorem dX3_takes_27 : decode cX3_takes 27 = .ok (.bipush 9, 2) := by decide +kernel
theorem dX3_takes_29 : decode cX3_takes 29 = .ok (.bipush 11, 2) := by decide +kernel
theorem dX3_takes_31 : decode cX3_takes 31 = .ok (.invokestatic 45, 3) := by decide +kernel
theorem dX3_takes_34 : decode cX3_takes 34 = .ok (.ifCond .eq 7, 3) := by decide +kernel
theorem dX3_takes_37 : decode cX3_takes 37 = .ok (.iconst 2, 1) := by decide +kernel
theorem dX3_takes_38 : decode cX3_takes 38 = .ok (.goto 24, 3) := by decide +kernel
theorem dX3_takes_41 : decode cX3_takes 41 = .ok (.iload_n 0, 1) := by decide +kernel
theorem dX3_takes_42 : decode cX3_takes 42 = .ok (.iconst 1, 1) := by decide +kernel
theorem dX3_takes_43 : decode cX3_takes 43 = .ok (.bipush 6, 2) := by decide +kernel
theorem dX3_takes_45 : decode cX3_takes 45 = .ok (.invokestatic 45, 3) := by decide +kernel
theorem dX3_takes_48 : decode cX3_takes 48 = .ok (.ifCond .ne 9, 3) := by decide +kernel
theorem dX3_takes_51 : decode cX3_takes 51 = .ok (.iload_n 0, 1) := by decide +kernel
theorem dX3_takes_52 : decode cX3_takes 52 = .ok (.bipush 12, 2) := by decide +kernel
theorem dX3_takes_54 : decode cX3_takes 54 = .ok (.if_icmp .ne 7, 3) := by decide +kernel
theorem dX3_takes_57 : decode cX3_takes 57 = .ok (.iconst 1, 1) := by decide +kernel
theorem dX3_takes_58 : decode cX3_takes 58 = .ok (.goto 4, 3) := by decide +kernel
theorem dX3_takes_61 : decode cX3_takes 61 = .ok (.iconst 0, 1) := by decide +kernel
theorem dX3_takes_62 : decode cX3_takes 62 = .ok (.ireturn, 1) := by decide +kernel
theorem dX3_takes_63 : decode cX3_takes 63 = .ok (.iload_n 1, 1) := by decide +kernel
theorem dX3_takes_64 : decode cX3_takes 64 = .ok (.iconst 1, 1) := by decide +kernel
theorem dX3_takes_65 : decode cX3_takes 65 = .ok (.if_icmp .ne 51, 3) := by decide +kernel
theorem dX3_takes_68 : decode cX3_takes 68 = .ok (.iload_n 0, 1) := by decide +kernel
theorem dX3_takes_69 : decode cX3_takes 69 = .ok (.bipush 9, 2) := by decide +kernel
theorem dX3_takes_71 : decode cX3_takes 71 = .ok (.if_icmp .ne 7, 3) := by decide +kernel
theorem dX3_takes_74 : decode cX3_takes 74 = .ok (.iconst 4, 1) := by decide +kernel
theorem dX3_takes_75 : decode cX3_takes 75 = .ok (.goto 40, 3) := by decide +kernel
theorem dX3_takes_78 : decode cX3_takes 78 = .ok (.iload_n 0, 1) := by decide +kernel
theorem dX3_takes_79 : decode cX3_takes 79 = .ok (.bipush 10, 2) := by decide +kernel
theorem dX3_takes_81 : decode cX3_takes 81 = .ok (.if_icmp .eq 9, 3) := by decide +kernel
theorem dX3_takes_84 : decode cX3_takes 84 = .ok (.iload_n 0, 1) := by decide +kernel
theorem dX3_takes_85 : decode cX3_takes 85 = .ok (.bipush 12, 2) := by decide +kernel
theorem dX3_takes_87 : decode cX3_takes 87 = .ok (.if_icmp .ne 7, 3) := by decide +kernel
theorem dX3_takes_90 : decode cX3_takes 90 = .ok (.iconst 2, 1) := by decide +kernel
theorem dX3_takes_91 : decode cX3_takes 91 = .ok (.goto 24, 3) := by decide +kernel
theorem dX3_takes_94 : decode cX3_takes 94 = .ok (.iload_n 0, 1) := by decide +kernel
theorem dX3_takes_95 : decode cX3_takes 95 = .ok (.iconst 2, 1) := by decide +kernel
theorem dX3_takes_96 : decode cX3_takes 96 = .ok (.bipush 6, 2) := by decide +kernel
theorem dX3_takes_98 : decode cX3_takes 98 = .ok (.invokestatic 45, 3) := by decide +kernel
theorem dX3_takes_101 : decode cX3_takes 101 = .ok (.ifCond .ne 9, 3) := by decide +kernel
theorem dX3_takes_104 : decode cX3_takes 104 = .ok (.iload_n 0, 1) := by decide +kernel
theorem dX3_takes_105 : decode cX3_takes 105 = .ok (.bipush 8, 2) := by decide +kernel
theorem dX3_takes_107 : decode cX3_takes 107 = .ok (.if_icmp .ne 7, 3) := by decide +kernel
theorem dX3_takes_110 : decode cX3_takes 110 = .ok (.iconst 1, 1) := by decide +kernel
theorem dX3_takes_111 : decode cX3_takes 111 = .ok (.goto 4, 3) := by decide +kernel
theorem dX3_takes_114 : decode cX3_takes 114 = .ok (.iconst 0, 1) := by decide +kernel
theorem dX3_takes_115 : decode cX3_takes 115 = .ok (.ireturn, 1) := by decide +kernel
theorem dX3_takes_116 : decode cX3_takes 116 = .ok (.iload_n 0, 1) := by decide +kernel
theorem dX3_takes_117 : decode cX3_takes 117 = .ok (.iconst 3, 1) := by decide +kernel
theorem dX3_takes_118 : decode cX3_takes 118 = .ok (.bipush 6, 2) := by decide +kernel
theorem dX3_takes_120 : decode cX3_takes 120 = .ok (.invokestatic 45, 3) := by decide +kernel
theorem dX3_takes_123 : decode cX3_takes 123 = .ok (.ifCond .eq 7, 3) := by decide +kernel
theorem dX3_takes_126 : decode cX3_takes 126 = .ok (.iconst 1, 1) := by decide +kernel
theorem dX3_takes_127 : decode cX3_takes 127 = .ok (.goto 14, 3) := by decide +kernel
theorem dX3_takes_130 : decode cX3_takes 130 = .ok (.iload_n 0, 1) := by decide +kernel
theorem dX3_takes_131 : decode cX3_takes 131 = .ok (.bipush 12, 2) := by decide +kernel
theorem dX3_takes_133 : decode cX3_takes 133 = .ok (.if_icmp .ne 7, 3) := by decide +kernel
theorem dX3_takes_136 : decode cX3_takes 136 = .ok (.iconst 2, 1) := by decide +kernel
theorem dX3_takes_137 : decode cX3_takes 137 = .ok (.goto 4, 3) := by decide +kernel
theorem dX3_takes_140 : decode cX3_takes 140 = .ok (.iconst 0, 1) := by decide +kernel
theorem dX3_takes_141 : decode cX3_takes 141 = .ok (.ireturn, 1) := by decide +kernel
theorem dX3_isRight_0 : decode cX3_isRight 0 = .ok (.iload_n 0, 1) := by decide +kernel
theorem dX3_isRight_1 : decode cX3_isRight 1 = .ok (.iload_n 1, 1) := by decide +kernel
theorem dX3_isRight_2 : decode cX3_isRight 2 = .ok (.invokestatic 49, 3) := by decide +kernel
theorem dX3_isRight_5 : decode cX3_isRight 5 = .ok (.istore_n 3, 1) := by decide +kernel
theorem dX3_isRight_6 : decode cX3_isRight 6 = .ok (.iload_n 3, 1) := by decide +kernel
theorem dX3_isRight_7 : decode cX3_isRight 7 = .ok (.ifCond .ne 5, 3) := by decide +kernel
theorem dX3_isRight_10 : decode cX3_isRight 10 = .ok (.iconst 1, 1) := by decide +kernel
theorem dX3_isRight_11 : decode cX3_isRight 11 = .ok (.ireturn, 1) := by decide +kernel
theorem dX3_isRight_12 : decode cX3_isRight 12 = .ok (.iload_n 3, 1) := by decide +kernel
theorem dX3_isRight_13 : decode cX3_isRight 13 = .ok (.iconst 3, 1) := by decide +kernel
theorem dX3_isRight_14 : decode cX3_isRight 14 = .ok (.if_icmp .ge 10, 3) := by decide +kernel
theorem dX3_isRight_17 : decode cX3_isRight 17 = .ok (.iload_n 2, 1) := by decide +kernel
theorem dX3_isRight_18 : decode cX3_isRight 18 = .ok (.invokestatic 53, 3) := by decide +kernel
theorem dX3_isRight_21 : decode cX3_isRight 21 = .ok (.goto 24, 3) := by decide +kernel
theorem dX3_isRight_24 : decode cX3_isRight 24 = .ok (.iload_n 3, 1) := by decide +kernel
theorem dX3_isRight_25 : decode cX3_isRight 25 = .ok (.iconst 3, 1) := by decide +kernel
theorem dX3_isRight_26 : decode cX3_isRight 26 = .ok (.if_icmp .ne 13, 3) := by decide +kernel
theorem dX3_isRight_29 : decode cX3_isRight 29 = .ok (.iload_n 2, 1) := by decide +kernel
theorem dX3_isRight_30 : decode cX3_isRight 30 = .ok (.iconst 0, 1) := by decide +kernel
theorem dX3_isRight_31 : decode cX3_isRight 31 = .ok (.bipush 39, 2) := by decide +kernel
theorem dX3_isRight_33 : decode cX3_isRight 33 = .ok (.invokestatic 45, 3) := by decide +kernel
theorem dX3_isRight_36 : decode cX3_isRight 36 = .ok (.goto 9, 3) := by decide +kernel
theorem dX3_isRight_39 : decode cX3_isRight 39 = .ok (.iload_n 2, 1) := by decide +kernel
theorem dX3_isRight_40 : decode cX3_isRight 40 = .ok (.iconst 0, 1) := by decide +kernel
theorem dX3_isRight_41 : decode cX3_isRight 41 = .ok (.iconst 3, 1) := by decide +kernel
theorem dX3_isRight_42 : decode cX3_isRight 42 = .ok (.invokestatic 45, 3) := by decide +kernel
theorem dX3_isRight_45 : decode cX3_isRight 45 = .ok (.ireturn, 1) := by decide +kernel
theorem dX3_add_0 : decode cX3_add 0 = .ok (.aload_n 0, 1) := by decide +kernel
theorem dX3_add_1 : decode cX3_add 1 = .ok (.iconst 0, 1) := by decide +kernel
theorem dX3_add_2 : decode cX3_add 2 = .ok (.putfield 41, 3) := by decide +kernel
theorem dX3_add_5 : decode cX3_add 5 = .ok (.iload_n 1, 1) := by decide +kernel
theorem dX3_add_6 : decode cX3_add 6 = .ok (.iconst 0, 1) := by decide +kernel
theorem dX3_add_7 : decode cX3_add 7 = .ok (.bipush 14, 2) := by decide +kernel
theorem dX3_add_9 : decode cX3_add 9 = .ok (.invokestatic 45, 3) := by decide +kernel
theorem dX3_add_12 : decode cX3_add 12 = .ok (.ifCond .ne 5, 3) := by decide +kernel
theorem dX3_add_15 : decode cX3_add 15 = .ok (.iconst (-1), 1) := by decide +kernel
theorem dX3_add_16 : decode cX3_add 16 = .ok (.ireturn, 1) := by decide +kernel
theorem dX3_add_17 : decode cX3_add 17 = .ok (.iload_n 1, 1) := by decide +kernel
theorem dX3_add_18 : decode cX3_add 18 = .ok (.iconst 0, 1) := by decide +kernel
theorem dX3_add_19 : decode cX3_add 19 = .ok (.iload_n 2, 1) := by decide +kernel
theorem dX3_add_20 : decode cX3_add 20 = .ok (.invokestatic 57, 3) := by decide +kernel
theorem dX3_add_23 : decode cX3_add 23 = .ok (.ifCond .eq 22, 3) := by decide +kernel
theorem dX3_add_26 : decode cX3_add 26 = .ok (.iload_n 1, 1) := by decide +kernel
theorem dX3_add_27 : decode cX3_add 27 = .ok (.iconst 1, 1) := by decide +kernel
theorem dX3_add_28 : decode cX3_add 28 = .ok (.iload_n 3, 1) := by decide +kernel
theorem dX3_add_29 : decode cX3_add 29 = .ok (.invokestatic 57, 3) := by decide +kernel
theorem dX3_add_32 : decode cX3_add 32 = .ok (.ifCond .eq 13, 3) := by decide +kernel
theorem dX3_add_35 : decode cX3_add 35 = .ok (.iload_n 1, 1) := by decide +kernel
theorem dX3_add_36 : decode cX3_add 36 = .ok (.iconst 2, 1) := by decide +kernel
theorem dX3_add_37 : decode cX3_add 37 = .ok (.iload 4, 2) := by decide +kernel
theorem dX3_add_39 : decode cX3_add 39 = .ok (.invokestatic 57, 3) := by decide +kernel
theorem dX3_add_42 : decode cX3_add 42 = .ok (.ifCond .ne 6, 3) := by decide +kernel
theorem dX3_add_45 : decode cX3_add 45 = .ok (.bipush (-2), 2) := by decide +kernel
theorem dX3_add_47 : decode cX3_add 47 = .ok (.ireturn, 1) := by decide +kernel
theorem dX3_add_48 : decode cX3_add 48 = .ok (.aload_n 0, 1) := by decide +kernel
theorem dX3_add_49 : decode cX3_add 49 = .ok (.getfield 60, 3) := by decide +kernel
theorem dX3_add_52 : decode cX3_add 52 = .ok (.bipush 40, 2) := by decide +kernel
theorem dX3_add_54 : decode cX3_add 54 = .ok (.if_icmp .ne 6, 3) := by decide +kernel
theorem dX3_add_57 : decode cX3_add 57 = .ok (.bipush (-3), 2) := by decide +kernel
theorem dX3_add_59 : decode cX3_add 59 = .ok (.ireturn, 1) := by decide +kernel
theorem dX3_add_60 : decode cX3_add 60 = .ok (.aload_n 0, 1) := by decide +kernel
theorem dX3_add_61 : decode cX3_add 61 = .ok (.getfield 16, 3) := by decide +kernel
theorem dX3_add_64 : decode cX3_add 64 = .ok (.iconst 4, 1) := by decide +kernel
theorem dX3_add_65 : decode cX3_add 65 = .ok (.aload_n 0, 1) := by decide +kernel
theorem dX3_add_66 : decode cX3_add 66 = .ok (.getfield 60, 3) := by decide +kernel
theorem dX3_add_69 : decode cX3_add 69 = .ok (.imul, 1) := by decide +kernel
theorem dX3_add_70 : decode cX3_add 70 = .ok (.iload_n 1, 1) := by decide +kernel
theorem dX3_add_71 : decode cX3_add 71 = .ok (.iastore, 1) := by decide +kernel
theorem dX3_add_72 : decode cX3_add 72 = .ok (.aload_n 0, 1) := by decide +kernel
theorem dX3_add_73 : decode cX3_add 73 = .ok (.getfield 16, 3) := by decide +kernel
theorem dX3_add_76 : decode cX3_add 76 = .ok (.iconst 4, 1) := by decide +kernel
theorem dX3_add_77 : decode cX3_add 77 = .ok (.aload_n 0, 1) := by decide +kernel
theorem dX3_add_78 : decode cX3_add 78 = .ok (.getfield 60, 3) := by decide +kernel
theorem dX3_add_81 : decode cX3_add 81 = .ok (.imul, 1) := by decide +kernel
theorem dX3_add_82 : decode cX3_add 82 = .ok (.iconst 1, 1) := by decide +kernel
theorem dX3_add_83 : decode cX3_add 83 = .ok (.iadd, 1) := by decide +kernel
theorem dX3_add_84 : decode cX3_add 84 = .ok (.iload_n 2, 1) := by decide +kernel
theorem dX3_add_85 : decode cX3_add 85 = .ok (.iastore, 1) := by decide +kernel
theorem dX3_add_86 : decode cX3_add 86 = .ok (.aload_n 0, 1) := by decide +kernel
theorem dX3_add_87 : decode cX3_add 87 = .ok (.getfield 16, 3) := by decide +kernel
theorem dX3_add_90 : decode cX3_add 90 = .ok (.iconst 4, 1) := by decide +kernel
theorem dX3_add_91 : decode cX3_add 91 = .ok (.aload_n 0, 1) := by decide +kernel
theorem dX3_add_92 : decode cX3_add 92 = .ok (.getfield 60, 3) := by decide +kernel
theorem dX3_add_95 : decode cX3_add 95 = .ok (.imul, 1) := by decide +kernel
theorem dX3_add_96 : decode cX3_add 96 = .ok (.iconst 2, 1) := by decide +kernel
theorem dX3_add_97 : decode cX3_add 97 = .ok (.iadd, 1) := by decide +kernel
theorem dX3_add_98 : decode cX3_add 98 = .ok (.iload_n 3, 1) := by decide +kernel
theorem dX3_add_99 : decode cX3_add 99 = .ok (.iastore, 1) := by decide +kernel
theorem dX3_add_100 : decode cX3_add 100 = .ok (.aload_n 0, 1) := by decide +kernel
theorem dX3_add_101 : decode cX3_add 101 = .ok (.getfield 16, 3) := by decide +kernel
theorem dX3_add_104 : decode cX3_add 104 = .ok (.iconst 4, 1) := by decide +kernel
theorem dX3_add_105 : decode cX3_add 105 = .ok (.aload_n 0, 1) := by decide +kernel
theorem dX3_add_106 : decode cX3_add 106 = .ok (.getfield 60, 3) := by decide +kernel
theorem dX3_add_109 : decode cX3_add 109 = .ok (.imul, 1) := by decide +kernel
theorem dX3_add_110 : decode cX3_add 110 = .ok (.iconst 3, 1) := by decide +kernel
theorem dX3_add_111 : decode cX3_add 111 = .ok (.iadd, 1) := by decide +kernel
theorem dX3_add_112 : decode cX3_add 112 = .ok (.iload 4, 2) := by decide +kernel
theorem dX3_add_114 : decode cX3_add 114 = .ok (.iastore, 1) := by decide +kernel
theorem dX3_add_115 : decode cX3_add 115 = .ok (.aload_n 0, 1) := by decide +kernel
theorem dX3_add_116 : decode cX3_add 116 = .ok (.dup, 1) := by decide +kernel
theorem dX3_add_117 : decode cX3_add 117 = .ok (.getfield 60, 3) := by decide +kernel
theorem dX3_add_120 : decode cX3_add 120 = .ok (.iconst 1, 1) := by decide +kernel
theorem dX3_add_121 : decode cX3_add 121 = .ok (.iadd, 1) := by decide +kernel
theorem dX3_add_122 : decode cX3_add 122 = .ok (.putfield 60, 3) := by decide +kernel
theorem dX3_add_125 : decode cX3_add 125 = .ok (.aload_n 0, 1) := by decide +kernel
theorem dX3_add_126 : decode cX3_add 126 = .ok (.getfield 60, 3) := by decide +kernel
theorem dX3_add_129 : decode cX3_add 129 = .ok (.iconst 1, 1) := by decide +kernel
theorem dX3_add_130 : decode cX3_add 130 = .ok (.isub, 1) := by decide +kernel
theorem dX3_add_131 : decode cX3_add 131 = .ok (.ireturn, 1) := by decide +kernel
theorem dX3_clear_0 : decode cX3_clear 0 = .ok (.aload_n 0, 1) := by decide +kernel
theorem dX3_clear_1 : decode cX3_clear 1 = .ok (.iconst 0, 1) := by decide +kernel
theorem dX3_clear_2 : decode cX3_clear 2 = .ok (.putfield 41, 3) := by decide +kernel
theorem dX3_clear_5 : decode cX3_clear 5 = .ok (.aload_n 0, 1) := by decide +kernel
theorem dX3_clear_6 : decode cX3_clear 6 = .ok (.getfield 60, 3) := by decide +kernel
theorem dX3_clear_9 : decode cX3_clear 9 = .ok (.istore_n 1, 1) := by decide +kernel
theorem dX3_clear_10 : decode cX3_clear 10 = .ok (.aload_n 0, 1) := by decide +kernel
theorem dX3_clear_11 : decode cX3_clear 11 = .ok (.iconst 0, 1) := by decide +kernel
theorem dX3_clear_12 : decode cX3_clear 12 = .ok (.putfield 60, 3) := by decide +kernel
theorem dX3_clear_15 : decode cX3_clear 15 = .ok (.aload_n 0, 1) := by decide +kernel
theorem dX3_clear_16 : decode cX3_clear 16 = .ok (.iconst 0, 1) := by decide +kernel
theorem dX3_clear_17 : decode cX3_clear 17 = .ok (.putfield 63, 3) := by decide +kernel
theorem dX3_clear_20 : decode cX3_clear 20 = .ok (.aload_n 0, 1) := by decide +kernel
theorem dX3_clear_21 : decode cX3_clear 21 = .ok (.iconst 0, 1) := by decide +kernel
theorem dX3_clear_22 : decode cX3_clear 22 = .ok (.putfield 66, 3) := by decide +kernel
theorem dX3_clear_25 : decode cX3_clear 25 = .ok (.iload_n 1, 1) := by decide +kernel
theorem dX3_clear_26 : decode cX3_clear 26 = .ok (.ireturn, 1) := by decide +kernel
theorem dX3_start_0 : decode cX3_start 0 = .ok (.aload_n 0, 1) := by decide +kernel
theorem dX3_start_1 : decode cX3_start 1 = .ok (.iconst 0, 1) := by decide +kernel
theorem dX3_start_2 : decode cX3_start 2 = .ok (.putfield 41, 3) := by decide +kernel
theorem dX3_start_5 : decode cX3_start 5 = .ok (.iload_n 1, 1) := by decide +kernel
theorem dX3_start_6 : decode cX3_start 6 = .ok (.iconst 0, 1) := by decide +kernel
theorem dX3_start_7 : decode cX3_start 7 = .ok (.bipush 39, 2) := by decide +kernel
theorem dX3_start_9 : decode cX3_start 9 = .ok (.invokestatic 45, 3) := by decide +kernel
theorem dX3_start_12 : decode cX3_start 12 = .ok (.ifCond .ne 5, 3) := by decide +kernel
