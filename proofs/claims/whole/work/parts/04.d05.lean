theorem dX2_doInstruction_89 : decode cX2_doInstruction 89 = .ok (.getfield 19, 3) := by decide +kernel
theorem dX2_doInstruction_92 : decode cX2_doInstruction 92 = .ok (.iload_n 3, 1) := by decide +kernel
theorem dX2_doInstruction_93 : decode cX2_doInstruction 93 = .ok (.invokevirtual 149, 3) := by decide +kernel
theorem dX2_doInstruction_96 : decode cX2_doInstruction 96 = .ok (.aload_n 0, 1) := by decide +kernel
theorem dX2_doInstruction_97 : decode cX2_doInstruction 97 = .ok (.iload_n 2, 1) := by decide +kernel
theorem dX2_doInstruction_98 : decode cX2_doInstruction 98 = .ok (.iload 4, 2) := by decide +kernel
theorem dX2_doInstruction_100 : decode cX2_doInstruction 100 = .ok (.iload 5, 2) := by decide +kernel
theorem dX2_doInstruction_102 : decode cX2_doInstruction 102 = .ok (.invokevirtual 152, 3) := by decide +kernel
theorem dX2_doInstruction_105 : decode cX2_doInstruction 105 = .ok (.invokevirtual 100, 3) := by decide +kernel
theorem dX2_doInstruction_108 : decode cX2_doInstruction 108 = .ok (.goto 34, 3) := by decide +kernel
theorem dX2_doInstruction_111 : decode cX2_doInstruction 111 = .ok (.getstatic 45, 3) := by decide +kernel
theorem dX2_doInstruction_114 : decode cX2_doInstruction 114 = .ok (.iload_n 2, 1) := by decide +kernel
theorem dX2_doInstruction_115 : decode cX2_doInstruction 115 = .ok (.iaload, 1) := by decide +kernel
theorem dX2_doInstruction_116 : decode cX2_doInstruction 116 = .ok (.iconst 2, 1) := by decide +kernel
theorem dX2_doInstruction_117 : decode cX2_doInstruction 117 = .ok (.if_icmp .ne 25, 3) := by decide +kernel
theorem dX2_doInstruction_120 : decode cX2_doInstruction 120 = .ok (.aload_n 0, 1) := by decide +kernel
theorem dX2_doInstruction_121 : decode cX2_doInstruction 121 = .ok (.getfield 19, 3) := by decide +kernel
theorem dX2_doInstruction_124 : decode cX2_doInstruction 124 = .ok (.aload_n 0, 1) := by decide +kernel
theorem dX2_doInstruction_125 : decode cX2_doInstruction 125 = .ok (.getfield 19, 3) := by decide +kernel
theorem dX2_doInstruction_128 : decode cX2_doInstruction 128 = .ok (.iload_n 3, 1) := by decide +kernel
theorem dX2_doInstruction_129 : decode cX2_doInstruction 129 = .ok (.invokevirtual 149, 3) := by decide +kernel
theorem dX2_doInstruction_132 : decode cX2_doInstruction 132 = .ok (.aload_n 0, 1) := by decide +kernel
theorem dX2_doInstruction_133 : decode cX2_doInstruction 133 = .ok (.iload_n 2, 1) := by decide +kernel
theorem dX2_doInstruction_134 : decode cX2_doInstruction 134 = .ok (.iload 4, 2) := by decide +kernel
theorem dX2_doInstruction_136 : decode cX2_doInstruction 136 = .ok (.invokevirtual 156, 3) := by decide +kernel
theorem dX2_doInstruction_139 : decode cX2_doInstruction 139 = .ok (.invokevirtual 159, 3) := by decide +kernel
theorem dX2_doInstruction_142 : decode cX2_doInstruction 142 = .ok (.aload_n 0, 1) := by decide +kernel
theorem dX2_doInstruction_143 : decode cX2_doInstruction 143 = .ok (.aload_n 0, 1) := by decide +kernel
theorem dX2_doInstruction_144 : decode cX2_doInstruction 144 = .ok (.iload_n 2, 1) := by decide +kernel
theorem dX2_doInstruction_145 : decode cX2_doInstruction 145 = .ok (.iload_n 1, 1) := by decide +kernel
theorem dX2_doInstruction_146 : decode cX2_doInstruction 146 = .ok (.iload_n 3, 1) := by decide +kernel
theorem dX2_doInstruction_147 : decode cX2_doInstruction 147 = .ok (.iload 4, 2) := by decide +kernel
theorem dX2_doInstruction_149 : decode cX2_doInstruction 149 = .ok (.invokevirtual 162, 3) := by decide +kernel
theorem dX2_doInstruction_152 : decode cX2_doInstruction 152 = .ok (.putfield 31, 3) := by decide +kernel
theorem dX2_doInstruction_155 : decode cX2_doInstruction 155 = .ok (.return_, 1) := by decide +kernel
theorem dX2_checkOperand_0 : decode cX2_checkOperand 0 = .ok (.iload_n 1, 1) := by decide +kernel
theorem dX2_checkOperand_1 : decode cX2_checkOperand 1 = .ok (.iconst 1, 1) := by decide +kernel
theorem dX2_checkOperand_2 : decode cX2_checkOperand 2 = .ok (.if_icmp .eq 9, 3) := by decide +kernel
theorem dX2_checkOperand_5 : decode cX2_checkOperand 5 = .ok (.iload_n 1, 1) := by decide +kernel
theorem dX2_checkOperand_6 : decode cX2_checkOperand 6 = .ok (.iconst 2, 1) := by decide +kernel
theorem dX2_checkOperand_7 : decode cX2_checkOperand 7 = .ok (.if_icmp .eq 4, 3) := by decide +kernel
theorem dX2_checkOperand_10 : decode cX2_checkOperand 10 = .ok (.return_, 1) := by decide +kernel
theorem dX2_checkOperand_11 : decode cX2_checkOperand 11 = .ok (.iload_n 2, 1) := by decide +kernel
theorem dX2_checkOperand_12 : decode cX2_checkOperand 12 = .ok (.bipush 16, 2) := by decide +kernel
theorem dX2_checkOperand_14 : decode cX2_checkOperand 14 = .ok (.if_icmp .lt 19, 3) := by decide +kernel
theorem dX2_checkOperand_17 : decode cX2_checkOperand 17 = .ok (.aload_n 0, 1) := by decide +kernel
theorem dX2_checkOperand_18 : decode cX2_checkOperand 18 = .ok (.aload_n 0, 1) := by decide +kernel
theorem dX2_checkOperand_19 : decode cX2_checkOperand 19 = .ok (.getfield 19, 3) := by decide +kernel
theorem dX2_checkOperand_22 : decode cX2_checkOperand 22 = .ok (.iload_n 2, 1) := by decide +kernel
theorem dX2_checkOperand_23 : decode cX2_checkOperand 23 = .ok (.invokevirtual 165, 3) := by decide +kernel
theorem dX2_checkOperand_26 : decode cX2_checkOperand 26 = .ok (.iload_n 2, 1) := by decide +kernel
theorem dX2_checkOperand_27 : decode cX2_checkOperand 27 = .ok (.invokestatic 168, 3) := by decide +kernel
theorem dX2_checkOperand_30 : decode cX2_checkOperand 30 = .ok (.invokevirtual 171, 3) := by decide +kernel
theorem dX2_checkOperand_33 : decode cX2_checkOperand 33 = .ok (.aload_n 0, 1) := by decide +kernel
theorem dX2_checkOperand_34 : decode cX2_checkOperand 34 = .ok (.getfield 19, 3) := by decide +kernel
theorem dX2_checkOperand_37 : decode cX2_checkOperand 37 = .ok (.iload_n 2, 1) := by decide +kernel
theorem dX2_checkOperand_38 : decode cX2_checkOperand 38 = .ok (.invokevirtual 174, 3) := by decide +kernel
theorem dX2_checkOperand_41 : decode cX2_checkOperand 41 = .ok (.iload_n 1, 1) := by decide +kernel
theorem dX2_checkOperand_42 : decode cX2_checkOperand 42 = .ok (.iconst 2, 1) := by decide +kernel
theorem dX2_checkOperand_43 : decode cX2_checkOperand 43 = .ok (.if_icmp .ne 7, 3) := by decide +kernel
theorem dX2_checkOperand_46 : decode cX2_checkOperand 46 = .ok (.iconst 1, 1) := by decide +kernel
theorem dX2_checkOperand_47 : decode cX2_checkOperand 47 = .ok (.goto 4, 3) := by decide +kernel
theorem dX2_checkOperand_50 : decode cX2_checkOperand 50 = .ok (.iconst 0, 1) := by decide +kernel
theorem dX2_checkOperand_51 : decode cX2_checkOperand 51 = .ok (.if_icmp .eq 13, 3) := by decide +kernel
theorem dX2_checkOperand_54 : decode cX2_checkOperand 54 = .ok (.new 77, 3) := by decide +kernel
theorem dX2_checkOperand_57 : decode cX2_checkOperand 57 = .ok (.dup, 1) := by decide +kernel
theorem dX2_checkOperand_58 : decode cX2_checkOperand 58 = .ok (.ldc 177, 2) := by decide +kernel
theorem dX2_checkOperand_60 : decode cX2_checkOperand 60 = .ok (.invokespecial 81, 3) := by decide +kernel
theorem dX2_checkOperand_63 : decode cX2_checkOperand 63 = .ok (.athrow, 1) := by decide +kernel
theorem dX2_checkOperand_64 : decode cX2_checkOperand 64 = .ok (.return_, 1) := by decide +kernel
theorem dX2_checkWord_0 : decode cX2_checkWord 0 = .ok (.iload_n 1, 1) := by decide +kernel
theorem dX2_checkWord_1 : decode cX2_checkWord 1 = .ok (.ifCond .ne 13, 3) := by decide +kernel
theorem dX2_checkWord_4 : decode cX2_checkWord 4 = .ok (.new 179, 3) := by decide +kernel
theorem dX2_checkWord_7 : decode cX2_checkWord 7 = .ok (.dup, 1) := by decide +kernel
theorem dX2_checkWord_8 : decode cX2_checkWord 8 = .ok (.ldc 181, 2) := by decide +kernel
theorem dX2_checkWord_10 : decode cX2_checkWord 10 = .ok (.invokespecial 183, 3) := by decide +kernel
theorem dX2_checkWord_13 : decode cX2_checkWord 13 = .ok (.athrow, 1) := by decide +kernel
theorem dX2_checkWord_14 : decode cX2_checkWord 14 = .ok (.aload_n 0, 1) := by decide +kernel
theorem dX2_checkWord_15 : decode cX2_checkWord 15 = .ok (.getfield 19, 3) := by decide +kernel
theorem dX2_checkWord_18 : decode cX2_checkWord 18 = .ok (.iload_n 1, 1) := by decide +kernel
theorem dX2_checkWord_19 : decode cX2_checkWord 19 = .ok (.iload_n 2, 1) := by decide +kernel
theorem dX2_checkWord_20 : decode cX2_checkWord 20 = .ok (.invokevirtual 113, 3) := by decide +kernel
theorem dX2_checkWord_23 : decode cX2_checkWord 23 = .ok (.ifCond .ne 13, 3) := by decide +kernel
theorem dX2_checkWord_26 : decode cX2_checkWord 26 = .ok (.new 184, 3) := by decide +kernel
theorem dX2_checkWord_29 : decode cX2_checkWord 29 = .ok (.dup, 1) := by decide +kernel
theorem dX2_checkWord_30 : decode cX2_checkWord 30 = .ok (.ldc 186, 2) := by decide +kernel
theorem dX2_checkWord_32 : decode cX2_checkWord 32 = .ok (.invokespecial 188, 3) := by decide +kernel
theorem dX2_checkWord_35 : decode cX2_checkWord 35 = .ok (.athrow, 1) := by decide +kernel
theorem dX2_checkWord_36 : decode cX2_checkWord 36 = .ok (.return_, 1) := by decide +kernel
theorem dX2_checkRoom_0 : decode cX2_checkRoom 0 = .ok (.iload_n 1, 1) := by decide +kernel
theorem dX2_checkRoom_1 : decode cX2_checkRoom 1 = .ok (.bipush 9, 2) := by decide +kernel
theorem dX2_checkRoom_3 : decode cX2_checkRoom 3 = .ok (.if_icmp .ne 23, 3) := by decide +kernel
theorem dX2_checkRoom_6 : decode cX2_checkRoom 6 = .ok (.aload_n 0, 1) := by decide +kernel
theorem dX2_checkRoom_7 : decode cX2_checkRoom 7 = .ok (.getfield 19, 3) := by decide +kernel
theorem dX2_checkRoom_10 : decode cX2_checkRoom 10 = .ok (.invokevirtual 189, 3) := by decide +kernel
theorem dX2_checkRoom_13 : decode cX2_checkRoom 13 = .ok (.ifCond .eq 13, 3) := by decide +kernel
theorem dX2_checkRoom_16 : decode cX2_checkRoom 16 = .ok (.new 190, 3) := by decide +kernel
theorem dX2_checkRoom_19 : decode cX2_checkRoom 19 = .ok (.dup, 1) := by decide +kernel
theorem dX2_checkRoom_20 : decode cX2_checkRoom 20 = .ok (.ldc 192, 2) := by decide +kernel
theorem dX2_checkRoom_22 : decode cX2_checkRoom 22 = .ok (.invokespecial 194, 3) := by decide +kernel
theorem dX2_checkRoom_25 : decode cX2_checkRoom 25 = .ok (.athrow, 1) := by decide +kernel
theorem dX2_checkRoom_26 : decode cX2_checkRoom 26 = .ok (.iload_n 1, 1) := by decide +kernel
theorem dX2_checkRoom_27 : decode cX2_checkRoom 27 = .ok (.bipush 13, 2) := by decide +kernel
theorem dX2_checkRoom_29 : decode cX2_checkRoom 29 = .ok (.if_icmp .ne 22, 3) := by decide +kernel
theorem dX2_checkRoom_32 : decode cX2_checkRoom 32 = .ok (.aload_n 0, 1) := by decide +kernel
theorem dX2_checkRoom_33 : decode cX2_checkRoom 33 = .ok (.getfield 27, 3) := by decide +kernel
theorem dX2_checkRoom_36 : decode cX2_checkRoom 36 = .ok (.bipush 8, 2) := by decide +kernel
theorem dX2_checkRoom_38 : decode cX2_checkRoom 38 = .ok (.if_icmp .lt 13, 3) := by decide +kernel
theorem dX2_checkRoom_41 : decode cX2_checkRoom 41 = .ok (.new 190, 3) := by decide +kernel
theorem dX2_checkRoom_44 : decode cX2_checkRoom 44 = .ok (.dup, 1) := by decide +kernel
theorem dX2_checkRoom_45 : decode cX2_checkRoom 45 = .ok (.ldc 195, 2) := by decide +kernel
theorem dX2_checkRoom_47 : decode cX2_checkRoom 47 = .ok (.invokespecial 194, 3) := by decide +kernel
theorem dX2_checkRoom_50 : decode cX2_checkRoom 50 = .ok (.athrow, 1) := by decide +kernel
theorem dX2_checkRoom_51 : decode cX2_checkRoom 51 = .ok (.iload_n 1, 1) := by decide +kernel
theorem dX2_checkRoom_52 : decode cX2_checkRoom 52 = .ok (.bipush 14, 2) := by decide +kernel
theorem dX2_checkRoom_54 : decode cX2_checkRoom 54 = .ok (.if_icmp .ne 20, 3) := by decide +kernel
theorem dX2_checkRoom_57 : decode cX2_checkRoom 57 = .ok (.aload_n 0, 1) := by decide +kernel
theorem dX2_checkRoom_58 : decode cX2_checkRoom 58 = .ok (.getfield 27, 3) := by decide +kernel
theorem dX2_checkRoom_61 : decode cX2_checkRoom 61 = .ok (.ifCond .gt 13, 3) := by decide +kernel
theorem dX2_checkRoom_64 : decode cX2_checkRoom 64 = .ok (.new 179, 3) := by decide +kernel
theorem dX2_checkRoom_67 : decode cX2_checkRoom 67 = .ok (.dup, 1) := by decide +kernel
theorem dX2_checkRoom_68 : decode cX2_checkRoom 68 = .ok (.ldc 197, 2) := by decide +kernel
theorem dX2_checkRoom_70 : decode cX2_checkRoom 70 = .ok (.invokespecial 183, 3) := by decide +kernel
theorem dX2_checkRoom_73 : decode cX2_checkRoom 73 = .ok (.athrow, 1) := by decide +kernel
theorem dX2_checkRoom_74 : decode cX2_checkRoom 74 = .ok (.return_, 1) := by decide +kernel
theorem dX2_intResult_0 : decode cX2_intResult 0 = .ok (.iload_n 1, 1) := by decide +kernel
theorem dX2_intResult_1 : decode cX2_intResult 1 = .ok (.tableswitch 145 1 12 #[63, 65, 71, 83, 95, 107, 145, 145, 145, 145, 145, 126], 63) := by decide +kernel
theorem dX2_intResult_64 : decode cX2_intResult 64 = .ok (.iload_n 2, 1) := by decide +kernel
theorem dX2_intResult_65 : decode cX2_intResult 65 = .ok (.ireturn, 1) := by decide +kernel
theorem dX2_intResult_66 : decode cX2_intResult 66 = .ok (.aload_n 0, 1) := by decide +kernel
theorem dX2_intResult_67 : decode cX2_intResult 67 = .ok (.iload_n 2, 1) := by decide +kernel
theorem dX2_intResult_68 : decode cX2_intResult 68 = .ok (.invokevirtual 199, 3) := by decide +kernel
theorem dX2_intResult_71 : decode cX2_intResult 71 = .ok (.ireturn, 1) := by decide +kernel
theorem dX2_intResult_72 : decode cX2_intResult 72 = .ok (.aload_n 0, 1) := by decide +kernel
theorem dX2_intResult_73 : decode cX2_intResult 73 = .ok (.iload_n 2, 1) := by decide +kernel
theorem dX2_intResult_74 : decode cX2_intResult 74 = .ok (.invokevirtual 199, 3) := by decide +kernel
theorem dX2_intResult_77 : decode cX2_intResult 77 = .ok (.aload_n 0, 1) := by decide +kernel
theorem dX2_intResult_78 : decode cX2_intResult 78 = .ok (.iload_n 3, 1) := by decide +kernel
theorem dX2_intResult_79 : decode cX2_intResult 79 = .ok (.invokevirtual 199, 3) := by decide +kernel
theorem dX2_intResult_82 : decode cX2_intResult 82 = .ok (.iadd, 1) := by decide +kernel
theorem dX2_intResult_83 : decode cX2_intResult 83 = .ok (.ireturn, 1) := by decide +kernel
theorem dX2_intResult_84 : decode cX2_intResult 84 = .ok (.aload_n 0, 1) := by decide +kernel
theorem dX2_intResult_85 : decode cX2_intResult 85 = .ok (.iload_n 2, 1) := by decide +kernel
theorem dX2_intResult_86 : decode cX2_intResult 86 = .ok (.invokevirtual 199, 3) := by decide +kernel
theorem dX2_intResult_89 : decode cX2_intResult 89 = .ok (.aload_n 0, 1) := by decide +kernel
theorem dX2_intResult_90 : decode cX2_intResult 90 = .ok (.iload_n 3, 1) := by decide +kernel
theorem dX2_intResult_91 : decode cX2_intResult 91 = .ok (.invokevirtual 199, 3) := by decide +kernel
theorem dX2_intResult_94 : decode cX2_intResult 94 = .ok (.isub, 1) := by decide +kernel
theorem dX2_intResult_95 : decode cX2_intResult 95 = .ok (.ireturn, 1) := by decide +kernel
theorem dX2_intResult_96 : decode cX2_intResult 96 = .ok (.aload_n 0, 1) := by decide +kernel
theorem dX2_intResult_97 : decode cX2_intResult 97 = .ok (.iload_n 2, 1) := by decide +kernel
theorem dX2_intResult_98 : decode cX2_intResult 98 = .ok (.invokevirtual 199, 3) := by decide +kernel
theorem dX2_intResult_101 : decode cX2_intResult 101 = .ok (.aload_n 0, 1) := by decide +kernel
theorem dX2_intResult_102 : decode cX2_intResult 102 = .ok (.iload_n 3, 1) := by decide +kernel
theorem dX2_intResult_103 : decode cX2_intResult 103 = .ok (.invokevirtual 199, 3) := by decide +kernel
theorem dX2_intResult_106 : decode cX2_intResult 106 = .ok (.imul, 1) := by decide +kernel
theorem dX2_intResult_107 : decode cX2_intResult 107 = .ok (.ireturn, 1) := by decide +kernel
theorem dX2_intResult_108 : decode cX2_intResult 108 = .ok (.aload_n 0, 1) := by decide +kernel
theorem dX2_intResult_109 : decode cX2_intResult 109 = .ok (.iload_n 2, 1) := by decide +kernel
theorem dX2_intResult_110 : decode cX2_intResult 110 = .ok (.invokevirtual 199, 3) := by decide +kernel
theorem dX2_intResult_113 : decode cX2_intResult 113 = .ok (.aload_n 0, 1) := by decide +kernel
theorem dX2_intResult_114 : decode cX2_intResult 114 = .ok (.iload_n 3, 1) := by decide +kernel
theorem dX2_intResult_115 : decode cX2_intResult 115 = .ok (.invokevirtual 199, 3) := by decide +kernel
theorem dX2_intResult_118 : decode cX2_intResult 118 = .ok (.if_icmp .ge 7, 3) := by decide +kernel
theorem dX2_intResult_121 : decode cX2_intResult 121 = .ok (.iconst 1, 1) := by decide +kernel
theorem dX2_intResult_122 : decode cX2_intResult 122 = .ok (.goto 4, 3) := by decide +kernel
theorem dX2_intResult_125 : decode cX2_intResult 125 = .ok (.iconst 0, 1) := by decide +kernel
theorem dX2_intResult_126 : decode cX2_intResult 126 = .ok (.ireturn, 1) := by decide +kernel
theorem dX2_intResult_127 : decode cX2_intResult 127 = .ok (.aload_n 0, 1) := by decide +kernel
theorem dX2_intResult_128 : decode cX2_intResult 128 = .ok (.iload_n 2, 1) := by decide +kernel
theorem dX2_intResult_129 : decode cX2_intResult 129 = .ok (.invokevirtual 199, 3) := by decide +kernel
theorem dX2_intResult_132 : decode cX2_intResult 132 = .ok (.aload_n 0, 1) := by decide +kernel
theorem dX2_intResult_133 : decode cX2_intResult 133 = .ok (.iload_n 3, 1) := by decide +kernel
theorem dX2_intResult_134 : decode cX2_intResult 134 = .ok (.invokevirtual 199, 3) := by decide +kernel
theorem dX2_intResult_137 : decode cX2_intResult 137 = .ok (.if_icmp .ne 7, 3) := by decide +kernel
theorem dX2_intResult_140 : decode cX2_intResult 140 = .ok (.iconst 1, 1) := by decide +kernel
theorem dX2_intResult_141 : decode cX2_intResult 141 = .ok (.goto 4, 3) := by decide +kernel
theorem dX2_intResult_144 : decode cX2_intResult 144 = .ok (.iconst 0, 1) := by decide +kernel
theorem dX2_intResult_145 : decode cX2_intResult 145 = .ok (.ireturn, 1) := by decide +kernel
theorem dX2_intResult_146 : decode cX2_intResult 146 = .ok (.iconst 0, 1) := by decide +kernel
theorem dX2_intResult_147 : decode cX2_intResult 147 = .ok (.ireturn, 1) := by decide +kernel
theorem dX2_pointerResult_0 : decode cX2_pointerResult 0 = .ok (.iload_n 1, 1) := by decide +kernel
theorem dX2_pointerResult_1 : decode cX2_pointerResult 1 = .ok (.tableswitch 42 9 11 #[27, 36, 42], 27) := by decide +kernel
theorem dX2_pointerResult_28 : decode cX2_pointerResult 28 = .ok (.aload_n 0, 1) := by decide +kernel
theorem dX2_pointerResult_29 : decode cX2_pointerResult 29 = .ok (.getfield 19, 3) := by decide +kernel
theorem dX2_pointerResult_32 : decode cX2_pointerResult 32 = .ok (.iload_n 2, 1) := by decide +kernel
theorem dX2_pointerResult_33 : decode cX2_pointerResult 33 = .ok (.invokevirtual 202, 3) := by decide +kernel
theorem dX2_pointerResult_36 : decode cX2_pointerResult 36 = .ok (.ireturn, 1) := by decide +kernel
theorem dX2_pointerResult_37 : decode cX2_pointerResult 37 = .ok (.aload_n 0, 1) := by decide +kernel
theorem dX2_pointerResult_38 : decode cX2_pointerResult 38 = .ok (.iload_n 2, 1) := by decide +kernel
theorem dX2_pointerResult_39 : decode cX2_pointerResult 39 = .ok (.invokevirtual 199, 3) := by decide +kernel
theorem dX2_pointerResult_42 : decode cX2_pointerResult 42 = .ok (.ireturn, 1) := by decide +kernel
theorem dX2_pointerResult_43 : decode cX2_pointerResult 43 = .ok (.iconst 0, 1) := by decide +kernel
theorem dX2_pointerResult_44 : decode cX2_pointerResult 44 = .ok (.ireturn, 1) := by decide +kernel
theorem dX2_valueOf_0 : decode cX2_valueOf 0 = .ok (.aload_n 0, 1) := by decide +kernel
theorem dX2_valueOf_1 : decode cX2_valueOf 1 = .ok (.getfield 19, 3) := by decide +kernel
theorem dX2_valueOf_4 : decode cX2_valueOf 4 = .ok (.aload_n 0, 1) := by decide +kernel
theorem dX2_valueOf_5 : decode cX2_valueOf 5 = .ok (.getfield 19, 3) := by decide +kernel
theorem dX2_valueOf_8 : decode cX2_valueOf 8 = .ok (.iload_n 1, 1) := by decide +kernel
theorem dX2_valueOf_9 : decode cX2_valueOf 9 = .ok (.invokevirtual 149, 3) := by decide +kernel
theorem dX2_valueOf_12 : decode cX2_valueOf 12 = .ok (.invokevirtual 97, 3) := by decide +kernel
theorem dX2_valueOf_15 : decode cX2_valueOf 15 = .ok (.ireturn, 1) := by decide +kernel
theorem dX2_placeAfter_0 : decode cX2_placeAfter 0 = .ok (.iload_n 1, 1) := by decide +kernel
theorem dX2_placeAfter_1 : decode cX2_placeAfter 1 = .ok (.tableswitch 110 7 14 #[47, 49, 110, 110, 110, 110, 66, 90], 47) := by decide +kernel
theorem dX2_placeAfter_48 : decode cX2_placeAfter 48 = .ok (.iload_n 3, 1) := by decide +kernel
theorem dX2_placeAfter_49 : decode cX2_placeAfter 49 = .ok (.ireturn, 1) := by decide +kernel
theorem dX2_placeAfter_50 : decode cX2_placeAfter 50 = .ok (.aload_n 0, 1) := by decide +kernel
theorem dX2_placeAfter_51 : decode cX2_placeAfter 51 = .ok (.iload 4, 2) := by decide +kernel
theorem dX2_placeAfter_53 : decode cX2_placeAfter 53 = .ok (.invokevirtual 199, 3) := by decide +kernel
theorem dX2_placeAfter_56 : decode cX2_placeAfter 56 = .ok (.ifCond .eq 7, 3) := by decide +kernel
theorem dX2_placeAfter_59 : decode cX2_placeAfter 59 = .ok (.iload_n 3, 1) := by decide +kernel
theorem dX2_placeAfter_60 : decode cX2_placeAfter 60 = .ok (.goto 6, 3) := by decide +kernel
theorem dX2_placeAfter_63 : decode cX2_placeAfter 63 = .ok (.iload_n 2, 1) := by decide +kernel
theorem dX2_placeAfter_64 : decode cX2_placeAfter 64 = .ok (.iconst 1, 1) := by decide +kernel
theorem dX2_placeAfter_65 : decode cX2_placeAfter 65 = .ok (.iadd, 1) := by decide +kernel
theorem dX2_placeAfter_66 : decode cX2_placeAfter 66 = .ok (.ireturn, 1) := by decide +kernel
theorem dX2_placeAfter_67 : decode cX2_placeAfter 67 = .ok (.aload_n 0, 1) := by decide +kernel
theorem dX2_placeAfter_68 : decode cX2_placeAfter 68 = .ok (.getfield 23, 3) := by decide +kernel
theorem dX2_placeAfter_71 : decode cX2_placeAfter 71 = .ok (.aload_n 0, 1) := by decide +kernel
theorem dX2_placeAfter_72 : decode cX2_placeAfter 72 = .ok (.getfield 27, 3) := by decide +kernel
theorem dX2_placeAfter_75 : decode cX2_placeAfter 75 = .ok (.iload_n 2, 1) := by decide +kernel
theorem dX2_placeAfter_76 : decode cX2_placeAfter 76 = .ok (.iconst 1, 1) := by decide +kernel
theorem dX2_placeAfter_77 : decode cX2_placeAfter 77 = .ok (.iadd, 1) := by decide +kernel
theorem dX2_placeAfter_78 : decode cX2_placeAfter 78 = .ok (.iastore, 1) := by decide +kernel
theorem dX2_placeAfter_79 : decode cX2_placeAfter 79 = .ok (.aload_n 0, 1) := by decide +kernel
theorem dX2_placeAfter_80 : decode cX2_placeAfter 80 = .ok (.dup, 1) := by decide +kernel
theorem dX2_placeAfter_81 : decode cX2_placeAfter 81 = .ok (.getfield 27, 3) := by decide +kernel
theorem dX2_placeAfter_84 : decode cX2_placeAfter 84 = .ok (.iconst 1, 1) := by decide +kernel
theorem dX2_placeAfter_85 : decode cX2_placeAfter 85 = .ok (.iadd, 1) := by decide +kernel
theorem dX2_placeAfter_86 : decode cX2_placeAfter 86 = .ok (.putfield 27, 3) := by decide +kernel
theorem dX2_placeAfter_89 : decode cX2_placeAfter 89 = .ok (.iload_n 3, 1) := by decide +kernel
theorem dX2_placeAfter_90 : decode cX2_placeAfter 90 = .ok (.ireturn, 1) := by decide +kernel
theorem dX2_placeAfter_91 : decode cX2_placeAfter 91 = .ok (.aload_n 0, 1) := by decide +kernel
theorem dX2_placeAfter_92 : decode cX2_placeAfter 92 = .ok (.dup, 1) := by decide +kernel
theorem dX2_placeAfter_93 : decode cX2_placeAfter 93 = .ok (.getfield 27, 3) := by decide +kernel
theorem dX2_placeAfter_96 : decode cX2_placeAfter 96 = .ok (.iconst 1, 1) := by decide +kernel
theorem dX2_placeAfter_97 : decode cX2_placeAfter 97 = .ok (.isub, 1) := by decide +kernel
theorem dX2_placeAfter_98 : decode cX2_placeAfter 98 = .ok (.putfield 27, 3) := by decide +kernel
theorem dX2_placeAfter_101 : decode cX2_placeAfter 101 = .ok (.aload_n 0, 1) := by decide +kernel
theorem dX2_placeAfter_102 : decode cX2_placeAfter 102 = .ok (.getfield 23, 3) := by decide +kernel
theorem dX2_placeAfter_105 : decode cX2_placeAfter 105 = .ok (.aload_n 0, 1) := by decide +kernel
theorem dX2_placeAfter_106 : decode cX2_placeAfter 106 = .ok (.getfield 27, 3) := by decide +kernel
theorem dX2_placeAfter_109 : decode cX2_placeAfter 109 = .ok (.iaload, 1) := by decide +kernel
theorem dX2_placeAfter_110 : decode cX2_placeAfter 110 = .ok (.ireturn, 1) := by decide +kernel
theorem dX2_placeAfter_111 : decode cX2_placeAfter 111 = .ok (.iload_n 2, 1) := by decide +kernel
theorem dX2_placeAfter_112 : decode cX2_placeAfter 112 = .ok (.iconst 1, 1) := by decide +kernel
theorem dX2_placeAfter_113 : decode cX2_placeAfter 113 = .ok (.iadd, 1) := by decide +kernel
theorem dX2_placeAfter_114 : decode cX2_placeAfter 114 = .ok (.ireturn, 1) := by decide +kernel
