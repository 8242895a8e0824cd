theorem dX0_init_0 : decode cX0_init 0 = .ok (.aload_n 0, 1) := by decide +kernel
theorem dX0_init_1 : decode cX0_init 1 = .ok (.invokespecial 3, 3) := by decide +kernel
theorem dX0_init_4 : decode cX0_init 4 = .ok (.aload_n 0, 1) := by decide +kernel
theorem dX0_init_5 : decode cX0_init 5 = .ok (.iconst 4, 1) := by decide +kernel
theorem dX0_init_6 : decode cX0_init 6 = .ok (.newarray .int, 2) := by decide +kernel
theorem dX0_init_8 : decode cX0_init 8 = .ok (.dup, 1) := by decide +kernel
theorem dX0_init_9 : decode cX0_init 9 = .ok (.iconst 0, 1) := by decide +kernel
theorem dX0_init_10 : decode cX0_init 10 = .ok (.iconst 1, 1) := by decide +kernel
theorem dX0_init_11 : decode cX0_init 11 = .ok (.iastore, 1) := by decide +kernel
theorem dX0_init_12 : decode cX0_init 12 = .ok (.dup, 1) := by decide +kernel
theorem dX0_init_13 : decode cX0_init 13 = .ok (.iconst 1, 1) := by decide +kernel
theorem dX0_init_14 : decode cX0_init 14 = .ok (.iconst 1, 1) := by decide +kernel
theorem dX0_init_15 : decode cX0_init 15 = .ok (.iastore, 1) := by decide +kernel
theorem dX0_init_16 : decode cX0_init 16 = .ok (.dup, 1) := by decide +kernel
theorem dX0_init_17 : decode cX0_init 17 = .ok (.iconst 2, 1) := by decide +kernel
theorem dX0_init_18 : decode cX0_init 18 = .ok (.iconst 1, 1) := by decide +kernel
theorem dX0_init_19 : decode cX0_init 19 = .ok (.iastore, 1) := by decide +kernel
theorem dX0_init_20 : decode cX0_init 20 = .ok (.dup, 1) := by decide +kernel
theorem dX0_init_21 : decode cX0_init 21 = .ok (.iconst 3, 1) := by decide +kernel
theorem dX0_init_22 : decode cX0_init 22 = .ok (.iconst 1, 1) := by decide +kernel
theorem dX0_init_23 : decode cX0_init 23 = .ok (.iastore, 1) := by decide +kernel
theorem dX0_init_24 : decode cX0_init 24 = .ok (.putfield 9, 3) := by decide +kernel
theorem dX0_init_27 : decode cX0_init 27 = .ok (.aload_n 0, 1) := by decide +kernel
theorem dX0_init_28 : decode cX0_init 28 = .ok (.iconst 4, 1) := by decide +kernel
theorem dX0_init_29 : decode cX0_init 29 = .ok (.newarray .int, 2) := by decide +kernel
theorem dX0_init_31 : decode cX0_init 31 = .ok (.putfield 15, 3) := by decide +kernel
theorem dX0_init_34 : decode cX0_init 34 = .ok (.aload_n 0, 1) := by decide +kernel
theorem dX0_init_35 : decode cX0_init 35 = .ok (.sipush 152, 3) := by decide +kernel
theorem dX0_init_38 : decode cX0_init 38 = .ok (.newarray .int, 2) := by decide +kernel
theorem dX0_init_40 : decode cX0_init 40 = .ok (.putfield 18, 3) := by decide +kernel
theorem dX0_init_43 : decode cX0_init 43 = .ok (.aload_n 0, 1) := by decide +kernel
theorem dX0_init_44 : decode cX0_init 44 = .ok (.bipush 25, 2) := by decide +kernel
theorem dX0_init_46 : decode cX0_init 46 = .ok (.newarray .boolean, 2) := by decide +kernel
theorem dX0_init_48 : decode cX0_init 48 = .ok (.putfield 21, 3) := by decide +kernel
theorem dX0_init_51 : decode cX0_init 51 = .ok (.aload_n 0, 1) := by decide +kernel
theorem dX0_init_52 : decode cX0_init 52 = .ok (.bipush 25, 2) := by decide +kernel
theorem dX0_init_54 : decode cX0_init 54 = .ok (.newarray .int, 2) := by decide +kernel
theorem dX0_init_56 : decode cX0_init 56 = .ok (.putfield 25, 3) := by decide +kernel
theorem dX0_init_59 : decode cX0_init 59 = .ok (.aload_n 0, 1) := by decide +kernel
theorem dX0_init_60 : decode cX0_init 60 = .ok (.bipush 25, 2) := by decide +kernel
theorem dX0_init_62 : decode cX0_init 62 = .ok (.newarray .int, 2) := by decide +kernel
theorem dX0_init_64 : decode cX0_init 64 = .ok (.putfield 28, 3) := by decide +kernel
theorem dX0_init_67 : decode cX0_init 67 = .ok (.aload_n 0, 1) := by decide +kernel
theorem dX0_init_68 : decode cX0_init 68 = .ok (.bipush 25, 2) := by decide +kernel
theorem dX0_init_70 : decode cX0_init 70 = .ok (.newarray .boolean, 2) := by decide +kernel
theorem dX0_init_72 : decode cX0_init 72 = .ok (.putfield 31, 3) := by decide +kernel
theorem dX0_init_75 : decode cX0_init 75 = .ok (.aload_n 0, 1) := by decide +kernel
theorem dX0_init_76 : decode cX0_init 76 = .ok (.bipush 24, 2) := by decide +kernel
theorem dX0_init_78 : decode cX0_init 78 = .ok (.newarray .int, 2) := by decide +kernel
theorem dX0_init_80 : decode cX0_init 80 = .ok (.putfield 34, 3) := by decide +kernel
theorem dX0_init_83 : decode cX0_init 83 = .ok (.aload_n 0, 1) := by decide +kernel
theorem dX0_init_84 : decode cX0_init 84 = .ok (.iconst 0, 1) := by decide +kernel
theorem dX0_init_85 : decode cX0_init 85 = .ok (.putfield 37, 3) := by decide +kernel
theorem dX0_init_88 : decode cX0_init 88 = .ok (.aload_n 0, 1) := by decide +kernel
theorem dX0_init_89 : decode cX0_init 89 = .ok (.iconst 0, 1) := by decide +kernel
theorem dX0_init_90 : decode cX0_init 90 = .ok (.putfield 41, 3) := by decide +kernel
theorem dX0_init_93 : decode cX0_init 93 = .ok (.aload_n 0, 1) := by decide +kernel
theorem dX0_init_94 : decode cX0_init 94 = .ok (.iconst 0, 1) := by decide +kernel
theorem dX0_init_95 : decode cX0_init 95 = .ok (.putfield 44, 3) := by decide +kernel
theorem dX0_init_98 : decode cX0_init 98 = .ok (.return_, 1) := by decide +kernel
theorem dX0_wordOf_0 : decode cX0_wordOf 0 = .ok (.iload_n 0, 1) := by decide +kernel
theorem dX0_wordOf_1 : decode cX0_wordOf 1 = .ok (.bipush 16, 2) := by decide +kernel
theorem dX0_wordOf_3 : decode cX0_wordOf 3 = .ok (.isub, 1) := by decide +kernel
theorem dX0_wordOf_4 : decode cX0_wordOf 4 = .ok (.bipush 8, 2) := by decide +kernel
theorem dX0_wordOf_6 : decode cX0_wordOf 6 = .ok (.irem, 1) := by decide +kernel
theorem dX0_wordOf_7 : decode cX0_wordOf 7 = .ok (.ireturn, 1) := by decide +kernel
theorem dX0_cellOfWord_0 : decode cX0_cellOfWord 0 = .ok (.bipush 8, 2) := by decide +kernel
theorem dX0_cellOfWord_2 : decode cX0_cellOfWord 2 = .ok (.iload_n 0, 1) := by decide +kernel
theorem dX0_cellOfWord_3 : decode cX0_cellOfWord 3 = .ok (.iconst 1, 1) := by decide +kernel
theorem dX0_cellOfWord_4 : decode cX0_cellOfWord 4 = .ok (.isub, 1) := by decide +kernel
theorem dX0_cellOfWord_5 : decode cX0_cellOfWord 5 = .ok (.bipush 6, 2) := by decide +kernel
theorem dX0_cellOfWord_7 : decode cX0_cellOfWord 7 = .ok (.imul, 1) := by decide +kernel
theorem dX0_cellOfWord_8 : decode cX0_cellOfWord 8 = .ok (.iadd, 1) := by decide +kernel
theorem dX0_cellOfWord_9 : decode cX0_cellOfWord 9 = .ok (.iload_n 1, 1) := by decide +kernel
theorem dX0_cellOfWord_10 : decode cX0_cellOfWord 10 = .ok (.iadd, 1) := by decide +kernel
theorem dX0_cellOfWord_11 : decode cX0_cellOfWord 11 = .ok (.ireturn, 1) := by decide +kernel
theorem dX0_blockOf_0 : decode cX0_blockOf 0 = .ok (.aload_n 0, 1) := by decide +kernel
theorem dX0_blockOf_1 : decode cX0_blockOf 1 = .ok (.getfield 18, 3) := by decide +kernel
theorem dX0_blockOf_4 : decode cX0_blockOf 4 = .ok (.iconst 4, 1) := by decide +kernel
theorem dX0_blockOf_5 : decode cX0_blockOf 5 = .ok (.iload_n 1, 1) := by decide +kernel
theorem dX0_blockOf_6 : decode cX0_blockOf 6 = .ok (.bipush 16, 2) := by decide +kernel
theorem dX0_blockOf_8 : decode cX0_blockOf 8 = .ok (.isub, 1) := by decide +kernel
theorem dX0_blockOf_9 : decode cX0_blockOf 9 = .ok (.bipush 8, 2) := by decide +kernel
theorem dX0_blockOf_11 : decode cX0_blockOf 11 = .ok (.idiv, 1) := by decide +kernel
theorem dX0_blockOf_12 : decode cX0_blockOf 12 = .ok (.iadd, 1) := by decide +kernel
theorem dX0_blockOf_13 : decode cX0_blockOf 13 = .ok (.iaload, 1) := by decide +kernel
theorem dX0_blockOf_14 : decode cX0_blockOf 14 = .ok (.ireturn, 1) := by decide +kernel
theorem dX0_cellOf_0 : decode cX0_cellOf 0 = .ok (.iload_n 1, 1) := by decide +kernel
theorem dX0_cellOf_1 : decode cX0_cellOf 1 = .ok (.bipush 8, 2) := by decide +kernel
theorem dX0_cellOf_3 : decode cX0_cellOf 3 = .ok (.if_icmp .ge 7, 3) := by decide +kernel
theorem dX0_cellOf_6 : decode cX0_cellOf 6 = .ok (.iload_n 1, 1) := by decide +kernel
theorem dX0_cellOf_7 : decode cX0_cellOf 7 = .ok (.goto 15, 3) := by decide +kernel
theorem dX0_cellOf_10 : decode cX0_cellOf 10 = .ok (.aload_n 0, 1) := by decide +kernel
theorem dX0_cellOf_11 : decode cX0_cellOf 11 = .ok (.iload_n 1, 1) := by decide +kernel
theorem dX0_cellOf_12 : decode cX0_cellOf 12 = .ok (.invokevirtual 47, 3) := by decide +kernel
theorem dX0_cellOf_15 : decode cX0_cellOf 15 = .ok (.iload_n 1, 1) := by decide +kernel
theorem dX0_cellOf_16 : decode cX0_cellOf 16 = .ok (.invokestatic 51, 3) := by decide +kernel
theorem dX0_cellOf_19 : decode cX0_cellOf 19 = .ok (.invokestatic 54, 3) := by decide +kernel
theorem dX0_cellOf_22 : decode cX0_cellOf 22 = .ok (.ireturn, 1) := by decide +kernel
theorem dX0_holdsPointer_0 : decode cX0_holdsPointer 0 = .ok (.iload_n 1, 1) := by decide +kernel
theorem dX0_holdsPointer_1 : decode cX0_holdsPointer 1 = .ok (.bipush 8, 2) := by decide +kernel
theorem dX0_holdsPointer_3 : decode cX0_holdsPointer 3 = .ok (.if_icmp .ge 16, 3) := by decide +kernel
theorem dX0_holdsPointer_6 : decode cX0_holdsPointer 6 = .ok (.iload_n 1, 1) := by decide +kernel
theorem dX0_holdsPointer_7 : decode cX0_holdsPointer 7 = .ok (.iconst 4, 1) := by decide +kernel
theorem dX0_holdsPointer_8 : decode cX0_holdsPointer 8 = .ok (.if_icmp .lt 7, 3) := by decide +kernel
theorem dX0_holdsPointer_11 : decode cX0_holdsPointer 11 = .ok (.iconst 1, 1) := by decide +kernel
theorem dX0_holdsPointer_12 : decode cX0_holdsPointer 12 = .ok (.goto 20, 3) := by decide +kernel
theorem dX0_holdsPointer_15 : decode cX0_holdsPointer 15 = .ok (.iconst 0, 1) := by decide +kernel
theorem dX0_holdsPointer_16 : decode cX0_holdsPointer 16 = .ok (.goto 16, 3) := by decide +kernel
theorem dX0_holdsPointer_19 : decode cX0_holdsPointer 19 = .ok (.aload_n 0, 1) := by decide +kernel
theorem dX0_holdsPointer_20 : decode cX0_holdsPointer 20 = .ok (.aload_n 0, 1) := by decide +kernel
theorem dX0_holdsPointer_21 : decode cX0_holdsPointer 21 = .ok (.iload_n 1, 1) := by decide +kernel
theorem dX0_holdsPointer_22 : decode cX0_holdsPointer 22 = .ok (.invokevirtual 47, 3) := by decide +kernel
theorem dX0_holdsPointer_25 : decode cX0_holdsPointer 25 = .ok (.iload_n 1, 1) := by decide +kernel
theorem dX0_holdsPointer_26 : decode cX0_holdsPointer 26 = .ok (.invokestatic 51, 3) := by decide +kernel
theorem dX0_holdsPointer_29 : decode cX0_holdsPointer 29 = .ok (.invokevirtual 58, 3) := by decide +kernel
theorem dX0_holdsPointer_32 : decode cX0_holdsPointer 32 = .ok (.ireturn, 1) := by decide +kernel
theorem dX0_isBlock_0 : decode cX0_isBlock 0 = .ok (.iload_n 1, 1) := by decide +kernel
theorem dX0_isBlock_1 : decode cX0_isBlock 1 = .ok (.iconst 1, 1) := by decide +kernel
theorem dX0_isBlock_2 : decode cX0_isBlock 2 = .ok (.if_icmp .lt 22, 3) := by decide +kernel
theorem dX0_isBlock_5 : decode cX0_isBlock 5 = .ok (.iload_n 1, 1) := by decide +kernel
theorem dX0_isBlock_6 : decode cX0_isBlock 6 = .ok (.bipush 24, 2) := by decide +kernel
theorem dX0_isBlock_8 : decode cX0_isBlock 8 = .ok (.if_icmp .gt 16, 3) := by decide +kernel
theorem dX0_isBlock_11 : decode cX0_isBlock 11 = .ok (.aload_n 0, 1) := by decide +kernel
theorem dX0_isBlock_12 : decode cX0_isBlock 12 = .ok (.getfield 21, 3) := by decide +kernel
theorem dX0_isBlock_15 : decode cX0_isBlock 15 = .ok (.iload_n 1, 1) := by decide +kernel
theorem dX0_isBlock_16 : decode cX0_isBlock 16 = .ok (.baload, 1) := by decide +kernel
theorem dX0_isBlock_17 : decode cX0_isBlock 17 = .ok (.ifCond .eq 7, 3) := by decide +kernel
theorem dX0_isBlock_20 : decode cX0_isBlock 20 = .ok (.iconst 1, 1) := by decide +kernel
theorem dX0_isBlock_21 : decode cX0_isBlock 21 = .ok (.goto 4, 3) := by decide +kernel
theorem dX0_isBlock_24 : decode cX0_isBlock 24 = .ok (.iconst 0, 1) := by decide +kernel
theorem dX0_isBlock_25 : decode cX0_isBlock 25 = .ok (.ireturn, 1) := by decide +kernel
theorem dX0_hasWord_0 : decode cX0_hasWord 0 = .ok (.aload_n 0, 1) := by decide +kernel
theorem dX0_hasWord_1 : decode cX0_hasWord 1 = .ok (.iload_n 1, 1) := by decide +kernel
theorem dX0_hasWord_2 : decode cX0_hasWord 2 = .ok (.invokevirtual 62, 3) := by decide +kernel
theorem dX0_hasWord_5 : decode cX0_hasWord 5 = .ok (.ifCond .eq 26, 3) := by decide +kernel
theorem dX0_hasWord_8 : decode cX0_hasWord 8 = .ok (.iload_n 2, 1) := by decide +kernel
theorem dX0_hasWord_9 : decode cX0_hasWord 9 = .ok (.ifCond .lt 22, 3) := by decide +kernel
theorem dX0_hasWord_12 : decode cX0_hasWord 12 = .ok (.iload_n 2, 1) := by decide +kernel
theorem dX0_hasWord_13 : decode cX0_hasWord 13 = .ok (.aload_n 0, 1) := by decide +kernel
theorem dX0_hasWord_14 : decode cX0_hasWord 14 = .ok (.getfield 9, 3) := by decide +kernel
theorem dX0_hasWord_17 : decode cX0_hasWord 17 = .ok (.aload_n 0, 1) := by decide +kernel
theorem dX0_hasWord_18 : decode cX0_hasWord 18 = .ok (.getfield 25, 3) := by decide +kernel
theorem dX0_hasWord_21 : decode cX0_hasWord 21 = .ok (.iload_n 1, 1) := by decide +kernel
theorem dX0_hasWord_22 : decode cX0_hasWord 22 = .ok (.iaload, 1) := by decide +kernel
theorem dX0_hasWord_23 : decode cX0_hasWord 23 = .ok (.iaload, 1) := by decide +kernel
theorem dX0_hasWord_24 : decode cX0_hasWord 24 = .ok (.if_icmp .ge 7, 3) := by decide +kernel
theorem dX0_hasWord_27 : decode cX0_hasWord 27 = .ok (.iconst 1, 1) := by decide +kernel
theorem dX0_hasWord_28 : decode cX0_hasWord 28 = .ok (.goto 4, 3) := by decide +kernel
theorem dX0_hasWord_31 : decode cX0_hasWord 31 = .ok (.iconst 0, 1) := by decide +kernel
theorem dX0_hasWord_32 : decode cX0_hasWord 32 = .ok (.ireturn, 1) := by decide +kernel
theorem dX0_isPointerWord_0 : decode cX0_isPointerWord 0 = .ok (.aload_n 0, 1) := by decide +kernel
theorem dX0_isPointerWord_1 : decode cX0_isPointerWord 1 = .ok (.iload_n 1, 1) := by decide +kernel
theorem dX0_isPointerWord_2 : decode cX0_isPointerWord 2 = .ok (.iload_n 2, 1) := by decide +kernel
theorem dX0_isPointerWord_3 : decode cX0_isPointerWord 3 = .ok (.invokevirtual 66, 3) := by decide +kernel
theorem dX0_isPointerWord_6 : decode cX0_isPointerWord 6 = .ok (.ifCond .eq 16, 3) := by decide +kernel
theorem dX0_isPointerWord_9 : decode cX0_isPointerWord 9 = .ok (.aload_n 0, 1) := by decide +kernel
theorem dX0_isPointerWord_10 : decode cX0_isPointerWord 10 = .ok (.iload_n 1, 1) := by decide +kernel
theorem dX0_isPointerWord_18 : decode cX0_isPointerWord 18 = .ok (.iconst 1, 1) := by decide +kernel
theorem dX0_isPointerWord_19 : decode cX0_isPointerWord 19 = .ok (.goto 4, 3) := by decide +kernel
theorem dX0_isPointerWord_22 : decode cX0_isPointerWord 22 = .ok (.iconst 0, 1) := by decide +kernel
theorem dX0_isPointerWord_23 : decode cX0_isPointerWord 23 = .ok (.ireturn, 1) := by decide +kernel
theorem dX0_isFull_0 : decode cX0_isFull 0 = .ok (.aload_n 0, 1) := by decide +kernel
theorem dX0_isFull_1 : decode cX0_isFull 1 = .ok (.getfield 41, 3) := by decide +kernel
theorem dX0_isFull_4 : decode cX0_isFull 4 = .ok (.bipush 24, 2) := by decide +kernel
theorem dX0_isFull_6 : decode cX0_isFull 6 = .ok (.if_icmp .lt 7, 3) := by decide +kernel
theorem dX0_isFull_9 : decode cX0_isFull 9 = .ok (.iconst 1, 1) := by decide +kernel
theorem dX0_isFull_10 : decode cX0_isFull 10 = .ok (.goto 4, 3) := by decide +kernel
theorem dX0_isFull_13 : decode cX0_isFull 13 = .ok (.iconst 0, 1) := by decide +kernel
theorem dX0_isFull_14 : decode cX0_isFull 14 = .ok (.ireturn, 1) := by decide +kernel
theorem dX0_blockTotal_0 : decode cX0_blockTotal 0 = .ok (.aload_n 0, 1) := by decide +kernel
theorem dX0_blockTotal_1 : decode cX0_blockTotal 1 = .ok (.getfield 41, 3) := by decide +kernel
theorem dX0_blockTotal_4 : decode cX0_blockTotal 4 = .ok (.ireturn, 1) := by decide +kernel
theorem dX0_givenTotal_0 : decode cX0_givenTotal 0 = .ok (.aload_n 0, 1) := by decide +kernel
theorem dX0_givenTotal_1 : decode cX0_givenTotal 1 = .ok (.getfield 44, 3) := by decide +kernel
theorem dX0_givenTotal_4 : decode cX0_givenTotal 4 = .ok (.ireturn, 1) := by decide +kernel
theorem dX0_countOf_0 : decode cX0_countOf 0 = .ok (.aload_n 0, 1) := by decide +kernel
theorem dX0_countOf_1 : decode cX0_countOf 1 = .ok (.iload_n 1, 1) := by decide +kernel
theorem dX0_countOf_2 : decode cX0_countOf 2 = .ok (.invokevirtual 62, 3) := by decide +kernel
theorem dX0_countOf_5 : decode cX0_countOf 5 = .ok (.ifCond .eq 12, 3) := by decide +kernel
theorem dX0_countOf_8 : decode cX0_countOf 8 = .ok (.aload_n 0, 1) := by decide +kernel
theorem dX0_countOf_9 : decode cX0_countOf 9 = .ok (.getfield 28, 3) := by decide +kernel
theorem dX0_countOf_12 : decode cX0_countOf 12 = .ok (.iload_n 1, 1) := by decide +kernel
theorem dX0_countOf_13 : decode cX0_countOf 13 = .ok (.iaload, 1) := by decide +kernel
theorem dX0_countOf_14 : decode cX0_countOf 14 = .ok (.goto 4, 3) := by decide +kernel
theorem dX0_countOf_17 : decode cX0_countOf 17 = .ok (.iconst (-1), 1) := by decide +kernel
theorem dX0_countOf_18 : decode cX0_countOf 18 = .ok (.ireturn, 1) := by decide +kernel
theorem dX0_blockType_0 : decode cX0_blockType 0 = .ok (.aload_n 0, 1) := by decide +kernel
theorem dX0_blockType_1 : decode cX0_blockType 1 = .ok (.iload_n 1, 1) := by decide +kernel
theorem dX0_blockType_2 : decode cX0_blockType 2 = .ok (.invokevirtual 62, 3) := by decide +kernel
theorem dX0_blockType_5 : decode cX0_blockType 5 = .ok (.ifCond .eq 12, 3) := by decide +kernel
theorem dX0_blockType_8 : decode cX0_blockType 8 = .ok (.aload_n 0, 1) := by decide +kernel
theorem dX0_blockType_9 : decode cX0_blockType 9 = .ok (.getfield 25, 3) := by decide +kernel
theorem dX0_blockType_12 : decode cX0_blockType 12 = .ok (.iload_n 1, 1) := by decide +kernel
theorem dX0_blockType_13 : decode cX0_blockType 13 = .ok (.iaload, 1) := by decide +kernel
theorem dX0_blockType_14 : decode cX0_blockType 14 = .ok (.goto 4, 3) := by decide +kernel
theorem dX0_blockType_17 : decode cX0_blockType 17 = .ok (.iconst (-1), 1) := by decide +kernel
theorem dX0_blockType_18 : decode cX0_blockType 18 = .ok (.ireturn, 1) := by decide +kernel
theorem dX0_hasBlockOfType_0 : decode cX0_hasBlockOfType 0 = .ok (.iconst 1, 1) := by decide +kernel
theorem dX0_hasBlockOfType_1 : decode cX0_hasBlockOfType 1 = .ok (.istore_n 2, 1) := by decide +kernel
theorem dX0_hasBlockOfType_2 : decode cX0_hasBlockOfType 2 = .ok (.iload_n 2, 1) := by decide +kernel
theorem dX0_hasBlockOfType_3 : decode cX0_hasBlockOfType 3 = .ok (.bipush 24, 2) := by decide +kernel
theorem dX0_hasBlockOfType_5 : decode cX0_hasBlockOfType 5 = .ok (.if_icmp .gt 30, 3) := by decide +kernel
theorem dX0_hasBlockOfType_8 : decode cX0_hasBlockOfType 8 = .ok (.aload_n 0, 1) := by decide +kernel
theorem dX0_hasBlockOfType_9 : decode cX0_hasBlockOfType 9 = .ok (.getfield 21, 3) := by decide +kernel
theorem dX0_hasBlockOfType_12 : decode cX0_hasBlockOfType 12 = .ok (.iload_n 2, 1) := by decide +kernel
theorem dX0_hasBlockOfType_13 : decode cX0_hasBlockOfType 13 = .ok (.baload, 1) := by decide +kernel
theorem dX0_hasBlockOfType_14 : decode cX0_hasBlockOfType 14 = .ok (.ifCond .eq 15, 3) := by decide +kernel
theorem dX0_hasBlockOfType_17 : decode cX0_hasBlockOfType 17 = .ok (.aload_n 0, 1) := by decide +kernel
theorem dX0_hasBlockOfType_18 : decode cX0_hasBlockOfType 18 = .ok (.getfield 25, 3) := by decide +kernel
theorem dX0_hasBlockOfType_21 : decode cX0_hasBlockOfType 21 = .ok (.iload_n 2, 1) := by decide +kernel
theorem dX0_hasBlockOfType_22 : decode cX0_hasBlockOfType 22 = .ok (.iaload, 1) := by decide +kernel
theorem dX0_hasBlockOfType_23 : decode cX0_hasBlockOfType 23 = .ok (.iload_n 1, 1) := by decide +kernel
theorem dX0_hasBlockOfType_24 : decode cX0_hasBlockOfType 24 = .ok (.if_icmp .ne 5, 3) := by decide +kernel
theorem dX0_hasBlockOfType_27 : decode cX0_hasBlockOfType 27 = .ok (.iconst 1, 1) := by decide +kernel
theorem dX0_hasBlockOfType_28 : decode cX0_hasBlockOfType 28 = .ok (.ireturn, 1) := by decide +kernel
theorem dX0_hasBlockOfType_29 : decode cX0_hasBlockOfType 29 = .ok (.iinc 2 1, 3) := by decide +kernel
theorem dX0_hasBlockOfType_32 : decode cX0_hasBlockOfType 32 = .ok (.goto (-30), 3) := by decide +kernel
theorem dX0_hasBlockOfType_35 : decode cX0_hasBlockOfType 35 = .ok (.iconst 0, 1) := by decide +kernel
theorem dX0_hasBlockOfType_36 : decode cX0_hasBlockOfType 36 = .ok (.ireturn, 1) := by decide +kernel
theorem dX0_changeType_0 : decode cX0_changeType 0 = .ok (.aload_n 0, 1) := by decide +kernel
theorem dX0_changeType_1 : decode cX0_changeType 1 = .ok (.getfield 9, 3) := by decide +kernel
theorem dX0_changeType_4 : decode cX0_changeType 4 = .ok (.iload_n 1, 1) := by decide +kernel
theorem dX0_changeType_5 : decode cX0_changeType 5 = .ok (.iload_n 2, 1) := by decide +kernel
theorem dX0_changeType_6 : decode cX0_changeType 6 = .ok (.iastore, 1) := by decide +kernel
theorem dX0_changeType_7 : decode cX0_changeType 7 = .ok (.aload_n 0, 1) := by decide +kernel
theorem dX0_changeType_8 : decode cX0_changeType 8 = .ok (.getfield 15, 3) := by decide +kernel
theorem dX0_changeType_11 : decode cX0_changeType 11 = .ok (.iload_n 1, 1) := by decide +kernel
theorem dX0_changeType_12 : decode cX0_changeType 12 = .ok (.iload_n 3, 1) := by decide +kernel
theorem dX0_changeType_13 : decode cX0_changeType 13 = .ok (.iastore, 1) := by decide +kernel
theorem dX0_changeType_14 : decode cX0_changeType 14 = .ok (.return_, 1) := by decide +kernel
theorem dX0_read_0 : decode cX0_read 0 = .ok (.aload_n 0, 1) := by decide +kernel
theorem dX0_read_1 : decode cX0_read 1 = .ok (.getfield 18, 3) := by decide +kernel
theorem dX0_read_4 : decode cX0_read 4 = .ok (.iload_n 1, 1) := by decide +kernel
theorem dX0_read_5 : decode cX0_read 5 = .ok (.iaload, 1) := by decide +kernel
theorem dX0_read_6 : decode cX0_read 6 = .ok (.ireturn, 1) := by decide +kernel
theorem dX0_writeInt_0 : decode cX0_writeInt 0 = .ok (.aload_n 0, 1) := by decide +kernel
theorem dX0_writeInt_1 : decode cX0_writeInt 1 = .ok (.getfield 18, 3) := by decide +kernel
theorem dX0_writeInt_4 : decode cX0_writeInt 4 = .ok (.iload_n 1, 1) := by decide +kernel
theorem dX0_writeInt_5 : decode cX0_writeInt 5 = .ok (.iload_n 2, 1) := by decide +kernel
theorem dX0_writeInt_6 : decode cX0_writeInt 6 = .ok (.iastore, 1) := by decide +kernel
theorem dX0_writeInt_7 : decode cX0_writeInt 7 = .ok (.return_, 1) := by decide +kernel
theorem dX0_writePointer_0 : decode cX0_writePointer 0 = .ok (.aload_n 0, 1) := by decide +kernel
theorem dX0_writePointer_1 : decode cX0_writePointer 1 = .ok (.getfield 18, 3) := by decide +kernel
theorem dX0_writePointer_4 : decode cX0_writePointer 4 = .ok (.iload_n 1, 1) := by decide +kernel
theorem dX0_writePointer_5 : decode cX0_writePointer 5 = .ok (.iaload, 1) := by decide +kernel
theorem dX0_writePointer_6 : decode cX0_writePointer 6 = .ok (.istore_n 3, 1) := by decide +kernel
theorem dX0_writePointer_7 : decode cX0_writePointer 7 = .ok (.aload_n 0, 1) := by decide +kernel
theorem dX0_writePointer_8 : decode cX0_writePointer 8 = .ok (.getfield 18, 3) := by decide +kernel
theorem dX0_writePointer_11 : decode cX0_writePointer 11 = .ok (.iload_n 1, 1) := by decide +kernel
theorem dX0_writePointer_12 : decode cX0_writePointer 12 = .ok (.iload_n 2, 1) := by decide +kernel
theorem dX0_writePointer_13 : decode cX0_writePointer 13 = .ok (.iastore, 1) := by decide +kernel
theorem dX0_writePointer_14 : decode cX0_writePointer 14 = .ok (.aload_n 0, 1) := by decide +kernel
theorem dX0_writePointer_15 : decode cX0_writePointer 15 = .ok (.iload_n 2, 1) := by decide +kernel
theorem dX0_writePointer_16 : decode cX0_writePointer 16 = .ok (.invokevirtual 62, 3) := by decide +kernel
theorem dX0_writePointer_19 : decode cX0_writePointer 19 = .ok (.ifCond .eq 13, 3) := by decide +kernel
theorem dX0_writePointer_22 : decode cX0_writePointer 22 = .ok (.aload_n 0, 1) := by decide +kernel
theorem dX0_writePointer_23 : decode cX0_writePointer 23 = .ok (.getfield 28, 3) := by decide +kernel
theorem dX0_writePointer_26 : decode cX0_writePointer 26 = .ok (.iload_n 2, 1) := by decide +kernel
theorem dX0_writePointer_27 : decode cX0_writePointer 27 = .ok (.dup2, 1) := by decide +kernel
theorem dX0_writePointer_28 : decode cX0_writePointer 28 = .ok (.iaload, 1) := by decide +kernel
theorem dX0_writePointer_29 : decode cX0_writePointer 29 = .ok (.iconst 1, 1) := by decide +kernel
theorem dX0_writePointer_30 : decode cX0_writePointer 30 = .ok (.iadd, 1) := by decide +kernel
theorem dX0_writePointer_31 : decode cX0_writePointer 31 = .ok (.iastore, 1) := by decide +kernel
theorem dX0_writePointer_32 : decode cX0_writePointer 32 = .ok (.aload_n 0, 1) := by decide +kernel
theorem dX0_writePointer_33 : decode cX0_writePointer 33 = .ok (.iload_n 3, 1) := by decide +kernel
theorem dX0_writePointer_34 : decode cX0_writePointer 34 = .ok (.invokevirtual 72, 3) := by decide +kernel
theorem dX0_writePointer_37 : decode cX0_writePointer 37 = .ok (.return_, 1) := by decide +kernel
theorem dX0_makeBlock_0 : decode cX0_makeBlock 0 = .ok (.iconst 1, 1) := by decide +kernel
theorem dX0_makeBlock_1 : decode cX0_makeBlock 1 = .ok (.istore_n 2, 1) := by decide +kernel
theorem dX0_makeBlock_2 : decode cX0_makeBlock 2 = .ok (.iload_n 2, 1) := by decide +kernel
theorem dX0_makeBlock_3 : decode cX0_makeBlock 3 = .ok (.bipush 24, 2) := by decide +kernel
theorem dX0_makeBlock_5 : decode cX0_makeBlock 5 = .ok (.if_icmp .gt 56, 3) := by decide +kernel
theorem dX0_makeBlock_8 : decode cX0_makeBlock 8 = .ok (.aload_n 0, 1) := by decide +kernel
theorem dX0_makeBlock_9 : decode cX0_makeBlock 9 = .ok (.getfield 21, 3) := by decide +kernel
theorem dX0_makeBlock_12 : decode cX0_makeBlock 12 = .ok (.iload_n 2, 1) := by decide +kernel
theorem dX0_makeBlock_13 : decode cX0_makeBlock 13 = .ok (.baload, 1) := by decide +kernel
theorem dX0_makeBlock_14 : decode cX0_makeBlock 14 = .ok (.ifCond .ne 41, 3) := by decide +kernel
theorem dX0_makeBlock_17 : decode cX0_makeBlock 17 = .ok (.aload_n 0, 1) := by decide +kernel
theorem dX0_makeBlock_18 : decode cX0_makeBlock 18 = .ok (.getfield 21, 3) := by decide +kernel
theorem dX0_makeBlock_21 : decode cX0_makeBlock 21 = .ok (.iload_n 2, 1) := by decide +kernel
theorem dX0_makeBlock_22 : decode cX0_makeBlock 22 = .ok (.iconst 1, 1) := by decide +kernel
theorem dX0_makeBlock_23 : decode cX0_makeBlock 23 = .ok (.bastore, 1) := by decide +kernel
theorem dX0_makeBlock_24 : decode cX0_makeBlock 24 = .ok (.aload_n 0, 1) := by decide +kernel
theorem dX0_makeBlock_25 : decode cX0_makeBlock 25 = .ok (.getfield 25, 3) := by decide +kernel
theorem dX0_makeBlock_28 : decode cX0_makeBlock 28 = .ok (.iload_n 2, 1) := by decide +kernel
theorem dX0_makeBlock_29 : decode cX0_makeBlock 29 = .ok (.iload_n 1, 1) := by decide +kernel
theorem dX0_makeBlock_30 : decode cX0_makeBlock 30 = .ok (.iastore, 1) := by decide +kernel
theorem dX0_makeBlock_31 : decode cX0_makeBlock 31 = .ok (.aload_n 0, 1) := by decide +kernel
theorem dX0_makeBlock_32 : decode cX0_makeBlock 32 = .ok (.getfield 28, 3) := by decide +kernel
theorem dX0_makeBlock_35 : decode cX0_makeBlock 35 = .ok (.iload_n 2, 1) := by decide +kernel
theorem dX0_makeBlock_36 : decode cX0_makeBlock 36 = .ok (.iconst 0, 1) := by decide +kernel
theorem dX0_makeBlock_37 : decode cX0_makeBlock 37 = .ok (.iastore, 1) := by decide +kernel
theorem dX0_makeBlock_38 : decode cX0_makeBlock 38 = .ok (.aload_n 0, 1) := by decide +kernel
theorem dX0_makeBlock_39 : decode cX0_makeBlock 39 = .ok (.dup, 1) := by decide +kernel
theorem dX0_makeBlock_40 : decode cX0_makeBlock 40 = .ok (.getfield 41, 3) := by decide +kernel
theorem dX0_makeBlock_43 : decode cX0_makeBlock 43 = .ok (.iconst 1, 1) := by decide +kernel
theorem dX0_makeBlock_44 : decode cX0_makeBlock 44 = .ok (.iadd, 1) := by decide +kernel
theorem dX0_makeBlock_45 : decode cX0_makeBlock 45 = .ok (.putfield 41, 3) := by decide +kernel
theorem dX0_makeBlock_48 : decode cX0_makeBlock 48 = .ok (.aload_n 0, 1) := by decide +kernel
theorem dX0_makeBlock_49 : decode cX0_makeBlock 49 = .ok (.iload_n 2, 1) := by decide +kernel
theorem dX0_makeBlock_50 : decode cX0_makeBlock 50 = .ok (.invokevirtual 76, 3) := by decide +kernel
theorem dX0_makeBlock_53 : decode cX0_makeBlock 53 = .ok (.iload_n 2, 1) := by decide +kernel
theorem dX0_makeBlock_54 : decode cX0_makeBlock 54 = .ok (.ireturn, 1) := by decide +kernel
theorem dX0_makeBlock_55 : decode cX0_makeBlock 55 = .ok (.iinc 2 1, 3) := by decide +kernel
theorem dX0_makeBlock_58 : decode cX0_makeBlock 58 = .ok (.goto (-56), 3) := by decide +kernel
theorem dX0_makeBlock_61 : decode cX0_makeBlock 61 = .ok (.iconst 0, 1) := by decide +kernel
theorem dX0_makeBlock_62 : decode cX0_makeBlock 62 = .ok (.ireturn, 1) := by decide +kernel
theorem dX0_emptyWords_0 : decode cX0_emptyWords 0 = .ok (.iconst 0, 1) := by decide +kernel
theorem dX0_emptyWords_1 : decode cX0_emptyWords 1 = .ok (.istore_n 2, 1) := by decide +kernel
theorem dX0_emptyWords_2 : decode cX0_emptyWords 2 = .ok (.iload_n 2, 1) := by decide +kernel
theorem dX0_emptyWords_3 : decode cX0_emptyWords 3 = .ok (.bipush 6, 2) := by decide +kernel
theorem dX0_emptyWords_5 : decode cX0_emptyWords 5 = .ok (.if_icmp .ge 20, 3) := by decide +kernel
theorem dX0_emptyWords_8 : decode cX0_emptyWords 8 = .ok (.aload_n 0, 1) := by decide +kernel
theorem dX0_emptyWords_9 : decode cX0_emptyWords 9 = .ok (.getfield 18, 3) := by decide +kernel
theorem dX0_emptyWords_12 : decode cX0_emptyWords 12 = .ok (.iload_n 1, 1) := by decide +kernel
theorem dX0_emptyWords_13 : decode cX0_emptyWords 13 = .ok (.iload_n 2, 1) := by decide +kernel
theorem dX0_emptyWords_14 : decode cX0_emptyWords 14 = .ok (.invokestatic 54, 3) := by decide +kernel
theorem dX0_emptyWords_17 : decode cX0_emptyWords 17 = .ok (.iconst 0, 1) := by decide +kernel
theorem dX0_emptyWords_18 : decode cX0_emptyWords 18 = .ok (.iastore, 1) := by decide +kernel
theorem dX0_emptyWords_19 : decode cX0_emptyWords 19 = .ok (.iinc 2 1, 3) := by decide +kernel
theorem dX0_emptyWords_22 : decode cX0_emptyWords 22 = .ok (.goto (-20), 3) := by decide +kernel
theorem dX0_emptyWords_25 : decode cX0_emptyWords 25 = .ok (.return_, 1) := by decide +kernel
theorem dX0_dropPointer_0 : decode cX0_dropPointer 0 = .ok (.aload_n 0, 1) := by decide +kernel
theorem dX0_dropPointer_1 : decode cX0_dropPointer 1 = .ok (.iconst 0, 1) := by decide +kernel
theorem dX0_dropPointer_2 : decode cX0_dropPointer 2 = .ok (.putfield 37, 3) := by decide +kernel
theorem dX0_dropPointer_5 : decode cX0_dropPointer 5 = .ok (.aload_n 0, 1) := by decide +kernel
theorem dX0_dropPointer_6 : decode cX0_dropPointer 6 = .ok (.iload_n 1, 1) := by decide +kernel
theorem dX0_dropPointer_7 : decode cX0_dropPointer 7 = .ok (.invokevirtual 79, 3) := by decide +kernel
theorem dX0_dropPointer_10 : decode cX0_dropPointer 10 = .ok (.iconst 0, 1) := by decide +kernel
theorem dX0_dropPointer_11 : decode cX0_dropPointer 11 = .ok (.istore_n 2, 1) := by decide +kernel
theorem dX0_dropPointer_12 : decode cX0_dropPointer 12 = .ok (.iload_n 2, 1) := by decide +kernel
theorem dX0_dropPointer_13 : decode cX0_dropPointer 13 = .ok (.aload_n 0, 1) := by decide +kernel
theorem dX0_dropPointer_14 : decode cX0_dropPointer 14 = .ok (.getfield 37, 3) := by decide +kernel
theorem dX0_dropPointer_17 : decode cX0_dropPointer 17 = .ok (.if_icmp .ge 25, 3) := by decide +kernel
theorem dX0_dropPointer_20 : decode cX0_dropPointer 20 = .ok (.iload_n 2, 1) := by decide +kernel
theorem dX0_dropPointer_21 : decode cX0_dropPointer 21 = .ok (.bipush 24, 2) := by decide +kernel
theorem dX0_dropPointer_23 : decode cX0_dropPointer 23 = .ok (.if_icmp .ge 19, 3) := by decide +kernel
theorem dX0_dropPointer_26 : decode cX0_dropPointer 26 = .ok (.aload_n 0, 1) := by decide +kernel
