theorem dX12_isDone_697 : decode cX12_isDone 697 = .ok (.iaload, 1) := by decide +kernel
theorem dX12_isDone_698 : decode cX12_isDone 698 = .ok (.putfield 580, 3) := by decide +kernel
theorem dX12_isDone_701 : decode cX12_isDone 701 = .ok (.iconst 0, 1) := by decide +kernel
theorem dX12_isDone_702 : decode cX12_isDone 702 = .ok (.ireturn, 1) := by decide +kernel
theorem dX12_isEdge_0 : decode cX12_isEdge 0 = .ok (.aload_n 0, 1) := by decide +kernel
theorem dX12_isEdge_1 : decode cX12_isEdge 1 = .ok (.getfield 47, 3) := by decide +kernel
theorem dX12_isEdge_4 : decode cX12_isEdge 4 = .ok (.iload_n 1, 1) := by decide +kernel
theorem dX12_isEdge_5 : decode cX12_isEdge 5 = .ok (.iaload, 1) := by decide +kernel
theorem dX12_isEdge_6 : decode cX12_isEdge 6 = .ok (.istore_n 2, 1) := by decide +kernel
theorem dX12_isEdge_7 : decode cX12_isEdge 7 = .ok (.iload_n 2, 1) := by decide +kernel
theorem dX12_isEdge_8 : decode cX12_isEdge 8 = .ok (.iconst 2, 1) := by decide +kernel
theorem dX12_isEdge_9 : decode cX12_isEdge 9 = .ok (.if_icmp .ge 28, 3) := by decide +kernel
theorem dX12_isEdge_12 : decode cX12_isEdge 12 = .ok (.aload_n 0, 1) := by decide +kernel
theorem dX12_isEdge_13 : decode cX12_isEdge 13 = .ok (.getfield 604, 3) := by decide +kernel
theorem dX12_isEdge_16 : decode cX12_isEdge 16 = .ok (.iload_n 2, 1) := by decide +kernel
theorem dX12_isEdge_17 : decode cX12_isEdge 17 = .ok (.ifCond .ne 7, 3) := by decide +kernel
theorem dX12_isEdge_20 : decode cX12_isEdge 20 = .ok (.iconst 0, 1) := by decide +kernel
theorem dX12_isEdge_21 : decode cX12_isEdge 21 = .ok (.goto 7, 3) := by decide +kernel
theorem dX12_isEdge_24 : decode cX12_isEdge 24 = .ok (.aload_n 0, 1) := by decide +kernel
theorem dX12_isEdge_25 : decode cX12_isEdge 25 = .ok (.getfield 595, 3) := by decide +kernel
theorem dX12_isEdge_28 : decode cX12_isEdge 28 = .ok (.if_icmp .ne 7, 3) := by decide +kernel
theorem dX12_isEdge_31 : decode cX12_isEdge 31 = .ok (.iconst 1, 1) := by decide +kernel
theorem dX12_isEdge_32 : decode cX12_isEdge 32 = .ok (.goto 4, 3) := by decide +kernel
theorem dX12_isEdge_35 : decode cX12_isEdge 35 = .ok (.iconst 0, 1) := by decide +kernel
theorem dX12_isEdge_36 : decode cX12_isEdge 36 = .ok (.ireturn, 1) := by decide +kernel
theorem dX12_isEdge_37 : decode cX12_isEdge 37 = .ok (.aload_n 0, 1) := by decide +kernel
theorem dX12_isEdge_38 : decode cX12_isEdge 38 = .ok (.aload_n 0, 1) := by decide +kernel
theorem dX12_isEdge_39 : decode cX12_isEdge 39 = .ok (.getfield 604, 3) := by decide +kernel
theorem dX12_isEdge_42 : decode cX12_isEdge 42 = .ok (.iconst 1, 1) := by decide +kernel
theorem dX12_isEdge_43 : decode cX12_isEdge 43 = .ok (.isub, 1) := by decide +kernel
theorem dX12_isEdge_44 : decode cX12_isEdge 44 = .ok (.invokevirtual 607, 3) := by decide +kernel
theorem dX12_isEdge_47 : decode cX12_isEdge 47 = .ok (.aload_n 0, 1) := by decide +kernel
theorem dX12_isEdge_48 : decode cX12_isEdge 48 = .ok (.aload_n 0, 1) := by decide +kernel
theorem dX12_isEdge_49 : decode cX12_isEdge 49 = .ok (.getfield 604, 3) := by decide +kernel
theorem dX12_isEdge_52 : decode cX12_isEdge 52 = .ok (.invokevirtual 607, 3) := by decide +kernel
theorem dX12_isEdge_55 : decode cX12_isEdge 55 = .ok (.if_icmp .eq 7, 3) := by decide +kernel
theorem dX12_isEdge_58 : decode cX12_isEdge 58 = .ok (.iconst 1, 1) := by decide +kernel
theorem dX12_isEdge_59 : decode cX12_isEdge 59 = .ok (.goto 4, 3) := by decide +kernel
theorem dX12_isEdge_62 : decode cX12_isEdge 62 = .ok (.iconst 0, 1) := by decide +kernel
theorem dX12_isEdge_63 : decode cX12_isEdge 63 = .ok (.iload_n 2, 1) := by decide +kernel
theorem dX12_isEdge_64 : decode cX12_isEdge 64 = .ok (.iconst 2, 1) := by decide +kernel
theorem dX12_isEdge_65 : decode cX12_isEdge 65 = .ok (.if_icmp .ne 7, 3) := by decide +kernel
theorem dX12_isEdge_68 : decode cX12_isEdge 68 = .ok (.iconst 1, 1) := by decide +kernel
theorem dX12_isEdge_69 : decode cX12_isEdge 69 = .ok (.goto 4, 3) := by decide +kernel
theorem dX12_isEdge_72 : decode cX12_isEdge 72 = .ok (.iconst 0, 1) := by decide +kernel
theorem dX12_isEdge_73 : decode cX12_isEdge 73 = .ok (.if_icmp .ne 7, 3) := by decide +kernel
theorem dX12_isEdge_76 : decode cX12_isEdge 76 = .ok (.iconst 1, 1) := by decide +kernel
theorem dX12_isEdge_77 : decode cX12_isEdge 77 = .ok (.goto 4, 3) := by decide +kernel
theorem dX12_isEdge_80 : decode cX12_isEdge 80 = .ok (.iconst 0, 1) := by decide +kernel
theorem dX12_isEdge_81 : decode cX12_isEdge 81 = .ok (.ireturn, 1) := by decide +kernel
theorem dX12_isEndless_0 : decode cX12_isEndless 0 = .ok (.aload_n 0, 1) := by decide +kernel
theorem dX12_isEndless_1 : decode cX12_isEndless 1 = .ok (.getfield 44, 3) := by decide +kernel
theorem dX12_isEndless_4 : decode cX12_isEndless 4 = .ok (.iload_n 1, 1) := by decide +kernel
theorem dX12_isEndless_5 : decode cX12_isEndless 5 = .ok (.iaload, 1) := by decide +kernel
theorem dX12_isEndless_6 : decode cX12_isEndless 6 = .ok (.bipush 7, 2) := by decide +kernel
theorem dX12_isEndless_8 : decode cX12_isEndless 8 = .ok (.if_icmp .ne 17, 3) := by decide +kernel
theorem dX12_isEndless_11 : decode cX12_isEndless 11 = .ok (.aload_n 0, 1) := by decide +kernel
theorem dX12_isEndless_12 : decode cX12_isEndless 12 = .ok (.getfield 53, 3) := by decide +kernel
theorem dX12_isEndless_15 : decode cX12_isEndless 15 = .ok (.iload_n 1, 1) := by decide +kernel
theorem dX12_isEndless_16 : decode cX12_isEndless 16 = .ok (.iaload, 1) := by decide +kernel
theorem dX12_isEndless_17 : decode cX12_isEndless 17 = .ok (.iconst (-1), 1) := by decide +kernel
theorem dX12_isEndless_18 : decode cX12_isEndless 18 = .ok (.if_icmp .ne 7, 3) := by decide +kernel
theorem dX12_isEndless_21 : decode cX12_isEndless 21 = .ok (.iconst 1, 1) := by decide +kernel
theorem dX12_isEndless_22 : decode cX12_isEndless 22 = .ok (.goto 4, 3) := by decide +kernel
theorem dX12_isEndless_25 : decode cX12_isEndless 25 = .ok (.iconst 0, 1) := by decide +kernel
theorem dX12_isEndless_26 : decode cX12_isEndless 26 = .ok (.ireturn, 1) := by decide +kernel
theorem dX12_isHex_0 : decode cX12_isHex 0 = .ok (.iload_n 0, 1) := by decide +kernel
theorem dX12_isHex_1 : decode cX12_isHex 1 = .ok (.invokestatic 15, 3) := by decide +kernel
theorem dX12_isHex_4 : decode cX12_isHex 4 = .ok (.ifCond .ne 14, 3) := by decide +kernel
theorem dX12_isHex_7 : decode cX12_isHex 7 = .ok (.iload_n 0, 1) := by decide +kernel
theorem dX12_isHex_8 : decode cX12_isHex 8 = .ok (.bipush 97, 2) := by decide +kernel
theorem dX12_isHex_10 : decode cX12_isHex 10 = .ok (.bipush 102, 2) := by decide +kernel
theorem dX12_isHex_12 : decode cX12_isHex 12 = .ok (.invokestatic 7, 3) := by decide +kernel
theorem dX12_isHex_15 : decode cX12_isHex 15 = .ok (.ifCond .eq 7, 3) := by decide +kernel
theorem dX12_isHex_18 : decode cX12_isHex 18 = .ok (.iconst 1, 1) := by decide +kernel
theorem dX12_isHex_19 : decode cX12_isHex 19 = .ok (.goto 4, 3) := by decide +kernel
theorem dX12_isHex_22 : decode cX12_isHex 22 = .ok (.iconst 0, 1) := by decide +kernel
theorem dX12_isHex_23 : decode cX12_isHex 23 = .ok (.ireturn, 1) := by decide +kernel
theorem dX12_isInParts_0 : decode cX12_isInParts 0 = .ok (.iconst 0, 1) := by decide +kernel
theorem dX12_isInParts_1 : decode cX12_isInParts 1 = .ok (.istore_n 3, 1) := by decide +kernel
theorem dX12_isInParts_2 : decode cX12_isInParts 2 = .ok (.aload_n 0, 1) := by decide +kernel
theorem dX12_isInParts_3 : decode cX12_isInParts 3 = .ok (.getfield 71, 3) := by decide +kernel
theorem dX12_isInParts_6 : decode cX12_isInParts 6 = .ok (.iload_n 1, 1) := by decide +kernel
theorem dX12_isInParts_7 : decode cX12_isInParts 7 = .ok (.iaload, 1) := by decide +kernel
theorem dX12_isInParts_8 : decode cX12_isInParts 8 = .ok (.istore 4, 2) := by decide +kernel
theorem dX12_isInParts_10 : decode cX12_isInParts 10 = .ok (.iload 4, 2) := by decide +kernel
theorem dX12_isInParts_12 : decode cX12_isInParts 12 = .ok (.aload_n 0, 1) := by decide +kernel
theorem dX12_isInParts_13 : decode cX12_isInParts 13 = .ok (.getfield 71, 3) := by decide +kernel
theorem dX12_isInParts_16 : decode cX12_isInParts 16 = .ok (.iload_n 1, 1) := by decide +kernel
theorem dX12_isInParts_17 : decode cX12_isInParts 17 = .ok (.iaload, 1) := by decide +kernel
theorem dX12_isInParts_18 : decode cX12_isInParts 18 = .ok (.aload_n 0, 1) := by decide +kernel
theorem dX12_isInParts_19 : decode cX12_isInParts 19 = .ok (.getfield 59, 3) := by decide +kernel
theorem dX12_isInParts_22 : decode cX12_isInParts 22 = .ok (.iload_n 1, 1) := by decide +kernel
theorem dX12_isInParts_23 : decode cX12_isInParts 23 = .ok (.iaload, 1) := by decide +kernel
theorem dX12_isInParts_24 : decode cX12_isInParts 24 = .ok (.iadd, 1) := by decide +kernel
theorem dX12_isInParts_25 : decode cX12_isInParts 25 = .ok (.if_icmp .ge 40, 3) := by decide +kernel
theorem dX12_isInParts_28 : decode cX12_isInParts 28 = .ok (.iload_n 3, 1) := by decide +kernel
theorem dX12_isInParts_29 : decode cX12_isInParts 29 = .ok (.ifCond .ne 24, 3) := by decide +kernel
theorem dX12_isInParts_32 : decode cX12_isInParts 32 = .ok (.iload_n 2, 1) := by decide +kernel
theorem dX12_isInParts_33 : decode cX12_isInParts 33 = .ok (.aload_n 0, 1) := by decide +kernel
theorem dX12_isInParts_34 : decode cX12_isInParts 34 = .ok (.getfield 80, 3) := by decide +kernel
theorem dX12_isInParts_37 : decode cX12_isInParts 37 = .ok (.iload 4, 2) := by decide +kernel
theorem dX12_isInParts_39 : decode cX12_isInParts 39 = .ok (.iaload, 1) := by decide +kernel
theorem dX12_isInParts_40 : decode cX12_isInParts 40 = .ok (.aload_n 0, 1) := by decide +kernel
theorem dX12_isInParts_41 : decode cX12_isInParts 41 = .ok (.getfield 83, 3) := by decide +kernel
theorem dX12_isInParts_44 : decode cX12_isInParts 44 = .ok (.iload 4, 2) := by decide +kernel
theorem dX12_isInParts_46 : decode cX12_isInParts 46 = .ok (.iaload, 1) := by decide +kernel
theorem dX12_isInParts_47 : decode cX12_isInParts 47 = .ok (.invokestatic 7, 3) := by decide +kernel
theorem dX12_isInParts_50 : decode cX12_isInParts 50 = .ok (.ifCond .eq 7, 3) := by decide +kernel
theorem dX12_isInParts_53 : decode cX12_isInParts 53 = .ok (.iconst 1, 1) := by decide +kernel
theorem dX12_isInParts_54 : decode cX12_isInParts 54 = .ok (.goto 4, 3) := by decide +kernel
theorem dX12_isInParts_57 : decode cX12_isInParts 57 = .ok (.iconst 0, 1) := by decide +kernel
theorem dX12_isInParts_58 : decode cX12_isInParts 58 = .ok (.istore_n 3, 1) := by decide +kernel
theorem dX12_isInParts_59 : decode cX12_isInParts 59 = .ok (.iinc 4 1, 3) := by decide +kernel
theorem dX12_isInParts_62 : decode cX12_isInParts 62 = .ok (.goto (-52), 3) := by decide +kernel
theorem dX12_isInParts_65 : decode cX12_isInParts 65 = .ok (.iload_n 3, 1) := by decide +kernel
theorem dX12_isInParts_66 : decode cX12_isInParts 66 = .ok (.ireturn, 1) := by decide +kernel
theorem dX12_isLetter_0 : decode cX12_isLetter 0 = .ok (.iload_n 0, 1) := by decide +kernel
theorem dX12_isLetter_1 : decode cX12_isLetter 1 = .ok (.bipush 65, 2) := by decide +kernel
theorem dX12_isLetter_3 : decode cX12_isLetter 3 = .ok (.bipush 90, 2) := by decide +kernel
theorem dX12_isLetter_5 : decode cX12_isLetter 5 = .ok (.invokestatic 7, 3) := by decide +kernel
theorem dX12_isLetter_8 : decode cX12_isLetter 8 = .ok (.ifCond .ne 14, 3) := by decide +kernel
theorem dX12_isLetter_11 : decode cX12_isLetter 11 = .ok (.iload_n 0, 1) := by decide +kernel
theorem dX12_isLetter_12 : decode cX12_isLetter 12 = .ok (.bipush 97, 2) := by decide +kernel
theorem dX12_isLetter_14 : decode cX12_isLetter 14 = .ok (.bipush 122, 2) := by decide +kernel
theorem dX12_isLetter_16 : decode cX12_isLetter 16 = .ok (.invokestatic 7, 3) := by decide +kernel
theorem dX12_isLetter_19 : decode cX12_isLetter 19 = .ok (.ifCond .eq 7, 3) := by decide +kernel
theorem dX12_isLetter_22 : decode cX12_isLetter 22 = .ok (.iconst 1, 1) := by decide +kernel
theorem dX12_isLetter_23 : decode cX12_isLetter 23 = .ok (.goto 4, 3) := by decide +kernel
theorem dX12_isLetter_26 : decode cX12_isLetter 26 = .ok (.iconst 0, 1) := by decide +kernel
theorem dX12_isLetter_27 : decode cX12_isLetter 27 = .ok (.ireturn, 1) := by decide +kernel
theorem dX12_isMark_0 : decode cX12_isMark 0 = .ok (.iload_n 0, 1) := by decide +kernel
theorem dX12_isMark_1 : decode cX12_isMark 1 = .ok (.bipush 58, 2) := by decide +kernel
theorem dX12_isMark_3 : decode cX12_isMark 3 = .ok (.if_icmp .eq 45, 3) := by decide +kernel
theorem dX12_isMark_6 : decode cX12_isMark 6 = .ok (.iload_n 0, 1) := by decide +kernel
theorem dX12_isMark_7 : decode cX12_isMark 7 = .ok (.bipush 61, 2) := by decide +kernel
theorem dX12_isMark_9 : decode cX12_isMark 9 = .ok (.if_icmp .eq 39, 3) := by decide +kernel
theorem dX12_isMark_12 : decode cX12_isMark 12 = .ok (.iload_n 0, 1) := by decide +kernel
theorem dX12_isMark_13 : decode cX12_isMark 13 = .ok (.bipush 33, 2) := by decide +kernel
theorem dX12_isMark_15 : decode cX12_isMark 15 = .ok (.if_icmp .eq 33, 3) := by decide +kernel
theorem dX12_isMark_18 : decode cX12_isMark 18 = .ok (.iload_n 0, 1) := by decide +kernel
theorem dX12_isMark_19 : decode cX12_isMark 19 = .ok (.bipush 60, 2) := by decide +kernel
theorem dX12_isMark_21 : decode cX12_isMark 21 = .ok (.if_icmp .eq 27, 3) := by decide +kernel
theorem dX12_isMark_24 : decode cX12_isMark 24 = .ok (.iload_n 0, 1) := by decide +kernel
theorem dX12_isMark_25 : decode cX12_isMark 25 = .ok (.bipush 126, 2) := by decide +kernel
theorem dX12_isMark_27 : decode cX12_isMark 27 = .ok (.if_icmp .eq 21, 3) := by decide +kernel
theorem dX12_isMark_30 : decode cX12_isMark 30 = .ok (.iload_n 0, 1) := by decide +kernel
theorem dX12_isMark_31 : decode cX12_isMark 31 = .ok (.bipush 37, 2) := by decide +kernel
theorem dX12_isMark_33 : decode cX12_isMark 33 = .ok (.if_icmp .eq 15, 3) := by decide +kernel
theorem dX12_isMark_36 : decode cX12_isMark 36 = .ok (.iload_n 0, 1) := by decide +kernel
theorem dX12_isMark_37 : decode cX12_isMark 37 = .ok (.bipush 64, 2) := by decide +kernel
theorem dX12_isMark_39 : decode cX12_isMark 39 = .ok (.if_icmp .eq 9, 3) := by decide +kernel
theorem dX12_isMark_42 : decode cX12_isMark 42 = .ok (.iload_n 0, 1) := by decide +kernel
theorem dX12_isMark_43 : decode cX12_isMark 43 = .ok (.bipush 35, 2) := by decide +kernel
theorem dX12_isMark_45 : decode cX12_isMark 45 = .ok (.if_icmp .ne 7, 3) := by decide +kernel
theorem dX12_isMark_48 : decode cX12_isMark 48 = .ok (.iconst 1, 1) := by decide +kernel
theorem dX12_isMark_49 : decode cX12_isMark 49 = .ok (.goto 4, 3) := by decide +kernel
theorem dX12_isMark_52 : decode cX12_isMark 52 = .ok (.iconst 0, 1) := by decide +kernel
theorem dX12_isMark_53 : decode cX12_isMark 53 = .ok (.ireturn, 1) := by decide +kernel
theorem dX12_isParted_0 : decode cX12_isParted 0 = .ok (.aload_n 0, 1) := by decide +kernel
theorem dX12_isParted_1 : decode cX12_isParted 1 = .ok (.getfield 268, 3) := by decide +kernel
theorem dX12_isParted_4 : decode cX12_isParted 4 = .ok (.aload_n 0, 1) := by decide +kernel
theorem dX12_isParted_5 : decode cX12_isParted 5 = .ok (.getfield 293, 3) := by decide +kernel
theorem dX12_isParted_8 : decode cX12_isParted 8 = .ok (.iload_n 1, 1) := by decide +kernel
theorem dX12_isParted_9 : decode cX12_isParted 9 = .ok (.iaload, 1) := by decide +kernel
theorem dX12_isParted_10 : decode cX12_isParted 10 = .ok (.baload, 1) := by decide +kernel
theorem dX12_isParted_11 : decode cX12_isParted 11 = .ok (.aload_n 0, 1) := by decide +kernel
theorem dX12_isParted_12 : decode cX12_isParted 12 = .ok (.getfield 268, 3) := by decide +kernel
theorem dX12_isParted_15 : decode cX12_isParted 15 = .ok (.bipush 61, 2) := by decide +kernel
theorem dX12_isParted_17 : decode cX12_isParted 17 = .ok (.aload_n 0, 1) := by decide +kernel
theorem dX12_isParted_18 : decode cX12_isParted 18 = .ok (.getfield 296, 3) := by decide +kernel
theorem dX12_isParted_21 : decode cX12_isParted 21 = .ok (.iload_n 1, 1) := by decide +kernel
theorem dX12_isParted_22 : decode cX12_isParted 22 = .ok (.iaload, 1) := by decide +kernel
theorem dX12_isParted_23 : decode cX12_isParted 23 = .ok (.iadd, 1) := by decide +kernel
theorem dX12_isParted_24 : decode cX12_isParted 24 = .ok (.baload, 1) := by decide +kernel
theorem dX12_isParted_25 : decode cX12_isParted 25 = .ok (.if_icmp .eq 7, 3) := by decide +kernel
theorem dX12_isParted_28 : decode cX12_isParted 28 = .ok (.iconst 1, 1) := by decide +kernel
theorem dX12_isParted_29 : decode cX12_isParted 29 = .ok (.goto 4, 3) := by decide +kernel
theorem dX12_isParted_32 : decode cX12_isParted 32 = .ok (.iconst 0, 1) := by decide +kernel
theorem dX12_isParted_33 : decode cX12_isParted 33 = .ok (.ireturn, 1) := by decide +kernel
theorem dX12_isPlain_0 : decode cX12_isPlain 0 = .ok (.iload_n 0, 1) := by decide +kernel
theorem dX12_isPlain_1 : decode cX12_isPlain 1 = .ok (.bipush 92, 2) := by decide +kernel
theorem dX12_isPlain_3 : decode cX12_isPlain 3 = .ok (.if_icmp .eq 85, 3) := by decide +kernel
theorem dX12_isPlain_6 : decode cX12_isPlain 6 = .ok (.iload_n 0, 1) := by decide +kernel
theorem dX12_isPlain_7 : decode cX12_isPlain 7 = .ok (.bipush 124, 2) := by decide +kernel
theorem dX12_isPlain_9 : decode cX12_isPlain 9 = .ok (.if_icmp .eq 79, 3) := by decide +kernel
theorem dX12_isPlain_12 : decode cX12_isPlain 12 = .ok (.iload_n 0, 1) := by decide +kernel
theorem dX12_isPlain_13 : decode cX12_isPlain 13 = .ok (.bipush 42, 2) := by decide +kernel
theorem dX12_isPlain_15 : decode cX12_isPlain 15 = .ok (.if_icmp .eq 73, 3) := by decide +kernel
theorem dX12_isPlain_18 : decode cX12_isPlain 18 = .ok (.iload_n 0, 1) := by decide +kernel
theorem dX12_isPlain_19 : decode cX12_isPlain 19 = .ok (.bipush 43, 2) := by decide +kernel
theorem dX12_isPlain_21 : decode cX12_isPlain 21 = .ok (.if_icmp .eq 67, 3) := by decide +kernel
theorem dX12_isPlain_24 : decode cX12_isPlain 24 = .ok (.iload_n 0, 1) := by decide +kernel
theorem dX12_isPlain_25 : decode cX12_isPlain 25 = .ok (.bipush 63, 2) := by decide +kernel
theorem dX12_isPlain_27 : decode cX12_isPlain 27 = .ok (.if_icmp .eq 61, 3) := by decide +kernel
theorem dX12_isPlain_30 : decode cX12_isPlain 30 = .ok (.iload_n 0, 1) := by decide +kernel
theorem dX12_isPlain_31 : decode cX12_isPlain 31 = .ok (.bipush 123, 2) := by decide +kernel
theorem dX12_isPlain_33 : decode cX12_isPlain 33 = .ok (.if_icmp .eq 55, 3) := by decide +kernel
theorem dX12_isPlain_36 : decode cX12_isPlain 36 = .ok (.iload_n 0, 1) := by decide +kernel
theorem dX12_isPlain_37 : decode cX12_isPlain 37 = .ok (.bipush 125, 2) := by decide +kernel
theorem dX12_isPlain_39 : decode cX12_isPlain 39 = .ok (.if_icmp .eq 49, 3) := by decide +kernel
theorem dX12_isPlain_42 : decode cX12_isPlain 42 = .ok (.iload_n 0, 1) := by decide +kernel
theorem dX12_isPlain_43 : decode cX12_isPlain 43 = .ok (.bipush 40, 2) := by decide +kernel
theorem dX12_isPlain_45 : decode cX12_isPlain 45 = .ok (.if_icmp .eq 43, 3) := by decide +kernel
theorem dX12_isPlain_48 : decode cX12_isPlain 48 = .ok (.iload_n 0, 1) := by decide +kernel
theorem dX12_isPlain_49 : decode cX12_isPlain 49 = .ok (.bipush 41, 2) := by decide +kernel
theorem dX12_isPlain_51 : decode cX12_isPlain 51 = .ok (.if_icmp .eq 37, 3) := by decide +kernel
theorem dX12_isPlain_54 : decode cX12_isPlain 54 = .ok (.iload_n 0, 1) := by decide +kernel
theorem dX12_isPlain_55 : decode cX12_isPlain 55 = .ok (.bipush 91, 2) := by decide +kernel
theorem dX12_isPlain_57 : decode cX12_isPlain 57 = .ok (.if_icmp .eq 31, 3) := by decide +kernel
theorem dX12_isPlain_60 : decode cX12_isPlain 60 = .ok (.iload_n 0, 1) := by decide +kernel
theorem dX12_isPlain_61 : decode cX12_isPlain 61 = .ok (.bipush 93, 2) := by decide +kernel
theorem dX12_isPlain_63 : decode cX12_isPlain 63 = .ok (.if_icmp .eq 25, 3) := by decide +kernel
theorem dX12_isPlain_66 : decode cX12_isPlain 66 = .ok (.iload_n 0, 1) := by decide +kernel
theorem dX12_isPlain_67 : decode cX12_isPlain 67 = .ok (.bipush 46, 2) := by decide +kernel
theorem dX12_isPlain_69 : decode cX12_isPlain 69 = .ok (.if_icmp .eq 19, 3) := by decide +kernel
theorem dX12_isPlain_72 : decode cX12_isPlain 72 = .ok (.iload_n 0, 1) := by decide +kernel
theorem dX12_isPlain_73 : decode cX12_isPlain 73 = .ok (.bipush 94, 2) := by decide +kernel
theorem dX12_isPlain_75 : decode cX12_isPlain 75 = .ok (.if_icmp .eq 13, 3) := by decide +kernel
theorem dX12_isPlain_78 : decode cX12_isPlain 78 = .ok (.iload_n 0, 1) := by decide +kernel
theorem dX12_isPlain_79 : decode cX12_isPlain 79 = .ok (.bipush 36, 2) := by decide +kernel
theorem dX12_isPlain_81 : decode cX12_isPlain 81 = .ok (.if_icmp .eq 7, 3) := by decide +kernel
theorem dX12_isPlain_84 : decode cX12_isPlain 84 = .ok (.iconst 1, 1) := by decide +kernel
theorem dX12_isPlain_85 : decode cX12_isPlain 85 = .ok (.goto 4, 3) := by decide +kernel
theorem dX12_isPlain_88 : decode cX12_isPlain 88 = .ok (.iconst 0, 1) := by decide +kernel
theorem dX12_isPlain_89 : decode cX12_isPlain 89 = .ok (.ireturn, 1) := by decide +kernel
theorem dX12_isReplacing_0 : decode cX12_isReplacing 0 = .ok (.iconst 1, 1) := by decide +kernel
theorem dX12_isReplacing_1 : decode cX12_isReplacing 1 = .ok (.istore_n 2, 1) := by decide +kernel
theorem dX12_isReplacing_2 : decode cX12_isReplacing 2 = .ok (.iconst 0, 1) := by decide +kernel
theorem dX12_isReplacing_3 : decode cX12_isReplacing 3 = .ok (.istore_n 3, 1) := by decide +kernel
theorem dX12_isReplacing_4 : decode cX12_isReplacing 4 = .ok (.iload_n 3, 1) := by decide +kernel
theorem dX12_isReplacing_5 : decode cX12_isReplacing 5 = .ok (.aload_n 0, 1) := by decide +kernel
theorem dX12_isReplacing_6 : decode cX12_isReplacing 6 = .ok (.getfield 317, 3) := by decide +kernel
theorem dX12_isReplacing_9 : decode cX12_isReplacing 9 = .ok (.if_icmp .ge 71, 3) := by decide +kernel
theorem dX12_isReplacing_12 : decode cX12_isReplacing 12 = .ok (.iload_n 2, 1) := by decide +kernel
theorem dX12_isReplacing_13 : decode cX12_isReplacing 13 = .ok (.ifCond .eq 67, 3) := by decide +kernel
theorem dX12_isReplacing_16 : decode cX12_isReplacing 16 = .ok (.aload_n 0, 1) := by decide +kernel
theorem dX12_isReplacing_17 : decode cX12_isReplacing 17 = .ok (.getfield 24, 3) := by decide +kernel
theorem dX12_isReplacing_20 : decode cX12_isReplacing 20 = .ok (.iload_n 3, 1) := by decide +kernel
theorem dX12_isReplacing_21 : decode cX12_isReplacing 21 = .ok (.iaload, 1) := by decide +kernel
theorem dX12_isReplacing_22 : decode cX12_isReplacing 22 = .ok (.bipush 36, 2) := by decide +kernel
theorem dX12_isReplacing_24 : decode cX12_isReplacing 24 = .ok (.if_icmp .ne 50, 3) := by decide +kernel
theorem dX12_isReplacing_27 : decode cX12_isReplacing 27 = .ok (.iinc 3 1, 3) := by decide +kernel
theorem dX12_isReplacing_30 : decode cX12_isReplacing 30 = .ok (.iload_n 3, 1) := by decide +kernel
theorem dX12_isReplacing_31 : decode cX12_isReplacing 31 = .ok (.aload_n 0, 1) := by decide +kernel
theorem dX12_isReplacing_32 : decode cX12_isReplacing 32 = .ok (.getfield 317, 3) := by decide +kernel
theorem dX12_isReplacing_35 : decode cX12_isReplacing 35 = .ok (.if_icmp .ge 37, 3) := by decide +kernel
theorem dX12_isReplacing_38 : decode cX12_isReplacing 38 = .ok (.aload_n 0, 1) := by decide +kernel
theorem dX12_isReplacing_39 : decode cX12_isReplacing 39 = .ok (.getfield 24, 3) := by decide +kernel
theorem dX12_isReplacing_42 : decode cX12_isReplacing 42 = .ok (.iload_n 3, 1) := by decide +kernel
theorem dX12_isReplacing_43 : decode cX12_isReplacing 43 = .ok (.iaload, 1) := by decide +kernel
theorem dX12_isReplacing_44 : decode cX12_isReplacing 44 = .ok (.invokestatic 15, 3) := by decide +kernel
theorem dX12_isReplacing_47 : decode cX12_isReplacing 47 = .ok (.ifCond .eq 21, 3) := by decide +kernel
theorem dX12_isReplacing_50 : decode cX12_isReplacing 50 = .ok (.aload_n 0, 1) := by decide +kernel
theorem dX12_isReplacing_51 : decode cX12_isReplacing 51 = .ok (.getfield 24, 3) := by decide +kernel
theorem dX12_isReplacing_54 : decode cX12_isReplacing 54 = .ok (.iload_n 3, 1) := by decide +kernel
theorem dX12_isReplacing_55 : decode cX12_isReplacing 55 = .ok (.iaload, 1) := by decide +kernel
theorem dX12_isReplacing_56 : decode cX12_isReplacing 56 = .ok (.bipush 48, 2) := by decide +kernel
theorem dX12_isReplacing_58 : decode cX12_isReplacing 58 = .ok (.isub, 1) := by decide +kernel
theorem dX12_isReplacing_59 : decode cX12_isReplacing 59 = .ok (.aload_n 0, 1) := by decide +kernel
theorem dX12_isReplacing_60 : decode cX12_isReplacing 60 = .ok (.getfield 38, 3) := by decide +kernel
theorem dX12_isReplacing_63 : decode cX12_isReplacing 63 = .ok (.iload_n 1, 1) := by decide +kernel
theorem dX12_isReplacing_64 : decode cX12_isReplacing 64 = .ok (.iaload, 1) := by decide +kernel
theorem dX12_isReplacing_65 : decode cX12_isReplacing 65 = .ok (.if_icmp .gt 7, 3) := by decide +kernel
theorem dX12_isReplacing_68 : decode cX12_isReplacing 68 = .ok (.iconst 1, 1) := by decide +kernel
theorem dX12_isReplacing_69 : decode cX12_isReplacing 69 = .ok (.goto 4, 3) := by decide +kernel
theorem dX12_isReplacing_72 : decode cX12_isReplacing 72 = .ok (.iconst 0, 1) := by decide +kernel
theorem dX12_isReplacing_73 : decode cX12_isReplacing 73 = .ok (.istore_n 2, 1) := by decide +kernel
theorem dX12_isReplacing_74 : decode cX12_isReplacing 74 = .ok (.iinc 3 1, 3) := by decide +kernel
theorem dX12_isReplacing_77 : decode cX12_isReplacing 77 = .ok (.goto (-73), 3) := by decide +kernel
theorem dX12_isReplacing_80 : decode cX12_isReplacing 80 = .ok (.iload_n 2, 1) := by decide +kernel
theorem dX12_isReplacing_81 : decode cX12_isReplacing 81 = .ok (.ireturn, 1) := by decide +kernel
theorem dX12_isSamePrint_0 : decode cX12_isSamePrint 0 = .ok (.aload_n 0, 1) := by decide +kernel
theorem dX12_isSamePrint_1 : decode cX12_isSamePrint 1 = .ok (.iload_n 1, 1) := by decide +kernel
theorem dX12_isSamePrint_2 : decode cX12_isSamePrint 2 = .ok (.iload_n 2, 1) := by decide +kernel
theorem dX12_isSamePrint_3 : decode cX12_isSamePrint 3 = .ok (.invokevirtual 499, 3) := by decide +kernel
theorem dX12_isSamePrint_6 : decode cX12_isSamePrint 6 = .ok (.aload_n 0, 1) := by decide +kernel
theorem dX12_isSamePrint_7 : decode cX12_isSamePrint 7 = .ok (.getfield 465, 3) := by decide +kernel
theorem dX12_isSamePrint_10 : decode cX12_isSamePrint 10 = .ok (.istore 4, 2) := by decide +kernel
theorem dX12_isSamePrint_12 : decode cX12_isSamePrint 12 = .ok (.iconst 0, 1) := by decide +kernel
theorem dX12_isSamePrint_13 : decode cX12_isSamePrint 13 = .ok (.istore 5, 2) := by decide +kernel
theorem dX12_isSamePrint_15 : decode cX12_isSamePrint 15 = .ok (.iload 5, 2) := by decide +kernel
theorem dX12_isSamePrint_17 : decode cX12_isSamePrint 17 = .ok (.iload 4, 2) := by decide +kernel
theorem dX12_isSamePrint_19 : decode cX12_isSamePrint 19 = .ok (.if_icmp .ge 23, 3) := by decide +kernel
theorem dX12_isSamePrint_22 : decode cX12_isSamePrint 22 = .ok (.aload_n 0, 1) := by decide +kernel
theorem dX12_isSamePrint_23 : decode cX12_isSamePrint 23 = .ok (.getfield 152, 3) := by decide +kernel
theorem dX12_isSamePrint_26 : decode cX12_isSamePrint 26 = .ok (.iload 5, 2) := by decide +kernel
theorem dX12_isSamePrint_28 : decode cX12_isSamePrint 28 = .ok (.aload_n 0, 1) := by decide +kernel
theorem dX12_isSamePrint_29 : decode cX12_isSamePrint 29 = .ok (.getfield 149, 3) := by decide +kernel
theorem dX12_isSamePrint_32 : decode cX12_isSamePrint 32 = .ok (.iload 5, 2) := by decide +kernel
theorem dX12_isSamePrint_34 : decode cX12_isSamePrint 34 = .ok (.iaload, 1) := by decide +kernel
theorem dX12_isSamePrint_35 : decode cX12_isSamePrint 35 = .ok (.iastore, 1) := by decide +kernel
theorem dX12_isSamePrint_36 : decode cX12_isSamePrint 36 = .ok (.iinc 5 1, 3) := by decide +kernel
theorem dX12_isSamePrint_39 : decode cX12_isSamePrint 39 = .ok (.goto (-24), 3) := by decide +kernel
theorem dX12_isSamePrint_42 : decode cX12_isSamePrint 42 = .ok (.aload_n 0, 1) := by decide +kernel
theorem dX12_isSamePrint_43 : decode cX12_isSamePrint 43 = .ok (.iload_n 1, 1) := by decide +kernel
theorem dX12_isSamePrint_44 : decode cX12_isSamePrint 44 = .ok (.iload_n 3, 1) := by decide +kernel
theorem dX12_isSamePrint_45 : decode cX12_isSamePrint 45 = .ok (.invokevirtual 499, 3) := by decide +kernel
theorem dX12_isSamePrint_48 : decode cX12_isSamePrint 48 = .ok (.iload 4, 2) := by decide +kernel
theorem dX12_isSamePrint_50 : decode cX12_isSamePrint 50 = .ok (.aload_n 0, 1) := by decide +kernel
theorem dX12_isSamePrint_51 : decode cX12_isSamePrint 51 = .ok (.getfield 465, 3) := by decide +kernel
theorem dX12_isSamePrint_54 : decode cX12_isSamePrint 54 = .ok (.if_icmp .ne 7, 3) := by decide +kernel
theorem dX12_isSamePrint_57 : decode cX12_isSamePrint 57 = .ok (.iconst 1, 1) := by decide +kernel
theorem dX12_isSamePrint_58 : decode cX12_isSamePrint 58 = .ok (.goto 4, 3) := by decide +kernel
theorem dX12_isSamePrint_61 : decode cX12_isSamePrint 61 = .ok (.iconst 0, 1) := by decide +kernel
theorem dX12_isSamePrint_62 : decode cX12_isSamePrint 62 = .ok (.istore 5, 2) := by decide +kernel
theorem dX12_isSamePrint_64 : decode cX12_isSamePrint 64 = .ok (.iconst 0, 1) := by decide +kernel
theorem dX12_isSamePrint_65 : decode cX12_isSamePrint 65 = .ok (.istore 6, 2) := by decide +kernel
theorem dX12_isSamePrint_67 : decode cX12_isSamePrint 67 = .ok (.iload 6, 2) := by decide +kernel
theorem dX12_isSamePrint_69 : decode cX12_isSamePrint 69 = .ok (.iload 4, 2) := by decide +kernel
theorem dX12_isSamePrint_71 : decode cX12_isSamePrint 71 = .ok (.if_icmp .ge 38, 3) := by decide +kernel
theorem dX12_isSamePrint_74 : decode cX12_isSamePrint 74 = .ok (.iload 5, 2) := by decide +kernel
theorem dX12_isSamePrint_76 : decode cX12_isSamePrint 76 = .ok (.ifCond .eq 33, 3) := by decide +kernel
theorem dX12_isSamePrint_79 : decode cX12_isSamePrint 79 = .ok (.aload_n 0, 1) := by decide +kernel
theorem dX12_isSamePrint_80 : decode cX12_isSamePrint 80 = .ok (.getfield 149, 3) := by decide +kernel
theorem dX12_isSamePrint_83 : decode cX12_isSamePrint 83 = .ok (.iload 6, 2) := by decide +kernel
theorem dX12_isSamePrint_85 : decode cX12_isSamePrint 85 = .ok (.iaload, 1) := by decide +kernel
theorem dX12_isSamePrint_86 : decode cX12_isSamePrint 86 = .ok (.aload_n 0, 1) := by decide +kernel
theorem dX12_isSamePrint_87 : decode cX12_isSamePrint 87 = .ok (.getfield 152, 3) := by decide +kernel
theorem dX12_isSamePrint_90 : decode cX12_isSamePrint 90 = .ok (.iload 6, 2) := by decide +kernel
theorem dX12_isSamePrint_92 : decode cX12_isSamePrint 92 = .ok (.iaload, 1) := by decide +kernel
theorem dX12_isSamePrint_93 : decode cX12_isSamePrint 93 = .ok (.if_icmp .ne 7, 3) := by decide +kernel
theorem dX12_isSamePrint_96 : decode cX12_isSamePrint 96 = .ok (.iconst 1, 1) := by decide +kernel
theorem dX12_isSamePrint_97 : decode cX12_isSamePrint 97 = .ok (.goto 4, 3) := by decide +kernel
theorem dX12_isSamePrint_100 : decode cX12_isSamePrint 100 = .ok (.iconst 0, 1) := by decide +kernel
theorem dX12_isSamePrint_101 : decode cX12_isSamePrint 101 = .ok (.istore 5, 2) := by decide +kernel
theorem dX12_isSamePrint_103 : decode cX12_isSamePrint 103 = .ok (.iinc 6 1, 3) := by decide +kernel
theorem dX12_isSamePrint_106 : decode cX12_isSamePrint 106 = .ok (.goto (-39), 3) := by decide +kernel
theorem dX12_isSamePrint_109 : decode cX12_isSamePrint 109 = .ok (.iload 5, 2) := by decide +kernel
theorem dX12_isSamePrint_111 : decode cX12_isSamePrint 111 = .ok (.ireturn, 1) := by decide +kernel
theorem dX12_isStep_0 : decode cX12_isStep 0 = .ok (.aload_n 0, 1) := by decide +kernel
theorem dX12_isStep_1 : decode cX12_isStep 1 = .ok (.aload_n 0, 1) := by decide +kernel
theorem dX12_isStep_2 : decode cX12_isStep 2 = .ok (.getfield 583, 3) := by decide +kernel
theorem dX12_isStep_5 : decode cX12_isStep 5 = .ok (.aload_n 0, 1) := by decide +kernel
theorem dX12_isStep_6 : decode cX12_isStep 6 = .ok (.getfield 586, 3) := by decide +kernel
theorem dX12_isStep_9 : decode cX12_isStep 9 = .ok (.if_icmp .ne 7, 3) := by decide +kernel
theorem dX12_isStep_12 : decode cX12_isStep 12 = .ok (.iconst 1, 1) := by decide +kernel
theorem dX12_isStep_13 : decode cX12_isStep 13 = .ok (.goto 4, 3) := by decide +kernel
theorem dX12_isStep_16 : decode cX12_isStep 16 = .ok (.iconst 0, 1) := by decide +kernel
theorem dX12_isStep_17 : decode cX12_isStep 17 = .ok (.putfield 589, 3) := by decide +kernel
theorem dX12_isStep_20 : decode cX12_isStep 20 = .ok (.aload_n 0, 1) := by decide +kernel
theorem dX12_isStep_21 : decode cX12_isStep 21 = .ok (.dup, 1) := by decide +kernel
theorem dX12_isStep_22 : decode cX12_isStep 22 = .ok (.getfield 583, 3) := by decide +kernel
theorem dX12_isStep_25 : decode cX12_isStep 25 = .ok (.aload_n 0, 1) := by decide +kernel
theorem dX12_isStep_26 : decode cX12_isStep 26 = .ok (.getfield 589, 3) := by decide +kernel
theorem dX12_isStep_29 : decode cX12_isStep 29 = .ok (.ifCond .eq 7, 3) := by decide +kernel
theorem dX12_isStep_32 : decode cX12_isStep 32 = .ok (.iconst 0, 1) := by decide +kernel
theorem dX12_isStep_33 : decode cX12_isStep 33 = .ok (.goto 4, 3) := by decide +kernel
theorem dX12_isStep_36 : decode cX12_isStep 36 = .ok (.iconst 1, 1) := by decide +kernel
theorem dX12_isStep_37 : decode cX12_isStep 37 = .ok (.iadd, 1) := by decide +kernel
theorem dX12_isStep_38 : decode cX12_isStep 38 = .ok (.putfield 583, 3) := by decide +kernel
theorem dX12_isStep_41 : decode cX12_isStep 41 = .ok (.aload_n 0, 1) := by decide +kernel
theorem dX12_isStep_42 : decode cX12_isStep 42 = .ok (.getfield 589, 3) := by decide +kernel
theorem dX12_isStep_45 : decode cX12_isStep 45 = .ok (.ifCond .ne 7, 3) := by decide +kernel
theorem dX12_isStep_48 : decode cX12_isStep 48 = .ok (.iconst 1, 1) := by decide +kernel
theorem dX12_isStep_49 : decode cX12_isStep 49 = .ok (.goto 4, 3) := by decide +kernel
theorem dX12_isStep_52 : decode cX12_isStep 52 = .ok (.iconst 0, 1) := by decide +kernel
theorem dX12_isStep_53 : decode cX12_isStep 53 = .ok (.ireturn, 1) := by decide +kernel
theorem dX12_isWord_0 : decode cX12_isWord 0 = .ok (.iload_n 0, 1) := by decide +kernel
theorem dX12_isWord_1 : decode cX12_isWord 1 = .ok (.invokestatic 11, 3) := by decide +kernel
theorem dX12_isWord_4 : decode cX12_isWord 4 = .ok (.ifCond .ne 16, 3) := by decide +kernel
theorem dX12_isWord_7 : decode cX12_isWord 7 = .ok (.iload_n 0, 1) := by decide +kernel
theorem dX12_isWord_8 : decode cX12_isWord 8 = .ok (.invokestatic 15, 3) := by decide +kernel
theorem dX12_isWord_11 : decode cX12_isWord 11 = .ok (.ifCond .ne 9, 3) := by decide +kernel
theorem dX12_isWord_14 : decode cX12_isWord 14 = .ok (.iload_n 0, 1) := by decide +kernel
theorem dX12_isWord_15 : decode cX12_isWord 15 = .ok (.bipush 95, 2) := by decide +kernel
theorem dX12_isWord_17 : decode cX12_isWord 17 = .ok (.if_icmp .ne 7, 3) := by decide +kernel
theorem dX12_isWord_20 : decode cX12_isWord 20 = .ok (.iconst 1, 1) := by decide +kernel
theorem dX12_isWord_21 : decode cX12_isWord 21 = .ok (.goto 4, 3) := by decide +kernel
theorem dX12_isWord_24 : decode cX12_isWord 24 = .ok (.iconst 0, 1) := by decide +kernel
theorem dX12_isWord_25 : decode cX12_isWord 25 = .ok (.ireturn, 1) := by decide +kernel
theorem dX12_isWordAt_0 : decode cX12_isWordAt 0 = .ok (.iload_n 1, 1) := by decide +kernel
theorem dX12_isWordAt_1 : decode cX12_isWordAt 1 = .ok (.iconst 0, 1) := by decide +kernel
theorem dX12_isWordAt_2 : decode cX12_isWordAt 2 = .ok (.aload_n 0, 1) := by decide +kernel
theorem dX12_isWordAt_3 : decode cX12_isWordAt 3 = .ok (.getfield 595, 3) := by decide +kernel
theorem dX12_isWordAt_6 : decode cX12_isWordAt 6 = .ok (.iconst 1, 1) := by decide +kernel
theorem dX12_isWordAt_7 : decode cX12_isWordAt 7 = .ok (.isub, 1) := by decide +kernel
theorem dX12_isWordAt_8 : decode cX12_isWordAt 8 = .ok (.invokestatic 7, 3) := by decide +kernel
theorem dX12_isWordAt_11 : decode cX12_isWordAt 11 = .ok (.ifCond .eq 18, 3) := by decide +kernel
theorem dX12_isWordAt_14 : decode cX12_isWordAt 14 = .ok (.aload_n 0, 1) := by decide +kernel
theorem dX12_isWordAt_15 : decode cX12_isWordAt 15 = .ok (.iload_n 1, 1) := by decide +kernel
theorem dX12_isWordAt_16 : decode cX12_isWordAt 16 = .ok (.invokevirtual 598, 3) := by decide +kernel
theorem dX12_isWordAt_19 : decode cX12_isWordAt 19 = .ok (.invokestatic 601, 3) := by decide +kernel
theorem dX12_isWordAt_22 : decode cX12_isWordAt 22 = .ok (.ifCond .eq 7, 3) := by decide +kernel
theorem dX12_isWordAt_25 : decode cX12_isWordAt 25 = .ok (.iconst 1, 1) := by decide +kernel
theorem dX12_isWordAt_26 : decode cX12_isWordAt 26 = .ok (.goto 4, 3) := by decide +kernel
theorem dX12_isWordAt_29 : decode cX12_isWordAt 29 = .ok (.iconst 0, 1) := by decide +kernel
theorem dX12_isWordAt_30 : decode cX12_isWordAt 30 = .ok (.ireturn, 1) := by decide +kernel
theorem dX12_isWrapped_0 : decode cX12_isWrapped 0 = .ok (.sipush 220, 3) := by decide +kernel
theorem dX12_isWrapped_3 : decode cX12_isWrapped 3 = .ok (.iload_n 1, 1) := by decide +kernel
theorem dX12_isWrapped_4 : decode cX12_isWrapped 4 = .ok (.imul, 1) := by decide +kernel
theorem dX12_isWrapped_5 : decode cX12_isWrapped 5 = .ok (.iload_n 2, 1) := by decide +kernel
theorem dX12_isWrapped_6 : decode cX12_isWrapped 6 = .ok (.iadd, 1) := by decide +kernel
theorem dX12_isWrapped_7 : decode cX12_isWrapped 7 = .ok (.istore_n 3, 1) := by decide +kernel
theorem dX12_isWrapped_8 : decode cX12_isWrapped 8 = .ok (.aload_n 0, 1) := by decide +kernel
theorem dX12_isWrapped_9 : decode cX12_isWrapped 9 = .ok (.getfield 44, 3) := by decide +kernel
theorem dX12_isWrapped_12 : decode cX12_isWrapped 12 = .ok (.iload_n 3, 1) := by decide +kernel
theorem dX12_isWrapped_13 : decode cX12_isWrapped 13 = .ok (.iaload, 1) := by decide +kernel
theorem dX12_isWrapped_14 : decode cX12_isWrapped 14 = .ok (.istore 4, 2) := by decide +kernel
theorem dX12_isWrapped_16 : decode cX12_isWrapped 16 = .ok (.aload_n 0, 1) := by decide +kernel
theorem dX12_isWrapped_17 : decode cX12_isWrapped 17 = .ok (.getfield 56, 3) := by decide +kernel
theorem dX12_isWrapped_20 : decode cX12_isWrapped 20 = .ok (.iload_n 3, 1) := by decide +kernel
theorem dX12_isWrapped_21 : decode cX12_isWrapped 21 = .ok (.iaload, 1) := by decide +kernel
theorem dX12_isWrapped_22 : decode cX12_isWrapped 22 = .ok (.ifCond .ge 7, 3) := by decide +kernel
theorem dX12_isWrapped_25 : decode cX12_isWrapped 25 = .ok (.iconst (-1), 1) := by decide +kernel
theorem dX12_isWrapped_26 : decode cX12_isWrapped 26 = .ok (.goto 20, 3) := by decide +kernel
theorem dX12_isWrapped_29 : decode cX12_isWrapped 29 = .ok (.aload_n 0, 1) := by decide +kernel
theorem dX12_isWrapped_30 : decode cX12_isWrapped 30 = .ok (.getfield 44, 3) := by decide +kernel
theorem dX12_isWrapped_33 : decode cX12_isWrapped 33 = .ok (.sipush 220, 3) := by decide +kernel
theorem dX12_isWrapped_36 : decode cX12_isWrapped 36 = .ok (.iload_n 1, 1) := by decide +kernel
theorem dX12_isWrapped_37 : decode cX12_isWrapped 37 = .ok (.imul, 1) := by decide +kernel
theorem dX12_isWrapped_38 : decode cX12_isWrapped 38 = .ok (.aload_n 0, 1) := by decide +kernel
theorem dX12_isWrapped_39 : decode cX12_isWrapped 39 = .ok (.getfield 56, 3) := by decide +kernel
theorem dX12_isWrapped_42 : decode cX12_isWrapped 42 = .ok (.iload_n 3, 1) := by decide +kernel
theorem dX12_isWrapped_43 : decode cX12_isWrapped 43 = .ok (.iaload, 1) := by decide +kernel
theorem dX12_isWrapped_44 : decode cX12_isWrapped 44 = .ok (.iadd, 1) := by decide +kernel
theorem dX12_isWrapped_45 : decode cX12_isWrapped 45 = .ok (.iaload, 1) := by decide +kernel
theorem dX12_isWrapped_46 : decode cX12_isWrapped 46 = .ok (.istore 5, 2) := by decide +kernel
theorem dX12_isWrapped_48 : decode cX12_isWrapped 48 = .ok (.iload 4, 2) := by decide +kernel
theorem dX12_isWrapped_50 : decode cX12_isWrapped 50 = .ok (.iconst 5, 1) := by decide +kernel
theorem dX12_isWrapped_51 : decode cX12_isWrapped 51 = .ok (.if_icmp .eq 10, 3) := by decide +kernel
theorem dX12_isWrapped_54 : decode cX12_isWrapped 54 = .ok (.iload 4, 2) := by decide +kernel
theorem dX12_isWrapped_56 : decode cX12_isWrapped 56 = .ok (.bipush 6, 2) := by decide +kernel
theorem dX12_isWrapped_58 : decode cX12_isWrapped 58 = .ok (.if_icmp .ne 16, 3) := by decide +kernel
theorem dX12_isWrapped_61 : decode cX12_isWrapped 61 = .ok (.iload 5, 2) := by decide +kernel
theorem dX12_isWrapped_63 : decode cX12_isWrapped 63 = .ok (.iconst 5, 1) := by decide +kernel
theorem dX12_isWrapped_64 : decode cX12_isWrapped 64 = .ok (.if_icmp .eq 38, 3) := by decide +kernel
theorem dX12_isWrapped_67 : decode cX12_isWrapped 67 = .ok (.iload 5, 2) := by decide +kernel
theorem dX12_isWrapped_69 : decode cX12_isWrapped 69 = .ok (.bipush 7, 2) := by decide +kernel
theorem dX12_isWrapped_71 : decode cX12_isWrapped 71 = .ok (.if_icmp .eq 31, 3) := by decide +kernel
theorem dX12_isWrapped_74 : decode cX12_isWrapped 74 = .ok (.iload 4, 2) := by decide +kernel
theorem dX12_isWrapped_76 : decode cX12_isWrapped 76 = .ok (.bipush 6, 2) := by decide +kernel
theorem dX12_isWrapped_78 : decode cX12_isWrapped 78 = .ok (.if_icmp .ne 10, 3) := by decide +kernel
theorem dX12_isWrapped_81 : decode cX12_isWrapped 81 = .ok (.iload 5, 2) := by decide +kernel
theorem dX12_isWrapped_83 : decode cX12_isWrapped 83 = .ok (.bipush 6, 2) := by decide +kernel
theorem dX12_isWrapped_85 : decode cX12_isWrapped 85 = .ok (.if_icmp .eq 17, 3) := by decide +kernel
theorem dX12_isWrapped_88 : decode cX12_isWrapped 88 = .ok (.iload 4, 2) := by decide +kernel
theorem dX12_isWrapped_90 : decode cX12_isWrapped 90 = .ok (.bipush 7, 2) := by decide +kernel
theorem dX12_isWrapped_92 : decode cX12_isWrapped 92 = .ok (.if_icmp .ne 14, 3) := by decide +kernel
theorem dX12_isWrapped_95 : decode cX12_isWrapped 95 = .ok (.iload 5, 2) := by decide +kernel
theorem dX12_isWrapped_97 : decode cX12_isWrapped 97 = .ok (.bipush 7, 2) := by decide +kernel
theorem dX12_isWrapped_99 : decode cX12_isWrapped 99 = .ok (.if_icmp .ne 7, 3) := by decide +kernel
theorem dX12_isWrapped_102 : decode cX12_isWrapped 102 = .ok (.iconst 1, 1) := by decide +kernel
theorem dX12_isWrapped_103 : decode cX12_isWrapped 103 = .ok (.goto 4, 3) := by decide +kernel
theorem dX12_isWrapped_106 : decode cX12_isWrapped 106 = .ok (.iconst 0, 1) := by decide +kernel
theorem dX12_isWrapped_107 : decode cX12_isWrapped 107 = .ok (.ireturn, 1) := by decide +kernel
theorem dX12_joinParts_0 : decode cX12_joinParts 0 = .ok (.iload_n 1, 1) := by decide +kernel
theorem dX12_joinParts_1 : decode cX12_joinParts 1 = .ok (.iconst 1, 1) := by decide +kernel
theorem dX12_joinParts_2 : decode cX12_joinParts 2 = .ok (.iadd, 1) := by decide +kernel
theorem dX12_joinParts_3 : decode cX12_joinParts 3 = .ok (.istore_n 2, 1) := by decide +kernel
