theorem dX6_lay_75 : decode cX6_lay 75 = .ok (.aload_n 0, 1) := by decide +kernel
theorem dX6_lay_76 : decode cX6_lay 76 = .ok (.iload 5, 2) := by decide +kernel
theorem dX6_lay_78 : decode cX6_lay 78 = .ok (.iload 4, 2) := by decide +kernel
theorem dX6_lay_80 : decode cX6_lay 80 = .ok (.iload_n 3, 1) := by decide +kernel
theorem dX6_lay_81 : decode cX6_lay 81 = .ok (.iconst 1, 1) := by decide +kernel
theorem dX6_lay_82 : decode cX6_lay 82 = .ok (.iadd, 1) := by decide +kernel
theorem dX6_lay_83 : decode cX6_lay 83 = .ok (.invokevirtual 103, 3) := by decide +kernel
theorem dX6_lay_86 : decode cX6_lay 86 = .ok (.aload_n 0, 1) := by decide +kernel
theorem dX6_lay_87 : decode cX6_lay 87 = .ok (.getfield 27, 3) := by decide +kernel
theorem dX6_lay_90 : decode cX6_lay 90 = .ok (.iload 5, 2) := by decide +kernel
theorem dX6_lay_92 : decode cX6_lay 92 = .ok (.iaload, 1) := by decide +kernel
theorem dX6_lay_93 : decode cX6_lay 93 = .ok (.istore 5, 2) := by decide +kernel
theorem dX6_lay_95 : decode cX6_lay 95 = .ok (.goto (-34), 3) := by decide +kernel
theorem dX6_lay_98 : decode cX6_lay 98 = .ok (.aload_n 0, 1) := by decide +kernel
theorem dX6_lay_99 : decode cX6_lay 99 = .ok (.getfield 50, 3) := by decide +kernel
theorem dX6_lay_102 : decode cX6_lay 102 = .ok (.iload 4, 2) := by decide +kernel
theorem dX6_lay_104 : decode cX6_lay 104 = .ok (.invokevirtual 288, 3) := by decide +kernel
theorem dX6_lay_107 : decode cX6_lay 107 = .ok (.return_, 1) := by decide +kernel
theorem dX6_lookOfMark_0 : decode cX6_lookOfMark 0 = .ok (.iload_n 0, 1) := by decide +kernel
theorem dX6_lookOfMark_1 : decode cX6_lookOfMark 1 = .ok (.lookupswitch 41 #[(33, 35), (60, 37), (126, 39)], 35) := by decide +kernel
theorem dX6_lookOfMark_36 : decode cX6_lookOfMark 36 = .ok (.iconst 1, 1) := by decide +kernel
theorem dX6_lookOfMark_37 : decode cX6_lookOfMark 37 = .ok (.ireturn, 1) := by decide +kernel
theorem dX6_lookOfMark_38 : decode cX6_lookOfMark 38 = .ok (.iconst 2, 1) := by decide +kernel
theorem dX6_lookOfMark_39 : decode cX6_lookOfMark 39 = .ok (.ireturn, 1) := by decide +kernel
theorem dX6_lookOfMark_40 : decode cX6_lookOfMark 40 = .ok (.iconst 3, 1) := by decide +kernel
theorem dX6_lookOfMark_41 : decode cX6_lookOfMark 41 = .ok (.ireturn, 1) := by decide +kernel
theorem dX6_lookOfMark_42 : decode cX6_lookOfMark 42 = .ok (.iconst 0, 1) := by decide +kernel
theorem dX6_lookOfMark_43 : decode cX6_lookOfMark 43 = .ok (.ireturn, 1) := by decide +kernel
theorem dX6_make_0 : decode cX6_make 0 = .ok (.aload_n 0, 1) := by decide +kernel
theorem dX6_make_1 : decode cX6_make 1 = .ok (.getfield 116, 3) := by decide +kernel
theorem dX6_make_4 : decode cX6_make 4 = .ok (.sipush 256, 3) := by decide +kernel
theorem dX6_make_7 : decode cX6_make 7 = .ok (.if_icmp .lt 14, 3) := by decide +kernel
theorem dX6_make_10 : decode cX6_make 10 = .ok (.aload_n 0, 1) := by decide +kernel
theorem dX6_make_11 : decode cX6_make 11 = .ok (.iconst 2, 1) := by decide +kernel
theorem dX6_make_12 : decode cX6_make 12 = .ok (.aload_n 0, 1) := by decide +kernel
theorem dX6_make_13 : decode cX6_make 13 = .ok (.getfield 68, 3) := by decide +kernel
theorem dX6_make_16 : decode cX6_make 16 = .ok (.invokevirtual 88, 3) := by decide +kernel
theorem dX6_make_19 : decode cX6_make 19 = .ok (.iconst 0, 1) := by decide +kernel
theorem dX6_make_20 : decode cX6_make 20 = .ok (.ireturn, 1) := by decide +kernel
theorem dX6_make_21 : decode cX6_make 21 = .ok (.aload_n 0, 1) := by decide +kernel
theorem dX6_make_22 : decode cX6_make 22 = .ok (.getfield 116, 3) := by decide +kernel
theorem dX6_make_25 : decode cX6_make 25 = .ok (.istore 5, 2) := by decide +kernel
theorem dX6_make_27 : decode cX6_make 27 = .ok (.aload_n 0, 1) := by decide +kernel
theorem dX6_make_28 : decode cX6_make 28 = .ok (.dup, 1) := by decide +kernel
theorem dX6_make_29 : decode cX6_make 29 = .ok (.getfield 116, 3) := by decide +kernel
theorem dX6_make_32 : decode cX6_make 32 = .ok (.iconst 1, 1) := by decide +kernel
theorem dX6_make_33 : decode cX6_make 33 = .ok (.iadd, 1) := by decide +kernel
theorem dX6_make_34 : decode cX6_make 34 = .ok (.putfield 116, 3) := by decide +kernel
theorem dX6_make_37 : decode cX6_make 37 = .ok (.aload_n 0, 1) := by decide +kernel
theorem dX6_make_38 : decode cX6_make 38 = .ok (.getfield 9, 3) := by decide +kernel
theorem dX6_make_41 : decode cX6_make 41 = .ok (.iload 5, 2) := by decide +kernel
theorem dX6_make_43 : decode cX6_make 43 = .ok (.iload_n 1, 1) := by decide +kernel
theorem dX6_make_44 : decode cX6_make 44 = .ok (.iastore, 1) := by decide +kernel
theorem dX6_make_45 : decode cX6_make 45 = .ok (.aload_n 0, 1) := by decide +kernel
theorem dX6_make_46 : decode cX6_make 46 = .ok (.getfield 15, 3) := by decide +kernel
theorem dX6_make_49 : decode cX6_make 49 = .ok (.iload 5, 2) := by decide +kernel
theorem dX6_make_51 : decode cX6_make 51 = .ok (.iload_n 2, 1) := by decide +kernel
theorem dX6_make_52 : decode cX6_make 52 = .ok (.iastore, 1) := by decide +kernel
theorem dX6_make_53 : decode cX6_make 53 = .ok (.aload_n 0, 1) := by decide +kernel
theorem dX6_make_54 : decode cX6_make 54 = .ok (.getfield 18, 3) := by decide +kernel
theorem dX6_make_57 : decode cX6_make 57 = .ok (.iload 5, 2) := by decide +kernel
theorem dX6_make_59 : decode cX6_make 59 = .ok (.iload_n 3, 1) := by decide +kernel
theorem dX6_make_60 : decode cX6_make 60 = .ok (.iastore, 1) := by decide +kernel
theorem dX6_make_61 : decode cX6_make 61 = .ok (.aload_n 0, 1) := by decide +kernel
theorem dX6_make_62 : decode cX6_make 62 = .ok (.getfield 21, 3) := by decide +kernel
theorem dX6_make_65 : decode cX6_make 65 = .ok (.iload 5, 2) := by decide +kernel
theorem dX6_make_67 : decode cX6_make 67 = .ok (.iload 4, 2) := by decide +kernel
theorem dX6_make_69 : decode cX6_make 69 = .ok (.iastore, 1) := by decide +kernel
theorem dX6_make_70 : decode cX6_make 70 = .ok (.aload_n 0, 1) := by decide +kernel
theorem dX6_make_71 : decode cX6_make 71 = .ok (.getfield 24, 3) := by decide +kernel
theorem dX6_make_74 : decode cX6_make 74 = .ok (.iload 5, 2) := by decide +kernel
theorem dX6_make_76 : decode cX6_make 76 = .ok (.iconst (-1), 1) := by decide +kernel
theorem dX6_make_77 : decode cX6_make 77 = .ok (.iastore, 1) := by decide +kernel
theorem dX6_make_78 : decode cX6_make 78 = .ok (.aload_n 0, 1) := by decide +kernel
theorem dX6_make_79 : decode cX6_make 79 = .ok (.getfield 27, 3) := by decide +kernel
theorem dX6_make_82 : decode cX6_make 82 = .ok (.iload 5, 2) := by decide +kernel
theorem dX6_make_84 : decode cX6_make 84 = .ok (.iconst (-1), 1) := by decide +kernel
theorem dX6_make_85 : decode cX6_make 85 = .ok (.iastore, 1) := by decide +kernel
theorem dX6_make_86 : decode cX6_make 86 = .ok (.iload 5, 2) := by decide +kernel
theorem dX6_make_88 : decode cX6_make 88 = .ok (.ireturn, 1) := by decide +kernel
theorem dX6_makeRound_0 : decode cX6_makeRound 0 = .ok (.aload_n 0, 1) := by decide +kernel
theorem dX6_makeRound_1 : decode cX6_makeRound 1 = .ok (.iload_n 1, 1) := by decide +kernel
theorem dX6_makeRound_2 : decode cX6_makeRound 2 = .ok (.iload_n 2, 1) := by decide +kernel
theorem dX6_makeRound_3 : decode cX6_makeRound 3 = .ok (.iload_n 3, 1) := by decide +kernel
theorem dX6_makeRound_4 : decode cX6_makeRound 4 = .ok (.iload 4, 2) := by decide +kernel
theorem dX6_makeRound_6 : decode cX6_makeRound 6 = .ok (.invokevirtual 156, 3) := by decide +kernel
theorem dX6_makeRound_9 : decode cX6_makeRound 9 = .ok (.istore 6, 2) := by decide +kernel
theorem dX6_makeRound_11 : decode cX6_makeRound 11 = .ok (.aload_n 0, 1) := by decide +kernel
theorem dX6_makeRound_12 : decode cX6_makeRound 12 = .ok (.getfield 24, 3) := by decide +kernel
theorem dX6_makeRound_15 : decode cX6_makeRound 15 = .ok (.iload 6, 2) := by decide +kernel
theorem dX6_makeRound_17 : decode cX6_makeRound 17 = .ok (.iload 5, 2) := by decide +kernel
theorem dX6_makeRound_19 : decode cX6_makeRound 19 = .ok (.iastore, 1) := by decide +kernel
theorem dX6_makeRound_20 : decode cX6_makeRound 20 = .ok (.iload 6, 2) := by decide +kernel
theorem dX6_makeRound_22 : decode cX6_makeRound 22 = .ok (.ireturn, 1) := by decide +kernel
theorem dX6_makeSet_0 : decode cX6_makeSet 0 = .ok (.aload_n 0, 1) := by decide +kernel
theorem dX6_makeSet_1 : decode cX6_makeSet 1 = .ok (.getfield 50, 3) := by decide +kernel
theorem dX6_makeSet_4 : decode cX6_makeSet 4 = .ok (.invokevirtual 273, 3) := by decide +kernel
theorem dX6_makeSet_7 : decode cX6_makeSet 7 = .ok (.istore_n 2, 1) := by decide +kernel
theorem dX6_makeSet_8 : decode cX6_makeSet 8 = .ok (.aload_n 0, 1) := by decide +kernel
theorem dX6_makeSet_9 : decode cX6_makeSet 9 = .ok (.getfield 57, 3) := by decide +kernel
theorem dX6_makeSet_12 : decode cX6_makeSet 12 = .ok (.iconst 0, 1) := by decide +kernel
theorem dX6_makeSet_13 : decode cX6_makeSet 13 = .ok (.iaload, 1) := by decide +kernel
theorem dX6_makeSet_14 : decode cX6_makeSet 14 = .ok (.istore_n 3, 1) := by decide +kernel
theorem dX6_makeSet_15 : decode cX6_makeSet 15 = .ok (.aload_n 0, 1) := by decide +kernel
theorem dX6_makeSet_16 : decode cX6_makeSet 16 = .ok (.getfield 60, 3) := by decide +kernel
theorem dX6_makeSet_19 : decode cX6_makeSet 19 = .ok (.iconst 0, 1) := by decide +kernel
theorem dX6_makeSet_20 : decode cX6_makeSet 20 = .ok (.iaload, 1) := by decide +kernel
theorem dX6_makeSet_21 : decode cX6_makeSet 21 = .ok (.istore 4, 2) := by decide +kernel
theorem dX6_makeSet_23 : decode cX6_makeSet 23 = .ok (.iconst 1, 1) := by decide +kernel
theorem dX6_makeSet_24 : decode cX6_makeSet 24 = .ok (.istore 5, 2) := by decide +kernel
theorem dX6_makeSet_26 : decode cX6_makeSet 26 = .ok (.iload 5, 2) := by decide +kernel
theorem dX6_makeSet_28 : decode cX6_makeSet 28 = .ok (.aload_n 0, 1) := by decide +kernel
theorem dX6_makeSet_29 : decode cX6_makeSet 29 = .ok (.getfield 248, 3) := by decide +kernel
theorem dX6_makeSet_32 : decode cX6_makeSet 32 = .ok (.if_icmp .ge 75, 3) := by decide +kernel
theorem dX6_makeSet_35 : decode cX6_makeSet 35 = .ok (.iload 5, 2) := by decide +kernel
theorem dX6_makeSet_37 : decode cX6_makeSet 37 = .ok (.sipush 200, 3) := by decide +kernel
theorem dX6_makeSet_40 : decode cX6_makeSet 40 = .ok (.if_icmp .ge 67, 3) := by decide +kernel
theorem dX6_makeSet_43 : decode cX6_makeSet 43 = .ok (.aload_n 0, 1) := by decide +kernel
theorem dX6_makeSet_44 : decode cX6_makeSet 44 = .ok (.getfield 57, 3) := by decide +kernel
theorem dX6_makeSet_47 : decode cX6_makeSet 47 = .ok (.iload 5, 2) := by decide +kernel
theorem dX6_makeSet_49 : decode cX6_makeSet 49 = .ok (.iaload, 1) := by decide +kernel
theorem dX6_makeSet_50 : decode cX6_makeSet 50 = .ok (.iload 4, 2) := by decide +kernel
theorem dX6_makeSet_52 : decode cX6_makeSet 52 = .ok (.iconst 1, 1) := by decide +kernel
theorem dX6_makeSet_53 : decode cX6_makeSet 53 = .ok (.iadd, 1) := by decide +kernel
theorem dX6_makeSet_54 : decode cX6_makeSet 54 = .ok (.if_icmp .le 33, 3) := by decide +kernel
theorem dX6_makeSet_57 : decode cX6_makeSet 57 = .ok (.aload_n 0, 1) := by decide +kernel
theorem dX6_makeSet_58 : decode cX6_makeSet 58 = .ok (.getfield 50, 3) := by decide +kernel
theorem dX6_makeSet_61 : decode cX6_makeSet 61 = .ok (.iload_n 3, 1) := by decide +kernel
theorem dX6_makeSet_62 : decode cX6_makeSet 62 = .ok (.iload 4, 2) := by decide +kernel
theorem dX6_makeSet_64 : decode cX6_makeSet 64 = .ok (.invokevirtual 276, 3) := by decide +kernel
theorem dX6_makeSet_67 : decode cX6_makeSet 67 = .ok (.aload_n 0, 1) := by decide +kernel
theorem dX6_makeSet_68 : decode cX6_makeSet 68 = .ok (.getfield 57, 3) := by decide +kernel
theorem dX6_makeSet_71 : decode cX6_makeSet 71 = .ok (.iload 5, 2) := by decide +kernel
theorem dX6_makeSet_73 : decode cX6_makeSet 73 = .ok (.iaload, 1) := by decide +kernel
theorem dX6_makeSet_74 : decode cX6_makeSet 74 = .ok (.istore_n 3, 1) := by decide +kernel
theorem dX6_makeSet_75 : decode cX6_makeSet 75 = .ok (.aload_n 0, 1) := by decide +kernel
theorem dX6_makeSet_76 : decode cX6_makeSet 76 = .ok (.getfield 60, 3) := by decide +kernel
theorem dX6_makeSet_79 : decode cX6_makeSet 79 = .ok (.iload 5, 2) := by decide +kernel
theorem dX6_makeSet_81 : decode cX6_makeSet 81 = .ok (.iaload, 1) := by decide +kernel
theorem dX6_makeSet_82 : decode cX6_makeSet 82 = .ok (.istore 4, 2) := by decide +kernel
theorem dX6_makeSet_84 : decode cX6_makeSet 84 = .ok (.goto 17, 3) := by decide +kernel
theorem dX6_makeSet_87 : decode cX6_makeSet 87 = .ok (.iload 4, 2) := by decide +kernel
theorem dX6_makeSet_89 : decode cX6_makeSet 89 = .ok (.aload_n 0, 1) := by decide +kernel
theorem dX6_makeSet_90 : decode cX6_makeSet 90 = .ok (.getfield 60, 3) := by decide +kernel
theorem dX6_makeSet_93 : decode cX6_makeSet 93 = .ok (.iload 5, 2) := by decide +kernel
theorem dX6_makeSet_95 : decode cX6_makeSet 95 = .ok (.iaload, 1) := by decide +kernel
theorem dX6_makeSet_96 : decode cX6_makeSet 96 = .ok (.invokestatic 279, 3) := by decide +kernel
theorem dX6_makeSet_99 : decode cX6_makeSet 99 = .ok (.istore 4, 2) := by decide +kernel
theorem dX6_makeSet_101 : decode cX6_makeSet 101 = .ok (.iinc 5 1, 3) := by decide +kernel
theorem dX6_makeSet_104 : decode cX6_makeSet 104 = .ok (.goto (-78), 3) := by decide +kernel
theorem dX6_makeSet_107 : decode cX6_makeSet 107 = .ok (.aload_n 0, 1) := by decide +kernel
theorem dX6_makeSet_108 : decode cX6_makeSet 108 = .ok (.getfield 50, 3) := by decide +kernel
theorem dX6_makeSet_111 : decode cX6_makeSet 111 = .ok (.iload_n 3, 1) := by decide +kernel
theorem dX6_makeSet_112 : decode cX6_makeSet 112 = .ok (.iload 4, 2) := by decide +kernel
theorem dX6_makeSet_114 : decode cX6_makeSet 114 = .ok (.invokevirtual 276, 3) := by decide +kernel
theorem dX6_makeSet_117 : decode cX6_makeSet 117 = .ok (.aload_n 0, 1) := by decide +kernel
theorem dX6_makeSet_118 : decode cX6_makeSet 118 = .ok (.iconst 2, 1) := by decide +kernel
theorem dX6_makeSet_119 : decode cX6_makeSet 119 = .ok (.iload_n 1, 1) := by decide +kernel
theorem dX6_makeSet_120 : decode cX6_makeSet 120 = .ok (.ifCond .eq 7, 3) := by decide +kernel
theorem dX6_makeSet_123 : decode cX6_makeSet 123 = .ok (.iconst 1, 1) := by decide +kernel
theorem dX6_makeSet_124 : decode cX6_makeSet 124 = .ok (.goto 4, 3) := by decide +kernel
theorem dX6_makeSet_127 : decode cX6_makeSet 127 = .ok (.iconst 0, 1) := by decide +kernel
theorem dX6_makeSet_128 : decode cX6_makeSet 128 = .ok (.iload_n 2, 1) := by decide +kernel
theorem dX6_makeSet_129 : decode cX6_makeSet 129 = .ok (.aload_n 0, 1) := by decide +kernel
theorem dX6_makeSet_130 : decode cX6_makeSet 130 = .ok (.getfield 50, 3) := by decide +kernel
theorem dX6_makeSet_133 : decode cX6_makeSet 133 = .ok (.invokevirtual 273, 3) := by decide +kernel
theorem dX6_makeSet_136 : decode cX6_makeSet 136 = .ok (.iload_n 2, 1) := by decide +kernel
theorem dX6_makeSet_137 : decode cX6_makeSet 137 = .ok (.isub, 1) := by decide +kernel
theorem dX6_makeSet_138 : decode cX6_makeSet 138 = .ok (.invokevirtual 156, 3) := by decide +kernel
theorem dX6_makeSet_141 : decode cX6_makeSet 141 = .ok (.ireturn, 1) := by decide +kernel
theorem dX6_readHex_0 : decode cX6_readHex 0 = .ok (.iconst 0, 1) := by decide +kernel
theorem dX6_readHex_1 : decode cX6_readHex 1 = .ok (.istore_n 1, 1) := by decide +kernel
theorem dX6_readHex_2 : decode cX6_readHex 2 = .ok (.iconst 0, 1) := by decide +kernel
theorem dX6_readHex_3 : decode cX6_readHex 3 = .ok (.istore_n 2, 1) := by decide +kernel
theorem dX6_readHex_4 : decode cX6_readHex 4 = .ok (.iload_n 2, 1) := by decide +kernel
theorem dX6_readHex_5 : decode cX6_readHex 5 = .ok (.iconst 4, 1) := by decide +kernel
theorem dX6_readHex_6 : decode cX6_readHex 6 = .ok (.if_icmp .ge 90, 3) := by decide +kernel
theorem dX6_readHex_9 : decode cX6_readHex 9 = .ok (.aload_n 0, 1) := by decide +kernel
theorem dX6_readHex_10 : decode cX6_readHex 10 = .ok (.getfield 41, 3) := by decide +kernel
theorem dX6_readHex_13 : decode cX6_readHex 13 = .ok (.aload_n 0, 1) := by decide +kernel
theorem dX6_readHex_14 : decode cX6_readHex 14 = .ok (.getfield 68, 3) := by decide +kernel
theorem dX6_readHex_17 : decode cX6_readHex 17 = .ok (.invokevirtual 128, 3) := by decide +kernel
theorem dX6_readHex_20 : decode cX6_readHex 20 = .ok (.istore_n 3, 1) := by decide +kernel
theorem dX6_readHex_21 : decode cX6_readHex 21 = .ok (.iload_n 3, 1) := by decide +kernel
theorem dX6_readHex_22 : decode cX6_readHex 22 = .ok (.invokestatic 230, 3) := by decide +kernel
theorem dX6_readHex_25 : decode cX6_readHex 25 = .ok (.ifCond .eq 16, 3) := by decide +kernel
theorem dX6_readHex_28 : decode cX6_readHex 28 = .ok (.iload_n 1, 1) := by decide +kernel
theorem dX6_readHex_29 : decode cX6_readHex 29 = .ok (.bipush 16, 2) := by decide +kernel
theorem dX6_readHex_31 : decode cX6_readHex 31 = .ok (.imul, 1) := by decide +kernel
theorem dX6_readHex_32 : decode cX6_readHex 32 = .ok (.iload_n 3, 1) := by decide +kernel
theorem dX6_readHex_33 : decode cX6_readHex 33 = .ok (.iadd, 1) := by decide +kernel
theorem dX6_readHex_34 : decode cX6_readHex 34 = .ok (.bipush 48, 2) := by decide +kernel
theorem dX6_readHex_36 : decode cX6_readHex 36 = .ok (.isub, 1) := by decide +kernel
theorem dX6_readHex_37 : decode cX6_readHex 37 = .ok (.istore_n 1, 1) := by decide +kernel
theorem dX6_readHex_38 : decode cX6_readHex 38 = .ok (.goto 42, 3) := by decide +kernel
theorem dX6_readHex_41 : decode cX6_readHex 41 = .ok (.iload_n 3, 1) := by decide +kernel
theorem dX6_readHex_42 : decode cX6_readHex 42 = .ok (.bipush 97, 2) := by decide +kernel
theorem dX6_readHex_44 : decode cX6_readHex 44 = .ok (.if_icmp .lt 25, 3) := by decide +kernel
theorem dX6_readHex_47 : decode cX6_readHex 47 = .ok (.iload_n 3, 1) := by decide +kernel
theorem dX6_readHex_48 : decode cX6_readHex 48 = .ok (.bipush 102, 2) := by decide +kernel
theorem dX6_readHex_50 : decode cX6_readHex 50 = .ok (.if_icmp .gt 19, 3) := by decide +kernel
theorem dX6_readHex_53 : decode cX6_readHex 53 = .ok (.iload_n 1, 1) := by decide +kernel
theorem dX6_readHex_54 : decode cX6_readHex 54 = .ok (.bipush 16, 2) := by decide +kernel
theorem dX6_readHex_56 : decode cX6_readHex 56 = .ok (.imul, 1) := by decide +kernel
theorem dX6_readHex_57 : decode cX6_readHex 57 = .ok (.iload_n 3, 1) := by decide +kernel
theorem dX6_readHex_58 : decode cX6_readHex 58 = .ok (.iadd, 1) := by decide +kernel
theorem dX6_readHex_59 : decode cX6_readHex 59 = .ok (.bipush 97, 2) := by decide +kernel
theorem dX6_readHex_61 : decode cX6_readHex 61 = .ok (.isub, 1) := by decide +kernel
theorem dX6_readHex_62 : decode cX6_readHex 62 = .ok (.bipush 10, 2) := by decide +kernel
theorem dX6_readHex_64 : decode cX6_readHex 64 = .ok (.iadd, 1) := by decide +kernel
theorem dX6_readHex_65 : decode cX6_readHex 65 = .ok (.istore_n 1, 1) := by decide +kernel
theorem dX6_readHex_66 : decode cX6_readHex 66 = .ok (.goto 14, 3) := by decide +kernel
theorem dX6_readHex_69 : decode cX6_readHex 69 = .ok (.aload_n 0, 1) := by decide +kernel
theorem dX6_readHex_70 : decode cX6_readHex 70 = .ok (.iconst 1, 1) := by decide +kernel
theorem dX6_readHex_71 : decode cX6_readHex 71 = .ok (.aload_n 0, 1) := by decide +kernel
theorem dX6_readHex_72 : decode cX6_readHex 72 = .ok (.getfield 68, 3) := by decide +kernel
theorem dX6_readHex_75 : decode cX6_readHex 75 = .ok (.invokevirtual 88, 3) := by decide +kernel
theorem dX6_readHex_78 : decode cX6_readHex 78 = .ok (.iconst 0, 1) := by decide +kernel
theorem dX6_readHex_79 : decode cX6_readHex 79 = .ok (.ireturn, 1) := by decide +kernel
theorem dX6_readHex_80 : decode cX6_readHex 80 = .ok (.aload_n 0, 1) := by decide +kernel
theorem dX6_readHex_81 : decode cX6_readHex 81 = .ok (.dup, 1) := by decide +kernel
theorem dX6_readHex_82 : decode cX6_readHex 82 = .ok (.getfield 68, 3) := by decide +kernel
theorem dX6_readHex_85 : decode cX6_readHex 85 = .ok (.iconst 1, 1) := by decide +kernel
theorem dX6_readHex_86 : decode cX6_readHex 86 = .ok (.iadd, 1) := by decide +kernel
theorem dX6_readHex_87 : decode cX6_readHex 87 = .ok (.putfield 68, 3) := by decide +kernel
theorem dX6_readHex_90 : decode cX6_readHex 90 = .ok (.iinc 2 1, 3) := by decide +kernel
theorem dX6_readHex_93 : decode cX6_readHex 93 = .ok (.goto (-89), 3) := by decide +kernel
theorem dX6_readHex_96 : decode cX6_readHex 96 = .ok (.iload_n 1, 1) := by decide +kernel
theorem dX6_readHex_97 : decode cX6_readHex 97 = .ok (.ireturn, 1) := by decide +kernel
theorem dX6_readMember_0 : decode cX6_readMember 0 = .ok (.aload_n 0, 1) := by decide +kernel
theorem dX6_readMember_1 : decode cX6_readMember 1 = .ok (.invokevirtual 78, 3) := by decide +kernel
theorem dX6_readMember_4 : decode cX6_readMember 4 = .ok (.istore_n 1, 1) := by decide +kernel
theorem dX6_readMember_5 : decode cX6_readMember 5 = .ok (.iload_n 1, 1) := by decide +kernel
theorem dX6_readMember_6 : decode cX6_readMember 6 = .ok (.bipush 92, 2) := by decide +kernel
theorem dX6_readMember_8 : decode cX6_readMember 8 = .ok (.if_icmp .ne 72, 3) := by decide +kernel
theorem dX6_readMember_11 : decode cX6_readMember 11 = .ok (.aload_n 0, 1) := by decide +kernel
theorem dX6_readMember_12 : decode cX6_readMember 12 = .ok (.dup, 1) := by decide +kernel
theorem dX6_readMember_13 : decode cX6_readMember 13 = .ok (.getfield 68, 3) := by decide +kernel
theorem dX6_readMember_16 : decode cX6_readMember 16 = .ok (.iconst 1, 1) := by decide +kernel
theorem dX6_readMember_17 : decode cX6_readMember 17 = .ok (.iadd, 1) := by decide +kernel
theorem dX6_readMember_18 : decode cX6_readMember 18 = .ok (.putfield 68, 3) := by decide +kernel
theorem dX6_readMember_21 : decode cX6_readMember 21 = .ok (.aload_n 0, 1) := by decide +kernel
theorem dX6_readMember_22 : decode cX6_readMember 22 = .ok (.invokevirtual 78, 3) := by decide +kernel
theorem dX6_readMember_25 : decode cX6_readMember 25 = .ok (.istore_n 1, 1) := by decide +kernel
theorem dX6_readMember_26 : decode cX6_readMember 26 = .ok (.iload_n 1, 1) := by decide +kernel
theorem dX6_readMember_27 : decode cX6_readMember 27 = .ok (.bipush 120, 2) := by decide +kernel
theorem dX6_readMember_29 : decode cX6_readMember 29 = .ok (.if_icmp .ne 18, 3) := by decide +kernel
theorem dX6_readMember_32 : decode cX6_readMember 32 = .ok (.aload_n 0, 1) := by decide +kernel
theorem dX6_readMember_33 : decode cX6_readMember 33 = .ok (.dup, 1) := by decide +kernel
theorem dX6_readMember_34 : decode cX6_readMember 34 = .ok (.getfield 68, 3) := by decide +kernel
theorem dX6_readMember_37 : decode cX6_readMember 37 = .ok (.iconst 1, 1) := by decide +kernel
theorem dX6_readMember_38 : decode cX6_readMember 38 = .ok (.iadd, 1) := by decide +kernel
theorem dX6_readMember_39 : decode cX6_readMember 39 = .ok (.putfield 68, 3) := by decide +kernel
theorem dX6_readMember_42 : decode cX6_readMember 42 = .ok (.aload_n 0, 1) := by decide +kernel
theorem dX6_readMember_43 : decode cX6_readMember 43 = .ok (.invokevirtual 258, 3) := by decide +kernel
theorem dX6_readMember_46 : decode cX6_readMember 46 = .ok (.ireturn, 1) := by decide +kernel
theorem dX6_readMember_47 : decode cX6_readMember 47 = .ok (.iload_n 1, 1) := by decide +kernel
theorem dX6_readMember_48 : decode cX6_readMember 48 = .ok (.invokestatic 261, 3) := by decide +kernel
theorem dX6_readMember_51 : decode cX6_readMember 51 = .ok (.ifCond .eq 17, 3) := by decide +kernel
theorem dX6_readMember_54 : decode cX6_readMember 54 = .ok (.iload_n 1, 1) := by decide +kernel
theorem dX6_readMember_55 : decode cX6_readMember 55 = .ok (.invokestatic 264, 3) := by decide +kernel
theorem dX6_readMember_58 : decode cX6_readMember 58 = .ok (.ifCond .ne 10, 3) := by decide +kernel
theorem dX6_readMember_61 : decode cX6_readMember 61 = .ok (.iload_n 1, 1) := by decide +kernel
theorem dX6_readMember_62 : decode cX6_readMember 62 = .ok (.invokestatic 230, 3) := by decide +kernel
theorem dX6_readMember_65 : decode cX6_readMember 65 = .ok (.ifCond .eq 55, 3) := by decide +kernel
theorem dX6_readMember_68 : decode cX6_readMember 68 = .ok (.aload_n 0, 1) := by decide +kernel
theorem dX6_readMember_69 : decode cX6_readMember 69 = .ok (.iconst 1, 1) := by decide +kernel
theorem dX6_readMember_70 : decode cX6_readMember 70 = .ok (.aload_n 0, 1) := by decide +kernel
theorem dX6_readMember_71 : decode cX6_readMember 71 = .ok (.getfield 68, 3) := by decide +kernel
theorem dX6_readMember_74 : decode cX6_readMember 74 = .ok (.invokevirtual 88, 3) := by decide +kernel
theorem dX6_readMember_77 : decode cX6_readMember 77 = .ok (.goto 43, 3) := by decide +kernel
theorem dX6_readMember_80 : decode cX6_readMember 80 = .ok (.iload_n 1, 1) := by decide +kernel
theorem dX6_readMember_81 : decode cX6_readMember 81 = .ok (.invokestatic 261, 3) := by decide +kernel
theorem dX6_readMember_84 : decode cX6_readMember 84 = .ok (.ifCond .eq 27, 3) := by decide +kernel
theorem dX6_readMember_87 : decode cX6_readMember 87 = .ok (.iload_n 1, 1) := by decide +kernel
theorem dX6_readMember_88 : decode cX6_readMember 88 = .ok (.bipush 91, 2) := by decide +kernel
theorem dX6_readMember_90 : decode cX6_readMember 90 = .ok (.if_icmp .eq 21, 3) := by decide +kernel
theorem dX6_readMember_93 : decode cX6_readMember 93 = .ok (.iload_n 1, 1) := by decide +kernel
theorem dX6_readMember_94 : decode cX6_readMember 94 = .ok (.bipush 93, 2) := by decide +kernel
theorem dX6_readMember_96 : decode cX6_readMember 96 = .ok (.if_icmp .eq 15, 3) := by decide +kernel
theorem dX6_readMember_99 : decode cX6_readMember 99 = .ok (.iload_n 1, 1) := by decide +kernel
theorem dX6_readMember_100 : decode cX6_readMember 100 = .ok (.bipush 94, 2) := by decide +kernel
theorem dX6_readMember_102 : decode cX6_readMember 102 = .ok (.if_icmp .eq 9, 3) := by decide +kernel
theorem dX6_readMember_105 : decode cX6_readMember 105 = .ok (.iload_n 1, 1) := by decide +kernel
theorem dX6_readMember_106 : decode cX6_readMember 106 = .ok (.bipush 45, 2) := by decide +kernel
theorem dX6_readMember_108 : decode cX6_readMember 108 = .ok (.if_icmp .ne 12, 3) := by decide +kernel
theorem dX6_readMember_111 : decode cX6_readMember 111 = .ok (.aload_n 0, 1) := by decide +kernel
theorem dX6_readMember_112 : decode cX6_readMember 112 = .ok (.iconst 1, 1) := by decide +kernel
theorem dX6_readMember_113 : decode cX6_readMember 113 = .ok (.aload_n 0, 1) := by decide +kernel
theorem dX6_readMember_114 : decode cX6_readMember 114 = .ok (.getfield 68, 3) := by decide +kernel
theorem dX6_readMember_117 : decode cX6_readMember 117 = .ok (.invokevirtual 88, 3) := by decide +kernel
theorem dX6_readMember_120 : decode cX6_readMember 120 = .ok (.aload_n 0, 1) := by decide +kernel
theorem dX6_readMember_121 : decode cX6_readMember 121 = .ok (.dup, 1) := by decide +kernel
theorem dX6_readMember_122 : decode cX6_readMember 122 = .ok (.getfield 68, 3) := by decide +kernel
theorem dX6_readMember_125 : decode cX6_readMember 125 = .ok (.iconst 1, 1) := by decide +kernel
theorem dX6_readMember_126 : decode cX6_readMember 126 = .ok (.iadd, 1) := by decide +kernel
theorem dX6_readMember_127 : decode cX6_readMember 127 = .ok (.putfield 68, 3) := by decide +kernel
theorem dX6_readMember_130 : decode cX6_readMember 130 = .ok (.iload_n 1, 1) := by decide +kernel
theorem dX6_readMember_131 : decode cX6_readMember 131 = .ok (.ireturn, 1) := by decide +kernel
theorem dX6_readMost_0 : decode cX6_readMost 0 = .ok (.iload_n 1, 1) := by decide +kernel
theorem dX6_readMost_1 : decode cX6_readMost 1 = .ok (.istore_n 2, 1) := by decide +kernel
theorem dX6_readMost_2 : decode cX6_readMost 2 = .ok (.aload_n 0, 1) := by decide +kernel
theorem dX6_readMost_3 : decode cX6_readMost 3 = .ok (.getfield 75, 3) := by decide +kernel
theorem dX6_readMost_6 : decode cX6_readMost 6 = .ok (.ifCond .ne 41, 3) := by decide +kernel
theorem dX6_readMost_9 : decode cX6_readMost 9 = .ok (.aload_n 0, 1) := by decide +kernel
theorem dX6_readMost_10 : decode cX6_readMost 10 = .ok (.invokevirtual 78, 3) := by decide +kernel
theorem dX6_readMost_13 : decode cX6_readMost 13 = .ok (.bipush 44, 2) := by decide +kernel
theorem dX6_readMost_15 : decode cX6_readMost 15 = .ok (.if_icmp .ne 32, 3) := by decide +kernel
theorem dX6_readMost_18 : decode cX6_readMost 18 = .ok (.aload_n 0, 1) := by decide +kernel
theorem dX6_readMost_19 : decode cX6_readMost 19 = .ok (.dup, 1) := by decide +kernel
theorem dX6_readMost_20 : decode cX6_readMost 20 = .ok (.getfield 68, 3) := by decide +kernel
theorem dX6_readMost_23 : decode cX6_readMost 23 = .ok (.iconst 1, 1) := by decide +kernel
theorem dX6_readMost_24 : decode cX6_readMost 24 = .ok (.iadd, 1) := by decide +kernel
theorem dX6_readMost_25 : decode cX6_readMost 25 = .ok (.putfield 68, 3) := by decide +kernel
theorem dX6_readMost_28 : decode cX6_readMost 28 = .ok (.aload_n 0, 1) := by decide +kernel
theorem dX6_readMost_29 : decode cX6_readMost 29 = .ok (.invokevirtual 78, 3) := by decide +kernel
theorem dX6_readMost_32 : decode cX6_readMost 32 = .ok (.bipush 125, 2) := by decide +kernel
theorem dX6_readMost_34 : decode cX6_readMost 34 = .ok (.if_icmp .ne 7, 3) := by decide +kernel
theorem dX6_readMost_37 : decode cX6_readMost 37 = .ok (.iconst (-1), 1) := by decide +kernel
theorem dX6_readMost_38 : decode cX6_readMost 38 = .ok (.goto 8, 3) := by decide +kernel
theorem dX6_readMost_41 : decode cX6_readMost 41 = .ok (.aload_n 0, 1) := by decide +kernel
theorem dX6_readMost_42 : decode cX6_readMost 42 = .ok (.iload_n 1, 1) := by decide +kernel
theorem dX6_readMost_43 : decode cX6_readMost 43 = .ok (.invokevirtual 224, 3) := by decide +kernel
theorem dX6_readMost_46 : decode cX6_readMost 46 = .ok (.istore_n 2, 1) := by decide +kernel
theorem dX6_readMost_47 : decode cX6_readMost 47 = .ok (.aload_n 0, 1) := by decide +kernel
theorem dX6_readMost_48 : decode cX6_readMost 48 = .ok (.invokevirtual 78, 3) := by decide +kernel
theorem dX6_readMost_51 : decode cX6_readMost 51 = .ok (.bipush 125, 2) := by decide +kernel
theorem dX6_readMost_53 : decode cX6_readMost 53 = .ok (.if_icmp .eq 12, 3) := by decide +kernel
theorem dX6_readMost_56 : decode cX6_readMost 56 = .ok (.aload_n 0, 1) := by decide +kernel
theorem dX6_readMost_57 : decode cX6_readMost 57 = .ok (.iconst 1, 1) := by decide +kernel
theorem dX6_readMost_58 : decode cX6_readMost 58 = .ok (.aload_n 0, 1) := by decide +kernel
theorem dX6_readMost_59 : decode cX6_readMost 59 = .ok (.getfield 68, 3) := by decide +kernel
theorem dX6_readMost_62 : decode cX6_readMost 62 = .ok (.invokevirtual 88, 3) := by decide +kernel
theorem dX6_readMost_65 : decode cX6_readMost 65 = .ok (.aload_n 0, 1) := by decide +kernel
theorem dX6_readMost_66 : decode cX6_readMost 66 = .ok (.dup, 1) := by decide +kernel
theorem dX6_readMost_67 : decode cX6_readMost 67 = .ok (.getfield 68, 3) := by decide +kernel
theorem dX6_readMost_70 : decode cX6_readMost 70 = .ok (.iconst 1, 1) := by decide +kernel
theorem dX6_readMost_71 : decode cX6_readMost 71 = .ok (.iadd, 1) := by decide +kernel
theorem dX6_readMost_72 : decode cX6_readMost 72 = .ok (.putfield 68, 3) := by decide +kernel
theorem dX6_readMost_75 : decode cX6_readMost 75 = .ok (.iload_n 2, 1) := by decide +kernel
theorem dX6_readMost_76 : decode cX6_readMost 76 = .ok (.ireturn, 1) := by decide +kernel
theorem dX6_readName_0 : decode cX6_readName 0 = .ok (.aload_n 0, 1) := by decide +kernel
theorem dX6_readName_1 : decode cX6_readName 1 = .ok (.invokevirtual 78, 3) := by decide +kernel
theorem dX6_readName_4 : decode cX6_readName 4 = .ok (.istore_n 1, 1) := by decide +kernel
theorem dX6_readName_5 : decode cX6_readName 5 = .ok (.iload_n 1, 1) := by decide +kernel
theorem dX6_readName_6 : decode cX6_readName 6 = .ok (.invokestatic 220, 3) := by decide +kernel
theorem dX6_readName_9 : decode cX6_readName 9 = .ok (.ifCond .ne 14, 3) := by decide +kernel
theorem dX6_readName_12 : decode cX6_readName 12 = .ok (.aload_n 0, 1) := by decide +kernel
theorem dX6_readName_13 : decode cX6_readName 13 = .ok (.iconst 1, 1) := by decide +kernel
theorem dX6_readName_14 : decode cX6_readName 14 = .ok (.aload_n 0, 1) := by decide +kernel
theorem dX6_readName_15 : decode cX6_readName 15 = .ok (.getfield 68, 3) := by decide +kernel
theorem dX6_readName_18 : decode cX6_readName 18 = .ok (.invokevirtual 88, 3) := by decide +kernel
theorem dX6_readName_21 : decode cX6_readName 21 = .ok (.iconst 0, 1) := by decide +kernel
theorem dX6_readName_22 : decode cX6_readName 22 = .ok (.ireturn, 1) := by decide +kernel
theorem dX6_readName_23 : decode cX6_readName 23 = .ok (.aload_n 0, 1) := by decide +kernel
theorem dX6_readName_24 : decode cX6_readName 24 = .ok (.getfield 54, 3) := by decide +kernel
theorem dX6_readName_27 : decode cX6_readName 27 = .ok (.iload_n 1, 1) := by decide +kernel
theorem dX6_readName_28 : decode cX6_readName 28 = .ok (.bipush 97, 2) := by decide +kernel
theorem dX6_readName_30 : decode cX6_readName 30 = .ok (.isub, 1) := by decide +kernel
theorem dX6_readName_31 : decode cX6_readName 31 = .ok (.iaload, 1) := by decide +kernel
theorem dX6_readName_32 : decode cX6_readName 32 = .ok (.ifCond .eq 12, 3) := by decide +kernel
theorem dX6_readName_35 : decode cX6_readName 35 = .ok (.aload_n 0, 1) := by decide +kernel
theorem dX6_readName_36 : decode cX6_readName 36 = .ok (.iconst 3, 1) := by decide +kernel
theorem dX6_readName_37 : decode cX6_readName 37 = .ok (.aload_n 0, 1) := by decide +kernel
theorem dX6_readName_38 : decode cX6_readName 38 = .ok (.getfield 68, 3) := by decide +kernel
theorem dX6_readName_41 : decode cX6_readName 41 = .ok (.invokevirtual 88, 3) := by decide +kernel
theorem dX6_readName_44 : decode cX6_readName 44 = .ok (.aload_n 0, 1) := by decide +kernel
theorem dX6_readName_45 : decode cX6_readName 45 = .ok (.getfield 54, 3) := by decide +kernel
theorem dX6_readName_48 : decode cX6_readName 48 = .ok (.iload_n 1, 1) := by decide +kernel
theorem dX6_readName_49 : decode cX6_readName 49 = .ok (.bipush 97, 2) := by decide +kernel
theorem dX6_readName_51 : decode cX6_readName 51 = .ok (.isub, 1) := by decide +kernel
theorem dX6_readName_52 : decode cX6_readName 52 = .ok (.aload_n 0, 1) := by decide +kernel
theorem dX6_readName_53 : decode cX6_readName 53 = .ok (.getfield 50, 3) := by decide +kernel
theorem dX6_readName_56 : decode cX6_readName 56 = .ok (.getfield 211, 3) := by decide +kernel
theorem dX6_readName_59 : decode cX6_readName 59 = .ok (.iastore, 1) := by decide +kernel
theorem dX6_readName_60 : decode cX6_readName 60 = .ok (.aload_n 0, 1) := by decide +kernel
theorem dX6_readName_61 : decode cX6_readName 61 = .ok (.dup, 1) := by decide +kernel
theorem dX6_readName_62 : decode cX6_readName 62 = .ok (.getfield 68, 3) := by decide +kernel
theorem dX6_readName_65 : decode cX6_readName 65 = .ok (.iconst 1, 1) := by decide +kernel
theorem dX6_readName_66 : decode cX6_readName 66 = .ok (.iadd, 1) := by decide +kernel
theorem dX6_readName_67 : decode cX6_readName 67 = .ok (.putfield 68, 3) := by decide +kernel
theorem dX6_readName_70 : decode cX6_readName 70 = .ok (.iload_n 1, 1) := by decide +kernel
theorem dX6_readName_71 : decode cX6_readName 71 = .ok (.ireturn, 1) := by decide +kernel
theorem dX6_readNumber_0 : decode cX6_readNumber 0 = .ok (.aload_n 0, 1) := by decide +kernel
theorem dX6_readNumber_1 : decode cX6_readNumber 1 = .ok (.getfield 68, 3) := by decide +kernel
theorem dX6_readNumber_4 : decode cX6_readNumber 4 = .ok (.istore_n 2, 1) := by decide +kernel
theorem dX6_readNumber_5 : decode cX6_readNumber 5 = .ok (.aload_n 0, 1) := by decide +kernel
theorem dX6_readNumber_6 : decode cX6_readNumber 6 = .ok (.invokevirtual 78, 3) := by decide +kernel
theorem dX6_readNumber_9 : decode cX6_readNumber 9 = .ok (.invokestatic 230, 3) := by decide +kernel
theorem dX6_readNumber_12 : decode cX6_readNumber 12 = .ok (.ifCond .ne 14, 3) := by decide +kernel
theorem dX6_readNumber_15 : decode cX6_readNumber 15 = .ok (.aload_n 0, 1) := by decide +kernel
theorem dX6_readNumber_16 : decode cX6_readNumber 16 = .ok (.iconst 1, 1) := by decide +kernel
theorem dX6_readNumber_17 : decode cX6_readNumber 17 = .ok (.aload_n 0, 1) := by decide +kernel
theorem dX6_readNumber_18 : decode cX6_readNumber 18 = .ok (.getfield 68, 3) := by decide +kernel
theorem dX6_readNumber_21 : decode cX6_readNumber 21 = .ok (.invokevirtual 88, 3) := by decide +kernel
theorem dX6_readNumber_24 : decode cX6_readNumber 24 = .ok (.iconst 0, 1) := by decide +kernel
theorem dX6_readNumber_25 : decode cX6_readNumber 25 = .ok (.ireturn, 1) := by decide +kernel
theorem dX6_readNumber_26 : decode cX6_readNumber 26 = .ok (.aload_n 0, 1) := by decide +kernel
theorem dX6_readNumber_27 : decode cX6_readNumber 27 = .ok (.invokevirtual 78, 3) := by decide +kernel
theorem dX6_readNumber_30 : decode cX6_readNumber 30 = .ok (.bipush 48, 2) := by decide +kernel
theorem dX6_readNumber_32 : decode cX6_readNumber 32 = .ok (.isub, 1) := by decide +kernel
theorem dX6_readNumber_33 : decode cX6_readNumber 33 = .ok (.istore_n 3, 1) := by decide +kernel
theorem dX6_readNumber_34 : decode cX6_readNumber 34 = .ok (.aload_n 0, 1) := by decide +kernel
theorem dX6_readNumber_35 : decode cX6_readNumber 35 = .ok (.dup, 1) := by decide +kernel
theorem dX6_readNumber_36 : decode cX6_readNumber 36 = .ok (.getfield 68, 3) := by decide +kernel
theorem dX6_readNumber_39 : decode cX6_readNumber 39 = .ok (.iconst 1, 1) := by decide +kernel
theorem dX6_readNumber_40 : decode cX6_readNumber 40 = .ok (.iadd, 1) := by decide +kernel
theorem dX6_readNumber_41 : decode cX6_readNumber 41 = .ok (.putfield 68, 3) := by decide +kernel
theorem dX6_readNumber_44 : decode cX6_readNumber 44 = .ok (.aload_n 0, 1) := by decide +kernel
theorem dX6_readNumber_45 : decode cX6_readNumber 45 = .ok (.invokevirtual 78, 3) := by decide +kernel
theorem dX6_readNumber_48 : decode cX6_readNumber 48 = .ok (.invokestatic 230, 3) := by decide +kernel
theorem dX6_readNumber_51 : decode cX6_readNumber 51 = .ok (.ifCond .eq 26, 3) := by decide +kernel
theorem dX6_readNumber_54 : decode cX6_readNumber 54 = .ok (.iload_n 3, 1) := by decide +kernel
theorem dX6_readNumber_55 : decode cX6_readNumber 55 = .ok (.bipush 10, 2) := by decide +kernel
theorem dX6_readNumber_57 : decode cX6_readNumber 57 = .ok (.imul, 1) := by decide +kernel
theorem dX6_readNumber_58 : decode cX6_readNumber 58 = .ok (.aload_n 0, 1) := by decide +kernel
theorem dX6_readNumber_59 : decode cX6_readNumber 59 = .ok (.invokevirtual 78, 3) := by decide +kernel
theorem dX6_readNumber_62 : decode cX6_readNumber 62 = .ok (.iadd, 1) := by decide +kernel
theorem dX6_readNumber_63 : decode cX6_readNumber 63 = .ok (.bipush 48, 2) := by decide +kernel
theorem dX6_readNumber_65 : decode cX6_readNumber 65 = .ok (.isub, 1) := by decide +kernel
theorem dX6_readNumber_66 : decode cX6_readNumber 66 = .ok (.istore_n 3, 1) := by decide +kernel
theorem dX6_readNumber_67 : decode cX6_readNumber 67 = .ok (.aload_n 0, 1) := by decide +kernel
theorem dX6_readNumber_68 : decode cX6_readNumber 68 = .ok (.dup, 1) := by decide +kernel
theorem dX6_readNumber_69 : decode cX6_readNumber 69 = .ok (.getfield 68, 3) := by decide +kernel
theorem dX6_readNumber_72 : decode cX6_readNumber 72 = .ok (.iconst 1, 1) := by decide +kernel
theorem dX6_readNumber_73 : decode cX6_readNumber 73 = .ok (.iadd, 1) := by decide +kernel
theorem dX6_readNumber_74 : decode cX6_readNumber 74 = .ok (.putfield 68, 3) := by decide +kernel
theorem dX6_readNumber_77 : decode cX6_readNumber 77 = .ok (.iload_n 3, 1) := by decide +kernel
theorem dX6_readNumber_78 : decode cX6_readNumber 78 = .ok (.bipush 20, 2) := by decide +kernel
theorem dX6_readNumber_80 : decode cX6_readNumber 80 = .ok (.if_icmp .gt 8, 3) := by decide +kernel
theorem dX6_readNumber_83 : decode cX6_readNumber 83 = .ok (.iload_n 3, 1) := by decide +kernel
theorem dX6_readNumber_84 : decode cX6_readNumber 84 = .ok (.iload_n 1, 1) := by decide +kernel
theorem dX6_readNumber_85 : decode cX6_readNumber 85 = .ok (.if_icmp .ge 9, 3) := by decide +kernel
theorem dX6_readNumber_88 : decode cX6_readNumber 88 = .ok (.aload_n 0, 1) := by decide +kernel
theorem dX6_readNumber_89 : decode cX6_readNumber 89 = .ok (.iconst 3, 1) := by decide +kernel
theorem dX6_readNumber_90 : decode cX6_readNumber 90 = .ok (.iload_n 2, 1) := by decide +kernel
theorem dX6_readNumber_91 : decode cX6_readNumber 91 = .ok (.invokevirtual 88, 3) := by decide +kernel
theorem dX6_readNumber_94 : decode cX6_readNumber 94 = .ok (.iload_n 3, 1) := by decide +kernel
theorem dX6_readNumber_95 : decode cX6_readNumber 95 = .ok (.ireturn, 1) := by decide +kernel
theorem dX6_readPart_0 : decode cX6_readPart 0 = .ok (.aload_n 0, 1) := by decide +kernel
theorem dX6_readPart_1 : decode cX6_readPart 1 = .ok (.invokevirtual 270, 3) := by decide +kernel
theorem dX6_readPart_4 : decode cX6_readPart 4 = .ok (.istore_n 1, 1) := by decide +kernel
theorem dX6_readPart_5 : decode cX6_readPart 5 = .ok (.iload_n 1, 1) := by decide +kernel
theorem dX6_readPart_6 : decode cX6_readPart 6 = .ok (.istore_n 2, 1) := by decide +kernel
theorem dX6_readPart_7 : decode cX6_readPart 7 = .ok (.aload_n 0, 1) := by decide +kernel
theorem dX6_readPart_8 : decode cX6_readPart 8 = .ok (.getfield 75, 3) := by decide +kernel
theorem dX6_readPart_11 : decode cX6_readPart 11 = .ok (.ifCond .ne 43, 3) := by decide +kernel
theorem dX6_readPart_14 : decode cX6_readPart 14 = .ok (.aload_n 0, 1) := by decide +kernel
theorem dX6_readPart_15 : decode cX6_readPart 15 = .ok (.invokevirtual 78, 3) := by decide +kernel
theorem dX6_readPart_18 : decode cX6_readPart 18 = .ok (.bipush 45, 2) := by decide +kernel
