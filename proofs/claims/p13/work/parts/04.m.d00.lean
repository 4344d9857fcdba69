theorem dX12_addNode_0 : decode cX12_addNode 0 = .ok (.aload_n 0, 1) := by decide +kernel
theorem dX12_addNode_1 : decode cX12_addNode 1 = .ok (.getfield 131, 3) := by decide +kernel
theorem dX12_addNode_4 : decode cX12_addNode 4 = .ok (.aload_n 0, 1) := by decide +kernel
theorem dX12_addNode_5 : decode cX12_addNode 5 = .ok (.getfield 329, 3) := by decide +kernel
theorem dX12_addNode_8 : decode cX12_addNode 8 = .ok (.iaload, 1) := by decide +kernel
theorem dX12_addNode_9 : decode cX12_addNode 9 = .ok (.ifCond .ne 16, 3) := by decide +kernel
theorem dX12_addNode_12 : decode cX12_addNode 12 = .ok (.aload_n 0, 1) := by decide +kernel
theorem dX12_addNode_13 : decode cX12_addNode 13 = .ok (.getfield 125, 3) := by decide +kernel
theorem dX12_addNode_16 : decode cX12_addNode 16 = .ok (.aload_n 0, 1) := by decide +kernel
theorem dX12_addNode_17 : decode cX12_addNode 17 = .ok (.getfield 329, 3) := by decide +kernel
theorem dX12_addNode_20 : decode cX12_addNode 20 = .ok (.iload_n 1, 1) := by decide +kernel
theorem dX12_addNode_21 : decode cX12_addNode 21 = .ok (.iastore, 1) := by decide +kernel
theorem dX12_addNode_22 : decode cX12_addNode 22 = .ok (.goto 18, 3) := by decide +kernel
theorem dX12_addNode_25 : decode cX12_addNode 25 = .ok (.aload_n 0, 1) := by decide +kernel
theorem dX12_addNode_26 : decode cX12_addNode 26 = .ok (.getfield 101, 3) := by decide +kernel
theorem dX12_addNode_29 : decode cX12_addNode 29 = .ok (.aload_n 0, 1) := by decide +kernel
theorem dX12_addNode_30 : decode cX12_addNode 30 = .ok (.getfield 128, 3) := by decide +kernel
theorem dX12_addNode_33 : decode cX12_addNode 33 = .ok (.aload_n 0, 1) := by decide +kernel
theorem dX12_addNode_34 : decode cX12_addNode 34 = .ok (.getfield 329, 3) := by decide +kernel
theorem dX12_addNode_37 : decode cX12_addNode 37 = .ok (.iaload, 1) := by decide +kernel
theorem dX12_addNode_38 : decode cX12_addNode 38 = .ok (.iload_n 1, 1) := by decide +kernel
theorem dX12_addNode_39 : decode cX12_addNode 39 = .ok (.iastore, 1) := by decide +kernel
theorem dX12_addNode_40 : decode cX12_addNode 40 = .ok (.aload_n 0, 1) := by decide +kernel
theorem dX12_addNode_41 : decode cX12_addNode 41 = .ok (.getfield 128, 3) := by decide +kernel
theorem dX12_addNode_44 : decode cX12_addNode 44 = .ok (.aload_n 0, 1) := by decide +kernel
theorem dX12_addNode_45 : decode cX12_addNode 45 = .ok (.getfield 329, 3) := by decide +kernel
theorem dX12_addNode_48 : decode cX12_addNode 48 = .ok (.iload_n 1, 1) := by decide +kernel
theorem dX12_addNode_49 : decode cX12_addNode 49 = .ok (.iastore, 1) := by decide +kernel
theorem dX12_addNode_50 : decode cX12_addNode 50 = .ok (.aload_n 0, 1) := by decide +kernel
theorem dX12_addNode_51 : decode cX12_addNode 51 = .ok (.getfield 131, 3) := by decide +kernel
theorem dX12_addNode_54 : decode cX12_addNode 54 = .ok (.aload_n 0, 1) := by decide +kernel
theorem dX12_addNode_55 : decode cX12_addNode 55 = .ok (.getfield 329, 3) := by decide +kernel
theorem dX12_addNode_58 : decode cX12_addNode 58 = .ok (.dup2, 1) := by decide +kernel
theorem dX12_addNode_59 : decode cX12_addNode 59 = .ok (.iaload, 1) := by decide +kernel
theorem dX12_addNode_60 : decode cX12_addNode 60 = .ok (.iconst 1, 1) := by decide +kernel
theorem dX12_addNode_61 : decode cX12_addNode 61 = .ok (.iadd, 1) := by decide +kernel
theorem dX12_addNode_62 : decode cX12_addNode 62 = .ok (.iastore, 1) := by decide +kernel
theorem dX12_addNode_63 : decode cX12_addNode 63 = .ok (.return_, 1) := by decide +kernel
theorem dX12_addPart_0 : decode cX12_addPart 0 = .ok (.aload_n 0, 1) := by decide +kernel
theorem dX12_addPart_1 : decode cX12_addPart 1 = .ok (.getfield 110, 3) := by decide +kernel
theorem dX12_addPart_4 : decode cX12_addPart 4 = .ok (.aload_n 0, 1) := by decide +kernel
theorem dX12_addPart_5 : decode cX12_addPart 5 = .ok (.getfield 396, 3) := by decide +kernel
theorem dX12_addPart_8 : decode cX12_addPart 8 = .ok (.iload_n 1, 1) := by decide +kernel
theorem dX12_addPart_9 : decode cX12_addPart 9 = .ok (.iastore, 1) := by decide +kernel
theorem dX12_addPart_10 : decode cX12_addPart 10 = .ok (.aload_n 0, 1) := by decide +kernel
theorem dX12_addPart_11 : decode cX12_addPart 11 = .ok (.getfield 113, 3) := by decide +kernel
theorem dX12_addPart_14 : decode cX12_addPart 14 = .ok (.aload_n 0, 1) := by decide +kernel
theorem dX12_addPart_15 : decode cX12_addPart 15 = .ok (.getfield 396, 3) := by decide +kernel
theorem dX12_addPart_18 : decode cX12_addPart 18 = .ok (.iload_n 2, 1) := by decide +kernel
theorem dX12_addPart_19 : decode cX12_addPart 19 = .ok (.iastore, 1) := by decide +kernel
theorem dX12_addPart_20 : decode cX12_addPart 20 = .ok (.aload_n 0, 1) := by decide +kernel
theorem dX12_addPart_21 : decode cX12_addPart 21 = .ok (.dup, 1) := by decide +kernel
theorem dX12_addPart_22 : decode cX12_addPart 22 = .ok (.getfield 396, 3) := by decide +kernel
theorem dX12_addPart_25 : decode cX12_addPart 25 = .ok (.iconst 1, 1) := by decide +kernel
theorem dX12_addPart_26 : decode cX12_addPart 26 = .ok (.iadd, 1) := by decide +kernel
theorem dX12_addPart_27 : decode cX12_addPart 27 = .ok (.putfield 396, 3) := by decide +kernel
theorem dX12_addPart_30 : decode cX12_addPart 30 = .ok (.return_, 1) := by decide +kernel
theorem dX12_all_0 : decode cX12_all 0 = .ok (.aload_n 0, 1) := by decide +kernel
theorem dX12_all_1 : decode cX12_all 1 = .ok (.iconst 0, 1) := by decide +kernel
theorem dX12_all_2 : decode cX12_all 2 = .ok (.putfield 1, 3) := by decide +kernel
theorem dX12_all_5 : decode cX12_all 5 = .ok (.aload_n 0, 1) := by decide +kernel
theorem dX12_all_6 : decode cX12_all 6 = .ok (.iload_n 1, 1) := by decide +kernel
theorem dX12_all_7 : decode cX12_all 7 = .ok (.iload_n 2, 1) := by decide +kernel
theorem dX12_all_8 : decode cX12_all 8 = .ok (.invokevirtual 687, 3) := by decide +kernel
theorem dX12_all_11 : decode cX12_all 11 = .ok (.istore 4, 2) := by decide +kernel
theorem dX12_all_13 : decode cX12_all 13 = .ok (.iload 4, 2) := by decide +kernel
theorem dX12_all_15 : decode cX12_all 15 = .ok (.ifCond .ne 17, 3) := by decide +kernel
theorem dX12_all_18 : decode cX12_all 18 = .ok (.iload_n 3, 1) := by decide +kernel
theorem dX12_all_19 : decode cX12_all 19 = .ok (.iconst 0, 1) := by decide +kernel
theorem dX12_all_20 : decode cX12_all 20 = .ok (.iconst 2, 1) := by decide +kernel
theorem dX12_all_21 : decode cX12_all 21 = .ok (.invokestatic 7, 3) := by decide +kernel
theorem dX12_all_24 : decode cX12_all 24 = .ok (.ifCond .ne 8, 3) := by decide +kernel
theorem dX12_all_27 : decode cX12_all 27 = .ok (.bipush (-4), 2) := by decide +kernel
theorem dX12_all_29 : decode cX12_all 29 = .ok (.goto 5, 3) := by decide +kernel
theorem dX12_all_32 : decode cX12_all 32 = .ok (.iload 4, 2) := by decide +kernel
theorem dX12_all_34 : decode cX12_all 34 = .ok (.istore 4, 2) := by decide +kernel
theorem dX12_all_36 : decode cX12_all 36 = .ok (.iload 4, 2) := by decide +kernel
theorem dX12_all_38 : decode cX12_all 38 = .ok (.ifCond .ne 12, 3) := by decide +kernel
theorem dX12_all_41 : decode cX12_all 41 = .ok (.aload_n 0, 1) := by decide +kernel
theorem dX12_all_42 : decode cX12_all 42 = .ok (.iload_n 1, 1) := by decide +kernel
theorem dX12_all_43 : decode cX12_all 43 = .ok (.iload_n 3, 1) := by decide +kernel
theorem dX12_all_44 : decode cX12_all 44 = .ok (.invokevirtual 690, 3) := by decide +kernel
theorem dX12_all_47 : decode cX12_all 47 = .ok (.goto 5, 3) := by decide +kernel
theorem dX12_all_50 : decode cX12_all 50 = .ok (.iload 4, 2) := by decide +kernel
theorem dX12_all_52 : decode cX12_all 52 = .ok (.istore 4, 2) := by decide +kernel
theorem dX12_all_54 : decode cX12_all 54 = .ok (.iload 4, 2) := by decide +kernel
theorem dX12_all_56 : decode cX12_all 56 = .ok (.ifCond .ne 13, 3) := by decide +kernel
theorem dX12_all_59 : decode cX12_all 59 = .ok (.aload_n 0, 1) := by decide +kernel
theorem dX12_all_60 : decode cX12_all 60 = .ok (.iload_n 1, 1) := by decide +kernel
theorem dX12_all_61 : decode cX12_all 61 = .ok (.iload_n 2, 1) := by decide +kernel
theorem dX12_all_62 : decode cX12_all 62 = .ok (.iload_n 3, 1) := by decide +kernel
theorem dX12_all_63 : decode cX12_all 63 = .ok (.invokevirtual 699, 3) := by decide +kernel
theorem dX12_all_66 : decode cX12_all 66 = .ok (.goto 5, 3) := by decide +kernel
theorem dX12_all_69 : decode cX12_all 69 = .ok (.iload 4, 2) := by decide +kernel
theorem dX12_all_71 : decode cX12_all 71 = .ok (.istore 4, 2) := by decide +kernel
theorem dX12_all_73 : decode cX12_all 73 = .ok (.iload 4, 2) := by decide +kernel
theorem dX12_all_75 : decode cX12_all 75 = .ok (.ifCond .eq 6, 3) := by decide +kernel
theorem dX12_all_78 : decode cX12_all 78 = .ok (.iload 4, 2) := by decide +kernel
theorem dX12_all_80 : decode cX12_all 80 = .ok (.ireturn, 1) := by decide +kernel
theorem dX12_all_81 : decode cX12_all 81 = .ok (.aload_n 0, 1) := by decide +kernel
theorem dX12_all_82 : decode cX12_all 82 = .ok (.iconst 2, 1) := by decide +kernel
theorem dX12_all_83 : decode cX12_all 83 = .ok (.aload_n 0, 1) := by decide +kernel
theorem dX12_all_84 : decode cX12_all 84 = .ok (.getfield 696, 3) := by decide +kernel
theorem dX12_all_87 : decode cX12_all 87 = .ok (.imul, 1) := by decide +kernel
theorem dX12_all_88 : decode cX12_all 88 = .ok (.putfield 502, 3) := by decide +kernel
theorem dX12_all_91 : decode cX12_all 91 = .ok (.aload_n 0, 1) := by decide +kernel
theorem dX12_all_92 : decode cX12_all 92 = .ok (.iconst 1, 1) := by decide +kernel
theorem dX12_all_93 : decode cX12_all 93 = .ok (.putfield 505, 3) := by decide +kernel
theorem dX12_all_96 : decode cX12_all 96 = .ok (.iconst 0, 1) := by decide +kernel
theorem dX12_all_97 : decode cX12_all 97 = .ok (.istore 5, 2) := by decide +kernel
theorem dX12_all_99 : decode cX12_all 99 = .ok (.iload 5, 2) := by decide +kernel
theorem dX12_all_101 : decode cX12_all 101 = .ok (.aload_n 0, 1) := by decide +kernel
theorem dX12_all_102 : decode cX12_all 102 = .ok (.getfield 696, 3) := by decide +kernel
theorem dX12_all_105 : decode cX12_all 105 = .ok (.if_icmp .ge 51, 3) := by decide +kernel
theorem dX12_all_108 : decode cX12_all 108 = .ok (.aload_n 0, 1) := by decide +kernel
theorem dX12_all_109 : decode cX12_all 109 = .ok (.getfield 155, 3) := by decide +kernel
theorem dX12_all_112 : decode cX12_all 112 = .ok (.iconst 2, 1) := by decide +kernel
theorem dX12_all_113 : decode cX12_all 113 = .ok (.iload 5, 2) := by decide +kernel
theorem dX12_all_115 : decode cX12_all 115 = .ok (.imul, 1) := by decide +kernel
theorem dX12_all_116 : decode cX12_all 116 = .ok (.aload_n 0, 1) := by decide +kernel
theorem dX12_all_117 : decode cX12_all 117 = .ok (.getfield 237, 3) := by decide +kernel
theorem dX12_all_120 : decode cX12_all 120 = .ok (.bipush 20, 2) := by decide +kernel
theorem dX12_all_122 : decode cX12_all 122 = .ok (.iload 5, 2) := by decide +kernel
theorem dX12_all_124 : decode cX12_all 124 = .ok (.imul, 1) := by decide +kernel
theorem dX12_all_125 : decode cX12_all 125 = .ok (.iaload, 1) := by decide +kernel
theorem dX12_all_126 : decode cX12_all 126 = .ok (.iastore, 1) := by decide +kernel
theorem dX12_all_127 : decode cX12_all 127 = .ok (.aload_n 0, 1) := by decide +kernel
theorem dX12_all_128 : decode cX12_all 128 = .ok (.getfield 155, 3) := by decide +kernel
theorem dX12_all_131 : decode cX12_all 131 = .ok (.iconst 2, 1) := by decide +kernel
theorem dX12_all_132 : decode cX12_all 132 = .ok (.iload 5, 2) := by decide +kernel
theorem dX12_all_134 : decode cX12_all 134 = .ok (.imul, 1) := by decide +kernel
theorem dX12_all_135 : decode cX12_all 135 = .ok (.iconst 1, 1) := by decide +kernel
theorem dX12_all_136 : decode cX12_all 136 = .ok (.iadd, 1) := by decide +kernel
theorem dX12_all_137 : decode cX12_all 137 = .ok (.aload_n 0, 1) := by decide +kernel
theorem dX12_all_138 : decode cX12_all 138 = .ok (.getfield 237, 3) := by decide +kernel
theorem dX12_all_141 : decode cX12_all 141 = .ok (.bipush 20, 2) := by decide +kernel
theorem dX12_all_143 : decode cX12_all 143 = .ok (.iload 5, 2) := by decide +kernel
theorem dX12_all_145 : decode cX12_all 145 = .ok (.imul, 1) := by decide +kernel
theorem dX12_all_146 : decode cX12_all 146 = .ok (.iconst 1, 1) := by decide +kernel
theorem dX12_all_147 : decode cX12_all 147 = .ok (.iadd, 1) := by decide +kernel
theorem dX12_all_148 : decode cX12_all 148 = .ok (.iaload, 1) := by decide +kernel
theorem dX12_all_149 : decode cX12_all 149 = .ok (.iastore, 1) := by decide +kernel
theorem dX12_all_150 : decode cX12_all 150 = .ok (.iinc 5 1, 3) := by decide +kernel
theorem dX12_all_153 : decode cX12_all 153 = .ok (.goto (-54), 3) := by decide +kernel
theorem dX12_all_156 : decode cX12_all 156 = .ok (.aload_n 0, 1) := by decide +kernel
theorem dX12_all_157 : decode cX12_all 157 = .ok (.getfield 696, 3) := by decide +kernel
theorem dX12_all_160 : decode cX12_all 160 = .ok (.ireturn, 1) := by decide +kernel
theorem dX12_bars_0 : decode cX12_bars 0 = .ok (.aload_n 0, 1) := by decide +kernel
theorem dX12_bars_1 : decode cX12_bars 1 = .ok (.iload_n 1, 1) := by decide +kernel
theorem dX12_bars_2 : decode cX12_bars 2 = .ok (.iload_n 2, 1) := by decide +kernel
theorem dX12_bars_3 : decode cX12_bars 3 = .ok (.invokevirtual 658, 3) := by decide +kernel
theorem dX12_bars_6 : decode cX12_bars 6 = .ok (.istore_n 3, 1) := by decide +kernel
theorem dX12_bars_7 : decode cX12_bars 7 = .ok (.iload_n 3, 1) := by decide +kernel
theorem dX12_bars_8 : decode cX12_bars 8 = .ok (.ifCond .eq 7, 3) := by decide +kernel
theorem dX12_bars_11 : decode cX12_bars 11 = .ok (.iload_n 3, 1) := by decide +kernel
theorem dX12_bars_12 : decode cX12_bars 12 = .ok (.goto 9, 3) := by decide +kernel
theorem dX12_bars_15 : decode cX12_bars 15 = .ok (.aload_n 0, 1) := by decide +kernel
theorem dX12_bars_16 : decode cX12_bars 16 = .ok (.iload_n 1, 1) := by decide +kernel
theorem dX12_bars_17 : decode cX12_bars 17 = .ok (.iload_n 2, 1) := by decide +kernel
theorem dX12_bars_18 : decode cX12_bars 18 = .ok (.invokevirtual 661, 3) := by decide +kernel
theorem dX12_bars_21 : decode cX12_bars 21 = .ok (.ireturn, 1) := by decide +kernel
theorem dX12_beginGroup_0 : decode cX12_beginGroup 0 = .ok (.aload_n 0, 1) := by decide +kernel
theorem dX12_beginGroup_1 : decode cX12_beginGroup 1 = .ok (.getfield 119, 3) := by decide +kernel
theorem dX12_beginGroup_4 : decode cX12_beginGroup 4 = .ok (.aload_n 0, 1) := by decide +kernel
theorem dX12_beginGroup_5 : decode cX12_beginGroup 5 = .ok (.getfield 329, 3) := by decide +kernel
theorem dX12_beginGroup_8 : decode cX12_beginGroup 8 = .ok (.iload_n 1, 1) := by decide +kernel
theorem dX12_beginGroup_9 : decode cX12_beginGroup 9 = .ok (.iastore, 1) := by decide +kernel
theorem dX12_beginGroup_10 : decode cX12_beginGroup 10 = .ok (.aload_n 0, 1) := by decide +kernel
theorem dX12_beginGroup_11 : decode cX12_beginGroup 11 = .ok (.getfield 122, 3) := by decide +kernel
theorem dX12_beginGroup_14 : decode cX12_beginGroup 14 = .ok (.aload_n 0, 1) := by decide +kernel
theorem dX12_beginGroup_15 : decode cX12_beginGroup 15 = .ok (.getfield 329, 3) := by decide +kernel
theorem dX12_beginGroup_18 : decode cX12_beginGroup 18 = .ok (.iload_n 2, 1) := by decide +kernel
theorem dX12_beginGroup_19 : decode cX12_beginGroup 19 = .ok (.iastore, 1) := by decide +kernel
theorem dX12_beginGroup_20 : decode cX12_beginGroup 20 = .ok (.aload_n 0, 1) := by decide +kernel
theorem dX12_beginGroup_21 : decode cX12_beginGroup 21 = .ok (.getfield 134, 3) := by decide +kernel
theorem dX12_beginGroup_24 : decode cX12_beginGroup 24 = .ok (.aload_n 0, 1) := by decide +kernel
theorem dX12_beginGroup_25 : decode cX12_beginGroup 25 = .ok (.getfield 329, 3) := by decide +kernel
theorem dX12_beginGroup_28 : decode cX12_beginGroup 28 = .ok (.iconst (-1), 1) := by decide +kernel
theorem dX12_beginGroup_29 : decode cX12_beginGroup 29 = .ok (.iastore, 1) := by decide +kernel
theorem dX12_beginGroup_30 : decode cX12_beginGroup 30 = .ok (.aload_n 0, 1) := by decide +kernel
theorem dX12_beginGroup_31 : decode cX12_beginGroup 31 = .ok (.getfield 137, 3) := by decide +kernel
theorem dX12_beginGroup_34 : decode cX12_beginGroup 34 = .ok (.aload_n 0, 1) := by decide +kernel
theorem dX12_beginGroup_35 : decode cX12_beginGroup 35 = .ok (.getfield 329, 3) := by decide +kernel
theorem dX12_beginGroup_38 : decode cX12_beginGroup 38 = .ok (.iconst (-1), 1) := by decide +kernel
theorem dX12_beginGroup_39 : decode cX12_beginGroup 39 = .ok (.iastore, 1) := by decide +kernel
theorem dX12_beginGroup_40 : decode cX12_beginGroup 40 = .ok (.aload_n 0, 1) := by decide +kernel
theorem dX12_beginGroup_41 : decode cX12_beginGroup 41 = .ok (.getfield 140, 3) := by decide +kernel
theorem dX12_beginGroup_44 : decode cX12_beginGroup 44 = .ok (.aload_n 0, 1) := by decide +kernel
theorem dX12_beginGroup_45 : decode cX12_beginGroup 45 = .ok (.getfield 329, 3) := by decide +kernel
theorem dX12_beginGroup_48 : decode cX12_beginGroup 48 = .ok (.iconst 0, 1) := by decide +kernel
theorem dX12_beginGroup_49 : decode cX12_beginGroup 49 = .ok (.iastore, 1) := by decide +kernel
theorem dX12_beginGroup_50 : decode cX12_beginGroup 50 = .ok (.aload_n 0, 1) := by decide +kernel
theorem dX12_beginGroup_51 : decode cX12_beginGroup 51 = .ok (.invokevirtual 332, 3) := by decide +kernel
theorem dX12_beginGroup_54 : decode cX12_beginGroup 54 = .ok (.return_, 1) := by decide +kernel
theorem dX12_beginLook_0 : decode cX12_beginLook 0 = .ok (.aload_n 0, 1) := by decide +kernel
theorem dX12_beginLook_1 : decode cX12_beginLook 1 = .ok (.invokevirtual 610, 3) := by decide +kernel
theorem dX12_beginLook_4 : decode cX12_beginLook 4 = .ok (.ifCond .ne 4, 3) := by decide +kernel
theorem dX12_beginLook_7 : decode cX12_beginLook 7 = .ok (.return_, 1) := by decide +kernel
theorem dX12_beginLook_8 : decode cX12_beginLook 8 = .ok (.aload_n 0, 1) := by decide +kernel
theorem dX12_beginLook_9 : decode cX12_beginLook 9 = .ok (.sipush 470, 3) := by decide +kernel
theorem dX12_beginLook_12 : decode cX12_beginLook 12 = .ok (.iload_n 1, 1) := by decide +kernel
theorem dX12_beginLook_13 : decode cX12_beginLook 13 = .ok (.iadd, 1) := by decide +kernel
theorem dX12_beginLook_14 : decode cX12_beginLook 14 = .ok (.aload_n 0, 1) := by decide +kernel
theorem dX12_beginLook_15 : decode cX12_beginLook 15 = .ok (.getfield 580, 3) := by decide +kernel
theorem dX12_beginLook_18 : decode cX12_beginLook 18 = .ok (.invokevirtual 614, 3) := by decide +kernel
theorem dX12_beginLook_21 : decode cX12_beginLook 21 = .ok (.aload_n 0, 1) := by decide +kernel
theorem dX12_beginLook_22 : decode cX12_beginLook 22 = .ok (.sipush 690, 3) := by decide +kernel
theorem dX12_beginLook_25 : decode cX12_beginLook 25 = .ok (.iload_n 1, 1) := by decide +kernel
theorem dX12_beginLook_26 : decode cX12_beginLook 26 = .ok (.iadd, 1) := by decide +kernel
theorem dX12_beginLook_27 : decode cX12_beginLook 27 = .ok (.aload_n 0, 1) := by decide +kernel
theorem dX12_beginLook_28 : decode cX12_beginLook 28 = .ok (.getfield 604, 3) := by decide +kernel
theorem dX12_beginLook_31 : decode cX12_beginLook 31 = .ok (.invokevirtual 614, 3) := by decide +kernel
theorem dX12_beginLook_34 : decode cX12_beginLook 34 = .ok (.iload_n 2, 1) := by decide +kernel
theorem dX12_beginLook_35 : decode cX12_beginLook 35 = .ok (.iconst (-1), 1) := by decide +kernel
theorem dX12_beginLook_36 : decode cX12_beginLook 36 = .ok (.if_icmp .eq 18, 3) := by decide +kernel
theorem dX12_beginLook_39 : decode cX12_beginLook 39 = .ok (.aload_n 0, 1) := by decide +kernel
theorem dX12_beginLook_40 : decode cX12_beginLook 40 = .ok (.iconst 0, 1) := by decide +kernel
theorem dX12_beginLook_41 : decode cX12_beginLook 41 = .ok (.aload_n 0, 1) := by decide +kernel
theorem dX12_beginLook_42 : decode cX12_beginLook 42 = .ok (.getfield 189, 3) := by decide +kernel
theorem dX12_beginLook_45 : decode cX12_beginLook 45 = .ok (.iload_n 2, 1) := by decide +kernel
theorem dX12_beginLook_46 : decode cX12_beginLook 46 = .ok (.iaload, 1) := by decide +kernel
theorem dX12_beginLook_47 : decode cX12_beginLook 47 = .ok (.aload_n 0, 1) := by decide +kernel
theorem dX12_beginLook_48 : decode cX12_beginLook 48 = .ok (.getfield 604, 3) := by decide +kernel
theorem dX12_beginLook_51 : decode cX12_beginLook 51 = .ok (.invokevirtual 620, 3) := by decide +kernel
theorem dX12_beginLook_54 : decode cX12_beginLook 54 = .ok (.iload_n 3, 1) := by decide +kernel
theorem dX12_beginLook_55 : decode cX12_beginLook 55 = .ok (.ifCond .eq 15, 3) := by decide +kernel
theorem dX12_beginLook_58 : decode cX12_beginLook 58 = .ok (.aload_n 0, 1) := by decide +kernel
theorem dX12_beginLook_59 : decode cX12_beginLook 59 = .ok (.iload_n 1, 1) := by decide +kernel
theorem dX12_beginLook_60 : decode cX12_beginLook 60 = .ok (.aload_n 0, 1) := by decide +kernel
theorem dX12_beginLook_61 : decode cX12_beginLook 61 = .ok (.getfield 604, 3) := by decide +kernel
theorem dX12_beginLook_64 : decode cX12_beginLook 64 = .ok (.invokevirtual 626, 3) := by decide +kernel
theorem dX12_beginLook_67 : decode cX12_beginLook 67 = .ok (.goto 13, 3) := by decide +kernel
theorem dX12_beginLook_70 : decode cX12_beginLook 70 = .ok (.aload_n 0, 1) := by decide +kernel
theorem dX12_beginLook_71 : decode cX12_beginLook 71 = .ok (.dup, 1) := by decide +kernel
theorem dX12_beginLook_72 : decode cX12_beginLook 72 = .ok (.getfield 617, 3) := by decide +kernel
theorem dX12_beginLook_75 : decode cX12_beginLook 75 = .ok (.iconst 1, 1) := by decide +kernel
theorem dX12_beginLook_76 : decode cX12_beginLook 76 = .ok (.iadd, 1) := by decide +kernel
theorem dX12_beginLook_77 : decode cX12_beginLook 77 = .ok (.putfield 617, 3) := by decide +kernel
theorem dX12_beginLook_80 : decode cX12_beginLook 80 = .ok (.return_, 1) := by decide +kernel
theorem dX12_beginRow_0 : decode cX12_beginRow 0 = .ok (.aload_n 0, 1) := by decide +kernel
theorem dX12_beginRow_1 : decode cX12_beginRow 1 = .ok (.getfield 125, 3) := by decide +kernel
theorem dX12_beginRow_4 : decode cX12_beginRow 4 = .ok (.aload_n 0, 1) := by decide +kernel
theorem dX12_beginRow_5 : decode cX12_beginRow 5 = .ok (.getfield 329, 3) := by decide +kernel
theorem dX12_beginRow_8 : decode cX12_beginRow 8 = .ok (.iconst (-1), 1) := by decide +kernel
theorem dX12_beginRow_9 : decode cX12_beginRow 9 = .ok (.iastore, 1) := by decide +kernel
theorem dX12_beginRow_10 : decode cX12_beginRow 10 = .ok (.aload_n 0, 1) := by decide +kernel
theorem dX12_beginRow_11 : decode cX12_beginRow 11 = .ok (.getfield 128, 3) := by decide +kernel
theorem dX12_beginRow_14 : decode cX12_beginRow 14 = .ok (.aload_n 0, 1) := by decide +kernel
theorem dX12_beginRow_15 : decode cX12_beginRow 15 = .ok (.getfield 329, 3) := by decide +kernel
theorem dX12_beginRow_18 : decode cX12_beginRow 18 = .ok (.iconst (-1), 1) := by decide +kernel
theorem dX12_beginRow_19 : decode cX12_beginRow 19 = .ok (.iastore, 1) := by decide +kernel
theorem dX12_beginRow_20 : decode cX12_beginRow 20 = .ok (.aload_n 0, 1) := by decide +kernel
theorem dX12_beginRow_21 : decode cX12_beginRow 21 = .ok (.getfield 131, 3) := by decide +kernel
theorem dX12_beginRow_24 : decode cX12_beginRow 24 = .ok (.aload_n 0, 1) := by decide +kernel
theorem dX12_beginRow_25 : decode cX12_beginRow 25 = .ok (.getfield 329, 3) := by decide +kernel
theorem dX12_beginRow_28 : decode cX12_beginRow 28 = .ok (.iconst 0, 1) := by decide +kernel
theorem dX12_beginRow_29 : decode cX12_beginRow 29 = .ok (.iastore, 1) := by decide +kernel
theorem dX12_beginRow_30 : decode cX12_beginRow 30 = .ok (.return_, 1) := by decide +kernel
theorem dX12_beginTurn_0 : decode cX12_beginTurn 0 = .ok (.aload_n 0, 1) := by decide +kernel
theorem dX12_beginTurn_1 : decode cX12_beginTurn 1 = .ok (.invokevirtual 610, 3) := by decide +kernel
theorem dX12_beginTurn_4 : decode cX12_beginTurn 4 = .ok (.ifCond .eq 45, 3) := by decide +kernel
theorem dX12_beginTurn_7 : decode cX12_beginTurn 7 = .ok (.aload_n 0, 1) := by decide +kernel
theorem dX12_beginTurn_8 : decode cX12_beginTurn 8 = .ok (.bipush 30, 2) := by decide +kernel
theorem dX12_beginTurn_10 : decode cX12_beginTurn 10 = .ok (.iload_n 1, 1) := by decide +kernel
theorem dX12_beginTurn_11 : decode cX12_beginTurn 11 = .ok (.iadd, 1) := by decide +kernel
theorem dX12_beginTurn_12 : decode cX12_beginTurn 12 = .ok (.aload_n 0, 1) := by decide +kernel
theorem dX12_beginTurn_13 : decode cX12_beginTurn 13 = .ok (.getfield 204, 3) := by decide +kernel
theorem dX12_beginTurn_16 : decode cX12_beginTurn 16 = .ok (.bipush 30, 2) := by decide +kernel
theorem dX12_beginTurn_18 : decode cX12_beginTurn 18 = .ok (.iload_n 1, 1) := by decide +kernel
theorem dX12_beginTurn_19 : decode cX12_beginTurn 19 = .ok (.iadd, 1) := by decide +kernel
theorem dX12_beginTurn_20 : decode cX12_beginTurn 20 = .ok (.iaload, 1) := by decide +kernel
theorem dX12_beginTurn_21 : decode cX12_beginTurn 21 = .ok (.iconst 1, 1) := by decide +kernel
theorem dX12_beginTurn_22 : decode cX12_beginTurn 22 = .ok (.iadd, 1) := by decide +kernel
theorem dX12_beginTurn_23 : decode cX12_beginTurn 23 = .ok (.invokevirtual 614, 3) := by decide +kernel
theorem dX12_beginTurn_26 : decode cX12_beginTurn 26 = .ok (.aload_n 0, 1) := by decide +kernel
theorem dX12_beginTurn_27 : decode cX12_beginTurn 27 = .ok (.sipush 250, 3) := by decide +kernel
theorem dX12_beginTurn_30 : decode cX12_beginTurn 30 = .ok (.iload_n 1, 1) := by decide +kernel
theorem dX12_beginTurn_31 : decode cX12_beginTurn 31 = .ok (.iadd, 1) := by decide +kernel
theorem dX12_beginTurn_32 : decode cX12_beginTurn 32 = .ok (.aload_n 0, 1) := by decide +kernel
theorem dX12_beginTurn_33 : decode cX12_beginTurn 33 = .ok (.getfield 604, 3) := by decide +kernel
theorem dX12_beginTurn_36 : decode cX12_beginTurn 36 = .ok (.invokevirtual 614, 3) := by decide +kernel
theorem dX12_beginTurn_39 : decode cX12_beginTurn 39 = .ok (.aload_n 0, 1) := by decide +kernel
theorem dX12_beginTurn_40 : decode cX12_beginTurn 40 = .ok (.dup, 1) := by decide +kernel
theorem dX12_beginTurn_41 : decode cX12_beginTurn 41 = .ok (.getfield 617, 3) := by decide +kernel
theorem dX12_beginTurn_44 : decode cX12_beginTurn 44 = .ok (.iconst 1, 1) := by decide +kernel
theorem dX12_beginTurn_45 : decode cX12_beginTurn 45 = .ok (.iadd, 1) := by decide +kernel
theorem dX12_beginTurn_46 : decode cX12_beginTurn 46 = .ok (.putfield 617, 3) := by decide +kernel
theorem dX12_beginTurn_49 : decode cX12_beginTurn 49 = .ok (.return_, 1) := by decide +kernel
theorem dX12_begins_0 : decode cX12_begins 0 = .ok (.aload_n 0, 1) := by decide +kernel
theorem dX12_begins_1 : decode cX12_begins 1 = .ok (.iconst 0, 1) := by decide +kernel
theorem dX12_begins_2 : decode cX12_begins 2 = .ok (.putfield 1, 3) := by decide +kernel
theorem dX12_begins_5 : decode cX12_begins 5 = .ok (.aload_n 0, 1) := by decide +kernel
theorem dX12_begins_6 : decode cX12_begins 6 = .ok (.iload_n 1, 1) := by decide +kernel
theorem dX12_begins_7 : decode cX12_begins 7 = .ok (.invokevirtual 459, 3) := by decide +kernel
theorem dX12_begins_10 : decode cX12_begins 10 = .ok (.ifCond .eq 6, 3) := by decide +kernel
theorem dX12_begins_13 : decode cX12_begins 13 = .ok (.bipush (-2), 2) := by decide +kernel
theorem dX12_begins_15 : decode cX12_begins 15 = .ok (.ireturn, 1) := by decide +kernel
theorem dX12_begins_16 : decode cX12_begins 16 = .ok (.iload_n 2, 1) := by decide +kernel
theorem dX12_begins_17 : decode cX12_begins 17 = .ok (.iconst 0, 1) := by decide +kernel
theorem dX12_begins_18 : decode cX12_begins 18 = .ok (.ldc_w 520, 3) := by decide +kernel
theorem dX12_begins_21 : decode cX12_begins 21 = .ok (.invokestatic 7, 3) := by decide +kernel
theorem dX12_begins_24 : decode cX12_begins 24 = .ok (.ifCond .ne 6, 3) := by decide +kernel
theorem dX12_begins_27 : decode cX12_begins 27 = .ok (.bipush (-4), 2) := by decide +kernel
theorem dX12_begins_29 : decode cX12_begins 29 = .ok (.ireturn, 1) := by decide +kernel
theorem dX12_begins_30 : decode cX12_begins 30 = .ok (.aload_n 0, 1) := by decide +kernel
theorem dX12_begins_31 : decode cX12_begins 31 = .ok (.iload_n 1, 1) := by decide +kernel
theorem dX12_begins_32 : decode cX12_begins 32 = .ok (.iload_n 2, 1) := by decide +kernel
theorem dX12_begins_33 : decode cX12_begins 33 = .ok (.invokevirtual 521, 3) := by decide +kernel
theorem dX12_begins_36 : decode cX12_begins 36 = .ok (.aload_n 0, 1) := by decide +kernel
theorem dX12_begins_37 : decode cX12_begins 37 = .ok (.getfield 158, 3) := by decide +kernel
theorem dX12_begins_40 : decode cX12_begins 40 = .ok (.iconst 0, 1) := by decide +kernel
theorem dX12_begins_41 : decode cX12_begins 41 = .ok (.baload, 1) := by decide +kernel
theorem dX12_begins_42 : decode cX12_begins 42 = .ok (.ifCond .eq 7, 3) := by decide +kernel
theorem dX12_begins_45 : decode cX12_begins 45 = .ok (.iconst 1, 1) := by decide +kernel
theorem dX12_begins_46 : decode cX12_begins 46 = .ok (.goto 4, 3) := by decide +kernel
theorem dX12_begins_49 : decode cX12_begins 49 = .ok (.iconst 0, 1) := by decide +kernel
theorem dX12_begins_50 : decode cX12_begins 50 = .ok (.ireturn, 1) := by decide +kernel
theorem dX12_bothBars_0 : decode cX12_bothBars 0 = .ok (.aload_n 0, 1) := by decide +kernel
theorem dX12_bothBars_1 : decode cX12_bothBars 1 = .ok (.iload_n 1, 1) := by decide +kernel
theorem dX12_bothBars_2 : decode cX12_bothBars 2 = .ok (.iconst 2, 1) := by decide +kernel
theorem dX12_bothBars_3 : decode cX12_bothBars 3 = .ok (.invokevirtual 658, 3) := by decide +kernel
theorem dX12_bothBars_6 : decode cX12_bothBars 6 = .ok (.ifCond .eq 8, 3) := by decide +kernel
theorem dX12_bothBars_9 : decode cX12_bothBars 9 = .ok (.bipush (-6), 2) := by decide +kernel
theorem dX12_bothBars_11 : decode cX12_bothBars 11 = .ok (.goto 9, 3) := by decide +kernel
theorem dX12_bothBars_14 : decode cX12_bothBars 14 = .ok (.aload_n 0, 1) := by decide +kernel
theorem dX12_bothBars_15 : decode cX12_bothBars 15 = .ok (.iload_n 2, 1) := by decide +kernel
theorem dX12_bothBars_16 : decode cX12_bothBars 16 = .ok (.iconst 2, 1) := by decide +kernel
theorem dX12_bothBars_17 : decode cX12_bothBars 17 = .ok (.invokevirtual 658, 3) := by decide +kernel
theorem dX12_bothBars_20 : decode cX12_bothBars 20 = .ok (.istore_n 3, 1) := by decide +kernel
theorem dX12_bothBars_21 : decode cX12_bothBars 21 = .ok (.iload_n 3, 1) := by decide +kernel
theorem dX12_bothBars_22 : decode cX12_bothBars 22 = .ok (.ifCond .ne 12, 3) := by decide +kernel
theorem dX12_bothBars_25 : decode cX12_bothBars 25 = .ok (.aload_n 0, 1) := by decide +kernel
theorem dX12_bothBars_26 : decode cX12_bothBars 26 = .ok (.iload_n 1, 1) := by decide +kernel
theorem dX12_bothBars_27 : decode cX12_bothBars 27 = .ok (.iconst 2, 1) := by decide +kernel
theorem dX12_bothBars_28 : decode cX12_bothBars 28 = .ok (.invokevirtual 661, 3) := by decide +kernel
theorem dX12_bothBars_31 : decode cX12_bothBars 31 = .ok (.goto 4, 3) := by decide +kernel
theorem dX12_bothBars_34 : decode cX12_bothBars 34 = .ok (.iload_n 3, 1) := by decide +kernel
theorem dX12_bothBars_35 : decode cX12_bothBars 35 = .ok (.istore_n 3, 1) := by decide +kernel
theorem dX12_bothBars_36 : decode cX12_bothBars 36 = .ok (.iload_n 3, 1) := by decide +kernel
theorem dX12_bothBars_37 : decode cX12_bothBars 37 = .ok (.ifCond .ne 12, 3) := by decide +kernel
theorem dX12_bothBars_40 : decode cX12_bothBars 40 = .ok (.aload_n 0, 1) := by decide +kernel
theorem dX12_bothBars_41 : decode cX12_bothBars 41 = .ok (.iload_n 2, 1) := by decide +kernel
theorem dX12_bothBars_42 : decode cX12_bothBars 42 = .ok (.iconst 2, 1) := by decide +kernel
theorem dX12_bothBars_43 : decode cX12_bothBars 43 = .ok (.invokevirtual 661, 3) := by decide +kernel
theorem dX12_bothBars_46 : decode cX12_bothBars 46 = .ok (.goto 4, 3) := by decide +kernel
theorem dX12_bothBars_49 : decode cX12_bothBars 49 = .ok (.iload_n 3, 1) := by decide +kernel
theorem dX12_bothBars_50 : decode cX12_bothBars 50 = .ok (.istore_n 3, 1) := by decide +kernel
theorem dX12_bothBars_51 : decode cX12_bothBars 51 = .ok (.iload_n 3, 1) := by decide +kernel
theorem dX12_bothBars_52 : decode cX12_bothBars 52 = .ok (.ifCond .eq 5, 3) := by decide +kernel
theorem dX12_bothBars_55 : decode cX12_bothBars 55 = .ok (.iload_n 3, 1) := by decide +kernel
theorem dX12_bothBars_56 : decode cX12_bothBars 56 = .ok (.ireturn, 1) := by decide +kernel
theorem dX12_bothBars_57 : decode cX12_bothBars 57 = .ok (.aload_n 0, 1) := by decide +kernel
theorem dX12_bothBars_58 : decode cX12_bothBars 58 = .ok (.iload_n 1, 1) := by decide +kernel
theorem dX12_bothBars_59 : decode cX12_bothBars 59 = .ok (.invokevirtual 528, 3) := by decide +kernel
theorem dX12_bothBars_62 : decode cX12_bothBars 62 = .ok (.aload_n 0, 1) := by decide +kernel
theorem dX12_bothBars_63 : decode cX12_bothBars 63 = .ok (.iload_n 2, 1) := by decide +kernel
theorem dX12_bothBars_64 : decode cX12_bothBars 64 = .ok (.invokevirtual 528, 3) := by decide +kernel
theorem dX12_bothBars_67 : decode cX12_bothBars 67 = .ok (.aload_n 0, 1) := by decide +kernel
theorem dX12_bothBars_68 : decode cX12_bothBars 68 = .ok (.invokevirtual 531, 3) := by decide +kernel
theorem dX12_bothBars_71 : decode cX12_bothBars 71 = .ok (.aload_n 0, 1) := by decide +kernel
theorem dX12_bothBars_72 : decode cX12_bothBars 72 = .ok (.iconst 0, 1) := by decide +kernel
theorem dX12_bothBars_73 : decode cX12_bothBars 73 = .ok (.iload_n 1, 1) := by decide +kernel
theorem dX12_bothBars_74 : decode cX12_bothBars 74 = .ok (.invokevirtual 727, 3) := by decide +kernel
theorem dX12_bothBars_77 : decode cX12_bothBars 77 = .ok (.istore_n 3, 1) := by decide +kernel
theorem dX12_bothBars_78 : decode cX12_bothBars 78 = .ok (.iload_n 3, 1) := by decide +kernel
theorem dX12_bothBars_79 : decode cX12_bothBars 79 = .ok (.ifCond .ne 12, 3) := by decide +kernel
theorem dX12_bothBars_82 : decode cX12_bothBars 82 = .ok (.aload_n 0, 1) := by decide +kernel
theorem dX12_bothBars_83 : decode cX12_bothBars 83 = .ok (.iconst 1, 1) := by decide +kernel
theorem dX12_bothBars_84 : decode cX12_bothBars 84 = .ok (.iload_n 2, 1) := by decide +kernel
theorem dX12_bothBars_85 : decode cX12_bothBars 85 = .ok (.invokevirtual 727, 3) := by decide +kernel
theorem dX12_bothBars_88 : decode cX12_bothBars 88 = .ok (.goto 4, 3) := by decide +kernel
theorem dX12_bothBars_91 : decode cX12_bothBars 91 = .ok (.iload_n 3, 1) := by decide +kernel
theorem dX12_bothBars_92 : decode cX12_bothBars 92 = .ok (.istore_n 3, 1) := by decide +kernel
theorem dX12_bothBars_93 : decode cX12_bothBars 93 = .ok (.iload_n 3, 1) := by decide +kernel
theorem dX12_bothBars_94 : decode cX12_bothBars 94 = .ok (.ifCond .ne 7, 3) := by decide +kernel
theorem dX12_bothBars_97 : decode cX12_bothBars 97 = .ok (.aload_n 0, 1) := by decide +kernel
theorem dX12_bothBars_98 : decode cX12_bothBars 98 = .ok (.invokevirtual 739, 3) := by decide +kernel
theorem dX12_bothBars_101 : decode cX12_bothBars 101 = .ok (.iload_n 3, 1) := by decide +kernel
theorem dX12_bothBars_102 : decode cX12_bothBars 102 = .ok (.ireturn, 1) := by decide +kernel
theorem dX12_capped_0 : decode cX12_capped 0 = .ok (.iload_n 0, 1) := by decide +kernel
theorem dX12_capped_1 : decode cX12_capped 1 = .ok (.sipush 20000, 3) := by decide +kernel
theorem dX12_capped_4 : decode cX12_capped 4 = .ok (.if_icmp .le 9, 3) := by decide +kernel
theorem dX12_capped_7 : decode cX12_capped 7 = .ok (.sipush 20000, 3) := by decide +kernel
theorem dX12_capped_10 : decode cX12_capped 10 = .ok (.goto 4, 3) := by decide +kernel
theorem dX12_capped_13 : decode cX12_capped 13 = .ok (.iload_n 0, 1) := by decide +kernel
theorem dX12_capped_14 : decode cX12_capped 14 = .ok (.ireturn, 1) := by decide +kernel
theorem dX12_captureOf_0 : decode cX12_captureOf 0 = .ok (.aload_n 0, 1) := by decide +kernel
theorem dX12_captureOf_1 : decode cX12_captureOf 1 = .ok (.getfield 377, 3) := by decide +kernel
theorem dX12_captureOf_4 : decode cX12_captureOf 4 = .ok (.istore_n 2, 1) := by decide +kernel
theorem dX12_captureOf_5 : decode cX12_captureOf 5 = .ok (.iload_n 2, 1) := by decide +kernel
theorem dX12_captureOf_6 : decode cX12_captureOf 6 = .ok (.ifCond .le 19, 3) := by decide +kernel
theorem dX12_captureOf_9 : decode cX12_captureOf 9 = .ok (.aload_n 0, 1) := by decide +kernel
theorem dX12_captureOf_10 : decode cX12_captureOf 10 = .ok (.getfield 116, 3) := by decide +kernel
theorem dX12_captureOf_13 : decode cX12_captureOf 13 = .ok (.iload_n 2, 1) := by decide +kernel
theorem dX12_captureOf_14 : decode cX12_captureOf 14 = .ok (.iaload, 1) := by decide +kernel
theorem dX12_captureOf_15 : decode cX12_captureOf 15 = .ok (.iload_n 1, 1) := by decide +kernel
theorem dX12_captureOf_16 : decode cX12_captureOf 16 = .ok (.if_icmp .eq 9, 3) := by decide +kernel
theorem dX12_captureOf_19 : decode cX12_captureOf 19 = .ok (.iinc 2 (-1), 3) := by decide +kernel
theorem dX12_captureOf_22 : decode cX12_captureOf 22 = .ok (.goto (-17), 3) := by decide +kernel
theorem dX12_captureOf_25 : decode cX12_captureOf 25 = .ok (.iload_n 2, 1) := by decide +kernel
theorem dX12_captureOf_26 : decode cX12_captureOf 26 = .ok (.ireturn, 1) := by decide +kernel
theorem dX12_choose_0 : decode cX12_choose 0 = .ok (.aload_n 0, 1) := by decide +kernel
theorem dX12_choose_1 : decode cX12_choose 1 = .ok (.getfield 215, 3) := by decide +kernel
theorem dX12_choose_4 : decode cX12_choose 4 = .ok (.aload_n 0, 1) := by decide +kernel
theorem dX12_choose_5 : decode cX12_choose 5 = .ok (.getfield 580, 3) := by decide +kernel
theorem dX12_choose_8 : decode cX12_choose 8 = .ok (.iload_n 1, 1) := by decide +kernel
theorem dX12_choose_9 : decode cX12_choose 9 = .ok (.iastore, 1) := by decide +kernel
theorem dX12_choose_10 : decode cX12_choose 10 = .ok (.aload_n 0, 1) := by decide +kernel
theorem dX12_choose_11 : decode cX12_choose 11 = .ok (.getfield 218, 3) := by decide +kernel
theorem dX12_choose_14 : decode cX12_choose 14 = .ok (.aload_n 0, 1) := by decide +kernel
theorem dX12_choose_15 : decode cX12_choose 15 = .ok (.getfield 580, 3) := by decide +kernel
theorem dX12_choose_18 : decode cX12_choose 18 = .ok (.iload_n 2, 1) := by decide +kernel
theorem dX12_choose_19 : decode cX12_choose 19 = .ok (.iastore, 1) := by decide +kernel
theorem dX12_choose_20 : decode cX12_choose 20 = .ok (.aload_n 0, 1) := by decide +kernel
theorem dX12_choose_21 : decode cX12_choose 21 = .ok (.getfield 221, 3) := by decide +kernel
theorem dX12_choose_24 : decode cX12_choose 24 = .ok (.aload_n 0, 1) := by decide +kernel
theorem dX12_choose_25 : decode cX12_choose 25 = .ok (.getfield 580, 3) := by decide +kernel
theorem dX12_choose_28 : decode cX12_choose 28 = .ok (.iload_n 3, 1) := by decide +kernel
theorem dX12_choose_29 : decode cX12_choose 29 = .ok (.iastore, 1) := by decide +kernel
theorem dX12_choose_30 : decode cX12_choose 30 = .ok (.aload_n 0, 1) := by decide +kernel
theorem dX12_choose_31 : decode cX12_choose 31 = .ok (.getfield 224, 3) := by decide +kernel
theorem dX12_choose_34 : decode cX12_choose 34 = .ok (.aload_n 0, 1) := by decide +kernel
theorem dX12_choose_35 : decode cX12_choose 35 = .ok (.getfield 580, 3) := by decide +kernel
theorem dX12_choose_38 : decode cX12_choose 38 = .ok (.aload_n 0, 1) := by decide +kernel
theorem dX12_choose_39 : decode cX12_choose 39 = .ok (.getfield 577, 3) := by decide +kernel
theorem dX12_choose_42 : decode cX12_choose 42 = .ok (.iastore, 1) := by decide +kernel
theorem dX12_choose_43 : decode cX12_choose 43 = .ok (.aload_n 0, 1) := by decide +kernel
theorem dX12_choose_44 : decode cX12_choose 44 = .ok (.dup, 1) := by decide +kernel
theorem dX12_choose_45 : decode cX12_choose 45 = .ok (.getfield 580, 3) := by decide +kernel
theorem dX12_choose_48 : decode cX12_choose 48 = .ok (.iconst 1, 1) := by decide +kernel
theorem dX12_choose_49 : decode cX12_choose 49 = .ok (.iadd, 1) := by decide +kernel
theorem dX12_choose_50 : decode cX12_choose 50 = .ok (.putfield 580, 3) := by decide +kernel
theorem dX12_choose_53 : decode cX12_choose 53 = .ok (.return_, 1) := by decide +kernel
theorem dX12_clear_0 : decode cX12_clear 0 = .ok (.aload_n 0, 1) := by decide +kernel
theorem dX12_clear_1 : decode cX12_clear 1 = .ok (.iconst 0, 1) := by decide +kernel
theorem dX12_clear_2 : decode cX12_clear 2 = .ok (.putfield 1, 3) := by decide +kernel
theorem dX12_clear_5 : decode cX12_clear 5 = .ok (.iconst 0, 1) := by decide +kernel
theorem dX12_clear_6 : decode cX12_clear 6 = .ok (.istore_n 1, 1) := by decide +kernel
theorem dX12_clear_7 : decode cX12_clear 7 = .ok (.iconst 0, 1) := by decide +kernel
theorem dX12_clear_8 : decode cX12_clear 8 = .ok (.istore_n 2, 1) := by decide +kernel
theorem dX12_clear_9 : decode cX12_clear 9 = .ok (.iload_n 2, 1) := by decide +kernel
theorem dX12_clear_10 : decode cX12_clear 10 = .ok (.bipush 6, 2) := by decide +kernel
theorem dX12_clear_12 : decode cX12_clear 12 = .ok (.if_icmp .ge 33, 3) := by decide +kernel
theorem dX12_clear_15 : decode cX12_clear 15 = .ok (.iload_n 1, 1) := by decide +kernel
theorem dX12_clear_16 : decode cX12_clear 16 = .ok (.aload_n 0, 1) := by decide +kernel
theorem dX12_clear_17 : decode cX12_clear 17 = .ok (.getfield 31, 3) := by decide +kernel
theorem dX12_clear_20 : decode cX12_clear 20 = .ok (.iload_n 2, 1) := by decide +kernel
theorem dX12_clear_21 : decode cX12_clear 21 = .ok (.baload, 1) := by decide +kernel
theorem dX12_clear_22 : decode cX12_clear 22 = .ok (.ifCond .eq 7, 3) := by decide +kernel
theorem dX12_clear_25 : decode cX12_clear 25 = .ok (.iconst 1, 1) := by decide +kernel
