theorem dX4_writeNode_8 : decode cX4_writeNode 8 = .ok (.iload_n 2, 1) := by decide +kernel
theorem dX4_writeNode_9 : decode cX4_writeNode 9 = .ok (.invokevirtual 31, 3) := by decide +kernel
theorem dX4_writeNode_12 : decode cX4_writeNode 12 = .ok (.aload_n 1, 1) := by decide +kernel
theorem dX4_writeNode_13 : decode cX4_writeNode 13 = .ok (.aload_n 1, 1) := by decide +kernel
theorem dX4_writeNode_14 : decode cX4_writeNode 14 = .ok (.iload_n 2, 1) := by decide +kernel
theorem dX4_writeNode_15 : decode cX4_writeNode 15 = .ok (.invokevirtual 37, 3) := by decide +kernel
theorem dX4_writeNode_18 : decode cX4_writeNode 18 = .ok (.invokevirtual 31, 3) := by decide +kernel
theorem dX4_writeNode_21 : decode cX4_writeNode 21 = .ok (.aload_n 1, 1) := by decide +kernel
theorem dX4_writeNode_22 : decode cX4_writeNode 22 = .ok (.iload_n 2, 1) := by decide +kernel
theorem dX4_writeNode_23 : decode cX4_writeNode 23 = .ok (.invokevirtual 37, 3) := by decide +kernel
theorem dX4_writeNode_26 : decode cX4_writeNode 26 = .ok (.invokestatic 40, 3) := by decide +kernel
theorem dX4_writeNode_29 : decode cX4_writeNode 29 = .ok (.istore 4, 2) := by decide +kernel
theorem dX4_writeNode_31 : decode cX4_writeNode 31 = .ok (.iload 4, 2) := by decide +kernel
theorem dX4_writeNode_33 : decode cX4_writeNode 33 = .ok (.ifCond .eq 21, 3) := by decide +kernel
theorem dX4_writeNode_36 : decode cX4_writeNode 36 = .ok (.aload_n 0, 1) := by decide +kernel
theorem dX4_writeNode_37 : decode cX4_writeNode 37 = .ok (.getfield 14, 3) := by decide +kernel
theorem dX4_writeNode_40 : decode cX4_writeNode 40 = .ok (.bipush 40, 2) := by decide +kernel
theorem dX4_writeNode_42 : decode cX4_writeNode 42 = .ok (.invokevirtual 44, 3) := by decide +kernel
theorem dX4_writeNode_45 : decode cX4_writeNode 45 = .ok (.aload_n 0, 1) := by decide +kernel
theorem dX4_writeNode_46 : decode cX4_writeNode 46 = .ok (.getfield 14, 3) := by decide +kernel
theorem dX4_writeNode_49 : decode cX4_writeNode 49 = .ok (.bipush 58, 2) := by decide +kernel
theorem dX4_writeNode_51 : decode cX4_writeNode 51 = .ok (.invokevirtual 44, 3) := by decide +kernel
theorem dX4_writeNode_54 : decode cX4_writeNode 54 = .ok (.aload_n 1, 1) := by decide +kernel
theorem dX4_writeNode_55 : decode cX4_writeNode 55 = .ok (.iload_n 2, 1) := by decide +kernel
theorem dX4_writeNode_56 : decode cX4_writeNode 56 = .ok (.invokevirtual 31, 3) := by decide +kernel
theorem dX4_writeNode_59 : decode cX4_writeNode 59 = .ok (.iconst 4, 1) := by decide +kernel
theorem dX4_writeNode_60 : decode cX4_writeNode 60 = .ok (.if_icmp .gt 12, 3) := by decide +kernel
theorem dX4_writeNode_63 : decode cX4_writeNode 63 = .ok (.aload_n 0, 1) := by decide +kernel
theorem dX4_writeNode_64 : decode cX4_writeNode 64 = .ok (.aload_n 1, 1) := by decide +kernel
theorem dX4_writeNode_65 : decode cX4_writeNode 65 = .ok (.iload_n 2, 1) := by decide +kernel
theorem dX4_writeNode_66 : decode cX4_writeNode 66 = .ok (.invokevirtual 47, 3) := by decide +kernel
theorem dX4_writeNode_69 : decode cX4_writeNode 69 = .ok (.goto 78, 3) := by decide +kernel
theorem dX4_writeNode_72 : decode cX4_writeNode 72 = .ok (.aload_n 0, 1) := by decide +kernel
theorem dX4_writeNode_73 : decode cX4_writeNode 73 = .ok (.aload_n 1, 1) := by decide +kernel
theorem dX4_writeNode_74 : decode cX4_writeNode 74 = .ok (.iload_n 2, 1) := by decide +kernel
theorem dX4_writeNode_75 : decode cX4_writeNode 75 = .ok (.invokevirtual 51, 3) := by decide +kernel
theorem dX4_writeNode_78 : decode cX4_writeNode 78 = .ok (.aload_n 1, 1) := by decide +kernel
theorem dX4_writeNode_79 : decode cX4_writeNode 79 = .ok (.iload_n 2, 1) := by decide +kernel
theorem dX4_writeNode_80 : decode cX4_writeNode 80 = .ok (.invokevirtual 54, 3) := by decide +kernel
theorem dX4_writeNode_83 : decode cX4_writeNode 83 = .ok (.istore 5, 2) := by decide +kernel
theorem dX4_writeNode_85 : decode cX4_writeNode 85 = .ok (.iload 5, 2) := by decide +kernel
theorem dX4_writeNode_87 : decode cX4_writeNode 87 = .ok (.iconst (-1), 1) := by decide +kernel
theorem dX4_writeNode_88 : decode cX4_writeNode 88 = .ok (.if_icmp .eq 53, 3) := by decide +kernel
theorem dX4_writeNode_91 : decode cX4_writeNode 91 = .ok (.aload_n 0, 1) := by decide +kernel
theorem dX4_writeNode_92 : decode cX4_writeNode 92 = .ok (.aload_n 1, 1) := by decide +kernel
theorem dX4_writeNode_93 : decode cX4_writeNode 93 = .ok (.iload 5, 2) := by decide +kernel
theorem dX4_writeNode_95 : decode cX4_writeNode 95 = .ok (.iload_n 3, 1) := by decide +kernel
theorem dX4_writeNode_96 : decode cX4_writeNode 96 = .ok (.iconst 1, 1) := by decide +kernel
theorem dX4_writeNode_97 : decode cX4_writeNode 97 = .ok (.iadd, 1) := by decide +kernel
theorem dX4_writeNode_98 : decode cX4_writeNode 98 = .ok (.invokevirtual 27, 3) := by decide +kernel
theorem dX4_writeNode_101 : decode cX4_writeNode 101 = .ok (.aload_n 1, 1) := by decide +kernel
theorem dX4_writeNode_102 : decode cX4_writeNode 102 = .ok (.iload_n 2, 1) := by decide +kernel
theorem dX4_writeNode_103 : decode cX4_writeNode 103 = .ok (.invokevirtual 31, 3) := by decide +kernel
theorem dX4_writeNode_106 : decode cX4_writeNode 106 = .ok (.bipush 6, 2) := by decide +kernel
theorem dX4_writeNode_108 : decode cX4_writeNode 108 = .ok (.if_icmp .ne 22, 3) := by decide +kernel
theorem dX4_writeNode_111 : decode cX4_writeNode 111 = .ok (.aload_n 1, 1) := by decide +kernel
theorem dX4_writeNode_112 : decode cX4_writeNode 112 = .ok (.iload 5, 2) := by decide +kernel
theorem dX4_writeNode_114 : decode cX4_writeNode 114 = .ok (.invokevirtual 57, 3) := by decide +kernel
theorem dX4_writeNode_117 : decode cX4_writeNode 117 = .ok (.iconst (-1), 1) := by decide +kernel
theorem dX4_writeNode_118 : decode cX4_writeNode 118 = .ok (.if_icmp .eq 12, 3) := by decide +kernel
theorem dX4_writeNode_121 : decode cX4_writeNode 121 = .ok (.aload_n 0, 1) := by decide +kernel
theorem dX4_writeNode_122 : decode cX4_writeNode 122 = .ok (.getfield 14, 3) := by decide +kernel
theorem dX4_writeNode_125 : decode cX4_writeNode 125 = .ok (.bipush 124, 2) := by decide +kernel
theorem dX4_writeNode_127 : decode cX4_writeNode 127 = .ok (.invokevirtual 44, 3) := by decide +kernel
theorem dX4_writeNode_130 : decode cX4_writeNode 130 = .ok (.aload_n 1, 1) := by decide +kernel
theorem dX4_writeNode_131 : decode cX4_writeNode 131 = .ok (.iload 5, 2) := by decide +kernel
theorem dX4_writeNode_133 : decode cX4_writeNode 133 = .ok (.invokevirtual 57, 3) := by decide +kernel
theorem dX4_writeNode_136 : decode cX4_writeNode 136 = .ok (.istore 5, 2) := by decide +kernel
theorem dX4_writeNode_138 : decode cX4_writeNode 138 = .ok (.goto (-53), 3) := by decide +kernel
theorem dX4_writeNode_141 : decode cX4_writeNode 141 = .ok (.aload_n 0, 1) := by decide +kernel
theorem dX4_writeNode_142 : decode cX4_writeNode 142 = .ok (.aload_n 1, 1) := by decide +kernel
theorem dX4_writeNode_143 : decode cX4_writeNode 143 = .ok (.iload_n 2, 1) := by decide +kernel
theorem dX4_writeNode_144 : decode cX4_writeNode 144 = .ok (.invokevirtual 60, 3) := by decide +kernel
theorem dX4_writeNode_147 : decode cX4_writeNode 147 = .ok (.iload 4, 2) := by decide +kernel
theorem dX4_writeNode_149 : decode cX4_writeNode 149 = .ok (.ifCond .eq 12, 3) := by decide +kernel
theorem dX4_writeNode_152 : decode cX4_writeNode 152 = .ok (.aload_n 0, 1) := by decide +kernel
theorem dX4_writeNode_153 : decode cX4_writeNode 153 = .ok (.getfield 14, 3) := by decide +kernel
theorem dX4_writeNode_156 : decode cX4_writeNode 156 = .ok (.bipush 41, 2) := by decide +kernel
theorem dX4_writeNode_158 : decode cX4_writeNode 158 = .ok (.invokevirtual 44, 3) := by decide +kernel
theorem dX4_writeNode_161 : decode cX4_writeNode 161 = .ok (.return_, 1) := by decide +kernel
theorem dX4_writeNumber_0 : decode cX4_writeNumber 0 = .ok (.iload_n 1, 1) := by decide +kernel
theorem dX4_writeNumber_1 : decode cX4_writeNumber 1 = .ok (.bipush 10, 2) := by decide +kernel
theorem dX4_writeNumber_3 : decode cX4_writeNumber 3 = .ok (.if_icmp .lt 17, 3) := by decide +kernel
theorem dX4_writeNumber_6 : decode cX4_writeNumber 6 = .ok (.aload_n 0, 1) := by decide +kernel
theorem dX4_writeNumber_7 : decode cX4_writeNumber 7 = .ok (.getfield 14, 3) := by decide +kernel
theorem dX4_writeNumber_10 : decode cX4_writeNumber 10 = .ok (.bipush 48, 2) := by decide +kernel
theorem dX4_writeNumber_12 : decode cX4_writeNumber 12 = .ok (.iload_n 1, 1) := by decide +kernel
theorem dX4_writeNumber_13 : decode cX4_writeNumber 13 = .ok (.bipush 10, 2) := by decide +kernel
theorem dX4_writeNumber_15 : decode cX4_writeNumber 15 = .ok (.idiv, 1) := by decide +kernel
theorem dX4_writeNumber_16 : decode cX4_writeNumber 16 = .ok (.iadd, 1) := by decide +kernel
theorem dX4_writeNumber_17 : decode cX4_writeNumber 17 = .ok (.invokevirtual 44, 3) := by decide +kernel
theorem dX4_writeNumber_20 : decode cX4_writeNumber 20 = .ok (.aload_n 0, 1) := by decide +kernel
theorem dX4_writeNumber_21 : decode cX4_writeNumber 21 = .ok (.getfield 14, 3) := by decide +kernel
theorem dX4_writeNumber_24 : decode cX4_writeNumber 24 = .ok (.bipush 48, 2) := by decide +kernel
theorem dX4_writeNumber_26 : decode cX4_writeNumber 26 = .ok (.iload_n 1, 1) := by decide +kernel
theorem dX4_writeNumber_27 : decode cX4_writeNumber 27 = .ok (.bipush 10, 2) := by decide +kernel
theorem dX4_writeNumber_29 : decode cX4_writeNumber 29 = .ok (.irem, 1) := by decide +kernel
theorem dX4_writeNumber_30 : decode cX4_writeNumber 30 = .ok (.iadd, 1) := by decide +kernel
theorem dX4_writeNumber_31 : decode cX4_writeNumber 31 = .ok (.invokevirtual 44, 3) := by decide +kernel
theorem dX4_writeNumber_34 : decode cX4_writeNumber 34 = .ok (.return_, 1) := by decide +kernel
theorem dX4_writeOpening_0 : decode cX4_writeOpening 0 = .ok (.aload_n 1, 1) := by decide +kernel
theorem dX4_writeOpening_1 : decode cX4_writeOpening 1 = .ok (.iload_n 2, 1) := by decide +kernel
theorem dX4_writeOpening_2 : decode cX4_writeOpening 2 = .ok (.invokevirtual 31, 3) := by decide +kernel
theorem dX4_writeOpening_5 : decode cX4_writeOpening 5 = .ok (.tableswitch 155 8 11 #[31, 86, 113, 134], 31) := by decide +kernel
theorem dX4_writeOpening_36 : decode cX4_writeOpening 36 = .ok (.aload_n 0, 1) := by decide +kernel
theorem dX4_writeOpening_37 : decode cX4_writeOpening 37 = .ok (.getfield 14, 3) := by decide +kernel
theorem dX4_writeOpening_40 : decode cX4_writeOpening 40 = .ok (.bipush 40, 2) := by decide +kernel
theorem dX4_writeOpening_42 : decode cX4_writeOpening 42 = .ok (.invokevirtual 44, 3) := by decide +kernel
theorem dX4_writeOpening_45 : decode cX4_writeOpening 45 = .ok (.aload_n 1, 1) := by decide +kernel
theorem dX4_writeOpening_46 : decode cX4_writeOpening 46 = .ok (.iload_n 2, 1) := by decide +kernel
theorem dX4_writeOpening_47 : decode cX4_writeOpening 47 = .ok (.invokevirtual 104, 3) := by decide +kernel
theorem dX4_writeOpening_50 : decode cX4_writeOpening 50 = .ok (.ifCond .eq 27, 3) := by decide +kernel
theorem dX4_writeOpening_53 : decode cX4_writeOpening 53 = .ok (.aload_n 0, 1) := by decide +kernel
theorem dX4_writeOpening_54 : decode cX4_writeOpening 54 = .ok (.getfield 14, 3) := by decide +kernel
theorem dX4_writeOpening_57 : decode cX4_writeOpening 57 = .ok (.bipush 64, 2) := by decide +kernel
theorem dX4_writeOpening_59 : decode cX4_writeOpening 59 = .ok (.invokevirtual 44, 3) := by decide +kernel
theorem dX4_writeOpening_62 : decode cX4_writeOpening 62 = .ok (.aload_n 0, 1) := by decide +kernel
theorem dX4_writeOpening_63 : decode cX4_writeOpening 63 = .ok (.getfield 14, 3) := by decide +kernel
theorem dX4_writeOpening_66 : decode cX4_writeOpening 66 = .ok (.aload_n 1, 1) := by decide +kernel
theorem dX4_writeOpening_67 : decode cX4_writeOpening 67 = .ok (.iload_n 2, 1) := by decide +kernel
theorem dX4_writeOpening_68 : decode cX4_writeOpening 68 = .ok (.invokevirtual 104, 3) := by decide +kernel
theorem dX4_writeOpening_71 : decode cX4_writeOpening 71 = .ok (.invokevirtual 44, 3) := by decide +kernel
theorem dX4_writeOpening_74 : decode cX4_writeOpening 74 = .ok (.goto 86, 3) := by decide +kernel
theorem dX4_writeOpening_77 : decode cX4_writeOpening 77 = .ok (.aload_n 0, 1) := by decide +kernel
theorem dX4_writeOpening_78 : decode cX4_writeOpening 78 = .ok (.aload_n 0, 1) := by decide +kernel
theorem dX4_writeOpening_79 : decode cX4_writeOpening 79 = .ok (.getfield 14, 3) := by decide +kernel
theorem dX4_writeOpening_82 : decode cX4_writeOpening 82 = .ok (.getfield 79, 3) := by decide +kernel
theorem dX4_writeOpening_85 : decode cX4_writeOpening 85 = .ok (.putfield 23, 3) := by decide +kernel
theorem dX4_writeOpening_88 : decode cX4_writeOpening 88 = .ok (.goto 72, 3) := by decide +kernel
theorem dX4_writeOpening_91 : decode cX4_writeOpening 91 = .ok (.aload_n 0, 1) := by decide +kernel
theorem dX4_writeOpening_92 : decode cX4_writeOpening 92 = .ok (.getfield 14, 3) := by decide +kernel
theorem dX4_writeOpening_95 : decode cX4_writeOpening 95 = .ok (.bipush 40, 2) := by decide +kernel
theorem dX4_writeOpening_97 : decode cX4_writeOpening 97 = .ok (.invokevirtual 44, 3) := by decide +kernel
theorem dX4_writeOpening_100 : decode cX4_writeOpening 100 = .ok (.aload_n 0, 1) := by decide +kernel
theorem dX4_writeOpening_101 : decode cX4_writeOpening 101 = .ok (.getfield 14, 3) := by decide +kernel
theorem dX4_writeOpening_104 : decode cX4_writeOpening 104 = .ok (.aload_n 1, 1) := by decide +kernel
theorem dX4_writeOpening_105 : decode cX4_writeOpening 105 = .ok (.iload_n 2, 1) := by decide +kernel
theorem dX4_writeOpening_106 : decode cX4_writeOpening 106 = .ok (.invokevirtual 63, 3) := by decide +kernel
theorem dX4_writeOpening_109 : decode cX4_writeOpening 109 = .ok (.invokestatic 107, 3) := by decide +kernel
theorem dX4_writeOpening_112 : decode cX4_writeOpening 112 = .ok (.invokevirtual 44, 3) := by decide +kernel
theorem dX4_writeOpening_115 : decode cX4_writeOpening 115 = .ok (.goto 45, 3) := by decide +kernel
theorem dX4_writeOpening_118 : decode cX4_writeOpening 118 = .ok (.aload_n 0, 1) := by decide +kernel
theorem dX4_writeOpening_119 : decode cX4_writeOpening 119 = .ok (.getfield 14, 3) := by decide +kernel
theorem dX4_writeOpening_122 : decode cX4_writeOpening 122 = .ok (.bipush 40, 2) := by decide +kernel
theorem dX4_writeOpening_124 : decode cX4_writeOpening 124 = .ok (.invokevirtual 44, 3) := by decide +kernel
theorem dX4_writeOpening_127 : decode cX4_writeOpening 127 = .ok (.aload_n 0, 1) := by decide +kernel
theorem dX4_writeOpening_128 : decode cX4_writeOpening 128 = .ok (.getfield 14, 3) := by decide +kernel
theorem dX4_writeOpening_131 : decode cX4_writeOpening 131 = .ok (.bipush 42, 2) := by decide +kernel
theorem dX4_writeOpening_133 : decode cX4_writeOpening 133 = .ok (.invokevirtual 44, 3) := by decide +kernel
theorem dX4_writeOpening_136 : decode cX4_writeOpening 136 = .ok (.goto 24, 3) := by decide +kernel
theorem dX4_writeOpening_139 : decode cX4_writeOpening 139 = .ok (.aload_n 0, 1) := by decide +kernel
theorem dX4_writeOpening_140 : decode cX4_writeOpening 140 = .ok (.getfield 14, 3) := by decide +kernel
theorem dX4_writeOpening_143 : decode cX4_writeOpening 143 = .ok (.bipush 40, 2) := by decide +kernel
theorem dX4_writeOpening_145 : decode cX4_writeOpening 145 = .ok (.invokevirtual 44, 3) := by decide +kernel
theorem dX4_writeOpening_148 : decode cX4_writeOpening 148 = .ok (.aload_n 0, 1) := by decide +kernel
theorem dX4_writeOpening_149 : decode cX4_writeOpening 149 = .ok (.getfield 14, 3) := by decide +kernel
theorem dX4_writeOpening_152 : decode cX4_writeOpening 152 = .ok (.bipush 37, 2) := by decide +kernel
theorem dX4_writeOpening_154 : decode cX4_writeOpening 154 = .ok (.invokevirtual 44, 3) := by decide +kernel
theorem dX4_writeOpening_157 : decode cX4_writeOpening 157 = .ok (.goto 3, 3) := by decide +kernel
theorem dX4_writeOpening_160 : decode cX4_writeOpening 160 = .ok (.return_, 1) := by decide +kernel
theorem dX4_writeSet_0 : decode cX4_writeSet 0 = .ok (.aload_n 0, 1) := by decide +kernel
theorem dX4_writeSet_1 : decode cX4_writeSet 1 = .ok (.getfield 14, 3) := by decide +kernel
theorem dX4_writeSet_4 : decode cX4_writeSet 4 = .ok (.bipush 91, 2) := by decide +kernel
theorem dX4_writeSet_6 : decode cX4_writeSet 6 = .ok (.invokevirtual 44, 3) := by decide +kernel
theorem dX4_writeSet_9 : decode cX4_writeSet 9 = .ok (.aload_n 1, 1) := by decide +kernel
theorem dX4_writeSet_10 : decode cX4_writeSet 10 = .ok (.iload_n 2, 1) := by decide +kernel
theorem dX4_writeSet_11 : decode cX4_writeSet 11 = .ok (.invokevirtual 63, 3) := by decide +kernel
theorem dX4_writeSet_14 : decode cX4_writeSet 14 = .ok (.ifCond .eq 12, 3) := by decide +kernel
theorem dX4_writeSet_17 : decode cX4_writeSet 17 = .ok (.aload_n 0, 1) := by decide +kernel
theorem dX4_writeSet_18 : decode cX4_writeSet 18 = .ok (.getfield 14, 3) := by decide +kernel
theorem dX4_writeSet_21 : decode cX4_writeSet 21 = .ok (.bipush 94, 2) := by decide +kernel
theorem dX4_writeSet_23 : decode cX4_writeSet 23 = .ok (.invokevirtual 44, 3) := by decide +kernel
theorem dX4_writeSet_26 : decode cX4_writeSet 26 = .ok (.iconst 0, 1) := by decide +kernel
theorem dX4_writeSet_27 : decode cX4_writeSet 27 = .ok (.istore_n 3, 1) := by decide +kernel
theorem dX4_writeSet_28 : decode cX4_writeSet 28 = .ok (.iload_n 3, 1) := by decide +kernel
theorem dX4_writeSet_29 : decode cX4_writeSet 29 = .ok (.aload_n 1, 1) := by decide +kernel
theorem dX4_writeSet_30 : decode cX4_writeSet 30 = .ok (.iload_n 2, 1) := by decide +kernel
theorem dX4_writeSet_31 : decode cX4_writeSet 31 = .ok (.invokevirtual 91, 3) := by decide +kernel
theorem dX4_writeSet_34 : decode cX4_writeSet 34 = .ok (.if_icmp .ge 53, 3) := by decide +kernel
theorem dX4_writeSet_37 : decode cX4_writeSet 37 = .ok (.aload_n 0, 1) := by decide +kernel
theorem dX4_writeSet_38 : decode cX4_writeSet 38 = .ok (.aload_n 1, 1) := by decide +kernel
theorem dX4_writeSet_39 : decode cX4_writeSet 39 = .ok (.iload_n 2, 1) := by decide +kernel
theorem dX4_writeSet_40 : decode cX4_writeSet 40 = .ok (.iload_n 3, 1) := by decide +kernel
theorem dX4_writeSet_41 : decode cX4_writeSet 41 = .ok (.invokevirtual 94, 3) := by decide +kernel
theorem dX4_writeSet_44 : decode cX4_writeSet 44 = .ok (.invokevirtual 98, 3) := by decide +kernel
theorem dX4_writeSet_47 : decode cX4_writeSet 47 = .ok (.aload_n 1, 1) := by decide +kernel
theorem dX4_writeSet_48 : decode cX4_writeSet 48 = .ok (.iload_n 2, 1) := by decide +kernel
theorem dX4_writeSet_49 : decode cX4_writeSet 49 = .ok (.iload_n 3, 1) := by decide +kernel
theorem dX4_writeSet_50 : decode cX4_writeSet 50 = .ok (.invokevirtual 101, 3) := by decide +kernel
theorem dX4_writeSet_53 : decode cX4_writeSet 53 = .ok (.aload_n 1, 1) := by decide +kernel
theorem dX4_writeSet_54 : decode cX4_writeSet 54 = .ok (.iload_n 2, 1) := by decide +kernel
theorem dX4_writeSet_55 : decode cX4_writeSet 55 = .ok (.iload_n 3, 1) := by decide +kernel
theorem dX4_writeSet_56 : decode cX4_writeSet 56 = .ok (.invokevirtual 94, 3) := by decide +kernel
theorem dX4_writeSet_59 : decode cX4_writeSet 59 = .ok (.if_icmp .eq 22, 3) := by decide +kernel
theorem dX4_writeSet_62 : decode cX4_writeSet 62 = .ok (.aload_n 0, 1) := by decide +kernel
theorem dX4_writeSet_63 : decode cX4_writeSet 63 = .ok (.getfield 14, 3) := by decide +kernel
theorem dX4_writeSet_66 : decode cX4_writeSet 66 = .ok (.bipush 45, 2) := by decide +kernel
theorem dX4_writeSet_68 : decode cX4_writeSet 68 = .ok (.invokevirtual 44, 3) := by decide +kernel
theorem dX4_writeSet_71 : decode cX4_writeSet 71 = .ok (.aload_n 0, 1) := by decide +kernel
theorem dX4_writeSet_72 : decode cX4_writeSet 72 = .ok (.aload_n 1, 1) := by decide +kernel
theorem dX4_writeSet_73 : decode cX4_writeSet 73 = .ok (.iload_n 2, 1) := by decide +kernel
theorem dX4_writeSet_74 : decode cX4_writeSet 74 = .ok (.iload_n 3, 1) := by decide +kernel
theorem dX4_writeSet_75 : decode cX4_writeSet 75 = .ok (.invokevirtual 101, 3) := by decide +kernel
theorem dX4_writeSet_78 : decode cX4_writeSet 78 = .ok (.invokevirtual 98, 3) := by decide +kernel
theorem dX4_writeSet_81 : decode cX4_writeSet 81 = .ok (.iinc 3 1, 3) := by decide +kernel
theorem dX4_writeSet_84 : decode cX4_writeSet 84 = .ok (.goto (-56), 3) := by decide +kernel
theorem dX4_writeSet_87 : decode cX4_writeSet 87 = .ok (.aload_n 0, 1) := by decide +kernel
theorem dX4_writeSet_88 : decode cX4_writeSet 88 = .ok (.getfield 14, 3) := by decide +kernel
theorem dX4_writeSet_91 : decode cX4_writeSet 91 = .ok (.bipush 93, 2) := by decide +kernel
theorem dX4_writeSet_93 : decode cX4_writeSet 93 = .ok (.invokevirtual 44, 3) := by decide +kernel
theorem dX4_writeSet_96 : decode cX4_writeSet 96 = .ok (.return_, 1) := by decide +kernel
theorem dX4_writeSign_0 : decode cX4_writeSign 0 = .ok (.iload_n 1, 1) := by decide +kernel
theorem dX4_writeSign_1 : decode cX4_writeSign 1 = .ok (.invokestatic 75, 3) := by decide +kernel
theorem dX4_writeSign_4 : decode cX4_writeSign 4 = .ok (.ifCond .eq 24, 3) := by decide +kernel
theorem dX4_writeSign_7 : decode cX4_writeSign 7 = .ok (.aload_n 0, 1) := by decide +kernel
theorem dX4_writeSign_8 : decode cX4_writeSign 8 = .ok (.getfield 14, 3) := by decide +kernel
theorem dX4_writeSign_11 : decode cX4_writeSign 11 = .ok (.getfield 79, 3) := by decide +kernel
theorem dX4_writeSign_14 : decode cX4_writeSign 14 = .ok (.aload_n 0, 1) := by decide +kernel
theorem dX4_writeSign_15 : decode cX4_writeSign 15 = .ok (.getfield 23, 3) := by decide +kernel
theorem dX4_writeSign_18 : decode cX4_writeSign 18 = .ok (.if_icmp .ne 16, 3) := by decide +kernel
theorem dX4_writeSign_21 : decode cX4_writeSign 21 = .ok (.iload_n 1, 1) := by decide +kernel
theorem dX4_writeSign_22 : decode cX4_writeSign 22 = .ok (.invokestatic 82, 3) := by decide +kernel
theorem dX4_writeSign_25 : decode cX4_writeSign 25 = .ok (.ifCond .eq 9, 3) := by decide +kernel
theorem dX4_writeSign_28 : decode cX4_writeSign 28 = .ok (.aload_n 0, 1) := by decide +kernel
theorem dX4_writeSign_29 : decode cX4_writeSign 29 = .ok (.iload_n 1, 1) := by decide +kernel
theorem dX4_writeSign_30 : decode cX4_writeSign 30 = .ok (.invokevirtual 85, 3) := by decide +kernel
theorem dX4_writeSign_33 : decode cX4_writeSign 33 = .ok (.return_, 1) := by decide +kernel
theorem dX4_writeSign_34 : decode cX4_writeSign 34 = .ok (.iload_n 1, 1) := by decide +kernel
theorem dX4_writeSign_35 : decode cX4_writeSign 35 = .ok (.invokestatic 88, 3) := by decide +kernel
theorem dX4_writeSign_38 : decode cX4_writeSign 38 = .ok (.ifCond .ne 12, 3) := by decide +kernel
theorem dX4_writeSign_41 : decode cX4_writeSign 41 = .ok (.aload_n 0, 1) := by decide +kernel
theorem dX4_writeSign_42 : decode cX4_writeSign 42 = .ok (.getfield 14, 3) := by decide +kernel
theorem dX4_writeSign_45 : decode cX4_writeSign 45 = .ok (.bipush 92, 2) := by decide +kernel
theorem dX4_writeSign_47 : decode cX4_writeSign 47 = .ok (.invokevirtual 44, 3) := by decide +kernel
theorem dX4_writeSign_50 : decode cX4_writeSign 50 = .ok (.aload_n 0, 1) := by decide +kernel
theorem dX4_writeSign_51 : decode cX4_writeSign 51 = .ok (.getfield 14, 3) := by decide +kernel
theorem dX4_writeSign_54 : decode cX4_writeSign 54 = .ok (.iload_n 1, 1) := by decide +kernel
theorem dX4_writeSign_55 : decode cX4_writeSign 55 = .ok (.invokevirtual 44, 3) := by decide +kernel
theorem dX4_writeSign_58 : decode cX4_writeSign 58 = .ok (.return_, 1) := by decide +kernel
theorem dX5_add_0 : decode cX5_add 0 = .ok (.aload_n 0, 1) := by decide +kernel
theorem dX5_add_1 : decode cX5_add 1 = .ok (.getfield 33, 3) := by decide +kernel
theorem dX5_add_4 : decode cX5_add 4 = .ok (.sipush 512, 3) := by decide +kernel
theorem dX5_add_7 : decode cX5_add 7 = .ok (.if_icmp .lt 5, 3) := by decide +kernel
theorem dX5_add_10 : decode cX5_add 10 = .ok (.iload_n 3, 1) := by decide +kernel
theorem dX5_add_11 : decode cX5_add 11 = .ok (.ireturn, 1) := by decide +kernel
theorem dX5_add_12 : decode cX5_add 12 = .ok (.aload_n 0, 1) := by decide +kernel
theorem dX5_add_13 : decode cX5_add 13 = .ok (.getfield 33, 3) := by decide +kernel
theorem dX5_add_16 : decode cX5_add 16 = .ok (.istore 5, 2) := by decide +kernel
theorem dX5_add_18 : decode cX5_add 18 = .ok (.aload_n 0, 1) := by decide +kernel
theorem dX5_add_19 : decode cX5_add 19 = .ok (.dup, 1) := by decide +kernel
theorem dX5_add_20 : decode cX5_add 20 = .ok (.getfield 33, 3) := by decide +kernel
theorem dX5_add_23 : decode cX5_add 23 = .ok (.iconst 1, 1) := by decide +kernel
theorem dX5_add_24 : decode cX5_add 24 = .ok (.iadd, 1) := by decide +kernel
theorem dX5_add_25 : decode cX5_add 25 = .ok (.putfield 33, 3) := by decide +kernel
theorem dX5_add_28 : decode cX5_add 28 = .ok (.aload_n 0, 1) := by decide +kernel
theorem dX5_add_29 : decode cX5_add 29 = .ok (.getfield 20, 3) := by decide +kernel
theorem dX5_add_32 : decode cX5_add 32 = .ok (.iload 5, 2) := by decide +kernel
theorem dX5_add_34 : decode cX5_add 34 = .ok (.iload_n 1, 1) := by decide +kernel
theorem dX5_add_35 : decode cX5_add 35 = .ok (.iastore, 1) := by decide +kernel
theorem dX5_add_36 : decode cX5_add 36 = .ok (.aload_n 0, 1) := by decide +kernel
theorem dX5_add_37 : decode cX5_add 37 = .ok (.getfield 24, 3) := by decide +kernel
theorem dX5_add_40 : decode cX5_add 40 = .ok (.iload 5, 2) := by decide +kernel
theorem dX5_add_42 : decode cX5_add 42 = .ok (.iload_n 2, 1) := by decide +kernel
theorem dX5_add_43 : decode cX5_add 43 = .ok (.iastore, 1) := by decide +kernel
theorem dX5_add_44 : decode cX5_add 44 = .ok (.aload_n 0, 1) := by decide +kernel
theorem dX5_add_45 : decode cX5_add 45 = .ok (.getfield 27, 3) := by decide +kernel
theorem dX5_add_48 : decode cX5_add 48 = .ok (.iload 5, 2) := by decide +kernel
theorem dX5_add_50 : decode cX5_add 50 = .ok (.iload_n 3, 1) := by decide +kernel
theorem dX5_add_51 : decode cX5_add 51 = .ok (.iastore, 1) := by decide +kernel
theorem dX5_add_52 : decode cX5_add 52 = .ok (.aload_n 0, 1) := by decide +kernel
theorem dX5_add_53 : decode cX5_add 53 = .ok (.getfield 30, 3) := by decide +kernel
theorem dX5_add_56 : decode cX5_add 56 = .ok (.iload 5, 2) := by decide +kernel
theorem dX5_add_58 : decode cX5_add 58 = .ok (.iload 4, 2) := by decide +kernel
theorem dX5_add_60 : decode cX5_add 60 = .ok (.iastore, 1) := by decide +kernel
theorem dX5_add_61 : decode cX5_add 61 = .ok (.iload 5, 2) := by decide +kernel
theorem dX5_add_63 : decode cX5_add 63 = .ok (.ireturn, 1) := by decide +kernel
theorem dX5_aim_0 : decode cX5_aim 0 = .ok (.iload_n 1, 1) := by decide +kernel
theorem dX5_aim_1 : decode cX5_aim 1 = .ok (.ifCond .lt 43, 3) := by decide +kernel
theorem dX5_aim_4 : decode cX5_aim 4 = .ok (.iload_n 1, 1) := by decide +kernel
theorem dX5_aim_5 : decode cX5_aim 5 = .ok (.aload_n 0, 1) := by decide +kernel
theorem dX5_aim_6 : decode cX5_aim 6 = .ok (.getfield 33, 3) := by decide +kernel
theorem dX5_aim_9 : decode cX5_aim 9 = .ok (.if_icmp .ge 35, 3) := by decide +kernel
theorem dX5_aim_12 : decode cX5_aim 12 = .ok (.aload_n 0, 1) := by decide +kernel
theorem dX5_aim_13 : decode cX5_aim 13 = .ok (.getfield 27, 3) := by decide +kernel
theorem dX5_aim_16 : decode cX5_aim 16 = .ok (.iload_n 1, 1) := by decide +kernel
theorem dX5_aim_17 : decode cX5_aim 17 = .ok (.iload 4, 2) := by decide +kernel
theorem dX5_aim_19 : decode cX5_aim 19 = .ok (.ifCond .eq 7, 3) := by decide +kernel
theorem dX5_aim_22 : decode cX5_aim 22 = .ok (.iload_n 3, 1) := by decide +kernel
theorem dX5_aim_23 : decode cX5_aim 23 = .ok (.goto 4, 3) := by decide +kernel
theorem dX5_aim_26 : decode cX5_aim 26 = .ok (.iload_n 2, 1) := by decide +kernel
theorem dX5_aim_27 : decode cX5_aim 27 = .ok (.iastore, 1) := by decide +kernel
theorem dX5_aim_28 : decode cX5_aim 28 = .ok (.aload_n 0, 1) := by decide +kernel
theorem dX5_aim_29 : decode cX5_aim 29 = .ok (.getfield 30, 3) := by decide +kernel
theorem dX5_aim_32 : decode cX5_aim 32 = .ok (.iload_n 1, 1) := by decide +kernel
theorem dX5_aim_33 : decode cX5_aim 33 = .ok (.iload 4, 2) := by decide +kernel
theorem dX5_aim_35 : decode cX5_aim 35 = .ok (.ifCond .eq 7, 3) := by decide +kernel
theorem dX5_aim_38 : decode cX5_aim 38 = .ok (.iload_n 2, 1) := by decide +kernel
theorem dX5_aim_39 : decode cX5_aim 39 = .ok (.goto 4, 3) := by decide +kernel
theorem dX5_aim_42 : decode cX5_aim 42 = .ok (.iload_n 3, 1) := by decide +kernel
theorem dX5_aim_43 : decode cX5_aim 43 = .ok (.iastore, 1) := by decide +kernel
theorem dX5_aim_44 : decode cX5_aim 44 = .ok (.return_, 1) := by decide +kernel
theorem dX5_build_0 : decode cX5_build 0 = .ok (.iload 4, 2) := by decide +kernel
theorem dX5_build_2 : decode cX5_build 2 = .ok (.bipush 60, 2) := by decide +kernel
theorem dX5_build_4 : decode cX5_build 4 = .ok (.if_icmp .le 5, 3) := by decide +kernel
theorem dX5_build_7 : decode cX5_build 7 = .ok (.iload_n 2, 1) := by decide +kernel
theorem dX5_build_8 : decode cX5_build 8 = .ok (.ireturn, 1) := by decide +kernel
theorem dX5_build_9 : decode cX5_build 9 = .ok (.aload_n 0, 1) := by decide +kernel
theorem dX5_build_10 : decode cX5_build 10 = .ok (.getfield 14, 3) := by decide +kernel
theorem dX5_build_13 : decode cX5_build 13 = .ok (.iload_n 1, 1) := by decide +kernel
theorem dX5_build_14 : decode cX5_build 14 = .ok (.invokevirtual 55, 3) := by decide +kernel
theorem dX5_build_17 : decode cX5_build 17 = .ok (.tableswitch 157 0 8 #[51, 51, 51, 60, 157, 76, 86, 96, 106], 51) := by decide +kernel
theorem dX5_build_68 : decode cX5_build 68 = .ok (.aload_n 0, 1) := by decide +kernel
theorem dX5_build_69 : decode cX5_build 69 = .ok (.iconst 0, 1) := by decide +kernel
theorem dX5_build_70 : decode cX5_build 70 = .ok (.iload_n 1, 1) := by decide +kernel
theorem dX5_build_71 : decode cX5_build 71 = .ok (.iload_n 2, 1) := by decide +kernel
theorem dX5_build_72 : decode cX5_build 72 = .ok (.iload_n 3, 1) := by decide +kernel
theorem dX5_build_73 : decode cX5_build 73 = .ok (.invokevirtual 37, 3) := by decide +kernel
theorem dX5_build_76 : decode cX5_build 76 = .ok (.ireturn, 1) := by decide +kernel
theorem dX5_build_77 : decode cX5_build 77 = .ok (.aload_n 0, 1) := by decide +kernel
theorem dX5_build_78 : decode cX5_build 78 = .ok (.iconst 1, 1) := by decide +kernel
theorem dX5_build_79 : decode cX5_build 79 = .ok (.aload_n 0, 1) := by decide +kernel
theorem dX5_build_80 : decode cX5_build 80 = .ok (.getfield 14, 3) := by decide +kernel
theorem dX5_build_83 : decode cX5_build 83 = .ok (.iload_n 1, 1) := by decide +kernel
theorem dX5_build_84 : decode cX5_build 84 = .ok (.invokevirtual 58, 3) := by decide +kernel
theorem dX5_build_87 : decode cX5_build 87 = .ok (.iload_n 2, 1) := by decide +kernel
theorem dX5_build_88 : decode cX5_build 88 = .ok (.iconst (-1), 1) := by decide +kernel
theorem dX5_build_89 : decode cX5_build 89 = .ok (.invokevirtual 37, 3) := by decide +kernel
theorem dX5_build_92 : decode cX5_build 92 = .ok (.ireturn, 1) := by decide +kernel
theorem dX5_build_93 : decode cX5_build 93 = .ok (.aload_n 0, 1) := by decide +kernel
theorem dX5_build_94 : decode cX5_build 94 = .ok (.iload_n 1, 1) := by decide +kernel
theorem dX5_build_95 : decode cX5_build 95 = .ok (.iload_n 2, 1) := by decide +kernel
theorem dX5_build_96 : decode cX5_build 96 = .ok (.iload_n 3, 1) := by decide +kernel
theorem dX5_build_97 : decode cX5_build 97 = .ok (.iload 4, 2) := by decide +kernel
theorem dX5_build_99 : decode cX5_build 99 = .ok (.invokevirtual 61, 3) := by decide +kernel
theorem dX5_build_102 : decode cX5_build 102 = .ok (.ireturn, 1) := by decide +kernel
theorem dX5_build_103 : decode cX5_build 103 = .ok (.aload_n 0, 1) := by decide +kernel
theorem dX5_build_104 : decode cX5_build 104 = .ok (.iload_n 1, 1) := by decide +kernel
theorem dX5_build_105 : decode cX5_build 105 = .ok (.iload_n 2, 1) := by decide +kernel
theorem dX5_build_106 : decode cX5_build 106 = .ok (.iload_n 3, 1) := by decide +kernel
theorem dX5_build_107 : decode cX5_build 107 = .ok (.iload 4, 2) := by decide +kernel
theorem dX5_build_109 : decode cX5_build 109 = .ok (.invokevirtual 64, 3) := by decide +kernel
theorem dX5_build_112 : decode cX5_build 112 = .ok (.ireturn, 1) := by decide +kernel
theorem dX5_build_113 : decode cX5_build 113 = .ok (.aload_n 0, 1) := by decide +kernel
theorem dX5_build_114 : decode cX5_build 114 = .ok (.iload_n 1, 1) := by decide +kernel
theorem dX5_build_115 : decode cX5_build 115 = .ok (.iload_n 2, 1) := by decide +kernel
theorem dX5_build_116 : decode cX5_build 116 = .ok (.iload_n 3, 1) := by decide +kernel
theorem dX5_build_117 : decode cX5_build 117 = .ok (.iload 4, 2) := by decide +kernel
theorem dX5_build_119 : decode cX5_build 119 = .ok (.invokevirtual 67, 3) := by decide +kernel
theorem dX5_build_122 : decode cX5_build 122 = .ok (.ireturn, 1) := by decide +kernel
theorem dX5_build_123 : decode cX5_build 123 = .ok (.aload_n 0, 1) := by decide +kernel
theorem dX5_build_124 : decode cX5_build 124 = .ok (.iconst 3, 1) := by decide +kernel
theorem dX5_build_125 : decode cX5_build 125 = .ok (.aload_n 0, 1) := by decide +kernel
theorem dX5_build_126 : decode cX5_build 126 = .ok (.getfield 14, 3) := by decide +kernel
theorem dX5_build_129 : decode cX5_build 129 = .ok (.iload_n 1, 1) := by decide +kernel
theorem dX5_build_130 : decode cX5_build 130 = .ok (.invokevirtual 58, 3) := by decide +kernel
theorem dX5_build_133 : decode cX5_build 133 = .ok (.iload_n 2, 1) := by decide +kernel
theorem dX5_build_134 : decode cX5_build 134 = .ok (.iconst (-1), 1) := by decide +kernel
theorem dX5_build_135 : decode cX5_build 135 = .ok (.invokevirtual 37, 3) := by decide +kernel
theorem dX5_build_138 : decode cX5_build 138 = .ok (.istore 5, 2) := by decide +kernel
theorem dX5_build_140 : decode cX5_build 140 = .ok (.aload_n 0, 1) := by decide +kernel
theorem dX5_build_141 : decode cX5_build 141 = .ok (.iconst 2, 1) := by decide +kernel
theorem dX5_build_142 : decode cX5_build 142 = .ok (.aload_n 0, 1) := by decide +kernel
theorem dX5_build_143 : decode cX5_build 143 = .ok (.getfield 14, 3) := by decide +kernel
theorem dX5_build_146 : decode cX5_build 146 = .ok (.iload_n 1, 1) := by decide +kernel
theorem dX5_build_147 : decode cX5_build 147 = .ok (.invokevirtual 58, 3) := by decide +kernel
theorem dX5_build_150 : decode cX5_build 150 = .ok (.aload_n 0, 1) := by decide +kernel
theorem dX5_build_151 : decode cX5_build 151 = .ok (.aload_n 0, 1) := by decide +kernel
theorem dX5_build_152 : decode cX5_build 152 = .ok (.getfield 14, 3) := by decide +kernel
theorem dX5_build_155 : decode cX5_build 155 = .ok (.iload_n 1, 1) := by decide +kernel
theorem dX5_build_156 : decode cX5_build 156 = .ok (.invokevirtual 70, 3) := by decide +kernel
theorem dX5_build_159 : decode cX5_build 159 = .ok (.iload 5, 2) := by decide +kernel
theorem dX5_build_161 : decode cX5_build 161 = .ok (.iload_n 3, 1) := by decide +kernel
theorem dX5_build_162 : decode cX5_build 162 = .ok (.iload 4, 2) := by decide +kernel
theorem dX5_build_164 : decode cX5_build 164 = .ok (.iconst 1, 1) := by decide +kernel
theorem dX5_build_165 : decode cX5_build 165 = .ok (.iadd, 1) := by decide +kernel
theorem dX5_build_166 : decode cX5_build 166 = .ok (.invokevirtual 41, 3) := by decide +kernel
theorem dX5_build_169 : decode cX5_build 169 = .ok (.iconst (-1), 1) := by decide +kernel
theorem dX5_build_170 : decode cX5_build 170 = .ok (.invokevirtual 37, 3) := by decide +kernel
theorem dX5_build_173 : decode cX5_build 173 = .ok (.ireturn, 1) := by decide +kernel
theorem dX5_build_174 : decode cX5_build 174 = .ok (.aload_n 0, 1) := by decide +kernel
theorem dX5_build_175 : decode cX5_build 175 = .ok (.aload_n 0, 1) := by decide +kernel
theorem dX5_build_176 : decode cX5_build 176 = .ok (.getfield 14, 3) := by decide +kernel
theorem dX5_build_179 : decode cX5_build 179 = .ok (.iload_n 1, 1) := by decide +kernel
theorem dX5_build_180 : decode cX5_build 180 = .ok (.invokevirtual 70, 3) := by decide +kernel
theorem dX5_build_183 : decode cX5_build 183 = .ok (.iload_n 2, 1) := by decide +kernel
theorem dX5_build_184 : decode cX5_build 184 = .ok (.iload_n 3, 1) := by decide +kernel
theorem dX5_build_185 : decode cX5_build 185 = .ok (.iload 4, 2) := by decide +kernel
theorem dX5_build_187 : decode cX5_build 187 = .ok (.iconst 1, 1) := by decide +kernel
theorem dX5_build_188 : decode cX5_build 188 = .ok (.iadd, 1) := by decide +kernel
theorem dX5_build_189 : decode cX5_build 189 = .ok (.invokevirtual 41, 3) := by decide +kernel
theorem dX5_build_192 : decode cX5_build 192 = .ok (.ireturn, 1) := by decide +kernel
theorem dX5_buildChoice_0 : decode cX5_buildChoice 0 = .ok (.aload_n 0, 1) := by decide +kernel
theorem dX5_buildChoice_1 : decode cX5_buildChoice 1 = .ok (.getfield 14, 3) := by decide +kernel
theorem dX5_buildChoice_4 : decode cX5_buildChoice 4 = .ok (.iload_n 1, 1) := by decide +kernel
theorem dX5_buildChoice_5 : decode cX5_buildChoice 5 = .ok (.invokevirtual 73, 3) := by decide +kernel
theorem dX5_buildChoice_8 : decode cX5_buildChoice 8 = .ok (.istore 5, 2) := by decide +kernel
theorem dX5_buildChoice_10 : decode cX5_buildChoice 10 = .ok (.aload_n 0, 1) := by decide +kernel
theorem dX5_buildChoice_11 : decode cX5_buildChoice 11 = .ok (.iload 5, 2) := by decide +kernel
theorem dX5_buildChoice_13 : decode cX5_buildChoice 13 = .ok (.iload_n 2, 1) := by decide +kernel
theorem dX5_buildChoice_14 : decode cX5_buildChoice 14 = .ok (.iload_n 3, 1) := by decide +kernel
theorem dX5_buildChoice_15 : decode cX5_buildChoice 15 = .ok (.iload 4, 2) := by decide +kernel
theorem dX5_buildChoice_17 : decode cX5_buildChoice 17 = .ok (.iconst 1, 1) := by decide +kernel
theorem dX5_buildChoice_18 : decode cX5_buildChoice 18 = .ok (.iadd, 1) := by decide +kernel
theorem dX5_buildChoice_19 : decode cX5_buildChoice 19 = .ok (.invokevirtual 41, 3) := by decide +kernel
theorem dX5_buildChoice_22 : decode cX5_buildChoice 22 = .ok (.istore 6, 2) := by decide +kernel
theorem dX5_buildChoice_24 : decode cX5_buildChoice 24 = .ok (.aload_n 0, 1) := by decide +kernel
theorem dX5_buildChoice_25 : decode cX5_buildChoice 25 = .ok (.getfield 14, 3) := by decide +kernel
theorem dX5_buildChoice_28 : decode cX5_buildChoice 28 = .ok (.iload 5, 2) := by decide +kernel
theorem dX5_buildChoice_30 : decode cX5_buildChoice 30 = .ok (.invokevirtual 76, 3) := by decide +kernel
theorem dX5_buildChoice_33 : decode cX5_buildChoice 33 = .ok (.istore 7, 2) := by decide +kernel
theorem dX5_buildChoice_35 : decode cX5_buildChoice 35 = .ok (.iload 7, 2) := by decide +kernel
theorem dX5_buildChoice_37 : decode cX5_buildChoice 37 = .ok (.iconst (-1), 1) := by decide +kernel
theorem dX5_buildChoice_38 : decode cX5_buildChoice 38 = .ok (.if_icmp .eq 39, 3) := by decide +kernel
theorem dX5_buildChoice_41 : decode cX5_buildChoice 41 = .ok (.aload_n 0, 1) := by decide +kernel
theorem dX5_buildChoice_42 : decode cX5_buildChoice 42 = .ok (.iconst 4, 1) := by decide +kernel
theorem dX5_buildChoice_43 : decode cX5_buildChoice 43 = .ok (.iconst (-1), 1) := by decide +kernel
theorem dX5_buildChoice_44 : decode cX5_buildChoice 44 = .ok (.aload_n 0, 1) := by decide +kernel
theorem dX5_buildChoice_45 : decode cX5_buildChoice 45 = .ok (.iload 7, 2) := by decide +kernel
theorem dX5_buildChoice_47 : decode cX5_buildChoice 47 = .ok (.iload_n 2, 1) := by decide +kernel
theorem dX5_buildChoice_48 : decode cX5_buildChoice 48 = .ok (.iload_n 3, 1) := by decide +kernel
theorem dX5_buildChoice_49 : decode cX5_buildChoice 49 = .ok (.iload 4, 2) := by decide +kernel
theorem dX5_buildChoice_51 : decode cX5_buildChoice 51 = .ok (.iconst 1, 1) := by decide +kernel
theorem dX5_buildChoice_52 : decode cX5_buildChoice 52 = .ok (.iadd, 1) := by decide +kernel
theorem dX5_buildChoice_53 : decode cX5_buildChoice 53 = .ok (.invokevirtual 41, 3) := by decide +kernel
theorem dX5_buildChoice_56 : decode cX5_buildChoice 56 = .ok (.iload 6, 2) := by decide +kernel
theorem dX5_buildChoice_58 : decode cX5_buildChoice 58 = .ok (.invokevirtual 37, 3) := by decide +kernel
theorem dX5_buildChoice_61 : decode cX5_buildChoice 61 = .ok (.istore 6, 2) := by decide +kernel
theorem dX5_buildChoice_63 : decode cX5_buildChoice 63 = .ok (.aload_n 0, 1) := by decide +kernel
theorem dX5_buildChoice_64 : decode cX5_buildChoice 64 = .ok (.getfield 14, 3) := by decide +kernel
theorem dX5_buildChoice_67 : decode cX5_buildChoice 67 = .ok (.iload 7, 2) := by decide +kernel
theorem dX5_buildChoice_69 : decode cX5_buildChoice 69 = .ok (.invokevirtual 76, 3) := by decide +kernel
theorem dX5_buildChoice_72 : decode cX5_buildChoice 72 = .ok (.istore 7, 2) := by decide +kernel
theorem dX5_buildChoice_74 : decode cX5_buildChoice 74 = .ok (.goto (-39), 3) := by decide +kernel
theorem dX5_buildChoice_77 : decode cX5_buildChoice 77 = .ok (.iload 6, 2) := by decide +kernel
theorem dX5_buildChoice_79 : decode cX5_buildChoice 79 = .ok (.ireturn, 1) := by decide +kernel
theorem dX5_buildLoop_0 : decode cX5_buildLoop 0 = .ok (.aload_n 0, 1) := by decide +kernel
theorem dX5_buildLoop_1 : decode cX5_buildLoop 1 = .ok (.getfield 14, 3) := by decide +kernel
theorem dX5_buildLoop_4 : decode cX5_buildLoop 4 = .ok (.iload_n 1, 1) := by decide +kernel
theorem dX5_buildLoop_5 : decode cX5_buildLoop 5 = .ok (.invokevirtual 70, 3) := by decide +kernel
theorem dX5_buildLoop_8 : decode cX5_buildLoop 8 = .ok (.istore 5, 2) := by decide +kernel
theorem dX5_buildLoop_10 : decode cX5_buildLoop 10 = .ok (.aload_n 0, 1) := by decide +kernel
theorem dX5_buildLoop_11 : decode cX5_buildLoop 11 = .ok (.getfield 14, 3) := by decide +kernel
theorem dX5_buildLoop_14 : decode cX5_buildLoop 14 = .ok (.iload_n 1, 1) := by decide +kernel
theorem dX5_buildLoop_15 : decode cX5_buildLoop 15 = .ok (.invokevirtual 58, 3) := by decide +kernel
theorem dX5_buildLoop_18 : decode cX5_buildLoop 18 = .ok (.iconst 1, 1) := by decide +kernel
theorem dX5_buildLoop_19 : decode cX5_buildLoop 19 = .ok (.if_icmp .ne 7, 3) := by decide +kernel
theorem dX5_buildLoop_22 : decode cX5_buildLoop 22 = .ok (.iconst 1, 1) := by decide +kernel
theorem dX5_buildLoop_23 : decode cX5_buildLoop 23 = .ok (.goto 4, 3) := by decide +kernel
theorem dX5_buildLoop_26 : decode cX5_buildLoop 26 = .ok (.iconst 0, 1) := by decide +kernel
theorem dX5_buildLoop_27 : decode cX5_buildLoop 27 = .ok (.istore 6, 2) := by decide +kernel
