theorem dX12_otherCase_32 : decode cX12_otherCase 32 = .ok (.isub, 1) := by decide +kernel
theorem dX12_otherCase_33 : decode cX12_otherCase 33 = .ok (.goto 4, 3) := by decide +kernel
theorem dX12_otherCase_36 : decode cX12_otherCase 36 = .ok (.iload_n 0, 1) := by decide +kernel
theorem dX12_otherCase_37 : decode cX12_otherCase 37 = .ok (.ireturn, 1) := by decide +kernel
theorem dX12_otherSort_0 : decode cX12_otherSort 0 = .ok (.aload_n 0, 1) := by decide +kernel
theorem dX12_otherSort_1 : decode cX12_otherSort 1 = .ok (.iconst 3, 1) := by decide +kernel
theorem dX12_otherSort_2 : decode cX12_otherSort 2 = .ok (.putfield 456, 3) := by decide +kernel
theorem dX12_otherSort_5 : decode cX12_otherSort 5 = .ok (.bipush (-6), 2) := by decide +kernel
theorem dX12_otherSort_7 : decode cX12_otherSort 7 = .ok (.ireturn, 1) := by decide +kernel
theorem dX12_out_0 : decode cX12_out 0 = .ok (.aload_n 0, 1) := by decide +kernel
theorem dX12_out_1 : decode cX12_out 1 = .ok (.iload_n 1, 1) := by decide +kernel
theorem dX12_out_2 : decode cX12_out 2 = .ok (.iconst 0, 1) := by decide +kernel
theorem dX12_out_3 : decode cX12_out 3 = .ok (.aload_n 0, 1) := by decide +kernel
theorem dX12_out_4 : decode cX12_out 4 = .ok (.getfield 502, 3) := by decide +kernel
theorem dX12_out_7 : decode cX12_out 7 = .ok (.iconst 1, 1) := by decide +kernel
theorem dX12_out_8 : decode cX12_out 8 = .ok (.isub, 1) := by decide +kernel
theorem dX12_out_9 : decode cX12_out 9 = .ok (.invokestatic 7, 3) := by decide +kernel
theorem dX12_out_12 : decode cX12_out 12 = .ok (.ifCond .eq 7, 3) := by decide +kernel
theorem dX12_out_15 : decode cX12_out 15 = .ok (.iconst 0, 1) := by decide +kernel
theorem dX12_out_16 : decode cX12_out 16 = .ok (.goto 4, 3) := by decide +kernel
theorem dX12_out_19 : decode cX12_out 19 = .ok (.iconst 1, 1) := by decide +kernel
theorem dX12_out_20 : decode cX12_out 20 = .ok (.putfield 1, 3) := by decide +kernel
theorem dX12_out_23 : decode cX12_out 23 = .ok (.aload_n 0, 1) := by decide +kernel
theorem dX12_out_24 : decode cX12_out 24 = .ok (.getfield 1, 3) := by decide +kernel
theorem dX12_out_27 : decode cX12_out 27 = .ok (.ifCond .ne 12, 3) := by decide +kernel
theorem dX12_out_30 : decode cX12_out 30 = .ok (.aload_n 0, 1) := by decide +kernel
theorem dX12_out_31 : decode cX12_out 31 = .ok (.getfield 155, 3) := by decide +kernel
theorem dX12_out_34 : decode cX12_out 34 = .ok (.iload_n 1, 1) := by decide +kernel
theorem dX12_out_35 : decode cX12_out 35 = .ok (.iaload, 1) := by decide +kernel
theorem dX12_out_36 : decode cX12_out 36 = .ok (.goto 4, 3) := by decide +kernel
theorem dX12_out_39 : decode cX12_out 39 = .ok (.iconst 0, 1) := by decide +kernel
theorem dX12_out_40 : decode cX12_out 40 = .ok (.ireturn, 1) := by decide +kernel
theorem dX12_part_0 : decode cX12_part 0 = .ok (.aload_n 0, 1) := by decide +kernel
theorem dX12_part_1 : decode cX12_part 1 = .ok (.iconst 0, 1) := by decide +kernel
theorem dX12_part_2 : decode cX12_part 2 = .ok (.putfield 1, 3) := by decide +kernel
theorem dX12_part_5 : decode cX12_part 5 = .ok (.aload_n 0, 1) := by decide +kernel
theorem dX12_part_6 : decode cX12_part 6 = .ok (.iload_n 1, 1) := by decide +kernel
theorem dX12_part_7 : decode cX12_part 7 = .ok (.invokevirtual 459, 3) := by decide +kernel
theorem dX12_part_10 : decode cX12_part 10 = .ok (.ifCond .eq 6, 3) := by decide +kernel
theorem dX12_part_13 : decode cX12_part 13 = .ok (.bipush (-2), 2) := by decide +kernel
theorem dX12_part_15 : decode cX12_part 15 = .ok (.ireturn, 1) := by decide +kernel
theorem dX12_part_16 : decode cX12_part 16 = .ok (.iload_n 2, 1) := by decide +kernel
theorem dX12_part_17 : decode cX12_part 17 = .ok (.iconst 0, 1) := by decide +kernel
theorem dX12_part_18 : decode cX12_part 18 = .ok (.aload_n 0, 1) := by decide +kernel
theorem dX12_part_19 : decode cX12_part 19 = .ok (.getfield 35, 3) := by decide +kernel
theorem dX12_part_22 : decode cX12_part 22 = .ok (.iload_n 1, 1) := by decide +kernel
theorem dX12_part_23 : decode cX12_part 23 = .ok (.iaload, 1) := by decide +kernel
theorem dX12_part_24 : decode cX12_part 24 = .ok (.iconst 1, 1) := by decide +kernel
theorem dX12_part_25 : decode cX12_part 25 = .ok (.isub, 1) := by decide +kernel
theorem dX12_part_26 : decode cX12_part 26 = .ok (.invokestatic 7, 3) := by decide +kernel
theorem dX12_part_29 : decode cX12_part 29 = .ok (.ifCond .ne 6, 3) := by decide +kernel
theorem dX12_part_32 : decode cX12_part 32 = .ok (.bipush (-4), 2) := by decide +kernel
theorem dX12_part_34 : decode cX12_part 34 = .ok (.ireturn, 1) := by decide +kernel
theorem dX12_part_35 : decode cX12_part 35 = .ok (.sipush 220, 3) := by decide +kernel
theorem dX12_part_38 : decode cX12_part 38 = .ok (.iload_n 1, 1) := by decide +kernel
theorem dX12_part_39 : decode cX12_part 39 = .ok (.imul, 1) := by decide +kernel
theorem dX12_part_40 : decode cX12_part 40 = .ok (.iload_n 2, 1) := by decide +kernel
theorem dX12_part_41 : decode cX12_part 41 = .ok (.iadd, 1) := by decide +kernel
theorem dX12_part_42 : decode cX12_part 42 = .ok (.istore 5, 2) := by decide +kernel
theorem dX12_part_44 : decode cX12_part 44 = .ok (.aload_n 0, 1) := by decide +kernel
theorem dX12_part_45 : decode cX12_part 45 = .ok (.getfield 44, 3) := by decide +kernel
theorem dX12_part_48 : decode cX12_part 48 = .ok (.iload 5, 2) := by decide +kernel
theorem dX12_part_50 : decode cX12_part 50 = .ok (.iaload, 1) := by decide +kernel
theorem dX12_part_51 : decode cX12_part 51 = .ok (.iconst 2, 1) := by decide +kernel
theorem dX12_part_52 : decode cX12_part 52 = .ok (.if_icmp .eq 8, 3) := by decide +kernel
theorem dX12_part_55 : decode cX12_part 55 = .ok (.aload_n 0, 1) := by decide +kernel
theorem dX12_part_56 : decode cX12_part 56 = .ok (.invokevirtual 462, 3) := by decide +kernel
theorem dX12_part_59 : decode cX12_part 59 = .ok (.ireturn, 1) := by decide +kernel
theorem dX12_part_60 : decode cX12_part 60 = .ok (.iload_n 3, 1) := by decide +kernel
theorem dX12_part_61 : decode cX12_part 61 = .ok (.iconst 0, 1) := by decide +kernel
theorem dX12_part_62 : decode cX12_part 62 = .ok (.aload_n 0, 1) := by decide +kernel
theorem dX12_part_63 : decode cX12_part 63 = .ok (.getfield 59, 3) := by decide +kernel
theorem dX12_part_66 : decode cX12_part 66 = .ok (.iload 5, 2) := by decide +kernel
theorem dX12_part_68 : decode cX12_part 68 = .ok (.iaload, 1) := by decide +kernel
theorem dX12_part_69 : decode cX12_part 69 = .ok (.iconst 1, 1) := by decide +kernel
theorem dX12_part_70 : decode cX12_part 70 = .ok (.isub, 1) := by decide +kernel
theorem dX12_part_71 : decode cX12_part 71 = .ok (.invokestatic 7, 3) := by decide +kernel
theorem dX12_part_74 : decode cX12_part 74 = .ok (.ifCond .ne 11, 3) := by decide +kernel
theorem dX12_part_77 : decode cX12_part 77 = .ok (.aload_n 0, 1) := by decide +kernel
theorem dX12_part_78 : decode cX12_part 78 = .ok (.iconst 1, 1) := by decide +kernel
theorem dX12_part_79 : decode cX12_part 79 = .ok (.putfield 456, 3) := by decide +kernel
theorem dX12_part_82 : decode cX12_part 82 = .ok (.bipush (-4), 2) := by decide +kernel
theorem dX12_part_84 : decode cX12_part 84 = .ok (.ireturn, 1) := by decide +kernel
theorem dX12_part_85 : decode cX12_part 85 = .ok (.iload 4, 2) := by decide +kernel
theorem dX12_part_87 : decode cX12_part 87 = .ok (.ifCond .eq 20, 3) := by decide +kernel
theorem dX12_part_90 : decode cX12_part 90 = .ok (.aload_n 0, 1) := by decide +kernel
theorem dX12_part_91 : decode cX12_part 91 = .ok (.getfield 83, 3) := by decide +kernel
theorem dX12_part_94 : decode cX12_part 94 = .ok (.aload_n 0, 1) := by decide +kernel
theorem dX12_part_95 : decode cX12_part 95 = .ok (.getfield 71, 3) := by decide +kernel
theorem dX12_part_98 : decode cX12_part 98 = .ok (.iload 5, 2) := by decide +kernel
theorem dX12_part_100 : decode cX12_part 100 = .ok (.iaload, 1) := by decide +kernel
theorem dX12_part_101 : decode cX12_part 101 = .ok (.iload_n 3, 1) := by decide +kernel
theorem dX12_part_102 : decode cX12_part 102 = .ok (.iadd, 1) := by decide +kernel
theorem dX12_part_103 : decode cX12_part 103 = .ok (.iaload, 1) := by decide +kernel
theorem dX12_part_104 : decode cX12_part 104 = .ok (.goto 17, 3) := by decide +kernel
theorem dX12_part_107 : decode cX12_part 107 = .ok (.aload_n 0, 1) := by decide +kernel
theorem dX12_part_108 : decode cX12_part 108 = .ok (.getfield 80, 3) := by decide +kernel
theorem dX12_part_111 : decode cX12_part 111 = .ok (.aload_n 0, 1) := by decide +kernel
theorem dX12_part_112 : decode cX12_part 112 = .ok (.getfield 71, 3) := by decide +kernel
theorem dX12_part_115 : decode cX12_part 115 = .ok (.iload 5, 2) := by decide +kernel
theorem dX12_part_117 : decode cX12_part 117 = .ok (.iaload, 1) := by decide +kernel
theorem dX12_part_118 : decode cX12_part 118 = .ok (.iload_n 3, 1) := by decide +kernel
theorem dX12_part_119 : decode cX12_part 119 = .ok (.iadd, 1) := by decide +kernel
theorem dX12_part_120 : decode cX12_part 120 = .ok (.iaload, 1) := by decide +kernel
theorem dX12_part_121 : decode cX12_part 121 = .ok (.ireturn, 1) := by decide +kernel
theorem dX12_parting_0 : decode cX12_parting 0 = .ok (.aload_n 0, 1) := by decide +kernel
theorem dX12_parting_1 : decode cX12_parting 1 = .ok (.iconst 0, 1) := by decide +kernel
theorem dX12_parting_2 : decode cX12_parting 2 = .ok (.putfield 1, 3) := by decide +kernel
theorem dX12_parting_5 : decode cX12_parting 5 = .ok (.aload_n 0, 1) := by decide +kernel
theorem dX12_parting_6 : decode cX12_parting 6 = .ok (.iload_n 1, 1) := by decide +kernel
theorem dX12_parting_7 : decode cX12_parting 7 = .ok (.invokevirtual 459, 3) := by decide +kernel
theorem dX12_parting_10 : decode cX12_parting 10 = .ok (.ifCond .ne 11, 3) := by decide +kernel
theorem dX12_parting_13 : decode cX12_parting 13 = .ok (.aload_n 0, 1) := by decide +kernel
theorem dX12_parting_14 : decode cX12_parting 14 = .ok (.iload_n 2, 1) := by decide +kernel
theorem dX12_parting_15 : decode cX12_parting 15 = .ok (.invokevirtual 459, 3) := by decide +kernel
theorem dX12_parting_18 : decode cX12_parting 18 = .ok (.ifCond .eq 6, 3) := by decide +kernel
theorem dX12_parting_21 : decode cX12_parting 21 = .ok (.bipush (-2), 2) := by decide +kernel
theorem dX12_parting_23 : decode cX12_parting 23 = .ok (.ireturn, 1) := by decide +kernel
theorem dX12_parting_24 : decode cX12_parting 24 = .ok (.aload_n 0, 1) := by decide +kernel
theorem dX12_parting_25 : decode cX12_parting 25 = .ok (.iload_n 1, 1) := by decide +kernel
theorem dX12_parting_26 : decode cX12_parting 26 = .ok (.iload_n 2, 1) := by decide +kernel
theorem dX12_parting_27 : decode cX12_parting 27 = .ok (.invokevirtual 752, 3) := by decide +kernel
theorem dX12_parting_30 : decode cX12_parting 30 = .ok (.istore_n 3, 1) := by decide +kernel
theorem dX12_parting_31 : decode cX12_parting 31 = .ok (.iload_n 3, 1) := by decide +kernel
theorem dX12_parting_32 : decode cX12_parting 32 = .ok (.ifCond .eq 5, 3) := by decide +kernel
theorem dX12_parting_35 : decode cX12_parting 35 = .ok (.iload_n 3, 1) := by decide +kernel
theorem dX12_parting_36 : decode cX12_parting 36 = .ok (.ireturn, 1) := by decide +kernel
theorem dX12_parting_37 : decode cX12_parting 37 = .ok (.aload_n 0, 1) := by decide +kernel
theorem dX12_parting_38 : decode cX12_parting 38 = .ok (.invokevirtual 755, 3) := by decide +kernel
theorem dX12_parting_41 : decode cX12_parting 41 = .ok (.iconst 0, 1) := by decide +kernel
theorem dX12_parting_42 : decode cX12_parting 42 = .ok (.istore 4, 2) := by decide +kernel
theorem dX12_parting_44 : decode cX12_parting 44 = .ok (.iload 4, 2) := by decide +kernel
theorem dX12_parting_46 : decode cX12_parting 46 = .ok (.aload_n 0, 1) := by decide +kernel
theorem dX12_parting_47 : decode cX12_parting 47 = .ok (.getfield 745, 3) := by decide +kernel
theorem dX12_parting_50 : decode cX12_parting 50 = .ok (.if_icmp .ge 18, 3) := by decide +kernel
theorem dX12_parting_53 : decode cX12_parting 53 = .ok (.aload_n 0, 1) := by decide +kernel
theorem dX12_parting_54 : decode cX12_parting 54 = .ok (.iload 4, 2) := by decide +kernel
theorem dX12_parting_56 : decode cX12_parting 56 = .ok (.invokevirtual 758, 3) := by decide +kernel
theorem dX12_parting_59 : decode cX12_parting 59 = .ok (.ifCond .ne 9, 3) := by decide +kernel
theorem dX12_parting_62 : decode cX12_parting 62 = .ok (.iinc 4 1, 3) := by decide +kernel
theorem dX12_parting_65 : decode cX12_parting 65 = .ok (.goto (-21), 3) := by decide +kernel
theorem dX12_parting_68 : decode cX12_parting 68 = .ok (.iload 4, 2) := by decide +kernel
theorem dX12_parting_70 : decode cX12_parting 70 = .ok (.aload_n 0, 1) := by decide +kernel
theorem dX12_parting_71 : decode cX12_parting 71 = .ok (.getfield 745, 3) := by decide +kernel
theorem dX12_parting_74 : decode cX12_parting 74 = .ok (.if_icmp .ne 5, 3) := by decide +kernel
theorem dX12_parting_77 : decode cX12_parting 77 = .ok (.iconst (-1), 1) := by decide +kernel
theorem dX12_parting_78 : decode cX12_parting 78 = .ok (.ireturn, 1) := by decide +kernel
theorem dX12_parting_79 : decode cX12_parting 79 = .ok (.iconst 0, 1) := by decide +kernel
theorem dX12_parting_80 : decode cX12_parting 80 = .ok (.istore 5, 2) := by decide +kernel
theorem dX12_parting_82 : decode cX12_parting 82 = .ok (.iload 4, 2) := by decide +kernel
theorem dX12_parting_84 : decode cX12_parting 84 = .ok (.istore 6, 2) := by decide +kernel
theorem dX12_parting_86 : decode cX12_parting 86 = .ok (.aload_n 0, 1) := by decide +kernel
theorem dX12_parting_87 : decode cX12_parting 87 = .ok (.getfield 299, 3) := by decide +kernel
theorem dX12_parting_90 : decode cX12_parting 90 = .ok (.iload 6, 2) := by decide +kernel
theorem dX12_parting_92 : decode cX12_parting 92 = .ok (.iaload, 1) := by decide +kernel
theorem dX12_parting_93 : decode cX12_parting 93 = .ok (.iconst (-1), 1) := by decide +kernel
theorem dX12_parting_94 : decode cX12_parting 94 = .ok (.if_icmp .eq 18, 3) := by decide +kernel
theorem dX12_parting_97 : decode cX12_parting 97 = .ok (.iinc 5 1, 3) := by decide +kernel
theorem dX12_parting_100 : decode cX12_parting 100 = .ok (.aload_n 0, 1) := by decide +kernel
theorem dX12_parting_101 : decode cX12_parting 101 = .ok (.getfield 299, 3) := by decide +kernel
theorem dX12_parting_104 : decode cX12_parting 104 = .ok (.iload 6, 2) := by decide +kernel
theorem dX12_parting_106 : decode cX12_parting 106 = .ok (.iaload, 1) := by decide +kernel
theorem dX12_parting_107 : decode cX12_parting 107 = .ok (.istore 6, 2) := by decide +kernel
theorem dX12_parting_109 : decode cX12_parting 109 = .ok (.goto (-23), 3) := by decide +kernel
theorem dX12_parting_112 : decode cX12_parting 112 = .ok (.iload 5, 2) := by decide +kernel
theorem dX12_parting_114 : decode cX12_parting 114 = .ok (.sipush 400, 3) := by decide +kernel
theorem dX12_parting_117 : decode cX12_parting 117 = .ok (.if_icmp .le 11, 3) := by decide +kernel
theorem dX12_parting_120 : decode cX12_parting 120 = .ok (.aload_n 0, 1) := by decide +kernel
theorem dX12_parting_121 : decode cX12_parting 121 = .ok (.iconst 4, 1) := by decide +kernel
theorem dX12_parting_122 : decode cX12_parting 122 = .ok (.putfield 456, 3) := by decide +kernel
theorem dX12_parting_125 : decode cX12_parting 125 = .ok (.bipush (-9), 2) := by decide +kernel
theorem dX12_parting_127 : decode cX12_parting 127 = .ok (.ireturn, 1) := by decide +kernel
theorem dX12_parting_128 : decode cX12_parting 128 = .ok (.aload_n 0, 1) := by decide +kernel
theorem dX12_parting_129 : decode cX12_parting 129 = .ok (.iload 5, 2) := by decide +kernel
theorem dX12_parting_131 : decode cX12_parting 131 = .ok (.putfield 502, 3) := by decide +kernel
theorem dX12_parting_134 : decode cX12_parting 134 = .ok (.aload_n 0, 1) := by decide +kernel
theorem dX12_parting_135 : decode cX12_parting 135 = .ok (.iconst 0, 1) := by decide +kernel
theorem dX12_parting_136 : decode cX12_parting 136 = .ok (.putfield 505, 3) := by decide +kernel
theorem dX12_parting_139 : decode cX12_parting 139 = .ok (.iload 4, 2) := by decide +kernel
theorem dX12_parting_141 : decode cX12_parting 141 = .ok (.istore 6, 2) := by decide +kernel
theorem dX12_parting_143 : decode cX12_parting 143 = .ok (.aload_n 0, 1) := by decide +kernel
theorem dX12_parting_144 : decode cX12_parting 144 = .ok (.getfield 299, 3) := by decide +kernel
theorem dX12_parting_147 : decode cX12_parting 147 = .ok (.iload 6, 2) := by decide +kernel
theorem dX12_parting_149 : decode cX12_parting 149 = .ok (.iaload, 1) := by decide +kernel
theorem dX12_parting_150 : decode cX12_parting 150 = .ok (.iconst (-1), 1) := by decide +kernel
theorem dX12_parting_151 : decode cX12_parting 151 = .ok (.if_icmp .eq 32, 3) := by decide +kernel
theorem dX12_parting_154 : decode cX12_parting 154 = .ok (.iinc 5 (-1), 3) := by decide +kernel
theorem dX12_parting_157 : decode cX12_parting 157 = .ok (.aload_n 0, 1) := by decide +kernel
theorem dX12_parting_158 : decode cX12_parting 158 = .ok (.getfield 155, 3) := by decide +kernel
theorem dX12_parting_161 : decode cX12_parting 161 = .ok (.iload 5, 2) := by decide +kernel
theorem dX12_parting_163 : decode cX12_parting 163 = .ok (.aload_n 0, 1) := by decide +kernel
theorem dX12_parting_164 : decode cX12_parting 164 = .ok (.getfield 302, 3) := by decide +kernel
theorem dX12_parting_167 : decode cX12_parting 167 = .ok (.iload 6, 2) := by decide +kernel
theorem dX12_parting_169 : decode cX12_parting 169 = .ok (.iaload, 1) := by decide +kernel
theorem dX12_parting_170 : decode cX12_parting 170 = .ok (.iastore, 1) := by decide +kernel
theorem dX12_parting_171 : decode cX12_parting 171 = .ok (.aload_n 0, 1) := by decide +kernel
theorem dX12_parting_172 : decode cX12_parting 172 = .ok (.getfield 299, 3) := by decide +kernel
theorem dX12_parting_175 : decode cX12_parting 175 = .ok (.iload 6, 2) := by decide +kernel
theorem dX12_parting_177 : decode cX12_parting 177 = .ok (.iaload, 1) := by decide +kernel
theorem dX12_parting_178 : decode cX12_parting 178 = .ok (.istore 6, 2) := by decide +kernel
theorem dX12_parting_180 : decode cX12_parting 180 = .ok (.goto (-37), 3) := by decide +kernel
theorem dX12_parting_183 : decode cX12_parting 183 = .ok (.aload_n 0, 1) := by decide +kernel
theorem dX12_parting_184 : decode cX12_parting 184 = .ok (.getfield 502, 3) := by decide +kernel
theorem dX12_parting_187 : decode cX12_parting 187 = .ok (.ireturn, 1) := by decide +kernel
theorem dX12_pattern_0 : decode cX12_pattern 0 = .ok (.aload_n 0, 1) := by decide +kernel
theorem dX12_pattern_1 : decode cX12_pattern 1 = .ok (.iconst 0, 1) := by decide +kernel
theorem dX12_pattern_2 : decode cX12_pattern 2 = .ok (.putfield 1, 3) := by decide +kernel
theorem dX12_pattern_5 : decode cX12_pattern 5 = .ok (.iload_n 1, 1) := by decide +kernel
theorem dX12_pattern_6 : decode cX12_pattern 6 = .ok (.iconst 0, 1) := by decide +kernel
theorem dX12_pattern_7 : decode cX12_pattern 7 = .ok (.iconst 5, 1) := by decide +kernel
theorem dX12_pattern_8 : decode cX12_pattern 8 = .ok (.invokestatic 7, 3) := by decide +kernel
theorem dX12_pattern_11 : decode cX12_pattern 11 = .ok (.ifCond .ne 6, 3) := by decide +kernel
theorem dX12_pattern_14 : decode cX12_pattern 14 = .ok (.bipush (-2), 2) := by decide +kernel
theorem dX12_pattern_16 : decode cX12_pattern 16 = .ok (.ireturn, 1) := by decide +kernel
theorem dX12_pattern_17 : decode cX12_pattern 17 = .ok (.aload_n 0, 1) := by decide +kernel
theorem dX12_pattern_18 : decode cX12_pattern 18 = .ok (.invokevirtual 443, 3) := by decide +kernel
theorem dX12_pattern_21 : decode cX12_pattern 21 = .ok (.istore_n 2, 1) := by decide +kernel
theorem dX12_pattern_22 : decode cX12_pattern 22 = .ok (.aload_n 0, 1) := by decide +kernel
theorem dX12_pattern_23 : decode cX12_pattern 23 = .ok (.iconst 0, 1) := by decide +kernel
theorem dX12_pattern_24 : decode cX12_pattern 24 = .ok (.putfield 317, 3) := by decide +kernel
theorem dX12_pattern_27 : decode cX12_pattern 27 = .ok (.aload_n 0, 1) := by decide +kernel
theorem dX12_pattern_28 : decode cX12_pattern 28 = .ok (.aload_n 0, 1) := by decide +kernel
theorem dX12_pattern_29 : decode cX12_pattern 29 = .ok (.getfield 320, 3) := by decide +kernel
theorem dX12_pattern_32 : decode cX12_pattern 32 = .ok (.ifCond .le 10, 3) := by decide +kernel
theorem dX12_pattern_35 : decode cX12_pattern 35 = .ok (.aload_n 0, 1) := by decide +kernel
theorem dX12_pattern_36 : decode cX12_pattern 36 = .ok (.getfield 323, 3) := by decide +kernel
theorem dX12_pattern_39 : decode cX12_pattern 39 = .ok (.goto 4, 3) := by decide +kernel
theorem dX12_pattern_42 : decode cX12_pattern 42 = .ok (.iconst (-1), 1) := by decide +kernel
theorem dX12_pattern_43 : decode cX12_pattern 43 = .ok (.putfield 28, 3) := by decide +kernel
theorem dX12_pattern_46 : decode cX12_pattern 46 = .ok (.aload_n 0, 1) := by decide +kernel
theorem dX12_pattern_47 : decode cX12_pattern 47 = .ok (.getfield 320, 3) := by decide +kernel
theorem dX12_pattern_50 : decode cX12_pattern 50 = .ok (.ifCond .le 11, 3) := by decide +kernel
theorem dX12_pattern_53 : decode cX12_pattern 53 = .ok (.bipush (-20), 2) := by decide +kernel
theorem dX12_pattern_55 : decode cX12_pattern 55 = .ok (.aload_n 0, 1) := by decide +kernel
theorem dX12_pattern_56 : decode cX12_pattern 56 = .ok (.getfield 320, 3) := by decide +kernel
theorem dX12_pattern_59 : decode cX12_pattern 59 = .ok (.isub, 1) := by decide +kernel
theorem dX12_pattern_60 : decode cX12_pattern 60 = .ok (.ireturn, 1) := by decide +kernel
theorem dX12_pattern_61 : decode cX12_pattern 61 = .ok (.aload_n 0, 1) := by decide +kernel
theorem dX12_pattern_62 : decode cX12_pattern 62 = .ok (.iload_n 1, 1) := by decide +kernel
theorem dX12_pattern_63 : decode cX12_pattern 63 = .ok (.iload_n 2, 1) := by decide +kernel
theorem dX12_pattern_64 : decode cX12_pattern 64 = .ok (.invokevirtual 446, 3) := by decide +kernel
theorem dX12_pattern_67 : decode cX12_pattern 67 = .ok (.aload_n 0, 1) := by decide +kernel
theorem dX12_pattern_68 : decode cX12_pattern 68 = .ok (.aload_n 0, 1) := by decide +kernel
theorem dX12_pattern_69 : decode cX12_pattern 69 = .ok (.getfield 449, 3) := by decide +kernel
theorem dX12_pattern_72 : decode cX12_pattern 72 = .ok (.ifCond .eq 15, 3) := by decide +kernel
theorem dX12_pattern_75 : decode cX12_pattern 75 = .ok (.aload_n 0, 1) := by decide +kernel
theorem dX12_pattern_76 : decode cX12_pattern 76 = .ok (.getfield 453, 3) := by decide +kernel
theorem dX12_pattern_79 : decode cX12_pattern 79 = .ok (.iload_n 1, 1) := by decide +kernel
theorem dX12_pattern_80 : decode cX12_pattern 80 = .ok (.if_icmp .eq 7, 3) := by decide +kernel
theorem dX12_pattern_83 : decode cX12_pattern 83 = .ok (.iconst 1, 1) := by decide +kernel
theorem dX12_pattern_84 : decode cX12_pattern 84 = .ok (.goto 4, 3) := by decide +kernel
theorem dX12_pattern_87 : decode cX12_pattern 87 = .ok (.iconst 0, 1) := by decide +kernel
theorem dX12_pattern_88 : decode cX12_pattern 88 = .ok (.putfield 449, 3) := by decide +kernel
theorem dX12_pattern_91 : decode cX12_pattern 91 = .ok (.aload_n 0, 1) := by decide +kernel
theorem dX12_pattern_92 : decode cX12_pattern 92 = .ok (.getfield 35, 3) := by decide +kernel
theorem dX12_pattern_95 : decode cX12_pattern 95 = .ok (.iload_n 1, 1) := by decide +kernel
theorem dX12_pattern_96 : decode cX12_pattern 96 = .ok (.iaload, 1) := by decide +kernel
theorem dX12_pattern_97 : decode cX12_pattern 97 = .ok (.ireturn, 1) := by decide +kernel
theorem dX12_place_0 : decode cX12_place 0 = .ok (.aload_n 0, 1) := by decide +kernel
theorem dX12_place_1 : decode cX12_place 1 = .ok (.iconst 0, 1) := by decide +kernel
theorem dX12_place_2 : decode cX12_place 2 = .ok (.putfield 1, 3) := by decide +kernel
theorem dX12_place_5 : decode cX12_place 5 = .ok (.aload_n 0, 1) := by decide +kernel
theorem dX12_place_6 : decode cX12_place 6 = .ok (.getfield 28, 3) := by decide +kernel
theorem dX12_place_9 : decode cX12_place 9 = .ok (.ireturn, 1) := by decide +kernel
theorem dX12_prefix_0 : decode cX12_prefix 0 = .ok (.aload_n 0, 1) := by decide +kernel
theorem dX12_prefix_1 : decode cX12_prefix 1 = .ok (.iconst 0, 1) := by decide +kernel
theorem dX12_prefix_2 : decode cX12_prefix 2 = .ok (.putfield 1, 3) := by decide +kernel
theorem dX12_prefix_5 : decode cX12_prefix 5 = .ok (.aload_n 0, 1) := by decide +kernel
theorem dX12_prefix_6 : decode cX12_prefix 6 = .ok (.iload_n 1, 1) := by decide +kernel
theorem dX12_prefix_7 : decode cX12_prefix 7 = .ok (.iload_n 2, 1) := by decide +kernel
theorem dX12_prefix_8 : decode cX12_prefix 8 = .ok (.invokevirtual 687, 3) := by decide +kernel
theorem dX12_prefix_11 : decode cX12_prefix 11 = .ok (.istore 4, 2) := by decide +kernel
theorem dX12_prefix_13 : decode cX12_prefix 13 = .ok (.iload 4, 2) := by decide +kernel
theorem dX12_prefix_15 : decode cX12_prefix 15 = .ok (.ifCond .eq 6, 3) := by decide +kernel
theorem dX12_prefix_18 : decode cX12_prefix 18 = .ok (.iload 4, 2) := by decide +kernel
theorem dX12_prefix_20 : decode cX12_prefix 20 = .ok (.ireturn, 1) := by decide +kernel
theorem dX12_prefix_21 : decode cX12_prefix 21 = .ok (.iload_n 3, 1) := by decide +kernel
theorem dX12_prefix_22 : decode cX12_prefix 22 = .ok (.iconst 0, 1) := by decide +kernel
theorem dX12_prefix_23 : decode cX12_prefix 23 = .ok (.aload_n 0, 1) := by decide +kernel
theorem dX12_prefix_24 : decode cX12_prefix 24 = .ok (.getfield 174, 3) := by decide +kernel
theorem dX12_prefix_27 : decode cX12_prefix 27 = .ok (.iload_n 2, 1) := by decide +kernel
theorem dX12_prefix_28 : decode cX12_prefix 28 = .ok (.iaload, 1) := by decide +kernel
theorem dX12_prefix_29 : decode cX12_prefix 29 = .ok (.invokestatic 7, 3) := by decide +kernel
theorem dX12_prefix_32 : decode cX12_prefix 32 = .ok (.ifCond .ne 6, 3) := by decide +kernel
theorem dX12_prefix_35 : decode cX12_prefix 35 = .ok (.bipush (-4), 2) := by decide +kernel
theorem dX12_prefix_37 : decode cX12_prefix 37 = .ok (.ireturn, 1) := by decide +kernel
theorem dX12_prefix_38 : decode cX12_prefix 38 = .ok (.aload_n 0, 1) := by decide +kernel
theorem dX12_prefix_39 : decode cX12_prefix 39 = .ok (.iload_n 1, 1) := by decide +kernel
theorem dX12_prefix_40 : decode cX12_prefix 40 = .ok (.invokevirtual 730, 3) := by decide +kernel
theorem dX12_prefix_43 : decode cX12_prefix 43 = .ok (.istore 4, 2) := by decide +kernel
theorem dX12_prefix_45 : decode cX12_prefix 45 = .ok (.iload 4, 2) := by decide +kernel
theorem dX12_prefix_47 : decode cX12_prefix 47 = .ok (.ifCond .eq 6, 3) := by decide +kernel
theorem dX12_prefix_50 : decode cX12_prefix 50 = .ok (.iload 4, 2) := by decide +kernel
theorem dX12_prefix_52 : decode cX12_prefix 52 = .ok (.ireturn, 1) := by decide +kernel
theorem dX12_prefix_53 : decode cX12_prefix 53 = .ok (.aload_n 0, 1) := by decide +kernel
theorem dX12_prefix_54 : decode cX12_prefix 54 = .ok (.invokevirtual 736, 3) := by decide +kernel
theorem dX12_prefix_57 : decode cX12_prefix 57 = .ok (.aload_n 0, 1) := by decide +kernel
theorem dX12_prefix_58 : decode cX12_prefix 58 = .ok (.getfield 271, 3) := by decide +kernel
theorem dX12_prefix_61 : decode cX12_prefix 61 = .ok (.iconst 0, 1) := by decide +kernel
theorem dX12_prefix_62 : decode cX12_prefix 62 = .ok (.baload, 1) := by decide +kernel
theorem dX12_prefix_63 : decode cX12_prefix 63 = .ok (.ifCond .ne 5, 3) := by decide +kernel
theorem dX12_prefix_66 : decode cX12_prefix 66 = .ok (.iconst (-1), 1) := by decide +kernel
theorem dX12_prefix_67 : decode cX12_prefix 67 = .ok (.ireturn, 1) := by decide +kernel
theorem dX12_prefix_68 : decode cX12_prefix 68 = .ok (.iconst 0, 1) := by decide +kernel
theorem dX12_prefix_69 : decode cX12_prefix 69 = .ok (.istore 5, 2) := by decide +kernel
theorem dX12_prefix_71 : decode cX12_prefix 71 = .ok (.iload_n 3, 1) := by decide +kernel
theorem dX12_prefix_72 : decode cX12_prefix 72 = .ok (.istore 6, 2) := by decide +kernel
theorem dX12_prefix_74 : decode cX12_prefix 74 = .ok (.iload 6, 2) := by decide +kernel
theorem dX12_prefix_76 : decode cX12_prefix 76 = .ok (.aload_n 0, 1) := by decide +kernel
theorem dX12_prefix_77 : decode cX12_prefix 77 = .ok (.getfield 174, 3) := by decide +kernel
theorem dX12_prefix_80 : decode cX12_prefix 80 = .ok (.iload_n 2, 1) := by decide +kernel
theorem dX12_prefix_81 : decode cX12_prefix 81 = .ok (.iaload, 1) := by decide +kernel
theorem dX12_prefix_82 : decode cX12_prefix 82 = .ok (.if_icmp .ge 81, 3) := by decide +kernel
theorem dX12_prefix_85 : decode cX12_prefix 85 = .ok (.aload_n 0, 1) := by decide +kernel
theorem dX12_prefix_86 : decode cX12_prefix 86 = .ok (.getfield 524, 3) := by decide +kernel
theorem dX12_prefix_89 : decode cX12_prefix 89 = .ok (.iconst 1, 1) := by decide +kernel
theorem dX12_prefix_90 : decode cX12_prefix 90 = .ok (.isub, 1) := by decide +kernel
theorem dX12_prefix_91 : decode cX12_prefix 91 = .ok (.istore 7, 2) := by decide +kernel
theorem dX12_prefix_93 : decode cX12_prefix 93 = .ok (.aload_n 0, 1) := by decide +kernel
theorem dX12_prefix_94 : decode cX12_prefix 94 = .ok (.getfield 165, 3) := by decide +kernel
theorem dX12_prefix_97 : decode cX12_prefix 97 = .ok (.iload 7, 2) := by decide +kernel
theorem dX12_prefix_99 : decode cX12_prefix 99 = .ok (.iaload, 1) := by decide +kernel
theorem dX12_prefix_100 : decode cX12_prefix 100 = .ok (.aload_n 0, 1) := by decide +kernel
theorem dX12_prefix_101 : decode cX12_prefix 101 = .ok (.getfield 177, 3) := by decide +kernel
theorem dX12_prefix_104 : decode cX12_prefix 104 = .ok (.bipush 100, 2) := by decide +kernel
theorem dX12_prefix_106 : decode cX12_prefix 106 = .ok (.iload_n 2, 1) := by decide +kernel
theorem dX12_prefix_107 : decode cX12_prefix 107 = .ok (.imul, 1) := by decide +kernel
theorem dX12_prefix_108 : decode cX12_prefix 108 = .ok (.iload 6, 2) := by decide +kernel
theorem dX12_prefix_110 : decode cX12_prefix 110 = .ok (.iadd, 1) := by decide +kernel
theorem dX12_prefix_111 : decode cX12_prefix 111 = .ok (.iaload, 1) := by decide +kernel
theorem dX12_prefix_112 : decode cX12_prefix 112 = .ok (.if_icmp .le 9, 3) := by decide +kernel
theorem dX12_prefix_115 : decode cX12_prefix 115 = .ok (.iinc 7 (-1), 3) := by decide +kernel
theorem dX12_prefix_118 : decode cX12_prefix 118 = .ok (.goto (-25), 3) := by decide +kernel
theorem dX12_prefix_121 : decode cX12_prefix 121 = .ok (.aload_n 0, 1) := by decide +kernel
theorem dX12_prefix_122 : decode cX12_prefix 122 = .ok (.getfield 284, 3) := by decide +kernel
theorem dX12_prefix_125 : decode cX12_prefix 125 = .ok (.sipush 500, 3) := by decide +kernel
theorem dX12_prefix_128 : decode cX12_prefix 128 = .ok (.iload 5, 2) := by decide +kernel
theorem dX12_prefix_130 : decode cX12_prefix 130 = .ok (.imul, 1) := by decide +kernel
theorem dX12_prefix_131 : decode cX12_prefix 131 = .ok (.aload_n 0, 1) := by decide +kernel
theorem dX12_prefix_132 : decode cX12_prefix 132 = .ok (.getfield 280, 3) := by decide +kernel
theorem dX12_prefix_135 : decode cX12_prefix 135 = .ok (.iload 7, 2) := by decide +kernel
theorem dX12_prefix_137 : decode cX12_prefix 137 = .ok (.iaload, 1) := by decide +kernel
theorem dX12_prefix_138 : decode cX12_prefix 138 = .ok (.iadd, 1) := by decide +kernel
theorem dX12_prefix_139 : decode cX12_prefix 139 = .ok (.iaload, 1) := by decide +kernel
theorem dX12_prefix_140 : decode cX12_prefix 140 = .ok (.istore 5, 2) := by decide +kernel
theorem dX12_prefix_142 : decode cX12_prefix 142 = .ok (.aload_n 0, 1) := by decide +kernel
theorem dX12_prefix_143 : decode cX12_prefix 143 = .ok (.getfield 271, 3) := by decide +kernel
theorem dX12_prefix_146 : decode cX12_prefix 146 = .ok (.iload 5, 2) := by decide +kernel
theorem dX12_prefix_148 : decode cX12_prefix 148 = .ok (.baload, 1) := by decide +kernel
theorem dX12_prefix_149 : decode cX12_prefix 149 = .ok (.ifCond .ne 8, 3) := by decide +kernel
theorem dX12_prefix_152 : decode cX12_prefix 152 = .ok (.iload 6, 2) := by decide +kernel
theorem dX12_prefix_154 : decode cX12_prefix 154 = .ok (.iload_n 3, 1) := by decide +kernel
theorem dX12_prefix_155 : decode cX12_prefix 155 = .ok (.isub, 1) := by decide +kernel
theorem dX12_prefix_156 : decode cX12_prefix 156 = .ok (.ireturn, 1) := by decide +kernel
theorem dX12_prefix_157 : decode cX12_prefix 157 = .ok (.iinc 6 1, 3) := by decide +kernel
theorem dX12_prefix_160 : decode cX12_prefix 160 = .ok (.goto (-86), 3) := by decide +kernel
theorem dX12_prefix_163 : decode cX12_prefix 163 = .ok (.aload_n 0, 1) := by decide +kernel
theorem dX12_prefix_164 : decode cX12_prefix 164 = .ok (.getfield 174, 3) := by decide +kernel
theorem dX12_prefix_167 : decode cX12_prefix 167 = .ok (.iload_n 2, 1) := by decide +kernel
theorem dX12_prefix_168 : decode cX12_prefix 168 = .ok (.iaload, 1) := by decide +kernel
theorem dX12_prefix_169 : decode cX12_prefix 169 = .ok (.iload_n 3, 1) := by decide +kernel
theorem dX12_prefix_170 : decode cX12_prefix 170 = .ok (.isub, 1) := by decide +kernel
theorem dX12_prefix_171 : decode cX12_prefix 171 = .ok (.ireturn, 1) := by decide +kernel
theorem dX12_print_0 : decode cX12_print 0 = .ok (.aload_n 0, 1) := by decide +kernel
theorem dX12_print_1 : decode cX12_print 1 = .ok (.iconst 0, 1) := by decide +kernel
theorem dX12_print_2 : decode cX12_print 2 = .ok (.putfield 1, 3) := by decide +kernel
theorem dX12_print_5 : decode cX12_print 5 = .ok (.aload_n 0, 1) := by decide +kernel
theorem dX12_print_6 : decode cX12_print 6 = .ok (.iload_n 1, 1) := by decide +kernel
theorem dX12_print_7 : decode cX12_print 7 = .ok (.invokevirtual 459, 3) := by decide +kernel
theorem dX12_print_10 : decode cX12_print 10 = .ok (.ifCond .eq 6, 3) := by decide +kernel
theorem dX12_print_13 : decode cX12_print 13 = .ok (.bipush (-2), 2) := by decide +kernel
theorem dX12_print_15 : decode cX12_print 15 = .ok (.ireturn, 1) := by decide +kernel
theorem dX12_print_16 : decode cX12_print 16 = .ok (.aload_n 0, 1) := by decide +kernel
theorem dX12_print_17 : decode cX12_print 17 = .ok (.iload_n 1, 1) := by decide +kernel
theorem dX12_print_18 : decode cX12_print 18 = .ok (.iconst 0, 1) := by decide +kernel
theorem dX12_print_19 : decode cX12_print 19 = .ok (.invokevirtual 499, 3) := by decide +kernel
theorem dX12_print_22 : decode cX12_print 22 = .ok (.aload_n 0, 1) := by decide +kernel
theorem dX12_print_23 : decode cX12_print 23 = .ok (.getfield 465, 3) := by decide +kernel
theorem dX12_print_26 : decode cX12_print 26 = .ok (.sipush 400, 3) := by decide +kernel
theorem dX12_print_29 : decode cX12_print 29 = .ok (.if_icmp .le 11, 3) := by decide +kernel
theorem dX12_print_32 : decode cX12_print 32 = .ok (.aload_n 0, 1) := by decide +kernel
theorem dX12_print_33 : decode cX12_print 33 = .ok (.iconst 4, 1) := by decide +kernel
theorem dX12_print_34 : decode cX12_print 34 = .ok (.putfield 456, 3) := by decide +kernel
theorem dX12_print_37 : decode cX12_print 37 = .ok (.bipush (-9), 2) := by decide +kernel
theorem dX12_print_39 : decode cX12_print 39 = .ok (.ireturn, 1) := by decide +kernel
theorem dX12_print_40 : decode cX12_print 40 = .ok (.iconst 0, 1) := by decide +kernel
theorem dX12_print_41 : decode cX12_print 41 = .ok (.istore_n 2, 1) := by decide +kernel
theorem dX12_print_42 : decode cX12_print 42 = .ok (.iload_n 2, 1) := by decide +kernel
theorem dX12_print_43 : decode cX12_print 43 = .ok (.aload_n 0, 1) := by decide +kernel
theorem dX12_print_44 : decode cX12_print 44 = .ok (.getfield 465, 3) := by decide +kernel
theorem dX12_print_47 : decode cX12_print 47 = .ok (.if_icmp .ge 21, 3) := by decide +kernel
theorem dX12_print_50 : decode cX12_print 50 = .ok (.aload_n 0, 1) := by decide +kernel
theorem dX12_print_51 : decode cX12_print 51 = .ok (.getfield 155, 3) := by decide +kernel
theorem dX12_print_54 : decode cX12_print 54 = .ok (.iload_n 2, 1) := by decide +kernel
theorem dX12_print_55 : decode cX12_print 55 = .ok (.aload_n 0, 1) := by decide +kernel
theorem dX12_print_56 : decode cX12_print 56 = .ok (.getfield 149, 3) := by decide +kernel
theorem dX12_print_59 : decode cX12_print 59 = .ok (.iload_n 2, 1) := by decide +kernel
theorem dX12_print_60 : decode cX12_print 60 = .ok (.iaload, 1) := by decide +kernel
theorem dX12_print_61 : decode cX12_print 61 = .ok (.iastore, 1) := by decide +kernel
theorem dX12_print_62 : decode cX12_print 62 = .ok (.iinc 2 1, 3) := by decide +kernel
theorem dX12_print_65 : decode cX12_print 65 = .ok (.goto (-23), 3) := by decide +kernel
theorem dX12_print_68 : decode cX12_print 68 = .ok (.aload_n 0, 1) := by decide +kernel
theorem dX12_print_69 : decode cX12_print 69 = .ok (.aload_n 0, 1) := by decide +kernel
theorem dX12_print_70 : decode cX12_print 70 = .ok (.getfield 465, 3) := by decide +kernel
theorem dX12_print_73 : decode cX12_print 73 = .ok (.putfield 502, 3) := by decide +kernel
theorem dX12_print_76 : decode cX12_print 76 = .ok (.aload_n 0, 1) := by decide +kernel
theorem dX12_print_77 : decode cX12_print 77 = .ok (.iconst 0, 1) := by decide +kernel
theorem dX12_print_78 : decode cX12_print 78 = .ok (.putfield 505, 3) := by decide +kernel
theorem dX12_print_81 : decode cX12_print 81 = .ok (.aload_n 0, 1) := by decide +kernel
theorem dX12_print_82 : decode cX12_print 82 = .ok (.getfield 502, 3) := by decide +kernel
theorem dX12_print_85 : decode cX12_print 85 = .ok (.ireturn, 1) := by decide +kernel
theorem dX12_printFrom_0 : decode cX12_printFrom 0 = .ok (.sipush 220, 3) := by decide +kernel
theorem dX12_printFrom_3 : decode cX12_printFrom 3 = .ok (.iload_n 1, 1) := by decide +kernel
theorem dX12_printFrom_4 : decode cX12_printFrom 4 = .ok (.imul, 1) := by decide +kernel
theorem dX12_printFrom_5 : decode cX12_printFrom 5 = .ok (.istore_n 3, 1) := by decide +kernel
theorem dX12_printFrom_6 : decode cX12_printFrom 6 = .ok (.aload_n 0, 1) := by decide +kernel
theorem dX12_printFrom_7 : decode cX12_printFrom 7 = .ok (.iconst 0, 1) := by decide +kernel
theorem dX12_printFrom_8 : decode cX12_printFrom 8 = .ok (.putfield 465, 3) := by decide +kernel
theorem dX12_printFrom_11 : decode cX12_printFrom 11 = .ok (.aload_n 0, 1) := by decide +kernel
theorem dX12_printFrom_12 : decode cX12_printFrom 12 = .ok (.iconst (-1), 1) := by decide +kernel
theorem dX12_printFrom_13 : decode cX12_printFrom 13 = .ok (.putfield 478, 3) := by decide +kernel
theorem dX12_printFrom_16 : decode cX12_printFrom 16 = .ok (.aload_n 0, 1) := by decide +kernel
theorem dX12_printFrom_17 : decode cX12_printFrom 17 = .ok (.getfield 143, 3) := by decide +kernel
theorem dX12_printFrom_20 : decode cX12_printFrom 20 = .ok (.iconst 0, 1) := by decide +kernel
theorem dX12_printFrom_21 : decode cX12_printFrom 21 = .ok (.iload_n 2, 1) := by decide +kernel
theorem dX12_printFrom_22 : decode cX12_printFrom 22 = .ok (.iastore, 1) := by decide +kernel
theorem dX12_printFrom_23 : decode cX12_printFrom 23 = .ok (.aload_n 0, 1) := by decide +kernel
theorem dX12_printFrom_24 : decode cX12_printFrom 24 = .ok (.getfield 146, 3) := by decide +kernel
theorem dX12_printFrom_27 : decode cX12_printFrom 27 = .ok (.iconst 0, 1) := by decide +kernel
theorem dX12_printFrom_28 : decode cX12_printFrom 28 = .ok (.iconst (-1), 1) := by decide +kernel
theorem dX12_printFrom_29 : decode cX12_printFrom 29 = .ok (.iastore, 1) := by decide +kernel
theorem dX12_printFrom_30 : decode cX12_printFrom 30 = .ok (.iconst 1, 1) := by decide +kernel
theorem dX12_printFrom_31 : decode cX12_printFrom 31 = .ok (.istore 4, 2) := by decide +kernel
theorem dX12_printFrom_33 : decode cX12_printFrom 33 = .ok (.iload 4, 2) := by decide +kernel
theorem dX12_printFrom_35 : decode cX12_printFrom 35 = .ok (.ifCond .le 155, 3) := by decide +kernel
theorem dX12_printFrom_38 : decode cX12_printFrom 38 = .ok (.aload_n 0, 1) := by decide +kernel
theorem dX12_printFrom_39 : decode cX12_printFrom 39 = .ok (.getfield 143, 3) := by decide +kernel
theorem dX12_printFrom_42 : decode cX12_printFrom 42 = .ok (.iload 4, 2) := by decide +kernel
theorem dX12_printFrom_44 : decode cX12_printFrom 44 = .ok (.iconst 1, 1) := by decide +kernel
theorem dX12_printFrom_45 : decode cX12_printFrom 45 = .ok (.isub, 1) := by decide +kernel
theorem dX12_printFrom_46 : decode cX12_printFrom 46 = .ok (.iaload, 1) := by decide +kernel
theorem dX12_printFrom_47 : decode cX12_printFrom 47 = .ok (.istore 5, 2) := by decide +kernel
theorem dX12_printFrom_49 : decode cX12_printFrom 49 = .ok (.aload_n 0, 1) := by decide +kernel
theorem dX12_printFrom_50 : decode cX12_printFrom 50 = .ok (.getfield 146, 3) := by decide +kernel
theorem dX12_printFrom_53 : decode cX12_printFrom 53 = .ok (.iload 4, 2) := by decide +kernel
theorem dX12_printFrom_55 : decode cX12_printFrom 55 = .ok (.iconst 1, 1) := by decide +kernel
theorem dX12_printFrom_56 : decode cX12_printFrom 56 = .ok (.isub, 1) := by decide +kernel
theorem dX12_printFrom_57 : decode cX12_printFrom 57 = .ok (.iaload, 1) := by decide +kernel
theorem dX12_printFrom_58 : decode cX12_printFrom 58 = .ok (.iconst (-1), 1) := by decide +kernel
theorem dX12_printFrom_59 : decode cX12_printFrom 59 = .ok (.if_icmp .ne 23, 3) := by decide +kernel
