theorem dX12_keepSpan_34 : decode cX12_keepSpan 34 = .ok (.iastore, 1) := by decide +kernel
theorem dX12_keepSpan_35 : decode cX12_keepSpan 35 = .ok (.iinc 3 1, 3) := by decide +kernel
theorem dX12_keepSpan_38 : decode cX12_keepSpan 38 = .ok (.goto (-21), 3) := by decide +kernel
theorem dX12_keepSpan_41 : decode cX12_keepSpan 41 = .ok (.return_, 1) := by decide +kernel
theorem dX12_kindBars_0 : decode cX12_kindBars 0 = .ok (.sipush 220, 3) := by decide +kernel
theorem dX12_kindBars_3 : decode cX12_kindBars 3 = .ok (.iload_n 1, 1) := by decide +kernel
theorem dX12_kindBars_4 : decode cX12_kindBars 4 = .ok (.imul, 1) := by decide +kernel
theorem dX12_kindBars_5 : decode cX12_kindBars 5 = .ok (.istore_n 3, 1) := by decide +kernel
theorem dX12_kindBars_6 : decode cX12_kindBars 6 = .ok (.iconst 0, 1) := by decide +kernel
theorem dX12_kindBars_7 : decode cX12_kindBars 7 = .ok (.istore 4, 2) := by decide +kernel
theorem dX12_kindBars_9 : decode cX12_kindBars 9 = .ok (.iconst 0, 1) := by decide +kernel
theorem dX12_kindBars_10 : decode cX12_kindBars 10 = .ok (.istore 5, 2) := by decide +kernel
theorem dX12_kindBars_12 : decode cX12_kindBars 12 = .ok (.iload 5, 2) := by decide +kernel
theorem dX12_kindBars_14 : decode cX12_kindBars 14 = .ok (.aload_n 0, 1) := by decide +kernel
theorem dX12_kindBars_15 : decode cX12_kindBars 15 = .ok (.getfield 35, 3) := by decide +kernel
theorem dX12_kindBars_18 : decode cX12_kindBars 18 = .ok (.iload_n 1, 1) := by decide +kernel
theorem dX12_kindBars_19 : decode cX12_kindBars 19 = .ok (.iaload, 1) := by decide +kernel
theorem dX12_kindBars_20 : decode cX12_kindBars 20 = .ok (.if_icmp .ge 130, 3) := by decide +kernel
theorem dX12_kindBars_23 : decode cX12_kindBars 23 = .ok (.iload_n 2, 1) := by decide +kernel
theorem dX12_kindBars_24 : decode cX12_kindBars 24 = .ok (.ifCond .le 126, 3) := by decide +kernel
theorem dX12_kindBars_27 : decode cX12_kindBars 27 = .ok (.iload_n 3, 1) := by decide +kernel
theorem dX12_kindBars_28 : decode cX12_kindBars 28 = .ok (.iload 5, 2) := by decide +kernel
theorem dX12_kindBars_30 : decode cX12_kindBars 30 = .ok (.iadd, 1) := by decide +kernel
theorem dX12_kindBars_31 : decode cX12_kindBars 31 = .ok (.istore 6, 2) := by decide +kernel
theorem dX12_kindBars_33 : decode cX12_kindBars 33 = .ok (.aload_n 0, 1) := by decide +kernel
theorem dX12_kindBars_34 : decode cX12_kindBars 34 = .ok (.getfield 44, 3) := by decide +kernel
theorem dX12_kindBars_37 : decode cX12_kindBars 37 = .ok (.iload 6, 2) := by decide +kernel
theorem dX12_kindBars_39 : decode cX12_kindBars 39 = .ok (.iaload, 1) := by decide +kernel
theorem dX12_kindBars_40 : decode cX12_kindBars 40 = .ok (.istore 7, 2) := by decide +kernel
theorem dX12_kindBars_42 : decode cX12_kindBars 42 = .ok (.iload 4, 2) := by decide +kernel
theorem dX12_kindBars_44 : decode cX12_kindBars 44 = .ok (.ifCond .ne 34, 3) := by decide +kernel
theorem dX12_kindBars_47 : decode cX12_kindBars 47 = .ok (.iload 7, 2) := by decide +kernel
theorem dX12_kindBars_49 : decode cX12_kindBars 49 = .ok (.iconst 4, 1) := by decide +kernel
theorem dX12_kindBars_50 : decode cX12_kindBars 50 = .ok (.if_icmp .eq 28, 3) := by decide +kernel
theorem dX12_kindBars_53 : decode cX12_kindBars 53 = .ok (.iload 7, 2) := by decide +kernel
theorem dX12_kindBars_55 : decode cX12_kindBars 55 = .ok (.bipush 9, 2) := by decide +kernel
theorem dX12_kindBars_57 : decode cX12_kindBars 57 = .ok (.if_icmp .eq 21, 3) := by decide +kernel
theorem dX12_kindBars_60 : decode cX12_kindBars 60 = .ok (.iload 7, 2) := by decide +kernel
theorem dX12_kindBars_62 : decode cX12_kindBars 62 = .ok (.bipush 10, 2) := by decide +kernel
theorem dX12_kindBars_64 : decode cX12_kindBars 64 = .ok (.if_icmp .eq 14, 3) := by decide +kernel
theorem dX12_kindBars_67 : decode cX12_kindBars 67 = .ok (.iload 7, 2) := by decide +kernel
theorem dX12_kindBars_69 : decode cX12_kindBars 69 = .ok (.iconst 3, 1) := by decide +kernel
theorem dX12_kindBars_70 : decode cX12_kindBars 70 = .ok (.if_icmp .ne 12, 3) := by decide +kernel
theorem dX12_kindBars_73 : decode cX12_kindBars 73 = .ok (.iload_n 2, 1) := by decide +kernel
theorem dX12_kindBars_74 : decode cX12_kindBars 74 = .ok (.iconst 2, 1) := by decide +kernel
theorem dX12_kindBars_75 : decode cX12_kindBars 75 = .ok (.if_icmp .ne 7, 3) := by decide +kernel
theorem dX12_kindBars_78 : decode cX12_kindBars 78 = .ok (.iconst 1, 1) := by decide +kernel
theorem dX12_kindBars_79 : decode cX12_kindBars 79 = .ok (.goto 4, 3) := by decide +kernel
theorem dX12_kindBars_82 : decode cX12_kindBars 82 = .ok (.iconst 0, 1) := by decide +kernel
theorem dX12_kindBars_83 : decode cX12_kindBars 83 = .ok (.istore 4, 2) := by decide +kernel
theorem dX12_kindBars_85 : decode cX12_kindBars 85 = .ok (.iload 4, 2) := by decide +kernel
theorem dX12_kindBars_87 : decode cX12_kindBars 87 = .ok (.ifCond .ne 50, 3) := by decide +kernel
theorem dX12_kindBars_90 : decode cX12_kindBars 90 = .ok (.iload 7, 2) := by decide +kernel
theorem dX12_kindBars_92 : decode cX12_kindBars 92 = .ok (.bipush 7, 2) := by decide +kernel
theorem dX12_kindBars_94 : decode cX12_kindBars 94 = .ok (.if_icmp .ne 47, 3) := by decide +kernel
theorem dX12_kindBars_97 : decode cX12_kindBars 97 = .ok (.aload_n 0, 1) := by decide +kernel
theorem dX12_kindBars_98 : decode cX12_kindBars 98 = .ok (.getfield 47, 3) := by decide +kernel
theorem dX12_kindBars_101 : decode cX12_kindBars 101 = .ok (.iload 6, 2) := by decide +kernel
theorem dX12_kindBars_103 : decode cX12_kindBars 103 = .ok (.iaload, 1) := by decide +kernel
theorem dX12_kindBars_104 : decode cX12_kindBars 104 = .ok (.iconst 2, 1) := by decide +kernel
theorem dX12_kindBars_105 : decode cX12_kindBars 105 = .ok (.if_icmp .eq 32, 3) := by decide +kernel
theorem dX12_kindBars_108 : decode cX12_kindBars 108 = .ok (.aload_n 0, 1) := by decide +kernel
theorem dX12_kindBars_109 : decode cX12_kindBars 109 = .ok (.getfield 53, 3) := by decide +kernel
theorem dX12_kindBars_112 : decode cX12_kindBars 112 = .ok (.iload 6, 2) := by decide +kernel
theorem dX12_kindBars_114 : decode cX12_kindBars 114 = .ok (.iaload, 1) := by decide +kernel
theorem dX12_kindBars_115 : decode cX12_kindBars 115 = .ok (.aload_n 0, 1) := by decide +kernel
theorem dX12_kindBars_116 : decode cX12_kindBars 116 = .ok (.getfield 50, 3) := by decide +kernel
theorem dX12_kindBars_119 : decode cX12_kindBars 119 = .ok (.iload 6, 2) := by decide +kernel
theorem dX12_kindBars_121 : decode cX12_kindBars 121 = .ok (.iaload, 1) := by decide +kernel
theorem dX12_kindBars_122 : decode cX12_kindBars 122 = .ok (.if_icmp .le 19, 3) := by decide +kernel
theorem dX12_kindBars_125 : decode cX12_kindBars 125 = .ok (.aload_n 0, 1) := by decide +kernel
theorem dX12_kindBars_126 : decode cX12_kindBars 126 = .ok (.getfield 74, 3) := by decide +kernel
theorem dX12_kindBars_129 : decode cX12_kindBars 129 = .ok (.iload 6, 2) := by decide +kernel
theorem dX12_kindBars_131 : decode cX12_kindBars 131 = .ok (.iconst 1, 1) := by decide +kernel
theorem dX12_kindBars_132 : decode cX12_kindBars 132 = .ok (.iadd, 1) := by decide +kernel
theorem dX12_kindBars_133 : decode cX12_kindBars 133 = .ok (.baload, 1) := by decide +kernel
theorem dX12_kindBars_134 : decode cX12_kindBars 134 = .ok (.ifCond .eq 7, 3) := by decide +kernel
theorem dX12_kindBars_137 : decode cX12_kindBars 137 = .ok (.iconst 1, 1) := by decide +kernel
theorem dX12_kindBars_138 : decode cX12_kindBars 138 = .ok (.goto 4, 3) := by decide +kernel
theorem dX12_kindBars_141 : decode cX12_kindBars 141 = .ok (.iconst 0, 1) := by decide +kernel
theorem dX12_kindBars_142 : decode cX12_kindBars 142 = .ok (.istore 4, 2) := by decide +kernel
theorem dX12_kindBars_144 : decode cX12_kindBars 144 = .ok (.iinc 5 1, 3) := by decide +kernel
theorem dX12_kindBars_147 : decode cX12_kindBars 147 = .ok (.goto (-135), 3) := by decide +kernel
theorem dX12_kindBars_150 : decode cX12_kindBars 150 = .ok (.iload 4, 2) := by decide +kernel
theorem dX12_kindBars_152 : decode cX12_kindBars 152 = .ok (.ifCond .eq 8, 3) := by decide +kernel
theorem dX12_kindBars_155 : decode cX12_kindBars 155 = .ok (.bipush (-6), 2) := by decide +kernel
theorem dX12_kindBars_157 : decode cX12_kindBars 157 = .ok (.goto 4, 3) := by decide +kernel
theorem dX12_kindBars_160 : decode cX12_kindBars 160 = .ok (.iconst 0, 1) := by decide +kernel
theorem dX12_kindBars_161 : decode cX12_kindBars 161 = .ok (.ireturn, 1) := by decide +kernel
theorem dX12_later_0 : decode cX12_later 0 = .ok (.aload_n 0, 1) := by decide +kernel
theorem dX12_later_1 : decode cX12_later 1 = .ok (.getfield 192, 3) := by decide +kernel
theorem dX12_later_4 : decode cX12_later 4 = .ok (.aload_n 0, 1) := by decide +kernel
theorem dX12_later_5 : decode cX12_later 5 = .ok (.getfield 545, 3) := by decide +kernel
theorem dX12_later_8 : decode cX12_later 8 = .ok (.iload_n 1, 1) := by decide +kernel
theorem dX12_later_9 : decode cX12_later 9 = .ok (.iastore, 1) := by decide +kernel
theorem dX12_later_10 : decode cX12_later 10 = .ok (.aload_n 0, 1) := by decide +kernel
theorem dX12_later_11 : decode cX12_later 11 = .ok (.getfield 195, 3) := by decide +kernel
theorem dX12_later_14 : decode cX12_later 14 = .ok (.aload_n 0, 1) := by decide +kernel
theorem dX12_later_15 : decode cX12_later 15 = .ok (.getfield 545, 3) := by decide +kernel
theorem dX12_later_18 : decode cX12_later 18 = .ok (.iload_n 2, 1) := by decide +kernel
theorem dX12_later_19 : decode cX12_later 19 = .ok (.iastore, 1) := by decide +kernel
theorem dX12_later_20 : decode cX12_later 20 = .ok (.aload_n 0, 1) := by decide +kernel
theorem dX12_later_21 : decode cX12_later 21 = .ok (.getfield 198, 3) := by decide +kernel
theorem dX12_later_24 : decode cX12_later 24 = .ok (.aload_n 0, 1) := by decide +kernel
theorem dX12_later_25 : decode cX12_later 25 = .ok (.getfield 545, 3) := by decide +kernel
theorem dX12_later_28 : decode cX12_later 28 = .ok (.iload_n 3, 1) := by decide +kernel
theorem dX12_later_29 : decode cX12_later 29 = .ok (.iastore, 1) := by decide +kernel
theorem dX12_later_30 : decode cX12_later 30 = .ok (.aload_n 0, 1) := by decide +kernel
theorem dX12_later_31 : decode cX12_later 31 = .ok (.dup, 1) := by decide +kernel
theorem dX12_later_32 : decode cX12_later 32 = .ok (.getfield 545, 3) := by decide +kernel
theorem dX12_later_35 : decode cX12_later 35 = .ok (.iconst 1, 1) := by decide +kernel
theorem dX12_later_36 : decode cX12_later 36 = .ok (.iadd, 1) := by decide +kernel
theorem dX12_later_37 : decode cX12_later 37 = .ok (.putfield 545, 3) := by decide +kernel
theorem dX12_later_40 : decode cX12_later 40 = .ok (.return_, 1) := by decide +kernel
theorem dX12_least_0 : decode cX12_least 0 = .ok (.aload_n 0, 1) := by decide +kernel
theorem dX12_least_1 : decode cX12_least 1 = .ok (.iconst 0, 1) := by decide +kernel
theorem dX12_least_2 : decode cX12_least 2 = .ok (.putfield 1, 3) := by decide +kernel
theorem dX12_least_5 : decode cX12_least 5 = .ok (.aload_n 0, 1) := by decide +kernel
theorem dX12_least_6 : decode cX12_least 6 = .ok (.iload_n 1, 1) := by decide +kernel
theorem dX12_least_7 : decode cX12_least 7 = .ok (.invokevirtual 459, 3) := by decide +kernel
theorem dX12_least_10 : decode cX12_least 10 = .ok (.ifCond .eq 6, 3) := by decide +kernel
theorem dX12_least_13 : decode cX12_least 13 = .ok (.bipush (-2), 2) := by decide +kernel
theorem dX12_least_15 : decode cX12_least 15 = .ok (.ireturn, 1) := by decide +kernel
theorem dX12_least_16 : decode cX12_least 16 = .ok (.aload_n 0, 1) := by decide +kernel
theorem dX12_least_17 : decode cX12_least 17 = .ok (.iload_n 1, 1) := by decide +kernel
theorem dX12_least_18 : decode cX12_least 18 = .ok (.invokevirtual 730, 3) := by decide +kernel
theorem dX12_least_21 : decode cX12_least 21 = .ok (.istore_n 2, 1) := by decide +kernel
theorem dX12_least_22 : decode cX12_least 22 = .ok (.iload_n 2, 1) := by decide +kernel
theorem dX12_least_23 : decode cX12_least 23 = .ok (.ifCond .eq 5, 3) := by decide +kernel
theorem dX12_least_26 : decode cX12_least 26 = .ok (.iload_n 2, 1) := by decide +kernel
theorem dX12_least_27 : decode cX12_least 27 = .ok (.ireturn, 1) := by decide +kernel
theorem dX12_least_28 : decode cX12_least 28 = .ok (.iconst 0, 1) := by decide +kernel
theorem dX12_least_29 : decode cX12_least 29 = .ok (.istore_n 3, 1) := by decide +kernel
theorem dX12_least_30 : decode cX12_least 30 = .ok (.iconst 1, 1) := by decide +kernel
theorem dX12_least_31 : decode cX12_least 31 = .ok (.istore 4, 2) := by decide +kernel
theorem dX12_least_33 : decode cX12_least 33 = .ok (.iconst 0, 1) := by decide +kernel
theorem dX12_least_34 : decode cX12_least 34 = .ok (.istore 5, 2) := by decide +kernel
theorem dX12_least_36 : decode cX12_least 36 = .ok (.iload 5, 2) := by decide +kernel
theorem dX12_least_38 : decode cX12_least 38 = .ok (.aload_n 0, 1) := by decide +kernel
theorem dX12_least_39 : decode cX12_least 39 = .ok (.getfield 262, 3) := by decide +kernel
theorem dX12_least_42 : decode cX12_least 42 = .ok (.iconst 0, 1) := by decide +kernel
theorem dX12_least_43 : decode cX12_least 43 = .ok (.iaload, 1) := by decide +kernel
theorem dX12_least_44 : decode cX12_least 44 = .ok (.if_icmp .ge 31, 3) := by decide +kernel
theorem dX12_least_47 : decode cX12_least 47 = .ok (.aload_n 0, 1) := by decide +kernel
theorem dX12_least_48 : decode cX12_least 48 = .ok (.getfield 287, 3) := by decide +kernel
theorem dX12_least_51 : decode cX12_least 51 = .ok (.iload 5, 2) := by decide +kernel
theorem dX12_least_53 : decode cX12_least 53 = .ok (.aload_n 0, 1) := by decide +kernel
theorem dX12_least_54 : decode cX12_least 54 = .ok (.getfield 268, 3) := by decide +kernel
theorem dX12_least_57 : decode cX12_least 57 = .ok (.iload 5, 2) := by decide +kernel
theorem dX12_least_59 : decode cX12_least 59 = .ok (.baload, 1) := by decide +kernel
theorem dX12_least_60 : decode cX12_least 60 = .ok (.ifCond .eq 7, 3) := by decide +kernel
theorem dX12_least_63 : decode cX12_least 63 = .ok (.iconst 1, 1) := by decide +kernel
theorem dX12_least_64 : decode cX12_least 64 = .ok (.goto 4, 3) := by decide +kernel
theorem dX12_least_67 : decode cX12_least 67 = .ok (.iconst 0, 1) := by decide +kernel
theorem dX12_least_68 : decode cX12_least 68 = .ok (.iastore, 1) := by decide +kernel
theorem dX12_least_69 : decode cX12_least 69 = .ok (.iinc 5 1, 3) := by decide +kernel
theorem dX12_least_72 : decode cX12_least 72 = .ok (.goto (-36), 3) := by decide +kernel
theorem dX12_least_75 : decode cX12_least 75 = .ok (.iload_n 3, 1) := by decide +kernel
theorem dX12_least_76 : decode cX12_least 76 = .ok (.iload 4, 2) := by decide +kernel
theorem dX12_least_78 : decode cX12_least 78 = .ok (.if_icmp .eq 136, 3) := by decide +kernel
theorem dX12_least_81 : decode cX12_least 81 = .ok (.iload 4, 2) := by decide +kernel
theorem dX12_least_83 : decode cX12_least 83 = .ok (.istore_n 3, 1) := by decide +kernel
theorem dX12_least_84 : decode cX12_least 84 = .ok (.iconst 0, 1) := by decide +kernel
theorem dX12_least_85 : decode cX12_least 85 = .ok (.istore 4, 2) := by decide +kernel
theorem dX12_least_87 : decode cX12_least 87 = .ok (.iconst 0, 1) := by decide +kernel
theorem dX12_least_88 : decode cX12_least 88 = .ok (.istore 5, 2) := by decide +kernel
theorem dX12_least_90 : decode cX12_least 90 = .ok (.iload 5, 2) := by decide +kernel
theorem dX12_least_92 : decode cX12_least 92 = .ok (.aload_n 0, 1) := by decide +kernel
theorem dX12_least_93 : decode cX12_least 93 = .ok (.getfield 262, 3) := by decide +kernel
theorem dX12_least_96 : decode cX12_least 96 = .ok (.iconst 0, 1) := by decide +kernel
theorem dX12_least_97 : decode cX12_least 97 = .ok (.iaload, 1) := by decide +kernel
theorem dX12_least_98 : decode cX12_least 98 = .ok (.if_icmp .ge 79, 3) := by decide +kernel
theorem dX12_least_101 : decode cX12_least 101 = .ok (.iconst 0, 1) := by decide +kernel
theorem dX12_least_102 : decode cX12_least 102 = .ok (.istore 6, 2) := by decide +kernel
theorem dX12_least_104 : decode cX12_least 104 = .ok (.iload 6, 2) := by decide +kernel
theorem dX12_least_106 : decode cX12_least 106 = .ok (.iload 5, 2) := by decide +kernel
theorem dX12_least_108 : decode cX12_least 108 = .ok (.if_icmp .ge 20, 3) := by decide +kernel
theorem dX12_least_111 : decode cX12_least 111 = .ok (.aload_n 0, 1) := by decide +kernel
theorem dX12_least_112 : decode cX12_least 112 = .ok (.iload 6, 2) := by decide +kernel
theorem dX12_least_114 : decode cX12_least 114 = .ok (.iload 5, 2) := by decide +kernel
theorem dX12_least_116 : decode cX12_least 116 = .ok (.invokevirtual 733, 3) := by decide +kernel
theorem dX12_least_119 : decode cX12_least 119 = .ok (.ifCond .ne 9, 3) := by decide +kernel
theorem dX12_least_122 : decode cX12_least 122 = .ok (.iinc 6 1, 3) := by decide +kernel
theorem dX12_least_125 : decode cX12_least 125 = .ok (.goto (-21), 3) := by decide +kernel
theorem dX12_least_128 : decode cX12_least 128 = .ok (.aload_n 0, 1) := by decide +kernel
theorem dX12_least_129 : decode cX12_least 129 = .ok (.getfield 290, 3) := by decide +kernel
theorem dX12_least_132 : decode cX12_least 132 = .ok (.iload 5, 2) := by decide +kernel
theorem dX12_least_134 : decode cX12_least 134 = .ok (.iload 6, 2) := by decide +kernel
theorem dX12_least_136 : decode cX12_least 136 = .ok (.iload 5, 2) := by decide +kernel
theorem dX12_least_138 : decode cX12_least 138 = .ok (.if_icmp .ne 8, 3) := by decide +kernel
theorem dX12_least_141 : decode cX12_least 141 = .ok (.iload 4, 2) := by decide +kernel
theorem dX12_least_143 : decode cX12_least 143 = .ok (.goto 10, 3) := by decide +kernel
theorem dX12_least_146 : decode cX12_least 146 = .ok (.aload_n 0, 1) := by decide +kernel
theorem dX12_least_147 : decode cX12_least 147 = .ok (.getfield 290, 3) := by decide +kernel
theorem dX12_least_150 : decode cX12_least 150 = .ok (.iload 6, 2) := by decide +kernel
theorem dX12_least_152 : decode cX12_least 152 = .ok (.iaload, 1) := by decide +kernel
theorem dX12_least_153 : decode cX12_least 153 = .ok (.iastore, 1) := by decide +kernel
theorem dX12_least_154 : decode cX12_least 154 = .ok (.iload 4, 2) := by decide +kernel
theorem dX12_least_156 : decode cX12_least 156 = .ok (.iload 6, 2) := by decide +kernel
theorem dX12_least_158 : decode cX12_least 158 = .ok (.iload 5, 2) := by decide +kernel
theorem dX12_least_160 : decode cX12_least 160 = .ok (.if_icmp .ne 7, 3) := by decide +kernel
theorem dX12_least_163 : decode cX12_least 163 = .ok (.iconst 1, 1) := by decide +kernel
theorem dX12_least_164 : decode cX12_least 164 = .ok (.goto 4, 3) := by decide +kernel
theorem dX12_least_167 : decode cX12_least 167 = .ok (.iconst 0, 1) := by decide +kernel
theorem dX12_least_168 : decode cX12_least 168 = .ok (.iadd, 1) := by decide +kernel
theorem dX12_least_169 : decode cX12_least 169 = .ok (.istore 4, 2) := by decide +kernel
theorem dX12_least_171 : decode cX12_least 171 = .ok (.iinc 5 1, 3) := by decide +kernel
theorem dX12_least_174 : decode cX12_least 174 = .ok (.goto (-84), 3) := by decide +kernel
theorem dX12_least_177 : decode cX12_least 177 = .ok (.iconst 0, 1) := by decide +kernel
theorem dX12_least_178 : decode cX12_least 178 = .ok (.istore 5, 2) := by decide +kernel
theorem dX12_least_180 : decode cX12_least 180 = .ok (.iload 5, 2) := by decide +kernel
theorem dX12_least_182 : decode cX12_least 182 = .ok (.aload_n 0, 1) := by decide +kernel
theorem dX12_least_183 : decode cX12_least 183 = .ok (.getfield 262, 3) := by decide +kernel
theorem dX12_least_186 : decode cX12_least 186 = .ok (.iconst 0, 1) := by decide +kernel
theorem dX12_least_187 : decode cX12_least 187 = .ok (.iaload, 1) := by decide +kernel
theorem dX12_least_188 : decode cX12_least 188 = .ok (.if_icmp .ge 23, 3) := by decide +kernel
theorem dX12_least_191 : decode cX12_least 191 = .ok (.aload_n 0, 1) := by decide +kernel
theorem dX12_least_192 : decode cX12_least 192 = .ok (.getfield 287, 3) := by decide +kernel
theorem dX12_least_195 : decode cX12_least 195 = .ok (.iload 5, 2) := by decide +kernel
theorem dX12_least_197 : decode cX12_least 197 = .ok (.aload_n 0, 1) := by decide +kernel
theorem dX12_least_198 : decode cX12_least 198 = .ok (.getfield 290, 3) := by decide +kernel
theorem dX12_least_201 : decode cX12_least 201 = .ok (.iload 5, 2) := by decide +kernel
theorem dX12_least_203 : decode cX12_least 203 = .ok (.iaload, 1) := by decide +kernel
theorem dX12_least_204 : decode cX12_least 204 = .ok (.iastore, 1) := by decide +kernel
theorem dX12_least_205 : decode cX12_least 205 = .ok (.iinc 5 1, 3) := by decide +kernel
theorem dX12_least_208 : decode cX12_least 208 = .ok (.goto (-28), 3) := by decide +kernel
theorem dX12_least_211 : decode cX12_least 211 = .ok (.goto (-136), 3) := by decide +kernel
theorem dX12_least_214 : decode cX12_least 214 = .ok (.iload 4, 2) := by decide +kernel
theorem dX12_least_216 : decode cX12_least 216 = .ok (.ireturn, 1) := by decide +kernel
theorem dX12_looped_0 : decode cX12_looped 0 = .ok (.aload_n 0, 1) := by decide +kernel
theorem dX12_looped_1 : decode cX12_looped 1 = .ok (.aload_n 0, 1) := by decide +kernel
theorem dX12_looped_2 : decode cX12_looped 2 = .ok (.getfield 362, 3) := by decide +kernel
theorem dX12_looped_5 : decode cX12_looped 5 = .ok (.invokevirtual 349, 3) := by decide +kernel
theorem dX12_looped_8 : decode cX12_looped 8 = .ok (.istore_n 2, 1) := by decide +kernel
theorem dX12_looped_9 : decode cX12_looped 9 = .ok (.aload_n 0, 1) := by decide +kernel
theorem dX12_looped_10 : decode cX12_looped 10 = .ok (.getfield 320, 3) := by decide +kernel
theorem dX12_looped_13 : decode cX12_looped 13 = .ok (.ifCond .gt 27, 3) := by decide +kernel
theorem dX12_looped_16 : decode cX12_looped 16 = .ok (.iload_n 2, 1) := by decide +kernel
theorem dX12_looped_17 : decode cX12_looped 17 = .ok (.bipush 42, 2) := by decide +kernel
theorem dX12_looped_19 : decode cX12_looped 19 = .ok (.if_icmp .eq 23, 3) := by decide +kernel
theorem dX12_looped_22 : decode cX12_looped 22 = .ok (.iload_n 2, 1) := by decide +kernel
theorem dX12_looped_23 : decode cX12_looped 23 = .ok (.bipush 43, 2) := by decide +kernel
theorem dX12_looped_25 : decode cX12_looped 25 = .ok (.if_icmp .eq 17, 3) := by decide +kernel
theorem dX12_looped_28 : decode cX12_looped 28 = .ok (.iload_n 2, 1) := by decide +kernel
theorem dX12_looped_29 : decode cX12_looped 29 = .ok (.bipush 63, 2) := by decide +kernel
theorem dX12_looped_31 : decode cX12_looped 31 = .ok (.if_icmp .eq 11, 3) := by decide +kernel
theorem dX12_looped_34 : decode cX12_looped 34 = .ok (.iload_n 2, 1) := by decide +kernel
theorem dX12_looped_35 : decode cX12_looped 35 = .ok (.bipush 123, 2) := by decide +kernel
theorem dX12_looped_37 : decode cX12_looped 37 = .ok (.if_icmp .eq 5, 3) := by decide +kernel
theorem dX12_looped_40 : decode cX12_looped 40 = .ok (.iload_n 1, 1) := by decide +kernel
theorem dX12_looped_41 : decode cX12_looped 41 = .ok (.ireturn, 1) := by decide +kernel
theorem dX12_looped_42 : decode cX12_looped 42 = .ok (.aload_n 0, 1) := by decide +kernel
theorem dX12_looped_43 : decode cX12_looped 43 = .ok (.aload_n 0, 1) := by decide +kernel
theorem dX12_looped_44 : decode cX12_looped 44 = .ok (.getfield 362, 3) := by decide +kernel
theorem dX12_looped_47 : decode cX12_looped 47 = .ok (.invokevirtual 365, 3) := by decide +kernel
theorem dX12_looped_50 : decode cX12_looped 50 = .ok (.aload_n 0, 1) := by decide +kernel
theorem dX12_looped_51 : decode cX12_looped 51 = .ok (.iload_n 2, 1) := by decide +kernel
theorem dX12_looped_52 : decode cX12_looped 52 = .ok (.bipush 43, 2) := by decide +kernel
theorem dX12_looped_54 : decode cX12_looped 54 = .ok (.if_icmp .ne 7, 3) := by decide +kernel
theorem dX12_looped_57 : decode cX12_looped 57 = .ok (.iconst 1, 1) := by decide +kernel
theorem dX12_looped_58 : decode cX12_looped 58 = .ok (.goto 4, 3) := by decide +kernel
theorem dX12_looped_61 : decode cX12_looped 61 = .ok (.iconst 0, 1) := by decide +kernel
theorem dX12_looped_62 : decode cX12_looped 62 = .ok (.putfield 356, 3) := by decide +kernel
theorem dX12_looped_65 : decode cX12_looped 65 = .ok (.aload_n 0, 1) := by decide +kernel
theorem dX12_looped_66 : decode cX12_looped 66 = .ok (.iload_n 2, 1) := by decide +kernel
theorem dX12_looped_67 : decode cX12_looped 67 = .ok (.bipush 63, 2) := by decide +kernel
theorem dX12_looped_69 : decode cX12_looped 69 = .ok (.if_icmp .ne 7, 3) := by decide +kernel
theorem dX12_looped_72 : decode cX12_looped 72 = .ok (.iconst 1, 1) := by decide +kernel
theorem dX12_looped_73 : decode cX12_looped 73 = .ok (.goto 4, 3) := by decide +kernel
theorem dX12_looped_76 : decode cX12_looped 76 = .ok (.iconst (-1), 1) := by decide +kernel
theorem dX12_looped_77 : decode cX12_looped 77 = .ok (.putfield 359, 3) := by decide +kernel
theorem dX12_looped_80 : decode cX12_looped 80 = .ok (.iload_n 2, 1) := by decide +kernel
theorem dX12_looped_81 : decode cX12_looped 81 = .ok (.bipush 123, 2) := by decide +kernel
theorem dX12_looped_83 : decode cX12_looped 83 = .ok (.if_icmp .ne 82, 3) := by decide +kernel
theorem dX12_looped_86 : decode cX12_looped 86 = .ok (.aload_n 0, 1) := by decide +kernel
theorem dX12_looped_87 : decode cX12_looped 87 = .ok (.aload_n 0, 1) := by decide +kernel
theorem dX12_looped_88 : decode cX12_looped 88 = .ok (.getfield 362, 3) := by decide +kernel
theorem dX12_looped_91 : decode cX12_looped 91 = .ok (.iconst 1, 1) := by decide +kernel
theorem dX12_looped_92 : decode cX12_looped 92 = .ok (.iadd, 1) := by decide +kernel
theorem dX12_looped_93 : decode cX12_looped 93 = .ok (.iconst 0, 1) := by decide +kernel
theorem dX12_looped_94 : decode cX12_looped 94 = .ok (.invokevirtual 369, 3) := by decide +kernel
theorem dX12_looped_97 : decode cX12_looped 97 = .ok (.istore_n 3, 1) := by decide +kernel
theorem dX12_looped_98 : decode cX12_looped 98 = .ok (.aload_n 0, 1) := by decide +kernel
theorem dX12_looped_99 : decode cX12_looped 99 = .ok (.getfield 320, 3) := by decide +kernel
theorem dX12_looped_102 : decode cX12_looped 102 = .ok (.ifCond .ne 42, 3) := by decide +kernel
theorem dX12_looped_105 : decode cX12_looped 105 = .ok (.aload_n 0, 1) := by decide +kernel
theorem dX12_looped_106 : decode cX12_looped 106 = .ok (.iload_n 3, 1) := by decide +kernel
theorem dX12_looped_107 : decode cX12_looped 107 = .ok (.invokevirtual 349, 3) := by decide +kernel
theorem dX12_looped_110 : decode cX12_looped 110 = .ok (.bipush 44, 2) := by decide +kernel
theorem dX12_looped_112 : decode cX12_looped 112 = .ok (.if_icmp .ne 32, 3) := by decide +kernel
theorem dX12_looped_115 : decode cX12_looped 115 = .ok (.iinc 3 1, 3) := by decide +kernel
theorem dX12_looped_118 : decode cX12_looped 118 = .ok (.aload_n 0, 1) := by decide +kernel
theorem dX12_looped_119 : decode cX12_looped 119 = .ok (.iload_n 3, 1) := by decide +kernel
theorem dX12_looped_120 : decode cX12_looped 120 = .ok (.invokevirtual 349, 3) := by decide +kernel
theorem dX12_looped_123 : decode cX12_looped 123 = .ok (.invokestatic 15, 3) := by decide +kernel
theorem dX12_looped_126 : decode cX12_looped 126 = .ok (.ifCond .eq 13, 3) := by decide +kernel
theorem dX12_looped_129 : decode cX12_looped 129 = .ok (.aload_n 0, 1) := by decide +kernel
theorem dX12_looped_130 : decode cX12_looped 130 = .ok (.iload_n 3, 1) := by decide +kernel
theorem dX12_looped_131 : decode cX12_looped 131 = .ok (.iconst 1, 1) := by decide +kernel
theorem dX12_looped_132 : decode cX12_looped 132 = .ok (.invokevirtual 369, 3) := by decide +kernel
theorem dX12_looped_135 : decode cX12_looped 135 = .ok (.istore_n 3, 1) := by decide +kernel
theorem dX12_looped_136 : decode cX12_looped 136 = .ok (.goto 8, 3) := by decide +kernel
theorem dX12_looped_139 : decode cX12_looped 139 = .ok (.aload_n 0, 1) := by decide +kernel
theorem dX12_looped_140 : decode cX12_looped 140 = .ok (.iconst (-1), 1) := by decide +kernel
theorem dX12_looped_141 : decode cX12_looped 141 = .ok (.putfield 359, 3) := by decide +kernel
theorem dX12_looped_144 : decode cX12_looped 144 = .ok (.aload_n 0, 1) := by decide +kernel
theorem dX12_looped_145 : decode cX12_looped 145 = .ok (.iload_n 3, 1) := by decide +kernel
theorem dX12_looped_146 : decode cX12_looped 146 = .ok (.invokevirtual 349, 3) := by decide +kernel
theorem dX12_looped_149 : decode cX12_looped 149 = .ok (.bipush 125, 2) := by decide +kernel
theorem dX12_looped_151 : decode cX12_looped 151 = .ok (.if_icmp .eq 9, 3) := by decide +kernel
theorem dX12_looped_154 : decode cX12_looped 154 = .ok (.aload_n 0, 1) := by decide +kernel
theorem dX12_looped_155 : decode cX12_looped 155 = .ok (.iconst 1, 1) := by decide +kernel
theorem dX12_looped_156 : decode cX12_looped 156 = .ok (.iload_n 3, 1) := by decide +kernel
theorem dX12_looped_157 : decode cX12_looped 157 = .ok (.invokevirtual 345, 3) := by decide +kernel
theorem dX12_looped_160 : decode cX12_looped 160 = .ok (.aload_n 0, 1) := by decide +kernel
theorem dX12_looped_161 : decode cX12_looped 161 = .ok (.iload_n 3, 1) := by decide +kernel
theorem dX12_looped_162 : decode cX12_looped 162 = .ok (.putfield 362, 3) := by decide +kernel
theorem dX12_looped_165 : decode cX12_looped 165 = .ok (.aload_n 0, 1) := by decide +kernel
theorem dX12_looped_166 : decode cX12_looped 166 = .ok (.dup, 1) := by decide +kernel
theorem dX12_looped_167 : decode cX12_looped 167 = .ok (.getfield 362, 3) := by decide +kernel
theorem dX12_looped_170 : decode cX12_looped 170 = .ok (.iconst 1, 1) := by decide +kernel
theorem dX12_looped_171 : decode cX12_looped 171 = .ok (.iadd, 1) := by decide +kernel
theorem dX12_looped_172 : decode cX12_looped 172 = .ok (.putfield 362, 3) := by decide +kernel
theorem dX12_looped_175 : decode cX12_looped 175 = .ok (.aload_n 0, 1) := by decide +kernel
theorem dX12_looped_176 : decode cX12_looped 176 = .ok (.aload_n 0, 1) := by decide +kernel
theorem dX12_looped_177 : decode cX12_looped 177 = .ok (.getfield 362, 3) := by decide +kernel
theorem dX12_looped_180 : decode cX12_looped 180 = .ok (.invokevirtual 349, 3) := by decide +kernel
theorem dX12_looped_183 : decode cX12_looped 183 = .ok (.bipush 63, 2) := by decide +kernel
theorem dX12_looped_185 : decode cX12_looped 185 = .ok (.if_icmp .ne 7, 3) := by decide +kernel
theorem dX12_looped_188 : decode cX12_looped 188 = .ok (.iconst 1, 1) := by decide +kernel
theorem dX12_looped_189 : decode cX12_looped 189 = .ok (.goto 21, 3) := by decide +kernel
theorem dX12_looped_192 : decode cX12_looped 192 = .ok (.aload_n 0, 1) := by decide +kernel
theorem dX12_looped_193 : decode cX12_looped 193 = .ok (.aload_n 0, 1) := by decide +kernel
theorem dX12_looped_194 : decode cX12_looped 194 = .ok (.getfield 362, 3) := by decide +kernel
theorem dX12_looped_197 : decode cX12_looped 197 = .ok (.invokevirtual 349, 3) := by decide +kernel
theorem dX12_looped_200 : decode cX12_looped 200 = .ok (.bipush 43, 2) := by decide +kernel
theorem dX12_looped_202 : decode cX12_looped 202 = .ok (.if_icmp .ne 7, 3) := by decide +kernel
theorem dX12_looped_205 : decode cX12_looped 205 = .ok (.iconst 2, 1) := by decide +kernel
theorem dX12_looped_206 : decode cX12_looped 206 = .ok (.goto 4, 3) := by decide +kernel
theorem dX12_looped_209 : decode cX12_looped 209 = .ok (.iconst 0, 1) := by decide +kernel
theorem dX12_looped_210 : decode cX12_looped 210 = .ok (.istore_n 3, 1) := by decide +kernel
theorem dX12_looped_211 : decode cX12_looped 211 = .ok (.aload_n 0, 1) := by decide +kernel
theorem dX12_looped_212 : decode cX12_looped 212 = .ok (.dup, 1) := by decide +kernel
theorem dX12_looped_213 : decode cX12_looped 213 = .ok (.getfield 362, 3) := by decide +kernel
theorem dX12_looped_216 : decode cX12_looped 216 = .ok (.iload_n 3, 1) := by decide +kernel
theorem dX12_looped_217 : decode cX12_looped 217 = .ok (.ifCond .le 7, 3) := by decide +kernel
theorem dX12_looped_220 : decode cX12_looped 220 = .ok (.iconst 1, 1) := by decide +kernel
theorem dX12_looped_221 : decode cX12_looped 221 = .ok (.goto 4, 3) := by decide +kernel
theorem dX12_looped_224 : decode cX12_looped 224 = .ok (.iconst 0, 1) := by decide +kernel
theorem dX12_looped_225 : decode cX12_looped 225 = .ok (.iadd, 1) := by decide +kernel
theorem dX12_looped_226 : decode cX12_looped 226 = .ok (.putfield 362, 3) := by decide +kernel
theorem dX12_looped_229 : decode cX12_looped 229 = .ok (.aload_n 0, 1) := by decide +kernel
theorem dX12_looped_230 : decode cX12_looped 230 = .ok (.bipush 7, 2) := by decide +kernel
theorem dX12_looped_232 : decode cX12_looped 232 = .ok (.iload_n 3, 1) := by decide +kernel
theorem dX12_looped_233 : decode cX12_looped 233 = .ok (.iload_n 1, 1) := by decide +kernel
theorem dX12_looped_234 : decode cX12_looped 234 = .ok (.invokevirtual 373, 3) := by decide +kernel
theorem dX12_looped_237 : decode cX12_looped 237 = .ok (.istore 4, 2) := by decide +kernel
theorem dX12_looped_239 : decode cX12_looped 239 = .ok (.aload_n 0, 1) := by decide +kernel
theorem dX12_looped_240 : decode cX12_looped 240 = .ok (.getfield 92, 3) := by decide +kernel
theorem dX12_looped_243 : decode cX12_looped 243 = .ok (.iload 4, 2) := by decide +kernel
theorem dX12_looped_245 : decode cX12_looped 245 = .ok (.aload_n 0, 1) := by decide +kernel
theorem dX12_looped_246 : decode cX12_looped 246 = .ok (.getfield 356, 3) := by decide +kernel
theorem dX12_looped_249 : decode cX12_looped 249 = .ok (.iastore, 1) := by decide +kernel
theorem dX12_looped_250 : decode cX12_looped 250 = .ok (.aload_n 0, 1) := by decide +kernel
theorem dX12_looped_251 : decode cX12_looped 251 = .ok (.getfield 95, 3) := by decide +kernel
theorem dX12_looped_254 : decode cX12_looped 254 = .ok (.iload 4, 2) := by decide +kernel
theorem dX12_looped_256 : decode cX12_looped 256 = .ok (.aload_n 0, 1) := by decide +kernel
theorem dX12_looped_257 : decode cX12_looped 257 = .ok (.getfield 359, 3) := by decide +kernel
theorem dX12_looped_260 : decode cX12_looped 260 = .ok (.iastore, 1) := by decide +kernel
theorem dX12_looped_261 : decode cX12_looped 261 = .ok (.iload 4, 2) := by decide +kernel
theorem dX12_looped_263 : decode cX12_looped 263 = .ok (.ireturn, 1) := by decide +kernel
theorem dX12_made_0 : decode cX12_made 0 = .ok (.aload_n 0, 1) := by decide +kernel
theorem dX12_made_1 : decode cX12_made 1 = .ok (.getfield 326, 3) := by decide +kernel
theorem dX12_made_4 : decode cX12_made 4 = .ok (.istore_n 3, 1) := by decide +kernel
theorem dX12_made_5 : decode cX12_made 5 = .ok (.aload_n 0, 1) := by decide +kernel
theorem dX12_made_6 : decode cX12_made 6 = .ok (.dup, 1) := by decide +kernel
theorem dX12_made_7 : decode cX12_made 7 = .ok (.getfield 326, 3) := by decide +kernel
theorem dX12_made_10 : decode cX12_made 10 = .ok (.iconst 1, 1) := by decide +kernel
theorem dX12_made_11 : decode cX12_made 11 = .ok (.iadd, 1) := by decide +kernel
theorem dX12_made_12 : decode cX12_made 12 = .ok (.putfield 326, 3) := by decide +kernel
theorem dX12_made_15 : decode cX12_made 15 = .ok (.aload_n 0, 1) := by decide +kernel
theorem dX12_made_16 : decode cX12_made 16 = .ok (.getfield 86, 3) := by decide +kernel
theorem dX12_made_19 : decode cX12_made 19 = .ok (.iload_n 3, 1) := by decide +kernel
theorem dX12_made_20 : decode cX12_made 20 = .ok (.iload_n 1, 1) := by decide +kernel
theorem dX12_made_21 : decode cX12_made 21 = .ok (.iastore, 1) := by decide +kernel
theorem dX12_made_22 : decode cX12_made 22 = .ok (.aload_n 0, 1) := by decide +kernel
theorem dX12_made_23 : decode cX12_made 23 = .ok (.getfield 89, 3) := by decide +kernel
theorem dX12_made_26 : decode cX12_made 26 = .ok (.iload_n 3, 1) := by decide +kernel
theorem dX12_made_27 : decode cX12_made 27 = .ok (.iload_n 2, 1) := by decide +kernel
theorem dX12_made_28 : decode cX12_made 28 = .ok (.iastore, 1) := by decide +kernel
theorem dX12_made_29 : decode cX12_made 29 = .ok (.aload_n 0, 1) := by decide +kernel
theorem dX12_made_30 : decode cX12_made 30 = .ok (.getfield 92, 3) := by decide +kernel
theorem dX12_made_33 : decode cX12_made 33 = .ok (.iload_n 3, 1) := by decide +kernel
theorem dX12_made_34 : decode cX12_made 34 = .ok (.iconst 0, 1) := by decide +kernel
theorem dX12_made_35 : decode cX12_made 35 = .ok (.iastore, 1) := by decide +kernel
theorem dX12_made_36 : decode cX12_made 36 = .ok (.aload_n 0, 1) := by decide +kernel
theorem dX12_made_37 : decode cX12_made 37 = .ok (.getfield 95, 3) := by decide +kernel
theorem dX12_made_40 : decode cX12_made 40 = .ok (.iload_n 3, 1) := by decide +kernel
theorem dX12_made_41 : decode cX12_made 41 = .ok (.iconst 0, 1) := by decide +kernel
theorem dX12_made_42 : decode cX12_made 42 = .ok (.iastore, 1) := by decide +kernel
theorem dX12_made_43 : decode cX12_made 43 = .ok (.aload_n 0, 1) := by decide +kernel
theorem dX12_made_44 : decode cX12_made 44 = .ok (.getfield 98, 3) := by decide +kernel
theorem dX12_made_47 : decode cX12_made 47 = .ok (.iload_n 3, 1) := by decide +kernel
theorem dX12_made_48 : decode cX12_made 48 = .ok (.iconst (-1), 1) := by decide +kernel
theorem dX12_made_49 : decode cX12_made 49 = .ok (.iastore, 1) := by decide +kernel
theorem dX12_made_50 : decode cX12_made 50 = .ok (.aload_n 0, 1) := by decide +kernel
theorem dX12_made_51 : decode cX12_made 51 = .ok (.getfield 101, 3) := by decide +kernel
theorem dX12_made_54 : decode cX12_made 54 = .ok (.iload_n 3, 1) := by decide +kernel
theorem dX12_made_55 : decode cX12_made 55 = .ok (.iconst (-1), 1) := by decide +kernel
theorem dX12_made_56 : decode cX12_made 56 = .ok (.iastore, 1) := by decide +kernel
theorem dX12_made_57 : decode cX12_made 57 = .ok (.aload_n 0, 1) := by decide +kernel
theorem dX12_made_58 : decode cX12_made 58 = .ok (.getfield 104, 3) := by decide +kernel
theorem dX12_made_61 : decode cX12_made 61 = .ok (.iload_n 3, 1) := by decide +kernel
theorem dX12_made_62 : decode cX12_made 62 = .ok (.iconst 0, 1) := by decide +kernel
theorem dX12_made_63 : decode cX12_made 63 = .ok (.iastore, 1) := by decide +kernel
theorem dX12_made_64 : decode cX12_made 64 = .ok (.aload_n 0, 1) := by decide +kernel
theorem dX12_made_65 : decode cX12_made 65 = .ok (.getfield 107, 3) := by decide +kernel
theorem dX12_made_68 : decode cX12_made 68 = .ok (.iload_n 3, 1) := by decide +kernel
theorem dX12_made_69 : decode cX12_made 69 = .ok (.iconst 0, 1) := by decide +kernel
theorem dX12_made_70 : decode cX12_made 70 = .ok (.iastore, 1) := by decide +kernel
theorem dX12_made_71 : decode cX12_made 71 = .ok (.iload_n 3, 1) := by decide +kernel
theorem dX12_made_72 : decode cX12_made 72 = .ok (.ireturn, 1) := by decide +kernel
theorem dX12_makePart_0 : decode cX12_makePart 0 = .ok (.iload_n 2, 1) := by decide +kernel
theorem dX12_makePart_1 : decode cX12_makePart 1 = .ok (.istore 4, 2) := by decide +kernel
theorem dX12_makePart_3 : decode cX12_makePart 3 = .ok (.iload 4, 2) := by decide +kernel
theorem dX12_makePart_5 : decode cX12_makePart 5 = .ok (.iload_n 3, 1) := by decide +kernel
theorem dX12_makePart_6 : decode cX12_makePart 6 = .ok (.if_icmp .ge 29, 3) := by decide +kernel
theorem dX12_makePart_9 : decode cX12_makePart 9 = .ok (.iload_n 2, 1) := by decide +kernel
theorem dX12_makePart_10 : decode cX12_makePart 10 = .ok (.ifCond .lt 25, 3) := by decide +kernel
theorem dX12_makePart_13 : decode cX12_makePart 13 = .ok (.aload_n 0, 1) := by decide +kernel
theorem dX12_makePart_14 : decode cX12_makePart 14 = .ok (.aload_n 0, 1) := by decide +kernel
theorem dX12_makePart_15 : decode cX12_makePart 15 = .ok (.getfield 177, 3) := by decide +kernel
theorem dX12_makePart_18 : decode cX12_makePart 18 = .ok (.bipush 100, 2) := by decide +kernel
theorem dX12_makePart_20 : decode cX12_makePart 20 = .ok (.iload_n 1, 1) := by decide +kernel
theorem dX12_makePart_21 : decode cX12_makePart 21 = .ok (.imul, 1) := by decide +kernel
theorem dX12_makePart_22 : decode cX12_makePart 22 = .ok (.iload 4, 2) := by decide +kernel
theorem dX12_makePart_24 : decode cX12_makePart 24 = .ok (.iadd, 1) := by decide +kernel
theorem dX12_makePart_25 : decode cX12_makePart 25 = .ok (.iaload, 1) := by decide +kernel
theorem dX12_makePart_26 : decode cX12_makePart 26 = .ok (.invokevirtual 705, 3) := by decide +kernel
theorem dX12_makePart_29 : decode cX12_makePart 29 = .ok (.iinc 4 1, 3) := by decide +kernel
theorem dX12_makePart_32 : decode cX12_makePart 32 = .ok (.goto (-29), 3) := by decide +kernel
theorem dX12_makePart_35 : decode cX12_makePart 35 = .ok (.return_, 1) := by decide +kernel
theorem dX12_makeSign_0 : decode cX12_makeSign 0 = .ok (.aload_n 0, 1) := by decide +kernel
theorem dX12_makeSign_1 : decode cX12_makeSign 1 = .ok (.getfield 702, 3) := by decide +kernel
theorem dX12_makeSign_4 : decode cX12_makeSign 4 = .ok (.sipush 400, 3) := by decide +kernel
theorem dX12_makeSign_7 : decode cX12_makeSign 7 = .ok (.if_icmp .gt 13, 3) := by decide +kernel
theorem dX12_makeSign_10 : decode cX12_makeSign 10 = .ok (.aload_n 0, 1) := by decide +kernel
theorem dX12_makeSign_11 : decode cX12_makeSign 11 = .ok (.getfield 240, 3) := by decide +kernel
theorem dX12_makeSign_14 : decode cX12_makeSign 14 = .ok (.aload_n 0, 1) := by decide +kernel
theorem dX12_makeSign_15 : decode cX12_makeSign 15 = .ok (.getfield 702, 3) := by decide +kernel
