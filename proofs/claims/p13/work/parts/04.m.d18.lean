theorem dX12_told_17 : decode cX12_told 17 = .ok (.getfield 31, 3) := by decide +kernel
theorem dX12_told_20 : decode cX12_told 20 = .ok (.iload_n 3, 1) := by decide +kernel
theorem dX12_told_21 : decode cX12_told 21 = .ok (.baload, 1) := by decide +kernel
theorem dX12_told_22 : decode cX12_told 22 = .ok (.ifCond .eq 7, 3) := by decide +kernel
theorem dX12_told_25 : decode cX12_told 25 = .ok (.iconst 1, 1) := by decide +kernel
theorem dX12_told_26 : decode cX12_told 26 = .ok (.goto 4, 3) := by decide +kernel
theorem dX12_told_29 : decode cX12_told 29 = .ok (.iconst 0, 1) := by decide +kernel
theorem dX12_told_30 : decode cX12_told 30 = .ok (.iadd, 1) := by decide +kernel
theorem dX12_told_31 : decode cX12_told 31 = .ok (.istore_n 2, 1) := by decide +kernel
theorem dX12_told_32 : decode cX12_told 32 = .ok (.iinc 3 1, 3) := by decide +kernel
theorem dX12_told_35 : decode cX12_told 35 = .ok (.goto (-26), 3) := by decide +kernel
theorem dX12_told_38 : decode cX12_told 38 = .ok (.iconst 0, 1) := by decide +kernel
theorem dX12_told_39 : decode cX12_told 39 = .ok (.istore_n 3, 1) := by decide +kernel
theorem dX12_told_40 : decode cX12_told 40 = .ok (.iconst 0, 1) := by decide +kernel
theorem dX12_told_41 : decode cX12_told 41 = .ok (.istore 4, 2) := by decide +kernel
theorem dX12_told_43 : decode cX12_told 43 = .ok (.iload 4, 2) := by decide +kernel
theorem dX12_told_45 : decode cX12_told 45 = .ok (.iconst 4, 1) := by decide +kernel
theorem dX12_told_46 : decode cX12_told 46 = .ok (.if_icmp .ge 27, 3) := by decide +kernel
theorem dX12_told_49 : decode cX12_told 49 = .ok (.iload_n 3, 1) := by decide +kernel
theorem dX12_told_50 : decode cX12_told 50 = .ok (.aload_n 0, 1) := by decide +kernel
theorem dX12_told_51 : decode cX12_told 51 = .ok (.getfield 171, 3) := by decide +kernel
theorem dX12_told_54 : decode cX12_told 54 = .ok (.iload 4, 2) := by decide +kernel
theorem dX12_told_56 : decode cX12_told 56 = .ok (.baload, 1) := by decide +kernel
theorem dX12_told_57 : decode cX12_told 57 = .ok (.ifCond .eq 7, 3) := by decide +kernel
theorem dX12_told_60 : decode cX12_told 60 = .ok (.iconst 1, 1) := by decide +kernel
theorem dX12_told_61 : decode cX12_told 61 = .ok (.goto 4, 3) := by decide +kernel
theorem dX12_told_64 : decode cX12_told 64 = .ok (.iconst 0, 1) := by decide +kernel
theorem dX12_told_65 : decode cX12_told 65 = .ok (.iadd, 1) := by decide +kernel
theorem dX12_told_66 : decode cX12_told 66 = .ok (.istore_n 3, 1) := by decide +kernel
theorem dX12_told_67 : decode cX12_told 67 = .ok (.iinc 4 1, 3) := by decide +kernel
theorem dX12_told_70 : decode cX12_told 70 = .ok (.goto (-27), 3) := by decide +kernel
theorem dX12_told_73 : decode cX12_told 73 = .ok (.iload_n 1, 1) := by decide +kernel
theorem dX12_told_74 : decode cX12_told 74 = .ok (.tableswitch 98 0 6 #[42, 47, 49, 51, 56, 69, 85], 42) := by decide +kernel
theorem dX12_told_116 : decode cX12_told 116 = .ok (.aload_n 0, 1) := by decide +kernel
theorem dX12_told_117 : decode cX12_told 117 = .ok (.getfield 317, 3) := by decide +kernel
theorem dX12_told_120 : decode cX12_told 120 = .ok (.ireturn, 1) := by decide +kernel
theorem dX12_told_121 : decode cX12_told 121 = .ok (.iload_n 2, 1) := by decide +kernel
theorem dX12_told_122 : decode cX12_told 122 = .ok (.ireturn, 1) := by decide +kernel
theorem dX12_told_123 : decode cX12_told 123 = .ok (.iload_n 3, 1) := by decide +kernel
theorem dX12_told_124 : decode cX12_told 124 = .ok (.ireturn, 1) := by decide +kernel
theorem dX12_told_125 : decode cX12_told 125 = .ok (.aload_n 0, 1) := by decide +kernel
theorem dX12_told_126 : decode cX12_told 126 = .ok (.getfield 502, 3) := by decide +kernel
theorem dX12_told_129 : decode cX12_told 129 = .ok (.ireturn, 1) := by decide +kernel
theorem dX12_told_130 : decode cX12_told 130 = .ok (.aload_n 0, 1) := by decide +kernel
theorem dX12_told_131 : decode cX12_told 131 = .ok (.getfield 505, 3) := by decide +kernel
theorem dX12_told_134 : decode cX12_told 134 = .ok (.ifCond .eq 7, 3) := by decide +kernel
theorem dX12_told_137 : decode cX12_told 137 = .ok (.iconst 1, 1) := by decide +kernel
theorem dX12_told_138 : decode cX12_told 138 = .ok (.goto 4, 3) := by decide +kernel
theorem dX12_told_141 : decode cX12_told 141 = .ok (.iconst 0, 1) := by decide +kernel
theorem dX12_told_142 : decode cX12_told 142 = .ok (.ireturn, 1) := by decide +kernel
theorem dX12_told_143 : decode cX12_told 143 = .ok (.aload_n 0, 1) := by decide +kernel
theorem dX12_told_144 : decode cX12_told 144 = .ok (.getfield 664, 3) := by decide +kernel
theorem dX12_told_147 : decode cX12_told 147 = .ok (.ifCond .eq 10, 3) := by decide +kernel
theorem dX12_told_150 : decode cX12_told 150 = .ok (.aload_n 0, 1) := by decide +kernel
theorem dX12_told_151 : decode cX12_told 151 = .ok (.getfield 667, 3) := by decide +kernel
theorem dX12_told_154 : decode cX12_told 154 = .ok (.goto 4, 3) := by decide +kernel
theorem dX12_told_157 : decode cX12_told 157 = .ok (.iconst 0, 1) := by decide +kernel
theorem dX12_told_158 : decode cX12_told 158 = .ok (.ireturn, 1) := by decide +kernel
theorem dX12_told_159 : decode cX12_told 159 = .ok (.aload_n 0, 1) := by decide +kernel
theorem dX12_told_160 : decode cX12_told 160 = .ok (.getfield 449, 3) := by decide +kernel
theorem dX12_told_163 : decode cX12_told 163 = .ok (.ifCond .eq 7, 3) := by decide +kernel
theorem dX12_told_166 : decode cX12_told 166 = .ok (.iconst 1, 1) := by decide +kernel
theorem dX12_told_167 : decode cX12_told 167 = .ok (.goto 4, 3) := by decide +kernel
theorem dX12_told_170 : decode cX12_told 170 = .ok (.iconst 0, 1) := by decide +kernel
theorem dX12_told_171 : decode cX12_told 171 = .ok (.ireturn, 1) := by decide +kernel
theorem dX12_told_172 : decode cX12_told 172 = .ok (.bipush (-4), 2) := by decide +kernel
theorem dX12_told_174 : decode cX12_told 174 = .ok (.ireturn, 1) := by decide +kernel
theorem dX12_tried_0 : decode cX12_tried 0 = .ok (.iconst 0, 1) := by decide +kernel
theorem dX12_tried_1 : decode cX12_tried 1 = .ok (.istore 4, 2) := by decide +kernel
theorem dX12_tried_3 : decode cX12_tried 3 = .ok (.iload 4, 2) := by decide +kernel
theorem dX12_tried_5 : decode cX12_tried 5 = .ok (.bipush 20, 2) := by decide +kernel
theorem dX12_tried_7 : decode cX12_tried 7 = .ok (.if_icmp .ge 17, 3) := by decide +kernel
theorem dX12_tried_10 : decode cX12_tried 10 = .ok (.aload_n 0, 1) := by decide +kernel
theorem dX12_tried_11 : decode cX12_tried 11 = .ok (.getfield 204, 3) := by decide +kernel
theorem dX12_tried_14 : decode cX12_tried 14 = .ok (.iload 4, 2) := by decide +kernel
theorem dX12_tried_16 : decode cX12_tried 16 = .ok (.iconst (-1), 1) := by decide +kernel
theorem dX12_tried_17 : decode cX12_tried 17 = .ok (.iastore, 1) := by decide +kernel
theorem dX12_tried_18 : decode cX12_tried 18 = .ok (.iinc 4 1, 3) := by decide +kernel
theorem dX12_tried_21 : decode cX12_tried 21 = .ok (.goto (-18), 3) := by decide +kernel
theorem dX12_tried_24 : decode cX12_tried 24 = .ok (.aload_n 0, 1) := by decide +kernel
theorem dX12_tried_25 : decode cX12_tried 25 = .ok (.iconst 0, 1) := by decide +kernel
theorem dX12_tried_26 : decode cX12_tried 26 = .ok (.putfield 577, 3) := by decide +kernel
theorem dX12_tried_29 : decode cX12_tried 29 = .ok (.aload_n 0, 1) := by decide +kernel
theorem dX12_tried_30 : decode cX12_tried 30 = .ok (.iconst 0, 1) := by decide +kernel
theorem dX12_tried_31 : decode cX12_tried 31 = .ok (.putfield 580, 3) := by decide +kernel
theorem dX12_tried_34 : decode cX12_tried 34 = .ok (.aload_n 0, 1) := by decide +kernel
theorem dX12_tried_35 : decode cX12_tried 35 = .ok (.iconst 0, 1) := by decide +kernel
theorem dX12_tried_36 : decode cX12_tried 36 = .ok (.putfield 617, 3) := by decide +kernel
theorem dX12_tried_39 : decode cX12_tried 39 = .ok (.aload_n 0, 1) := by decide +kernel
theorem dX12_tried_40 : decode cX12_tried 40 = .ok (.iload_n 1, 1) := by decide +kernel
theorem dX12_tried_41 : decode cX12_tried 41 = .ok (.putfield 604, 3) := by decide +kernel
theorem dX12_tried_44 : decode cX12_tried 44 = .ok (.iconst 1, 1) := by decide +kernel
theorem dX12_tried_45 : decode cX12_tried 45 = .ok (.istore 4, 2) := by decide +kernel
theorem dX12_tried_47 : decode cX12_tried 47 = .ok (.iload_n 3, 1) := by decide +kernel
theorem dX12_tried_48 : decode cX12_tried 48 = .ok (.ifCond .eq 49, 3) := by decide +kernel
theorem dX12_tried_51 : decode cX12_tried 51 = .ok (.bipush 101, 2) := by decide +kernel
theorem dX12_tried_53 : decode cX12_tried 53 = .ok (.aload_n 0, 1) := by decide +kernel
theorem dX12_tried_54 : decode cX12_tried 54 = .ok (.getfield 617, 3) := by decide +kernel
theorem dX12_tried_57 : decode cX12_tried 57 = .ok (.imul, 1) := by decide +kernel
theorem dX12_tried_58 : decode cX12_tried 58 = .ok (.aload_n 0, 1) := by decide +kernel
theorem dX12_tried_59 : decode cX12_tried 59 = .ok (.getfield 604, 3) := by decide +kernel
theorem dX12_tried_62 : decode cX12_tried 62 = .ok (.iadd, 1) := by decide +kernel
theorem dX12_tried_63 : decode cX12_tried 63 = .ok (.istore 5, 2) := by decide +kernel
theorem dX12_tried_65 : decode cX12_tried 65 = .ok (.aload_n 0, 1) := by decide +kernel
theorem dX12_tried_66 : decode cX12_tried 66 = .ok (.getfield 228, 3) := by decide +kernel
theorem dX12_tried_69 : decode cX12_tried 69 = .ok (.iload 5, 2) := by decide +kernel
theorem dX12_tried_71 : decode cX12_tried 71 = .ok (.iaload, 1) := by decide +kernel
theorem dX12_tried_72 : decode cX12_tried 72 = .ok (.aload_n 0, 1) := by decide +kernel
theorem dX12_tried_73 : decode cX12_tried 73 = .ok (.getfield 644, 3) := by decide +kernel
theorem dX12_tried_76 : decode cX12_tried 76 = .ok (.if_icmp .eq 7, 3) := by decide +kernel
theorem dX12_tried_79 : decode cX12_tried 79 = .ok (.iconst 1, 1) := by decide +kernel
theorem dX12_tried_80 : decode cX12_tried 80 = .ok (.goto 4, 3) := by decide +kernel
theorem dX12_tried_83 : decode cX12_tried 83 = .ok (.iconst 0, 1) := by decide +kernel
theorem dX12_tried_84 : decode cX12_tried 84 = .ok (.istore 4, 2) := by decide +kernel
theorem dX12_tried_86 : decode cX12_tried 86 = .ok (.aload_n 0, 1) := by decide +kernel
theorem dX12_tried_87 : decode cX12_tried 87 = .ok (.getfield 228, 3) := by decide +kernel
theorem dX12_tried_90 : decode cX12_tried 90 = .ok (.iload 5, 2) := by decide +kernel
theorem dX12_tried_92 : decode cX12_tried 92 = .ok (.aload_n 0, 1) := by decide +kernel
theorem dX12_tried_93 : decode cX12_tried 93 = .ok (.getfield 644, 3) := by decide +kernel
theorem dX12_tried_96 : decode cX12_tried 96 = .ok (.iastore, 1) := by decide +kernel
theorem dX12_tried_97 : decode cX12_tried 97 = .ok (.iload 4, 2) := by decide +kernel
theorem dX12_tried_99 : decode cX12_tried 99 = .ok (.ifCond .eq 40, 3) := by decide +kernel
theorem dX12_tried_102 : decode cX12_tried 102 = .ok (.aload_n 0, 1) := by decide +kernel
theorem dX12_tried_103 : decode cX12_tried 103 = .ok (.getfield 180, 3) := by decide +kernel
theorem dX12_tried_106 : decode cX12_tried 106 = .ok (.aload_n 0, 1) := by decide +kernel
theorem dX12_tried_107 : decode cX12_tried 107 = .ok (.getfield 617, 3) := by decide +kernel
theorem dX12_tried_110 : decode cX12_tried 110 = .ok (.iaload, 1) := by decide +kernel
theorem dX12_tried_111 : decode cX12_tried 111 = .ok (.bipush 19, 2) := by decide +kernel
theorem dX12_tried_113 : decode cX12_tried 113 = .ok (.if_icmp .ne 26, 3) := by decide +kernel
theorem dX12_tried_116 : decode cX12_tried 116 = .ok (.iload_n 2, 1) := by decide +kernel
theorem dX12_tried_117 : decode cX12_tried 117 = .ok (.ifCond .eq 14, 3) := by decide +kernel
theorem dX12_tried_120 : decode cX12_tried 120 = .ok (.aload_n 0, 1) := by decide +kernel
theorem dX12_tried_121 : decode cX12_tried 121 = .ok (.getfield 604, 3) := by decide +kernel
theorem dX12_tried_124 : decode cX12_tried 124 = .ok (.aload_n 0, 1) := by decide +kernel
theorem dX12_tried_125 : decode cX12_tried 125 = .ok (.getfield 595, 3) := by decide +kernel
theorem dX12_tried_128 : decode cX12_tried 128 = .ok (.if_icmp .ne 5, 3) := by decide +kernel
theorem dX12_tried_131 : decode cX12_tried 131 = .ok (.iconst 1, 1) := by decide +kernel
theorem dX12_tried_132 : decode cX12_tried 132 = .ok (.ireturn, 1) := by decide +kernel
theorem dX12_tried_133 : decode cX12_tried 133 = .ok (.iconst 0, 1) := by decide +kernel
theorem dX12_tried_134 : decode cX12_tried 134 = .ok (.istore 4, 2) := by decide +kernel
theorem dX12_tried_136 : decode cX12_tried 136 = .ok (.goto 32, 3) := by decide +kernel
theorem dX12_tried_139 : decode cX12_tried 139 = .ok (.iload 4, 2) := by decide +kernel
theorem dX12_tried_141 : decode cX12_tried 141 = .ok (.ifCond .eq 27, 3) := by decide +kernel
theorem dX12_tried_144 : decode cX12_tried 144 = .ok (.aload_n 0, 1) := by decide +kernel
theorem dX12_tried_145 : decode cX12_tried 145 = .ok (.aload_n 0, 1) := by decide +kernel
theorem dX12_tried_146 : decode cX12_tried 146 = .ok (.getfield 180, 3) := by decide +kernel
theorem dX12_tried_149 : decode cX12_tried 149 = .ok (.aload_n 0, 1) := by decide +kernel
theorem dX12_tried_150 : decode cX12_tried 150 = .ok (.getfield 617, 3) := by decide +kernel
theorem dX12_tried_153 : decode cX12_tried 153 = .ok (.iaload, 1) := by decide +kernel
theorem dX12_tried_154 : decode cX12_tried 154 = .ok (.aload_n 0, 1) := by decide +kernel
theorem dX12_tried_155 : decode cX12_tried 155 = .ok (.getfield 183, 3) := by decide +kernel
theorem dX12_tried_158 : decode cX12_tried 158 = .ok (.aload_n 0, 1) := by decide +kernel
theorem dX12_tried_159 : decode cX12_tried 159 = .ok (.getfield 617, 3) := by decide +kernel
theorem dX12_tried_162 : decode cX12_tried 162 = .ok (.iaload, 1) := by decide +kernel
theorem dX12_tried_163 : decode cX12_tried 163 = .ok (.invokevirtual 647, 3) := by decide +kernel
theorem dX12_tried_166 : decode cX12_tried 166 = .ok (.istore 4, 2) := by decide +kernel
theorem dX12_tried_168 : decode cX12_tried 168 = .ok (.aload_n 0, 1) := by decide +kernel
theorem dX12_tried_169 : decode cX12_tried 169 = .ok (.getfield 589, 3) := by decide +kernel
theorem dX12_tried_172 : decode cX12_tried 172 = .ok (.ifCond .ne 17, 3) := by decide +kernel
theorem dX12_tried_175 : decode cX12_tried 175 = .ok (.iload 4, 2) := by decide +kernel
theorem dX12_tried_177 : decode cX12_tried 177 = .ok (.ifCond .ne 12, 3) := by decide +kernel
theorem dX12_tried_180 : decode cX12_tried 180 = .ok (.aload_n 0, 1) := by decide +kernel
theorem dX12_tried_181 : decode cX12_tried 181 = .ok (.invokevirtual 650, 3) := by decide +kernel
theorem dX12_tried_184 : decode cX12_tried 184 = .ok (.ifCond .ne 5, 3) := by decide +kernel
theorem dX12_tried_187 : decode cX12_tried 187 = .ok (.iconst 0, 1) := by decide +kernel
theorem dX12_tried_188 : decode cX12_tried 188 = .ok (.ireturn, 1) := by decide +kernel
theorem dX12_tried_189 : decode cX12_tried 189 = .ok (.aload_n 0, 1) := by decide +kernel
theorem dX12_tried_190 : decode cX12_tried 190 = .ok (.getfield 589, 3) := by decide +kernel
theorem dX12_tried_193 : decode cX12_tried 193 = .ok (.ifCond .eq 5, 3) := by decide +kernel
theorem dX12_tried_196 : decode cX12_tried 196 = .ok (.iconst 2, 1) := by decide +kernel
theorem dX12_tried_197 : decode cX12_tried 197 = .ok (.ireturn, 1) := by decide +kernel
theorem dX12_tried_198 : decode cX12_tried 198 = .ok (.goto (-154), 3) := by decide +kernel
theorem dX12_tryBehind_0 : decode cX12_tryBehind 0 = .ok (.aload_n 0, 1) := by decide +kernel
theorem dX12_tryBehind_1 : decode cX12_tryBehind 1 = .ok (.invokevirtual 610, 3) := by decide +kernel
theorem dX12_tryBehind_4 : decode cX12_tryBehind 4 = .ok (.ifCond .eq 45, 3) := by decide +kernel
theorem dX12_tryBehind_7 : decode cX12_tryBehind 7 = .ok (.aload_n 0, 1) := by decide +kernel
theorem dX12_tryBehind_8 : decode cX12_tryBehind 8 = .ok (.sipush 910, 3) := by decide +kernel
theorem dX12_tryBehind_11 : decode cX12_tryBehind 11 = .ok (.iload_n 1, 1) := by decide +kernel
theorem dX12_tryBehind_12 : decode cX12_tryBehind 12 = .ok (.iadd, 1) := by decide +kernel
theorem dX12_tryBehind_13 : decode cX12_tryBehind 13 = .ok (.iload_n 2, 1) := by decide +kernel
theorem dX12_tryBehind_14 : decode cX12_tryBehind 14 = .ok (.invokevirtual 614, 3) := by decide +kernel
theorem dX12_tryBehind_17 : decode cX12_tryBehind 17 = .ok (.iload_n 2, 1) := by decide +kernel
theorem dX12_tryBehind_18 : decode cX12_tryBehind 18 = .ok (.ifCond .le 16, 3) := by decide +kernel
theorem dX12_tryBehind_21 : decode cX12_tryBehind 21 = .ok (.aload_n 0, 1) := by decide +kernel
theorem dX12_tryBehind_22 : decode cX12_tryBehind 22 = .ok (.iconst 2, 1) := by decide +kernel
theorem dX12_tryBehind_23 : decode cX12_tryBehind 23 = .ok (.aload_n 0, 1) := by decide +kernel
theorem dX12_tryBehind_24 : decode cX12_tryBehind 24 = .ok (.getfield 617, 3) := by decide +kernel
theorem dX12_tryBehind_27 : decode cX12_tryBehind 27 = .ok (.aload_n 0, 1) := by decide +kernel
theorem dX12_tryBehind_28 : decode cX12_tryBehind 28 = .ok (.getfield 604, 3) := by decide +kernel
theorem dX12_tryBehind_31 : decode cX12_tryBehind 31 = .ok (.invokevirtual 620, 3) := by decide +kernel
theorem dX12_tryBehind_34 : decode cX12_tryBehind 34 = .ok (.aload_n 0, 1) := by decide +kernel
theorem dX12_tryBehind_35 : decode cX12_tryBehind 35 = .ok (.iload_n 2, 1) := by decide +kernel
theorem dX12_tryBehind_36 : decode cX12_tryBehind 36 = .ok (.putfield 604, 3) := by decide +kernel
theorem dX12_tryBehind_39 : decode cX12_tryBehind 39 = .ok (.aload_n 0, 1) := by decide +kernel
theorem dX12_tryBehind_40 : decode cX12_tryBehind 40 = .ok (.dup, 1) := by decide +kernel
theorem dX12_tryBehind_41 : decode cX12_tryBehind 41 = .ok (.getfield 617, 3) := by decide +kernel
theorem dX12_tryBehind_44 : decode cX12_tryBehind 44 = .ok (.iconst 1, 1) := by decide +kernel
theorem dX12_tryBehind_45 : decode cX12_tryBehind 45 = .ok (.iadd, 1) := by decide +kernel
theorem dX12_tryBehind_46 : decode cX12_tryBehind 46 = .ok (.putfield 617, 3) := by decide +kernel
theorem dX12_tryBehind_49 : decode cX12_tryBehind 49 = .ok (.return_, 1) := by decide +kernel
theorem dX12_whole_0 : decode cX12_whole 0 = .ok (.aload_n 0, 1) := by decide +kernel
theorem dX12_whole_1 : decode cX12_whole 1 = .ok (.iconst 0, 1) := by decide +kernel
theorem dX12_whole_2 : decode cX12_whole 2 = .ok (.putfield 1, 3) := by decide +kernel
theorem dX12_whole_5 : decode cX12_whole 5 = .ok (.aload_n 0, 1) := by decide +kernel
theorem dX12_whole_6 : decode cX12_whole 6 = .ok (.iload_n 1, 1) := by decide +kernel
theorem dX12_whole_7 : decode cX12_whole 7 = .ok (.iload_n 2, 1) := by decide +kernel
theorem dX12_whole_8 : decode cX12_whole 8 = .ok (.invokevirtual 687, 3) := by decide +kernel
theorem dX12_whole_11 : decode cX12_whole 11 = .ok (.istore 4, 2) := by decide +kernel
theorem dX12_whole_13 : decode cX12_whole 13 = .ok (.iload 4, 2) := by decide +kernel
theorem dX12_whole_15 : decode cX12_whole 15 = .ok (.ifCond .ne 17, 3) := by decide +kernel
theorem dX12_whole_18 : decode cX12_whole 18 = .ok (.iload_n 3, 1) := by decide +kernel
theorem dX12_whole_19 : decode cX12_whole 19 = .ok (.iconst 0, 1) := by decide +kernel
theorem dX12_whole_20 : decode cX12_whole 20 = .ok (.iconst 2, 1) := by decide +kernel
theorem dX12_whole_21 : decode cX12_whole 21 = .ok (.invokestatic 7, 3) := by decide +kernel
theorem dX12_whole_24 : decode cX12_whole 24 = .ok (.ifCond .ne 8, 3) := by decide +kernel
theorem dX12_whole_27 : decode cX12_whole 27 = .ok (.bipush (-4), 2) := by decide +kernel
theorem dX12_whole_29 : decode cX12_whole 29 = .ok (.goto 5, 3) := by decide +kernel
theorem dX12_whole_32 : decode cX12_whole 32 = .ok (.iload 4, 2) := by decide +kernel
theorem dX12_whole_34 : decode cX12_whole 34 = .ok (.istore 4, 2) := by decide +kernel
theorem dX12_whole_36 : decode cX12_whole 36 = .ok (.iload 4, 2) := by decide +kernel
theorem dX12_whole_38 : decode cX12_whole 38 = .ok (.ifCond .ne 12, 3) := by decide +kernel
theorem dX12_whole_41 : decode cX12_whole 41 = .ok (.aload_n 0, 1) := by decide +kernel
theorem dX12_whole_42 : decode cX12_whole 42 = .ok (.iload_n 1, 1) := by decide +kernel
theorem dX12_whole_43 : decode cX12_whole 43 = .ok (.iload_n 3, 1) := by decide +kernel
theorem dX12_whole_44 : decode cX12_whole 44 = .ok (.invokevirtual 690, 3) := by decide +kernel
theorem dX12_whole_47 : decode cX12_whole 47 = .ok (.goto 5, 3) := by decide +kernel
theorem dX12_whole_50 : decode cX12_whole 50 = .ok (.iload 4, 2) := by decide +kernel
theorem dX12_whole_52 : decode cX12_whole 52 = .ok (.istore 4, 2) := by decide +kernel
theorem dX12_whole_54 : decode cX12_whole 54 = .ok (.iload 4, 2) := by decide +kernel
theorem dX12_whole_56 : decode cX12_whole 56 = .ok (.ifCond .eq 6, 3) := by decide +kernel
theorem dX12_whole_59 : decode cX12_whole 59 = .ok (.iload 4, 2) := by decide +kernel
theorem dX12_whole_61 : decode cX12_whole 61 = .ok (.ireturn, 1) := by decide +kernel
theorem dX12_whole_62 : decode cX12_whole 62 = .ok (.aload_n 0, 1) := by decide +kernel
theorem dX12_whole_63 : decode cX12_whole 63 = .ok (.iconst 0, 1) := by decide +kernel
theorem dX12_whole_64 : decode cX12_whole 64 = .ok (.putfield 449, 3) := by decide +kernel
theorem dX12_whole_67 : decode cX12_whole 67 = .ok (.aload_n 0, 1) := by decide +kernel
theorem dX12_whole_68 : decode cX12_whole 68 = .ok (.iload_n 1, 1) := by decide +kernel
theorem dX12_whole_69 : decode cX12_whole 69 = .ok (.iload_n 3, 1) := by decide +kernel
theorem dX12_whole_70 : decode cX12_whole 70 = .ok (.ifCond .le 7, 3) := by decide +kernel
theorem dX12_whole_73 : decode cX12_whole 73 = .ok (.iconst 1, 1) := by decide +kernel
theorem dX12_whole_74 : decode cX12_whole 74 = .ok (.goto 4, 3) := by decide +kernel
theorem dX12_whole_77 : decode cX12_whole 77 = .ok (.iconst 0, 1) := by decide +kernel
theorem dX12_whole_78 : decode cX12_whole 78 = .ok (.invokevirtual 673, 3) := by decide +kernel
theorem dX12_whole_81 : decode cX12_whole 81 = .ok (.aload_n 0, 1) := by decide +kernel
theorem dX12_whole_82 : decode cX12_whole 82 = .ok (.iload_n 1, 1) := by decide +kernel
theorem dX12_whole_83 : decode cX12_whole 83 = .ok (.iload_n 2, 1) := by decide +kernel
theorem dX12_whole_84 : decode cX12_whole 84 = .ok (.iconst 0, 1) := by decide +kernel
theorem dX12_whole_85 : decode cX12_whole 85 = .ok (.iconst 1, 1) := by decide +kernel
theorem dX12_whole_86 : decode cX12_whole 86 = .ok (.iload_n 3, 1) := by decide +kernel
theorem dX12_whole_87 : decode cX12_whole 87 = .ok (.ifCond .le 7, 3) := by decide +kernel
theorem dX12_whole_90 : decode cX12_whole 90 = .ok (.iconst 1, 1) := by decide +kernel
theorem dX12_whole_91 : decode cX12_whole 91 = .ok (.goto 4, 3) := by decide +kernel
theorem dX12_whole_94 : decode cX12_whole 94 = .ok (.iconst 0, 1) := by decide +kernel
theorem dX12_whole_95 : decode cX12_whole 95 = .ok (.sipush 3000, 3) := by decide +kernel
theorem dX12_whole_98 : decode cX12_whole 98 = .ok (.invokevirtual 680, 3) := by decide +kernel
theorem dX12_whole_101 : decode cX12_whole 101 = .ok (.istore 5, 2) := by decide +kernel
theorem dX12_whole_103 : decode cX12_whole 103 = .ok (.iload 5, 2) := by decide +kernel
theorem dX12_whole_105 : decode cX12_whole 105 = .ok (.iconst 2, 1) := by decide +kernel
theorem dX12_whole_106 : decode cX12_whole 106 = .ok (.if_icmp .ne 6, 3) := by decide +kernel
theorem dX12_whole_109 : decode cX12_whole 109 = .ok (.bipush (-8), 2) := by decide +kernel
theorem dX12_whole_111 : decode cX12_whole 111 = .ok (.ireturn, 1) := by decide +kernel
theorem dX12_whole_112 : decode cX12_whole 112 = .ok (.aload_n 0, 1) := by decide +kernel
theorem dX12_whole_113 : decode cX12_whole 113 = .ok (.iload_n 1, 1) := by decide +kernel
theorem dX12_whole_114 : decode cX12_whole 114 = .ok (.iload 5, 2) := by decide +kernel
theorem dX12_whole_116 : decode cX12_whole 116 = .ok (.iconst 1, 1) := by decide +kernel
theorem dX12_whole_117 : decode cX12_whole 117 = .ok (.if_icmp .ne 7, 3) := by decide +kernel
theorem dX12_whole_120 : decode cX12_whole 120 = .ok (.iconst 1, 1) := by decide +kernel
theorem dX12_whole_121 : decode cX12_whole 121 = .ok (.goto 4, 3) := by decide +kernel
theorem dX12_whole_124 : decode cX12_whole 124 = .ok (.iconst 0, 1) := by decide +kernel
theorem dX12_whole_125 : decode cX12_whole 125 = .ok (.invokevirtual 684, 3) := by decide +kernel
theorem dX12_whole_128 : decode cX12_whole 128 = .ok (.iload 5, 2) := by decide +kernel
theorem dX12_whole_130 : decode cX12_whole 130 = .ok (.ireturn, 1) := by decide +kernel
theorem dX12_wrongBoth_0 : decode cX12_wrongBoth 0 = .ok (.aload_n 0, 1) := by decide +kernel
theorem dX12_wrongBoth_1 : decode cX12_wrongBoth 1 = .ok (.iload_n 1, 1) := by decide +kernel
theorem dX12_wrongBoth_2 : decode cX12_wrongBoth 2 = .ok (.invokevirtual 459, 3) := by decide +kernel
theorem dX12_wrongBoth_5 : decode cX12_wrongBoth 5 = .ok (.istore_n 3, 1) := by decide +kernel
theorem dX12_wrongBoth_6 : decode cX12_wrongBoth 6 = .ok (.iload_n 3, 1) := by decide +kernel
theorem dX12_wrongBoth_7 : decode cX12_wrongBoth 7 = .ok (.ifCond .eq 7, 3) := by decide +kernel
theorem dX12_wrongBoth_10 : decode cX12_wrongBoth 10 = .ok (.iload_n 3, 1) := by decide +kernel
theorem dX12_wrongBoth_11 : decode cX12_wrongBoth 11 = .ok (.goto 8, 3) := by decide +kernel
theorem dX12_wrongBoth_14 : decode cX12_wrongBoth 14 = .ok (.aload_n 0, 1) := by decide +kernel
theorem dX12_wrongBoth_15 : decode cX12_wrongBoth 15 = .ok (.iload_n 2, 1) := by decide +kernel
theorem dX12_wrongBoth_16 : decode cX12_wrongBoth 16 = .ok (.invokevirtual 542, 3) := by decide +kernel
theorem dX12_wrongBoth_19 : decode cX12_wrongBoth 19 = .ok (.ireturn, 1) := by decide +kernel
theorem dX12_wrongSlot_0 : decode cX12_wrongSlot 0 = .ok (.iload_n 1, 1) := by decide +kernel
theorem dX12_wrongSlot_1 : decode cX12_wrongSlot 1 = .ok (.iconst 0, 1) := by decide +kernel
theorem dX12_wrongSlot_2 : decode cX12_wrongSlot 2 = .ok (.iconst 5, 1) := by decide +kernel
theorem dX12_wrongSlot_3 : decode cX12_wrongSlot 3 = .ok (.invokestatic 7, 3) := by decide +kernel
theorem dX12_wrongSlot_6 : decode cX12_wrongSlot 6 = .ok (.ifCond .ne 6, 3) := by decide +kernel
theorem dX12_wrongSlot_9 : decode cX12_wrongSlot 9 = .ok (.bipush (-2), 2) := by decide +kernel
theorem dX12_wrongSlot_11 : decode cX12_wrongSlot 11 = .ok (.ireturn, 1) := by decide +kernel
theorem dX12_wrongSlot_12 : decode cX12_wrongSlot 12 = .ok (.aload_n 0, 1) := by decide +kernel
theorem dX12_wrongSlot_13 : decode cX12_wrongSlot 13 = .ok (.getfield 31, 3) := by decide +kernel
theorem dX12_wrongSlot_16 : decode cX12_wrongSlot 16 = .ok (.iload_n 1, 1) := by decide +kernel
theorem dX12_wrongSlot_17 : decode cX12_wrongSlot 17 = .ok (.baload, 1) := by decide +kernel
theorem dX12_wrongSlot_18 : decode cX12_wrongSlot 18 = .ok (.ifCond .ne 11, 3) := by decide +kernel
theorem dX12_wrongSlot_21 : decode cX12_wrongSlot 21 = .ok (.aload_n 0, 1) := by decide +kernel
theorem dX12_wrongSlot_22 : decode cX12_wrongSlot 22 = .ok (.iconst 2, 1) := by decide +kernel
theorem dX12_wrongSlot_23 : decode cX12_wrongSlot 23 = .ok (.putfield 456, 3) := by decide +kernel
theorem dX12_wrongSlot_26 : decode cX12_wrongSlot 26 = .ok (.bipush (-2), 2) := by decide +kernel
theorem dX12_wrongSlot_28 : decode cX12_wrongSlot 28 = .ok (.ireturn, 1) := by decide +kernel
theorem dX12_wrongSlot_29 : decode cX12_wrongSlot 29 = .ok (.iconst 0, 1) := by decide +kernel
theorem dX12_wrongSlot_30 : decode cX12_wrongSlot 30 = .ok (.ireturn, 1) := by decide +kernel
theorem dX12_wrongSubject_0 : decode cX12_wrongSubject 0 = .ok (.iload_n 1, 1) := by decide +kernel
theorem dX12_wrongSubject_1 : decode cX12_wrongSubject 1 = .ok (.iconst 0, 1) := by decide +kernel
theorem dX12_wrongSubject_2 : decode cX12_wrongSubject 2 = .ok (.iconst 3, 1) := by decide +kernel
theorem dX12_wrongSubject_3 : decode cX12_wrongSubject 3 = .ok (.invokestatic 7, 3) := by decide +kernel
theorem dX12_wrongSubject_6 : decode cX12_wrongSubject 6 = .ok (.ifCond .ne 6, 3) := by decide +kernel
theorem dX12_wrongSubject_9 : decode cX12_wrongSubject 9 = .ok (.bipush (-2), 2) := by decide +kernel
theorem dX12_wrongSubject_11 : decode cX12_wrongSubject 11 = .ok (.ireturn, 1) := by decide +kernel
theorem dX12_wrongSubject_12 : decode cX12_wrongSubject 12 = .ok (.aload_n 0, 1) := by decide +kernel
theorem dX12_wrongSubject_13 : decode cX12_wrongSubject 13 = .ok (.getfield 171, 3) := by decide +kernel
theorem dX12_wrongSubject_16 : decode cX12_wrongSubject 16 = .ok (.iload_n 1, 1) := by decide +kernel
theorem dX12_wrongSubject_17 : decode cX12_wrongSubject 17 = .ok (.baload, 1) := by decide +kernel
theorem dX12_wrongSubject_18 : decode cX12_wrongSubject 18 = .ok (.ifCond .ne 11, 3) := by decide +kernel
theorem dX12_wrongSubject_21 : decode cX12_wrongSubject 21 = .ok (.aload_n 0, 1) := by decide +kernel
theorem dX12_wrongSubject_22 : decode cX12_wrongSubject 22 = .ok (.iconst 2, 1) := by decide +kernel
theorem dX12_wrongSubject_23 : decode cX12_wrongSubject 23 = .ok (.putfield 456, 3) := by decide +kernel
theorem dX12_wrongSubject_26 : decode cX12_wrongSubject 26 = .ok (.bipush (-3), 2) := by decide +kernel
theorem dX12_wrongSubject_28 : decode cX12_wrongSubject 28 = .ok (.ireturn, 1) := by decide +kernel
theorem dX12_wrongSubject_29 : decode cX12_wrongSubject 29 = .ok (.iconst 0, 1) := by decide +kernel
theorem dX12_wrongSubject_30 : decode cX12_wrongSubject 30 = .ok (.ireturn, 1) := by decide +kernel
