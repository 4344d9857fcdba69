theorem dX12_findAll_121 : decode cX12_findAll 121 = .ok (.iadd, 1) := by decide +kernel
theorem dX12_findAll_122 : decode cX12_findAll 122 = .ok (.putfield 696, 3) := by decide +kernel
theorem dX12_findAll_125 : decode cX12_findAll 125 = .ok (.aload_n 0, 1) := by decide +kernel
theorem dX12_findAll_126 : decode cX12_findAll 126 = .ok (.getfield 231, 3) := by decide +kernel
theorem dX12_findAll_129 : decode cX12_findAll 129 = .ok (.iconst 0, 1) := by decide +kernel
theorem dX12_findAll_130 : decode cX12_findAll 130 = .ok (.iaload, 1) := by decide +kernel
theorem dX12_findAll_131 : decode cX12_findAll 131 = .ok (.aload_n 0, 1) := by decide +kernel
theorem dX12_findAll_132 : decode cX12_findAll 132 = .ok (.getfield 231, 3) := by decide +kernel
theorem dX12_findAll_135 : decode cX12_findAll 135 = .ok (.iconst 1, 1) := by decide +kernel
theorem dX12_findAll_136 : decode cX12_findAll 136 = .ok (.iaload, 1) := by decide +kernel
theorem dX12_findAll_137 : decode cX12_findAll 137 = .ok (.if_icmp .ne 14, 3) := by decide +kernel
theorem dX12_findAll_140 : decode cX12_findAll 140 = .ok (.aload_n 0, 1) := by decide +kernel
theorem dX12_findAll_141 : decode cX12_findAll 141 = .ok (.getfield 231, 3) := by decide +kernel
theorem dX12_findAll_144 : decode cX12_findAll 144 = .ok (.iconst 1, 1) := by decide +kernel
theorem dX12_findAll_145 : decode cX12_findAll 145 = .ok (.iaload, 1) := by decide +kernel
theorem dX12_findAll_146 : decode cX12_findAll 146 = .ok (.iconst 1, 1) := by decide +kernel
theorem dX12_findAll_147 : decode cX12_findAll 147 = .ok (.iadd, 1) := by decide +kernel
theorem dX12_findAll_148 : decode cX12_findAll 148 = .ok (.goto 9, 3) := by decide +kernel
theorem dX12_findAll_151 : decode cX12_findAll 151 = .ok (.aload_n 0, 1) := by decide +kernel
theorem dX12_findAll_152 : decode cX12_findAll 152 = .ok (.getfield 231, 3) := by decide +kernel
theorem dX12_findAll_155 : decode cX12_findAll 155 = .ok (.iconst 1, 1) := by decide +kernel
theorem dX12_findAll_156 : decode cX12_findAll 156 = .ok (.iaload, 1) := by decide +kernel
theorem dX12_findAll_157 : decode cX12_findAll 157 = .ok (.istore 4, 2) := by decide +kernel
theorem dX12_findAll_159 : decode cX12_findAll 159 = .ok (.goto (-132), 3) := by decide +kernel
theorem dX12_findAll_162 : decode cX12_findAll 162 = .ok (.iconst 0, 1) := by decide +kernel
theorem dX12_findAll_163 : decode cX12_findAll 163 = .ok (.ireturn, 1) := by decide +kernel
theorem dX12_findBegun_0 : decode cX12_findBegun 0 = .ok (.sipush 220, 3) := by decide +kernel
theorem dX12_findBegun_3 : decode cX12_findBegun 3 = .ok (.iload_n 1, 1) := by decide +kernel
theorem dX12_findBegun_4 : decode cX12_findBegun 4 = .ok (.imul, 1) := by decide +kernel
theorem dX12_findBegun_5 : decode cX12_findBegun 5 = .ok (.istore_n 3, 1) := by decide +kernel
theorem dX12_findBegun_6 : decode cX12_findBegun 6 = .ok (.aload_n 0, 1) := by decide +kernel
theorem dX12_findBegun_7 : decode cX12_findBegun 7 = .ok (.getfield 35, 3) := by decide +kernel
theorem dX12_findBegun_10 : decode cX12_findBegun 10 = .ok (.iload_n 1, 1) := by decide +kernel
theorem dX12_findBegun_11 : decode cX12_findBegun 11 = .ok (.iaload, 1) := by decide +kernel
theorem dX12_findBegun_12 : decode cX12_findBegun 12 = .ok (.iconst 1, 1) := by decide +kernel
theorem dX12_findBegun_13 : decode cX12_findBegun 13 = .ok (.isub, 1) := by decide +kernel
theorem dX12_findBegun_14 : decode cX12_findBegun 14 = .ok (.istore 4, 2) := by decide +kernel
theorem dX12_findBegun_16 : decode cX12_findBegun 16 = .ok (.iload 4, 2) := by decide +kernel
theorem dX12_findBegun_18 : decode cX12_findBegun 18 = .ok (.ifCond .lt 195, 3) := by decide +kernel
theorem dX12_findBegun_21 : decode cX12_findBegun 21 = .ok (.iload_n 3, 1) := by decide +kernel
theorem dX12_findBegun_22 : decode cX12_findBegun 22 = .ok (.iload 4, 2) := by decide +kernel
theorem dX12_findBegun_24 : decode cX12_findBegun 24 = .ok (.iadd, 1) := by decide +kernel
theorem dX12_findBegun_25 : decode cX12_findBegun 25 = .ok (.istore 5, 2) := by decide +kernel
theorem dX12_findBegun_27 : decode cX12_findBegun 27 = .ok (.aload_n 0, 1) := by decide +kernel
theorem dX12_findBegun_28 : decode cX12_findBegun 28 = .ok (.getfield 44, 3) := by decide +kernel
theorem dX12_findBegun_31 : decode cX12_findBegun 31 = .ok (.iload 5, 2) := by decide +kernel
theorem dX12_findBegun_33 : decode cX12_findBegun 33 = .ok (.iaload, 1) := by decide +kernel
theorem dX12_findBegun_34 : decode cX12_findBegun 34 = .ok (.istore 6, 2) := by decide +kernel
theorem dX12_findBegun_36 : decode cX12_findBegun 36 = .ok (.iload 6, 2) := by decide +kernel
theorem dX12_findBegun_38 : decode cX12_findBegun 38 = .ok (.iconst 4, 1) := by decide +kernel
theorem dX12_findBegun_39 : decode cX12_findBegun 39 = .ok (.if_icmp .eq 19, 3) := by decide +kernel
theorem dX12_findBegun_42 : decode cX12_findBegun 42 = .ok (.iload 6, 2) := by decide +kernel
theorem dX12_findBegun_44 : decode cX12_findBegun 44 = .ok (.iconst 2, 1) := by decide +kernel
theorem dX12_findBegun_45 : decode cX12_findBegun 45 = .ok (.if_icmp .gt 17, 3) := by decide +kernel
theorem dX12_findBegun_48 : decode cX12_findBegun 48 = .ok (.aload_n 0, 1) := by decide +kernel
theorem dX12_findBegun_49 : decode cX12_findBegun 49 = .ok (.iload 5, 2) := by decide +kernel
theorem dX12_findBegun_51 : decode cX12_findBegun 51 = .ok (.iload_n 2, 1) := by decide +kernel
theorem dX12_findBegun_52 : decode cX12_findBegun 52 = .ok (.invokevirtual 517, 3) := by decide +kernel
theorem dX12_findBegun_55 : decode cX12_findBegun 55 = .ok (.ifCond .eq 7, 3) := by decide +kernel
theorem dX12_findBegun_58 : decode cX12_findBegun 58 = .ok (.iconst 1, 1) := by decide +kernel
theorem dX12_findBegun_59 : decode cX12_findBegun 59 = .ok (.goto 4, 3) := by decide +kernel
theorem dX12_findBegun_62 : decode cX12_findBegun 62 = .ok (.iconst 0, 1) := by decide +kernel
theorem dX12_findBegun_63 : decode cX12_findBegun 63 = .ok (.istore 7, 2) := by decide +kernel
theorem dX12_findBegun_65 : decode cX12_findBegun 65 = .ok (.iload 6, 2) := by decide +kernel
theorem dX12_findBegun_67 : decode cX12_findBegun 67 = .ok (.iconst 2, 1) := by decide +kernel
theorem dX12_findBegun_68 : decode cX12_findBegun 68 = .ok (.if_icmp .le 43, 3) := by decide +kernel
theorem dX12_findBegun_71 : decode cX12_findBegun 71 = .ok (.iload 6, 2) := by decide +kernel
theorem dX12_findBegun_73 : decode cX12_findBegun 73 = .ok (.iconst 3, 1) := by decide +kernel
theorem dX12_findBegun_74 : decode cX12_findBegun 74 = .ok (.if_icmp .eq 37, 3) := by decide +kernel
theorem dX12_findBegun_77 : decode cX12_findBegun 77 = .ok (.iload 6, 2) := by decide +kernel
theorem dX12_findBegun_79 : decode cX12_findBegun 79 = .ok (.iconst 4, 1) := by decide +kernel
theorem dX12_findBegun_80 : decode cX12_findBegun 80 = .ok (.if_icmp .eq 31, 3) := by decide +kernel
theorem dX12_findBegun_83 : decode cX12_findBegun 83 = .ok (.iload 6, 2) := by decide +kernel
theorem dX12_findBegun_85 : decode cX12_findBegun 85 = .ok (.bipush 9, 2) := by decide +kernel
theorem dX12_findBegun_87 : decode cX12_findBegun 87 = .ok (.if_icmp .eq 24, 3) := by decide +kernel
theorem dX12_findBegun_90 : decode cX12_findBegun 90 = .ok (.iload 6, 2) := by decide +kernel
theorem dX12_findBegun_92 : decode cX12_findBegun 92 = .ok (.bipush 7, 2) := by decide +kernel
theorem dX12_findBegun_94 : decode cX12_findBegun 94 = .ok (.if_icmp .ne 13, 3) := by decide +kernel
theorem dX12_findBegun_97 : decode cX12_findBegun 97 = .ok (.aload_n 0, 1) := by decide +kernel
theorem dX12_findBegun_98 : decode cX12_findBegun 98 = .ok (.getfield 53, 3) := by decide +kernel
theorem dX12_findBegun_101 : decode cX12_findBegun 101 = .ok (.iload 5, 2) := by decide +kernel
theorem dX12_findBegun_103 : decode cX12_findBegun 103 = .ok (.iaload, 1) := by decide +kernel
theorem dX12_findBegun_104 : decode cX12_findBegun 104 = .ok (.ifCond .eq 7, 3) := by decide +kernel
theorem dX12_findBegun_107 : decode cX12_findBegun 107 = .ok (.iconst 1, 1) := by decide +kernel
theorem dX12_findBegun_108 : decode cX12_findBegun 108 = .ok (.goto 4, 3) := by decide +kernel
theorem dX12_findBegun_111 : decode cX12_findBegun 111 = .ok (.iconst 0, 1) := by decide +kernel
theorem dX12_findBegun_112 : decode cX12_findBegun 112 = .ok (.istore 8, 2) := by decide +kernel
theorem dX12_findBegun_114 : decode cX12_findBegun 114 = .ok (.iload 4, 2) := by decide +kernel
theorem dX12_findBegun_116 : decode cX12_findBegun 116 = .ok (.iconst 1, 1) := by decide +kernel
theorem dX12_findBegun_117 : decode cX12_findBegun 117 = .ok (.iadd, 1) := by decide +kernel
theorem dX12_findBegun_118 : decode cX12_findBegun 118 = .ok (.istore 9, 2) := by decide +kernel
theorem dX12_findBegun_120 : decode cX12_findBegun 120 = .ok (.iload 9, 2) := by decide +kernel
theorem dX12_findBegun_122 : decode cX12_findBegun 122 = .ok (.aload_n 0, 1) := by decide +kernel
theorem dX12_findBegun_123 : decode cX12_findBegun 123 = .ok (.getfield 62, 3) := by decide +kernel
theorem dX12_findBegun_126 : decode cX12_findBegun 126 = .ok (.iload 5, 2) := by decide +kernel
theorem dX12_findBegun_128 : decode cX12_findBegun 128 = .ok (.iaload, 1) := by decide +kernel
theorem dX12_findBegun_129 : decode cX12_findBegun 129 = .ok (.if_icmp .ge 69, 3) := by decide +kernel
theorem dX12_findBegun_132 : decode cX12_findBegun 132 = .ok (.iload 8, 2) := by decide +kernel
theorem dX12_findBegun_134 : decode cX12_findBegun 134 = .ok (.ifCond .eq 64, 3) := by decide +kernel
theorem dX12_findBegun_137 : decode cX12_findBegun 137 = .ok (.iload 7, 2) := by decide +kernel
theorem dX12_findBegun_139 : decode cX12_findBegun 139 = .ok (.ifCond .ne 13, 3) := by decide +kernel
theorem dX12_findBegun_142 : decode cX12_findBegun 142 = .ok (.aload_n 0, 1) := by decide +kernel
theorem dX12_findBegun_143 : decode cX12_findBegun 143 = .ok (.getfield 158, 3) := by decide +kernel
theorem dX12_findBegun_146 : decode cX12_findBegun 146 = .ok (.iload 9, 2) := by decide +kernel
theorem dX12_findBegun_148 : decode cX12_findBegun 148 = .ok (.baload, 1) := by decide +kernel
theorem dX12_findBegun_149 : decode cX12_findBegun 149 = .ok (.ifCond .eq 7, 3) := by decide +kernel
theorem dX12_findBegun_152 : decode cX12_findBegun 152 = .ok (.iconst 1, 1) := by decide +kernel
theorem dX12_findBegun_153 : decode cX12_findBegun 153 = .ok (.goto 4, 3) := by decide +kernel
theorem dX12_findBegun_156 : decode cX12_findBegun 156 = .ok (.iconst 0, 1) := by decide +kernel
theorem dX12_findBegun_157 : decode cX12_findBegun 157 = .ok (.istore 7, 2) := by decide +kernel
theorem dX12_findBegun_159 : decode cX12_findBegun 159 = .ok (.iload 6, 2) := by decide +kernel
theorem dX12_findBegun_161 : decode cX12_findBegun 161 = .ok (.iconst 5, 1) := by decide +kernel
theorem dX12_findBegun_162 : decode cX12_findBegun 162 = .ok (.if_icmp .ne 15, 3) := by decide +kernel
theorem dX12_findBegun_165 : decode cX12_findBegun 165 = .ok (.aload_n 0, 1) := by decide +kernel
theorem dX12_findBegun_166 : decode cX12_findBegun 166 = .ok (.getfield 74, 3) := by decide +kernel
theorem dX12_findBegun_169 : decode cX12_findBegun 169 = .ok (.iload_n 3, 1) := by decide +kernel
theorem dX12_findBegun_170 : decode cX12_findBegun 170 = .ok (.iload 9, 2) := by decide +kernel
theorem dX12_findBegun_172 : decode cX12_findBegun 172 = .ok (.iadd, 1) := by decide +kernel
theorem dX12_findBegun_173 : decode cX12_findBegun 173 = .ok (.baload, 1) := by decide +kernel
theorem dX12_findBegun_174 : decode cX12_findBegun 174 = .ok (.ifCond .eq 7, 3) := by decide +kernel
theorem dX12_findBegun_177 : decode cX12_findBegun 177 = .ok (.iconst 1, 1) := by decide +kernel
theorem dX12_findBegun_178 : decode cX12_findBegun 178 = .ok (.goto 4, 3) := by decide +kernel
theorem dX12_findBegun_181 : decode cX12_findBegun 181 = .ok (.iconst 0, 1) := by decide +kernel
theorem dX12_findBegun_182 : decode cX12_findBegun 182 = .ok (.istore 8, 2) := by decide +kernel
theorem dX12_findBegun_184 : decode cX12_findBegun 184 = .ok (.aload_n 0, 1) := by decide +kernel
theorem dX12_findBegun_185 : decode cX12_findBegun 185 = .ok (.getfield 62, 3) := by decide +kernel
theorem dX12_findBegun_188 : decode cX12_findBegun 188 = .ok (.iload_n 3, 1) := by decide +kernel
theorem dX12_findBegun_189 : decode cX12_findBegun 189 = .ok (.iload 9, 2) := by decide +kernel
theorem dX12_findBegun_191 : decode cX12_findBegun 191 = .ok (.iadd, 1) := by decide +kernel
theorem dX12_findBegun_192 : decode cX12_findBegun 192 = .ok (.iaload, 1) := by decide +kernel
theorem dX12_findBegun_193 : decode cX12_findBegun 193 = .ok (.istore 9, 2) := by decide +kernel
theorem dX12_findBegun_195 : decode cX12_findBegun 195 = .ok (.goto (-75), 3) := by decide +kernel
theorem dX12_findBegun_198 : decode cX12_findBegun 198 = .ok (.aload_n 0, 1) := by decide +kernel
theorem dX12_findBegun_199 : decode cX12_findBegun 199 = .ok (.getfield 158, 3) := by decide +kernel
theorem dX12_findBegun_202 : decode cX12_findBegun 202 = .ok (.iload 4, 2) := by decide +kernel
theorem dX12_findBegun_204 : decode cX12_findBegun 204 = .ok (.iload 7, 2) := by decide +kernel
theorem dX12_findBegun_206 : decode cX12_findBegun 206 = .ok (.bastore, 1) := by decide +kernel
theorem dX12_findBegun_207 : decode cX12_findBegun 207 = .ok (.iinc 4 (-1), 3) := by decide +kernel
theorem dX12_findBegun_210 : decode cX12_findBegun 210 = .ok (.goto (-194), 3) := by decide +kernel
theorem dX12_findBegun_213 : decode cX12_findBegun 213 = .ok (.return_, 1) := by decide +kernel
theorem dX12_findBounds_0 : decode cX12_findBounds 0 = .ok (.aload_n 0, 1) := by decide +kernel
theorem dX12_findBounds_1 : decode cX12_findBounds 1 = .ok (.iconst 0, 1) := by decide +kernel
theorem dX12_findBounds_2 : decode cX12_findBounds 2 = .ok (.putfield 524, 3) := by decide +kernel
theorem dX12_findBounds_5 : decode cX12_findBounds 5 = .ok (.aload_n 0, 1) := by decide +kernel
theorem dX12_findBounds_6 : decode cX12_findBounds 6 = .ok (.getfield 162, 3) := by decide +kernel
theorem dX12_findBounds_9 : decode cX12_findBounds 9 = .ok (.iconst 0, 1) := by decide +kernel
theorem dX12_findBounds_10 : decode cX12_findBounds 10 = .ok (.iconst 1, 1) := by decide +kernel
theorem dX12_findBounds_11 : decode cX12_findBounds 11 = .ok (.bastore, 1) := by decide +kernel
theorem dX12_findBounds_12 : decode cX12_findBounds 12 = .ok (.iconst 0, 1) := by decide +kernel
theorem dX12_findBounds_13 : decode cX12_findBounds 13 = .ok (.istore_n 1, 1) := by decide +kernel
theorem dX12_findBounds_14 : decode cX12_findBounds 14 = .ok (.iload_n 1, 1) := by decide +kernel
theorem dX12_findBounds_15 : decode cX12_findBounds 15 = .ok (.ldc_w 527, 3) := by decide +kernel
theorem dX12_findBounds_18 : decode cX12_findBounds 18 = .ok (.if_icmp .ge 45, 3) := by decide +kernel
theorem dX12_findBounds_21 : decode cX12_findBounds 21 = .ok (.aload_n 0, 1) := by decide +kernel
theorem dX12_findBounds_22 : decode cX12_findBounds 22 = .ok (.getfield 162, 3) := by decide +kernel
theorem dX12_findBounds_25 : decode cX12_findBounds 25 = .ok (.iload_n 1, 1) := by decide +kernel
theorem dX12_findBounds_26 : decode cX12_findBounds 26 = .ok (.baload, 1) := by decide +kernel
theorem dX12_findBounds_27 : decode cX12_findBounds 27 = .ok (.ifCond .eq 23, 3) := by decide +kernel
theorem dX12_findBounds_30 : decode cX12_findBounds 30 = .ok (.aload_n 0, 1) := by decide +kernel
theorem dX12_findBounds_31 : decode cX12_findBounds 31 = .ok (.getfield 165, 3) := by decide +kernel
theorem dX12_findBounds_34 : decode cX12_findBounds 34 = .ok (.aload_n 0, 1) := by decide +kernel
theorem dX12_findBounds_35 : decode cX12_findBounds 35 = .ok (.getfield 524, 3) := by decide +kernel
theorem dX12_findBounds_38 : decode cX12_findBounds 38 = .ok (.iload_n 1, 1) := by decide +kernel
theorem dX12_findBounds_39 : decode cX12_findBounds 39 = .ok (.iastore, 1) := by decide +kernel
theorem dX12_findBounds_40 : decode cX12_findBounds 40 = .ok (.aload_n 0, 1) := by decide +kernel
theorem dX12_findBounds_41 : decode cX12_findBounds 41 = .ok (.dup, 1) := by decide +kernel
theorem dX12_findBounds_42 : decode cX12_findBounds 42 = .ok (.getfield 524, 3) := by decide +kernel
theorem dX12_findBounds_45 : decode cX12_findBounds 45 = .ok (.iconst 1, 1) := by decide +kernel
theorem dX12_findBounds_46 : decode cX12_findBounds 46 = .ok (.iadd, 1) := by decide +kernel
theorem dX12_findBounds_47 : decode cX12_findBounds 47 = .ok (.putfield 524, 3) := by decide +kernel
theorem dX12_findBounds_50 : decode cX12_findBounds 50 = .ok (.aload_n 0, 1) := by decide +kernel
theorem dX12_findBounds_51 : decode cX12_findBounds 51 = .ok (.getfield 162, 3) := by decide +kernel
theorem dX12_findBounds_54 : decode cX12_findBounds 54 = .ok (.iload_n 1, 1) := by decide +kernel
theorem dX12_findBounds_55 : decode cX12_findBounds 55 = .ok (.iconst 0, 1) := by decide +kernel
theorem dX12_findBounds_56 : decode cX12_findBounds 56 = .ok (.bastore, 1) := by decide +kernel
theorem dX12_findBounds_57 : decode cX12_findBounds 57 = .ok (.iinc 1 1, 3) := by decide +kernel
theorem dX12_findBounds_60 : decode cX12_findBounds 60 = .ok (.goto (-46), 3) := by decide +kernel
theorem dX12_findBounds_63 : decode cX12_findBounds 63 = .ok (.aload_n 0, 1) := by decide +kernel
theorem dX12_findBounds_64 : decode cX12_findBounds 64 = .ok (.getfield 162, 3) := by decide +kernel
theorem dX12_findBounds_67 : decode cX12_findBounds 67 = .ok (.ldc_w 527, 3) := by decide +kernel
theorem dX12_findBounds_70 : decode cX12_findBounds 70 = .ok (.iconst 0, 1) := by decide +kernel
theorem dX12_findBounds_71 : decode cX12_findBounds 71 = .ok (.bastore, 1) := by decide +kernel
theorem dX12_findBounds_72 : decode cX12_findBounds 72 = .ok (.return_, 1) := by decide +kernel
theorem dX12_findLive_0 : decode cX12_findLive 0 = .ok (.iconst 1, 1) := by decide +kernel
theorem dX12_findLive_1 : decode cX12_findLive 1 = .ok (.istore_n 1, 1) := by decide +kernel
theorem dX12_findLive_2 : decode cX12_findLive 2 = .ok (.iconst 0, 1) := by decide +kernel
theorem dX12_findLive_3 : decode cX12_findLive 3 = .ok (.istore_n 2, 1) := by decide +kernel
theorem dX12_findLive_4 : decode cX12_findLive 4 = .ok (.iload_n 2, 1) := by decide +kernel
theorem dX12_findLive_5 : decode cX12_findLive 5 = .ok (.aload_n 0, 1) := by decide +kernel
theorem dX12_findLive_6 : decode cX12_findLive 6 = .ok (.getfield 262, 3) := by decide +kernel
theorem dX12_findLive_9 : decode cX12_findLive 9 = .ok (.iconst 0, 1) := by decide +kernel
theorem dX12_findLive_10 : decode cX12_findLive 10 = .ok (.iaload, 1) := by decide +kernel
theorem dX12_findLive_11 : decode cX12_findLive 11 = .ok (.if_icmp .ge 21, 3) := by decide +kernel
theorem dX12_findLive_14 : decode cX12_findLive 14 = .ok (.aload_n 0, 1) := by decide +kernel
theorem dX12_findLive_15 : decode cX12_findLive 15 = .ok (.getfield 271, 3) := by decide +kernel
theorem dX12_findLive_18 : decode cX12_findLive 18 = .ok (.iload_n 2, 1) := by decide +kernel
theorem dX12_findLive_19 : decode cX12_findLive 19 = .ok (.aload_n 0, 1) := by decide +kernel
theorem dX12_findLive_20 : decode cX12_findLive 20 = .ok (.getfield 268, 3) := by decide +kernel
theorem dX12_findLive_23 : decode cX12_findLive 23 = .ok (.iload_n 2, 1) := by decide +kernel
theorem dX12_findLive_24 : decode cX12_findLive 24 = .ok (.baload, 1) := by decide +kernel
theorem dX12_findLive_25 : decode cX12_findLive 25 = .ok (.bastore, 1) := by decide +kernel
theorem dX12_findLive_26 : decode cX12_findLive 26 = .ok (.iinc 2 1, 3) := by decide +kernel
theorem dX12_findLive_29 : decode cX12_findLive 29 = .ok (.goto (-25), 3) := by decide +kernel
theorem dX12_findLive_32 : decode cX12_findLive 32 = .ok (.iload_n 1, 1) := by decide +kernel
theorem dX12_findLive_33 : decode cX12_findLive 33 = .ok (.ifCond .eq 95, 3) := by decide +kernel
theorem dX12_findLive_36 : decode cX12_findLive 36 = .ok (.iconst 0, 1) := by decide +kernel
theorem dX12_findLive_37 : decode cX12_findLive 37 = .ok (.istore_n 1, 1) := by decide +kernel
theorem dX12_findLive_38 : decode cX12_findLive 38 = .ok (.iconst 0, 1) := by decide +kernel
theorem dX12_findLive_39 : decode cX12_findLive 39 = .ok (.istore_n 2, 1) := by decide +kernel
theorem dX12_findLive_40 : decode cX12_findLive 40 = .ok (.iload_n 2, 1) := by decide +kernel
theorem dX12_findLive_41 : decode cX12_findLive 41 = .ok (.aload_n 0, 1) := by decide +kernel
theorem dX12_findLive_42 : decode cX12_findLive 42 = .ok (.getfield 262, 3) := by decide +kernel
theorem dX12_findLive_45 : decode cX12_findLive 45 = .ok (.iconst 0, 1) := by decide +kernel
theorem dX12_findLive_46 : decode cX12_findLive 46 = .ok (.iaload, 1) := by decide +kernel
theorem dX12_findLive_47 : decode cX12_findLive 47 = .ok (.if_icmp .ge 78, 3) := by decide +kernel
theorem dX12_findLive_50 : decode cX12_findLive 50 = .ok (.iconst 0, 1) := by decide +kernel
theorem dX12_findLive_51 : decode cX12_findLive 51 = .ok (.istore_n 3, 1) := by decide +kernel
theorem dX12_findLive_52 : decode cX12_findLive 52 = .ok (.iload_n 3, 1) := by decide +kernel
theorem dX12_findLive_53 : decode cX12_findLive 53 = .ok (.aload_n 0, 1) := by decide +kernel
theorem dX12_findLive_54 : decode cX12_findLive 54 = .ok (.getfield 274, 3) := by decide +kernel
theorem dX12_findLive_57 : decode cX12_findLive 57 = .ok (.iconst 0, 1) := by decide +kernel
theorem dX12_findLive_58 : decode cX12_findLive 58 = .ok (.iaload, 1) := by decide +kernel
theorem dX12_findLive_59 : decode cX12_findLive 59 = .ok (.if_icmp .ge 60, 3) := by decide +kernel
theorem dX12_findLive_62 : decode cX12_findLive 62 = .ok (.aload_n 0, 1) := by decide +kernel
theorem dX12_findLive_63 : decode cX12_findLive 63 = .ok (.getfield 271, 3) := by decide +kernel
theorem dX12_findLive_66 : decode cX12_findLive 66 = .ok (.iload_n 2, 1) := by decide +kernel
theorem dX12_findLive_67 : decode cX12_findLive 67 = .ok (.baload, 1) := by decide +kernel
theorem dX12_findLive_68 : decode cX12_findLive 68 = .ok (.ifCond .ne 51, 3) := by decide +kernel
theorem dX12_findLive_71 : decode cX12_findLive 71 = .ok (.aload_n 0, 1) := by decide +kernel
theorem dX12_findLive_72 : decode cX12_findLive 72 = .ok (.getfield 271, 3) := by decide +kernel
theorem dX12_findLive_75 : decode cX12_findLive 75 = .ok (.iload_n 2, 1) := by decide +kernel
theorem dX12_findLive_76 : decode cX12_findLive 76 = .ok (.aload_n 0, 1) := by decide +kernel
theorem dX12_findLive_77 : decode cX12_findLive 77 = .ok (.getfield 271, 3) := by decide +kernel
theorem dX12_findLive_80 : decode cX12_findLive 80 = .ok (.aload_n 0, 1) := by decide +kernel
theorem dX12_findLive_81 : decode cX12_findLive 81 = .ok (.getfield 284, 3) := by decide +kernel
theorem dX12_findLive_84 : decode cX12_findLive 84 = .ok (.sipush 500, 3) := by decide +kernel
theorem dX12_findLive_87 : decode cX12_findLive 87 = .ok (.iload_n 2, 1) := by decide +kernel
theorem dX12_findLive_88 : decode cX12_findLive 88 = .ok (.imul, 1) := by decide +kernel
theorem dX12_findLive_89 : decode cX12_findLive 89 = .ok (.iload_n 3, 1) := by decide +kernel
theorem dX12_findLive_90 : decode cX12_findLive 90 = .ok (.iadd, 1) := by decide +kernel
theorem dX12_findLive_91 : decode cX12_findLive 91 = .ok (.iaload, 1) := by decide +kernel
theorem dX12_findLive_92 : decode cX12_findLive 92 = .ok (.baload, 1) := by decide +kernel
theorem dX12_findLive_93 : decode cX12_findLive 93 = .ok (.bastore, 1) := by decide +kernel
theorem dX12_findLive_94 : decode cX12_findLive 94 = .ok (.iload_n 1, 1) := by decide +kernel
theorem dX12_findLive_95 : decode cX12_findLive 95 = .ok (.ifCond .ne 12, 3) := by decide +kernel
theorem dX12_findLive_98 : decode cX12_findLive 98 = .ok (.aload_n 0, 1) := by decide +kernel
theorem dX12_findLive_99 : decode cX12_findLive 99 = .ok (.getfield 271, 3) := by decide +kernel
theorem dX12_findLive_102 : decode cX12_findLive 102 = .ok (.iload_n 2, 1) := by decide +kernel
theorem dX12_findLive_103 : decode cX12_findLive 103 = .ok (.baload, 1) := by decide +kernel
theorem dX12_findLive_104 : decode cX12_findLive 104 = .ok (.ifCond .eq 7, 3) := by decide +kernel
theorem dX12_findLive_107 : decode cX12_findLive 107 = .ok (.iconst 1, 1) := by decide +kernel
theorem dX12_findLive_108 : decode cX12_findLive 108 = .ok (.goto 4, 3) := by decide +kernel
theorem dX12_findLive_111 : decode cX12_findLive 111 = .ok (.iconst 0, 1) := by decide +kernel
theorem dX12_findLive_112 : decode cX12_findLive 112 = .ok (.istore_n 1, 1) := by decide +kernel
theorem dX12_findLive_113 : decode cX12_findLive 113 = .ok (.iinc 3 1, 3) := by decide +kernel
theorem dX12_findLive_116 : decode cX12_findLive 116 = .ok (.goto (-64), 3) := by decide +kernel
theorem dX12_findLive_119 : decode cX12_findLive 119 = .ok (.iinc 2 1, 3) := by decide +kernel
theorem dX12_findLive_122 : decode cX12_findLive 122 = .ok (.goto (-82), 3) := by decide +kernel
theorem dX12_findLive_125 : decode cX12_findLive 125 = .ok (.goto (-93), 3) := by decide +kernel
theorem dX12_findLive_128 : decode cX12_findLive 128 = .ok (.return_, 1) := by decide +kernel
theorem dX12_findPairs_0 : decode cX12_findPairs 0 = .ok (.iconst 0, 1) := by decide +kernel
theorem dX12_findPairs_1 : decode cX12_findPairs 1 = .ok (.istore_n 1, 1) := by decide +kernel
theorem dX12_findPairs_2 : decode cX12_findPairs 2 = .ok (.iload_n 1, 1) := by decide +kernel
theorem dX12_findPairs_3 : decode cX12_findPairs 3 = .ok (.sipush 3800, 3) := by decide +kernel
theorem dX12_findPairs_6 : decode cX12_findPairs 6 = .ok (.if_icmp .ge 16, 3) := by decide +kernel
theorem dX12_findPairs_9 : decode cX12_findPairs 9 = .ok (.aload_n 0, 1) := by decide +kernel
theorem dX12_findPairs_10 : decode cX12_findPairs 10 = .ok (.getfield 305, 3) := by decide +kernel
theorem dX12_findPairs_13 : decode cX12_findPairs 13 = .ok (.iload_n 1, 1) := by decide +kernel
theorem dX12_findPairs_14 : decode cX12_findPairs 14 = .ok (.iconst 0, 1) := by decide +kernel
theorem dX12_findPairs_15 : decode cX12_findPairs 15 = .ok (.bastore, 1) := by decide +kernel
theorem dX12_findPairs_16 : decode cX12_findPairs 16 = .ok (.iinc 1 1, 3) := by decide +kernel
theorem dX12_findPairs_19 : decode cX12_findPairs 19 = .ok (.goto (-17), 3) := by decide +kernel
theorem dX12_findPairs_22 : decode cX12_findPairs 22 = .ok (.aload_n 0, 1) := by decide +kernel
theorem dX12_findPairs_23 : decode cX12_findPairs 23 = .ok (.iconst 0, 1) := by decide +kernel
theorem dX12_findPairs_24 : decode cX12_findPairs 24 = .ok (.putfield 745, 3) := by decide +kernel
theorem dX12_findPairs_27 : decode cX12_findPairs 27 = .ok (.aload_n 0, 1) := by decide +kernel
theorem dX12_findPairs_28 : decode cX12_findPairs 28 = .ok (.iconst 0, 1) := by decide +kernel
theorem dX12_findPairs_29 : decode cX12_findPairs 29 = .ok (.iconst 0, 1) := by decide +kernel
theorem dX12_findPairs_30 : decode cX12_findPairs 30 = .ok (.iconst (-1), 1) := by decide +kernel
theorem dX12_findPairs_31 : decode cX12_findPairs 31 = .ok (.iconst 0, 1) := by decide +kernel
theorem dX12_findPairs_32 : decode cX12_findPairs 32 = .ok (.invokevirtual 748, 3) := by decide +kernel
theorem dX12_findPairs_35 : decode cX12_findPairs 35 = .ok (.iconst 0, 1) := by decide +kernel
theorem dX12_findPairs_36 : decode cX12_findPairs 36 = .ok (.istore_n 1, 1) := by decide +kernel
theorem dX12_findPairs_37 : decode cX12_findPairs 37 = .ok (.iload_n 1, 1) := by decide +kernel
theorem dX12_findPairs_38 : decode cX12_findPairs 38 = .ok (.aload_n 0, 1) := by decide +kernel
theorem dX12_findPairs_39 : decode cX12_findPairs 39 = .ok (.getfield 745, 3) := by decide +kernel
theorem dX12_findPairs_42 : decode cX12_findPairs 42 = .ok (.if_icmp .ge 84, 3) := by decide +kernel
theorem dX12_findPairs_45 : decode cX12_findPairs 45 = .ok (.iconst 0, 1) := by decide +kernel
theorem dX12_findPairs_46 : decode cX12_findPairs 46 = .ok (.istore_n 2, 1) := by decide +kernel
theorem dX12_findPairs_47 : decode cX12_findPairs 47 = .ok (.iload_n 2, 1) := by decide +kernel
theorem dX12_findPairs_48 : decode cX12_findPairs 48 = .ok (.aload_n 0, 1) := by decide +kernel
theorem dX12_findPairs_49 : decode cX12_findPairs 49 = .ok (.getfield 742, 3) := by decide +kernel
theorem dX12_findPairs_52 : decode cX12_findPairs 52 = .ok (.if_icmp .ge 68, 3) := by decide +kernel
theorem dX12_findPairs_55 : decode cX12_findPairs 55 = .ok (.aload_n 0, 1) := by decide +kernel
theorem dX12_findPairs_56 : decode cX12_findPairs 56 = .ok (.aload_n 0, 1) := by decide +kernel
theorem dX12_findPairs_57 : decode cX12_findPairs 57 = .ok (.getfield 284, 3) := by decide +kernel
theorem dX12_findPairs_60 : decode cX12_findPairs 60 = .ok (.sipush 500, 3) := by decide +kernel
theorem dX12_findPairs_63 : decode cX12_findPairs 63 = .ok (.aload_n 0, 1) := by decide +kernel
theorem dX12_findPairs_64 : decode cX12_findPairs 64 = .ok (.getfield 293, 3) := by decide +kernel
theorem dX12_findPairs_67 : decode cX12_findPairs 67 = .ok (.iload_n 1, 1) := by decide +kernel
theorem dX12_findPairs_68 : decode cX12_findPairs 68 = .ok (.iaload, 1) := by decide +kernel
theorem dX12_findPairs_69 : decode cX12_findPairs 69 = .ok (.imul, 1) := by decide +kernel
theorem dX12_findPairs_70 : decode cX12_findPairs 70 = .ok (.aload_n 0, 1) := by decide +kernel
theorem dX12_findPairs_71 : decode cX12_findPairs 71 = .ok (.getfield 308, 3) := by decide +kernel
theorem dX12_findPairs_74 : decode cX12_findPairs 74 = .ok (.iload_n 2, 1) := by decide +kernel
theorem dX12_findPairs_75 : decode cX12_findPairs 75 = .ok (.iaload, 1) := by decide +kernel
theorem dX12_findPairs_76 : decode cX12_findPairs 76 = .ok (.iadd, 1) := by decide +kernel
theorem dX12_findPairs_77 : decode cX12_findPairs 77 = .ok (.iaload, 1) := by decide +kernel
theorem dX12_findPairs_78 : decode cX12_findPairs 78 = .ok (.aload_n 0, 1) := by decide +kernel
theorem dX12_findPairs_79 : decode cX12_findPairs 79 = .ok (.getfield 284, 3) := by decide +kernel
theorem dX12_findPairs_82 : decode cX12_findPairs 82 = .ok (.sipush 30500, 3) := by decide +kernel
theorem dX12_findPairs_85 : decode cX12_findPairs 85 = .ok (.sipush 500, 3) := by decide +kernel
theorem dX12_findPairs_88 : decode cX12_findPairs 88 = .ok (.aload_n 0, 1) := by decide +kernel
theorem dX12_findPairs_89 : decode cX12_findPairs 89 = .ok (.getfield 296, 3) := by decide +kernel
theorem dX12_findPairs_92 : decode cX12_findPairs 92 = .ok (.iload_n 1, 1) := by decide +kernel
theorem dX12_findPairs_93 : decode cX12_findPairs 93 = .ok (.iaload, 1) := by decide +kernel
theorem dX12_findPairs_94 : decode cX12_findPairs 94 = .ok (.imul, 1) := by decide +kernel
theorem dX12_findPairs_95 : decode cX12_findPairs 95 = .ok (.iadd, 1) := by decide +kernel
theorem dX12_findPairs_96 : decode cX12_findPairs 96 = .ok (.aload_n 0, 1) := by decide +kernel
theorem dX12_findPairs_97 : decode cX12_findPairs 97 = .ok (.getfield 311, 3) := by decide +kernel
theorem dX12_findPairs_100 : decode cX12_findPairs 100 = .ok (.iload_n 2, 1) := by decide +kernel
theorem dX12_findPairs_101 : decode cX12_findPairs 101 = .ok (.iaload, 1) := by decide +kernel
theorem dX12_findPairs_102 : decode cX12_findPairs 102 = .ok (.iadd, 1) := by decide +kernel
theorem dX12_findPairs_103 : decode cX12_findPairs 103 = .ok (.iaload, 1) := by decide +kernel
theorem dX12_findPairs_104 : decode cX12_findPairs 104 = .ok (.iload_n 1, 1) := by decide +kernel
theorem dX12_findPairs_105 : decode cX12_findPairs 105 = .ok (.aload_n 0, 1) := by decide +kernel
theorem dX12_findPairs_106 : decode cX12_findPairs 106 = .ok (.getfield 314, 3) := by decide +kernel
theorem dX12_findPairs_109 : decode cX12_findPairs 109 = .ok (.iload_n 2, 1) := by decide +kernel
theorem dX12_findPairs_110 : decode cX12_findPairs 110 = .ok (.iaload, 1) := by decide +kernel
theorem dX12_findPairs_111 : decode cX12_findPairs 111 = .ok (.invokevirtual 748, 3) := by decide +kernel
theorem dX12_findPairs_114 : decode cX12_findPairs 114 = .ok (.iinc 2 1, 3) := by decide +kernel
theorem dX12_findPairs_117 : decode cX12_findPairs 117 = .ok (.goto (-70), 3) := by decide +kernel
theorem dX12_findPairs_120 : decode cX12_findPairs 120 = .ok (.iinc 1 1, 3) := by decide +kernel
theorem dX12_findPairs_123 : decode cX12_findPairs 123 = .ok (.goto (-86), 3) := by decide +kernel
theorem dX12_findPairs_126 : decode cX12_findPairs 126 = .ok (.return_, 1) := by decide +kernel
theorem dX12_findSorts_0 : decode cX12_findSorts 0 = .ok (.aload_n 0, 1) := by decide +kernel
theorem dX12_findSorts_1 : decode cX12_findSorts 1 = .ok (.iconst 0, 1) := by decide +kernel
theorem dX12_findSorts_2 : decode cX12_findSorts 2 = .ok (.putfield 742, 3) := by decide +kernel
theorem dX12_findSorts_5 : decode cX12_findSorts 5 = .ok (.iconst 0, 1) := by decide +kernel
theorem dX12_findSorts_6 : decode cX12_findSorts 6 = .ok (.istore_n 1, 1) := by decide +kernel
theorem dX12_findSorts_7 : decode cX12_findSorts 7 = .ok (.iload_n 1, 1) := by decide +kernel
theorem dX12_findSorts_8 : decode cX12_findSorts 8 = .ok (.aload_n 0, 1) := by decide +kernel
theorem dX12_findSorts_9 : decode cX12_findSorts 9 = .ok (.getfield 524, 3) := by decide +kernel
theorem dX12_findSorts_12 : decode cX12_findSorts 12 = .ok (.if_icmp .ge 115, 3) := by decide +kernel
theorem dX12_findSorts_15 : decode cX12_findSorts 15 = .ok (.aload_n 0, 1) := by decide +kernel
theorem dX12_findSorts_16 : decode cX12_findSorts 16 = .ok (.getfield 280, 3) := by decide +kernel
theorem dX12_findSorts_19 : decode cX12_findSorts 19 = .ok (.iload_n 1, 1) := by decide +kernel
theorem dX12_findSorts_20 : decode cX12_findSorts 20 = .ok (.iaload, 1) := by decide +kernel
theorem dX12_findSorts_21 : decode cX12_findSorts 21 = .ok (.istore_n 2, 1) := by decide +kernel
theorem dX12_findSorts_22 : decode cX12_findSorts 22 = .ok (.aload_n 0, 1) := by decide +kernel
theorem dX12_findSorts_23 : decode cX12_findSorts 23 = .ok (.getfield 280, 3) := by decide +kernel
theorem dX12_findSorts_26 : decode cX12_findSorts 26 = .ok (.sipush 3000, 3) := by decide +kernel
theorem dX12_findSorts_29 : decode cX12_findSorts 29 = .ok (.iload_n 1, 1) := by decide +kernel
theorem dX12_findSorts_30 : decode cX12_findSorts 30 = .ok (.iadd, 1) := by decide +kernel
theorem dX12_findSorts_31 : decode cX12_findSorts 31 = .ok (.iaload, 1) := by decide +kernel
theorem dX12_findSorts_32 : decode cX12_findSorts 32 = .ok (.istore_n 3, 1) := by decide +kernel
theorem dX12_findSorts_33 : decode cX12_findSorts 33 = .ok (.iconst 0, 1) := by decide +kernel
theorem dX12_findSorts_34 : decode cX12_findSorts 34 = .ok (.istore 4, 2) := by decide +kernel
theorem dX12_findSorts_36 : decode cX12_findSorts 36 = .ok (.iload 4, 2) := by decide +kernel
theorem dX12_findSorts_38 : decode cX12_findSorts 38 = .ok (.aload_n 0, 1) := by decide +kernel
theorem dX12_findSorts_39 : decode cX12_findSorts 39 = .ok (.getfield 742, 3) := by decide +kernel
theorem dX12_findSorts_42 : decode cX12_findSorts 42 = .ok (.if_icmp .ge 31, 3) := by decide +kernel
theorem dX12_findSorts_45 : decode cX12_findSorts 45 = .ok (.aload_n 0, 1) := by decide +kernel
theorem dX12_findSorts_46 : decode cX12_findSorts 46 = .ok (.getfield 308, 3) := by decide +kernel
theorem dX12_findSorts_49 : decode cX12_findSorts 49 = .ok (.iload 4, 2) := by decide +kernel
theorem dX12_findSorts_51 : decode cX12_findSorts 51 = .ok (.iaload, 1) := by decide +kernel
theorem dX12_findSorts_52 : decode cX12_findSorts 52 = .ok (.iload_n 2, 1) := by decide +kernel
theorem dX12_findSorts_53 : decode cX12_findSorts 53 = .ok (.if_icmp .ne 14, 3) := by decide +kernel
theorem dX12_findSorts_56 : decode cX12_findSorts 56 = .ok (.aload_n 0, 1) := by decide +kernel
theorem dX12_findSorts_57 : decode cX12_findSorts 57 = .ok (.getfield 311, 3) := by decide +kernel
theorem dX12_findSorts_60 : decode cX12_findSorts 60 = .ok (.iload 4, 2) := by decide +kernel
theorem dX12_findSorts_62 : decode cX12_findSorts 62 = .ok (.iaload, 1) := by decide +kernel
theorem dX12_findSorts_63 : decode cX12_findSorts 63 = .ok (.iload_n 3, 1) := by decide +kernel
theorem dX12_findSorts_64 : decode cX12_findSorts 64 = .ok (.if_icmp .eq 9, 3) := by decide +kernel
theorem dX12_findSorts_67 : decode cX12_findSorts 67 = .ok (.iinc 4 1, 3) := by decide +kernel
theorem dX12_findSorts_70 : decode cX12_findSorts 70 = .ok (.goto (-34), 3) := by decide +kernel
theorem dX12_findSorts_73 : decode cX12_findSorts 73 = .ok (.iload 4, 2) := by decide +kernel
theorem dX12_findSorts_75 : decode cX12_findSorts 75 = .ok (.aload_n 0, 1) := by decide +kernel
theorem dX12_findSorts_76 : decode cX12_findSorts 76 = .ok (.getfield 742, 3) := by decide +kernel
theorem dX12_findSorts_79 : decode cX12_findSorts 79 = .ok (.if_icmp .ne 42, 3) := by decide +kernel
theorem dX12_findSorts_82 : decode cX12_findSorts 82 = .ok (.aload_n 0, 1) := by decide +kernel
theorem dX12_findSorts_83 : decode cX12_findSorts 83 = .ok (.getfield 308, 3) := by decide +kernel
theorem dX12_findSorts_86 : decode cX12_findSorts 86 = .ok (.iload 4, 2) := by decide +kernel
theorem dX12_findSorts_88 : decode cX12_findSorts 88 = .ok (.iload_n 2, 1) := by decide +kernel
theorem dX12_findSorts_89 : decode cX12_findSorts 89 = .ok (.iastore, 1) := by decide +kernel
theorem dX12_findSorts_90 : decode cX12_findSorts 90 = .ok (.aload_n 0, 1) := by decide +kernel
theorem dX12_findSorts_91 : decode cX12_findSorts 91 = .ok (.getfield 311, 3) := by decide +kernel
theorem dX12_findSorts_94 : decode cX12_findSorts 94 = .ok (.iload 4, 2) := by decide +kernel
theorem dX12_findSorts_96 : decode cX12_findSorts 96 = .ok (.iload_n 3, 1) := by decide +kernel
theorem dX12_findSorts_97 : decode cX12_findSorts 97 = .ok (.iastore, 1) := by decide +kernel
theorem dX12_findSorts_98 : decode cX12_findSorts 98 = .ok (.aload_n 0, 1) := by decide +kernel
theorem dX12_findSorts_99 : decode cX12_findSorts 99 = .ok (.getfield 314, 3) := by decide +kernel
theorem dX12_findSorts_102 : decode cX12_findSorts 102 = .ok (.iload 4, 2) := by decide +kernel
theorem dX12_findSorts_104 : decode cX12_findSorts 104 = .ok (.aload_n 0, 1) := by decide +kernel
theorem dX12_findSorts_105 : decode cX12_findSorts 105 = .ok (.getfield 165, 3) := by decide +kernel
theorem dX12_findSorts_108 : decode cX12_findSorts 108 = .ok (.iload_n 1, 1) := by decide +kernel
theorem dX12_findSorts_109 : decode cX12_findSorts 109 = .ok (.iaload, 1) := by decide +kernel
theorem dX12_findSorts_110 : decode cX12_findSorts 110 = .ok (.iastore, 1) := by decide +kernel
theorem dX12_findSorts_111 : decode cX12_findSorts 111 = .ok (.aload_n 0, 1) := by decide +kernel
theorem dX12_findSorts_112 : decode cX12_findSorts 112 = .ok (.dup, 1) := by decide +kernel
theorem dX12_findSorts_113 : decode cX12_findSorts 113 = .ok (.getfield 742, 3) := by decide +kernel
theorem dX12_findSorts_116 : decode cX12_findSorts 116 = .ok (.iconst 1, 1) := by decide +kernel
theorem dX12_findSorts_117 : decode cX12_findSorts 117 = .ok (.iadd, 1) := by decide +kernel
theorem dX12_findSorts_118 : decode cX12_findSorts 118 = .ok (.putfield 742, 3) := by decide +kernel
theorem dX12_findSorts_121 : decode cX12_findSorts 121 = .ok (.iinc 1 1, 3) := by decide +kernel
theorem dX12_findSorts_124 : decode cX12_findSorts 124 = .ok (.goto (-117), 3) := by decide +kernel
theorem dX12_findSorts_127 : decode cX12_findSorts 127 = .ok (.return_, 1) := by decide +kernel
theorem dX12_finding_0 : decode cX12_finding 0 = .ok (.aload_n 0, 1) := by decide +kernel
theorem dX12_finding_1 : decode cX12_finding 1 = .ok (.iconst 0, 1) := by decide +kernel
theorem dX12_finding_2 : decode cX12_finding 2 = .ok (.putfield 1, 3) := by decide +kernel
theorem dX12_finding_5 : decode cX12_finding 5 = .ok (.aload_n 0, 1) := by decide +kernel
theorem dX12_finding_6 : decode cX12_finding 6 = .ok (.getfield 456, 3) := by decide +kernel
theorem dX12_finding_9 : decode cX12_finding 9 = .ok (.ireturn, 1) := by decide +kernel
theorem dX12_first_0 : decode cX12_first 0 = .ok (.aload_n 0, 1) := by decide +kernel
theorem dX12_first_1 : decode cX12_first 1 = .ok (.iconst 0, 1) := by decide +kernel
theorem dX12_first_2 : decode cX12_first 2 = .ok (.putfield 1, 3) := by decide +kernel
theorem dX12_first_5 : decode cX12_first 5 = .ok (.iload_n 1, 1) := by decide +kernel
theorem dX12_first_6 : decode cX12_first 6 = .ok (.iconst 1, 1) := by decide +kernel
theorem dX12_first_7 : decode cX12_first 7 = .ok (.bipush 63, 2) := by decide +kernel
theorem dX12_first_9 : decode cX12_first 9 = .ok (.invokestatic 7, 3) := by decide +kernel
theorem dX12_first_12 : decode cX12_first 12 = .ok (.ifCond .ne 6, 3) := by decide +kernel
theorem dX12_first_15 : decode cX12_first 15 = .ok (.bipush (-2), 2) := by decide +kernel
theorem dX12_first_17 : decode cX12_first 17 = .ok (.ireturn, 1) := by decide +kernel
theorem dX12_first_18 : decode cX12_first 18 = .ok (.iconst 0, 1) := by decide +kernel
theorem dX12_first_19 : decode cX12_first 19 = .ok (.istore 5, 2) := by decide +kernel
theorem dX12_first_21 : decode cX12_first 21 = .ok (.iconst 0, 1) := by decide +kernel
theorem dX12_first_22 : decode cX12_first 22 = .ok (.istore 6, 2) := by decide +kernel
theorem dX12_first_24 : decode cX12_first 24 = .ok (.iconst 0, 1) := by decide +kernel
theorem dX12_first_25 : decode cX12_first 25 = .ok (.istore 7, 2) := by decide +kernel
theorem dX12_first_27 : decode cX12_first 27 = .ok (.iload 7, 2) := by decide +kernel
theorem dX12_first_29 : decode cX12_first 29 = .ok (.bipush 6, 2) := by decide +kernel
theorem dX12_first_31 : decode cX12_first 31 = .ok (.if_icmp .ge 31, 3) := by decide +kernel
theorem dX12_first_34 : decode cX12_first 34 = .ok (.iload_n 1, 1) := by decide +kernel
theorem dX12_first_35 : decode cX12_first 35 = .ok (.iload 7, 2) := by decide +kernel
theorem dX12_first_37 : decode cX12_first 37 = .ok (.ishr, 1) := by decide +kernel
theorem dX12_first_38 : decode cX12_first 38 = .ok (.iconst 1, 1) := by decide +kernel
theorem dX12_first_39 : decode cX12_first 39 = .ok (.iand, 1) := by decide +kernel
theorem dX12_first_40 : decode cX12_first 40 = .ok (.iconst 1, 1) := by decide +kernel
theorem dX12_first_41 : decode cX12_first 41 = .ok (.if_icmp .ne 15, 3) := by decide +kernel
theorem dX12_first_44 : decode cX12_first 44 = .ok (.aload_n 0, 1) := by decide +kernel
theorem dX12_first_45 : decode cX12_first 45 = .ok (.iload 7, 2) := by decide +kernel
theorem dX12_first_47 : decode cX12_first 47 = .ok (.invokevirtual 459, 3) := by decide +kernel
theorem dX12_first_50 : decode cX12_first 50 = .ok (.ifCond .eq 6, 3) := by decide +kernel
theorem dX12_first_53 : decode cX12_first 53 = .ok (.bipush (-2), 2) := by decide +kernel
theorem dX12_first_55 : decode cX12_first 55 = .ok (.ireturn, 1) := by decide +kernel
theorem dX12_first_56 : decode cX12_first 56 = .ok (.iinc 7 1, 3) := by decide +kernel
theorem dX12_first_59 : decode cX12_first 59 = .ok (.goto (-32), 3) := by decide +kernel
theorem dX12_first_62 : decode cX12_first 62 = .ok (.aload_n 0, 1) := by decide +kernel
theorem dX12_first_63 : decode cX12_first 63 = .ok (.iload_n 2, 1) := by decide +kernel
theorem dX12_first_64 : decode cX12_first 64 = .ok (.invokevirtual 542, 3) := by decide +kernel
