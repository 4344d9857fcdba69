theorem dX12_markBounds_93 : decode cX12_markBounds 93 = .ok (.iconst 1, 1) := by decide +kernel
theorem dX12_markBounds_94 : decode cX12_markBounds 94 = .ok (.if_icmp .ne 19, 3) := by decide +kernel
theorem dX12_markBounds_97 : decode cX12_markBounds 97 = .ok (.aload_n 0, 1) := by decide +kernel
theorem dX12_markBounds_98 : decode cX12_markBounds 98 = .ok (.getfield 162, 3) := by decide +kernel
theorem dX12_markBounds_101 : decode cX12_markBounds 101 = .ok (.bipush 10, 2) := by decide +kernel
theorem dX12_markBounds_103 : decode cX12_markBounds 103 = .ok (.iconst 1, 1) := by decide +kernel
theorem dX12_markBounds_104 : decode cX12_markBounds 104 = .ok (.bastore, 1) := by decide +kernel
theorem dX12_markBounds_105 : decode cX12_markBounds 105 = .ok (.aload_n 0, 1) := by decide +kernel
theorem dX12_markBounds_106 : decode cX12_markBounds 106 = .ok (.getfield 162, 3) := by decide +kernel
theorem dX12_markBounds_109 : decode cX12_markBounds 109 = .ok (.bipush 11, 2) := by decide +kernel
theorem dX12_markBounds_111 : decode cX12_markBounds 111 = .ok (.iconst 1, 1) := by decide +kernel
theorem dX12_markBounds_112 : decode cX12_markBounds 112 = .ok (.bastore, 1) := by decide +kernel
theorem dX12_markBounds_113 : decode cX12_markBounds 113 = .ok (.aload_n 0, 1) := by decide +kernel
theorem dX12_markBounds_114 : decode cX12_markBounds 114 = .ok (.getfield 71, 3) := by decide +kernel
theorem dX12_markBounds_117 : decode cX12_markBounds 117 = .ok (.iload_n 3, 1) := by decide +kernel
theorem dX12_markBounds_118 : decode cX12_markBounds 118 = .ok (.iaload, 1) := by decide +kernel
theorem dX12_markBounds_119 : decode cX12_markBounds 119 = .ok (.istore 5, 2) := by decide +kernel
theorem dX12_markBounds_121 : decode cX12_markBounds 121 = .ok (.iload 4, 2) := by decide +kernel
theorem dX12_markBounds_123 : decode cX12_markBounds 123 = .ok (.iconst 2, 1) := by decide +kernel
theorem dX12_markBounds_124 : decode cX12_markBounds 124 = .ok (.if_icmp .ne 55, 3) := by decide +kernel
theorem dX12_markBounds_127 : decode cX12_markBounds 127 = .ok (.iload 5, 2) := by decide +kernel
theorem dX12_markBounds_129 : decode cX12_markBounds 129 = .ok (.aload_n 0, 1) := by decide +kernel
theorem dX12_markBounds_130 : decode cX12_markBounds 130 = .ok (.getfield 71, 3) := by decide +kernel
theorem dX12_markBounds_133 : decode cX12_markBounds 133 = .ok (.iload_n 3, 1) := by decide +kernel
theorem dX12_markBounds_134 : decode cX12_markBounds 134 = .ok (.iaload, 1) := by decide +kernel
theorem dX12_markBounds_135 : decode cX12_markBounds 135 = .ok (.aload_n 0, 1) := by decide +kernel
theorem dX12_markBounds_136 : decode cX12_markBounds 136 = .ok (.getfield 59, 3) := by decide +kernel
theorem dX12_markBounds_139 : decode cX12_markBounds 139 = .ok (.iload_n 3, 1) := by decide +kernel
theorem dX12_markBounds_140 : decode cX12_markBounds 140 = .ok (.iaload, 1) := by decide +kernel
theorem dX12_markBounds_141 : decode cX12_markBounds 141 = .ok (.iadd, 1) := by decide +kernel
theorem dX12_markBounds_142 : decode cX12_markBounds 142 = .ok (.if_icmp .ge 37, 3) := by decide +kernel
theorem dX12_markBounds_145 : decode cX12_markBounds 145 = .ok (.aload_n 0, 1) := by decide +kernel
theorem dX12_markBounds_146 : decode cX12_markBounds 146 = .ok (.getfield 162, 3) := by decide +kernel
theorem dX12_markBounds_149 : decode cX12_markBounds 149 = .ok (.aload_n 0, 1) := by decide +kernel
theorem dX12_markBounds_150 : decode cX12_markBounds 150 = .ok (.getfield 80, 3) := by decide +kernel
theorem dX12_markBounds_153 : decode cX12_markBounds 153 = .ok (.iload 5, 2) := by decide +kernel
theorem dX12_markBounds_155 : decode cX12_markBounds 155 = .ok (.iaload, 1) := by decide +kernel
theorem dX12_markBounds_156 : decode cX12_markBounds 156 = .ok (.iconst 1, 1) := by decide +kernel
theorem dX12_markBounds_157 : decode cX12_markBounds 157 = .ok (.bastore, 1) := by decide +kernel
theorem dX12_markBounds_158 : decode cX12_markBounds 158 = .ok (.aload_n 0, 1) := by decide +kernel
theorem dX12_markBounds_159 : decode cX12_markBounds 159 = .ok (.getfield 162, 3) := by decide +kernel
theorem dX12_markBounds_162 : decode cX12_markBounds 162 = .ok (.aload_n 0, 1) := by decide +kernel
theorem dX12_markBounds_163 : decode cX12_markBounds 163 = .ok (.getfield 83, 3) := by decide +kernel
theorem dX12_markBounds_166 : decode cX12_markBounds 166 = .ok (.iload 5, 2) := by decide +kernel
theorem dX12_markBounds_168 : decode cX12_markBounds 168 = .ok (.iaload, 1) := by decide +kernel
theorem dX12_markBounds_169 : decode cX12_markBounds 169 = .ok (.iconst 1, 1) := by decide +kernel
theorem dX12_markBounds_170 : decode cX12_markBounds 170 = .ok (.iadd, 1) := by decide +kernel
theorem dX12_markBounds_171 : decode cX12_markBounds 171 = .ok (.iconst 1, 1) := by decide +kernel
theorem dX12_markBounds_172 : decode cX12_markBounds 172 = .ok (.bastore, 1) := by decide +kernel
theorem dX12_markBounds_173 : decode cX12_markBounds 173 = .ok (.iinc 5 1, 3) := by decide +kernel
theorem dX12_markBounds_176 : decode cX12_markBounds 176 = .ok (.goto (-55), 3) := by decide +kernel
theorem dX12_markBounds_179 : decode cX12_markBounds 179 = .ok (.bipush 65, 2) := by decide +kernel
theorem dX12_markBounds_181 : decode cX12_markBounds 181 = .ok (.istore 5, 2) := by decide +kernel
theorem dX12_markBounds_183 : decode cX12_markBounds 183 = .ok (.iload 4, 2) := by decide +kernel
theorem dX12_markBounds_185 : decode cX12_markBounds 185 = .ok (.iconst 2, 1) := by decide +kernel
theorem dX12_markBounds_186 : decode cX12_markBounds 186 = .ok (.if_icmp .ne 33, 3) := by decide +kernel
theorem dX12_markBounds_189 : decode cX12_markBounds 189 = .ok (.aload_n 0, 1) := by decide +kernel
theorem dX12_markBounds_190 : decode cX12_markBounds 190 = .ok (.getfield 77, 3) := by decide +kernel
theorem dX12_markBounds_193 : decode cX12_markBounds 193 = .ok (.iload_n 3, 1) := by decide +kernel
theorem dX12_markBounds_194 : decode cX12_markBounds 194 = .ok (.baload, 1) := by decide +kernel
theorem dX12_markBounds_195 : decode cX12_markBounds 195 = .ok (.ifCond .eq 24, 3) := by decide +kernel
theorem dX12_markBounds_198 : decode cX12_markBounds 198 = .ok (.iload 5, 2) := by decide +kernel
theorem dX12_markBounds_200 : decode cX12_markBounds 200 = .ok (.bipush 124, 2) := by decide +kernel
theorem dX12_markBounds_202 : decode cX12_markBounds 202 = .ok (.if_icmp .ge 17, 3) := by decide +kernel
theorem dX12_markBounds_205 : decode cX12_markBounds 205 = .ok (.aload_n 0, 1) := by decide +kernel
theorem dX12_markBounds_206 : decode cX12_markBounds 206 = .ok (.getfield 162, 3) := by decide +kernel
theorem dX12_markBounds_209 : decode cX12_markBounds 209 = .ok (.iload 5, 2) := by decide +kernel
theorem dX12_markBounds_211 : decode cX12_markBounds 211 = .ok (.iconst 1, 1) := by decide +kernel
theorem dX12_markBounds_212 : decode cX12_markBounds 212 = .ok (.bastore, 1) := by decide +kernel
theorem dX12_markBounds_213 : decode cX12_markBounds 213 = .ok (.iinc 5 1, 3) := by decide +kernel
theorem dX12_markBounds_216 : decode cX12_markBounds 216 = .ok (.goto (-33), 3) := by decide +kernel
theorem dX12_markBounds_219 : decode cX12_markBounds 219 = .ok (.iinc 2 1, 3) := by decide +kernel
theorem dX12_markBounds_222 : decode cX12_markBounds 222 = .ok (.goto (-220), 3) := by decide +kernel
theorem dX12_markBounds_225 : decode cX12_markBounds 225 = .ok (.return_, 1) := by decide +kernel
theorem dX12_measure_0 : decode cX12_measure 0 = .ok (.sipush 220, 3) := by decide +kernel
theorem dX12_measure_3 : decode cX12_measure 3 = .ok (.iload_n 1, 1) := by decide +kernel
theorem dX12_measure_4 : decode cX12_measure 4 = .ok (.imul, 1) := by decide +kernel
theorem dX12_measure_5 : decode cX12_measure 5 = .ok (.istore_n 3, 1) := by decide +kernel
theorem dX12_measure_6 : decode cX12_measure 6 = .ok (.iload_n 3, 1) := by decide +kernel
theorem dX12_measure_7 : decode cX12_measure 7 = .ok (.iload_n 2, 1) := by decide +kernel
theorem dX12_measure_8 : decode cX12_measure 8 = .ok (.iadd, 1) := by decide +kernel
theorem dX12_measure_9 : decode cX12_measure 9 = .ok (.istore 4, 2) := by decide +kernel
theorem dX12_measure_11 : decode cX12_measure 11 = .ok (.iconst 0, 1) := by decide +kernel
theorem dX12_measure_12 : decode cX12_measure 12 = .ok (.istore 5, 2) := by decide +kernel
theorem dX12_measure_14 : decode cX12_measure 14 = .ok (.iconst 0, 1) := by decide +kernel
theorem dX12_measure_15 : decode cX12_measure 15 = .ok (.istore 6, 2) := by decide +kernel
theorem dX12_measure_17 : decode cX12_measure 17 = .ok (.iconst 1, 1) := by decide +kernel
theorem dX12_measure_18 : decode cX12_measure 18 = .ok (.istore 7, 2) := by decide +kernel
theorem dX12_measure_20 : decode cX12_measure 20 = .ok (.iconst 0, 1) := by decide +kernel
theorem dX12_measure_21 : decode cX12_measure 21 = .ok (.istore 8, 2) := by decide +kernel
theorem dX12_measure_23 : decode cX12_measure 23 = .ok (.iload_n 2, 1) := by decide +kernel
theorem dX12_measure_24 : decode cX12_measure 24 = .ok (.iconst 1, 1) := by decide +kernel
theorem dX12_measure_25 : decode cX12_measure 25 = .ok (.iadd, 1) := by decide +kernel
theorem dX12_measure_26 : decode cX12_measure 26 = .ok (.istore 9, 2) := by decide +kernel
theorem dX12_measure_28 : decode cX12_measure 28 = .ok (.iload 9, 2) := by decide +kernel
theorem dX12_measure_30 : decode cX12_measure 30 = .ok (.aload_n 0, 1) := by decide +kernel
theorem dX12_measure_31 : decode cX12_measure 31 = .ok (.getfield 62, 3) := by decide +kernel
theorem dX12_measure_34 : decode cX12_measure 34 = .ok (.iload 4, 2) := by decide +kernel
theorem dX12_measure_36 : decode cX12_measure 36 = .ok (.iaload, 1) := by decide +kernel
theorem dX12_measure_37 : decode cX12_measure 37 = .ok (.if_icmp .ge 99, 3) := by decide +kernel
theorem dX12_measure_40 : decode cX12_measure 40 = .ok (.iload 5, 2) := by decide +kernel
theorem dX12_measure_42 : decode cX12_measure 42 = .ok (.aload_n 0, 1) := by decide +kernel
theorem dX12_measure_43 : decode cX12_measure 43 = .ok (.getfield 65, 3) := by decide +kernel
theorem dX12_measure_46 : decode cX12_measure 46 = .ok (.iload_n 3, 1) := by decide +kernel
theorem dX12_measure_47 : decode cX12_measure 47 = .ok (.iload 9, 2) := by decide +kernel
theorem dX12_measure_49 : decode cX12_measure 49 = .ok (.iadd, 1) := by decide +kernel
theorem dX12_measure_50 : decode cX12_measure 50 = .ok (.iaload, 1) := by decide +kernel
theorem dX12_measure_51 : decode cX12_measure 51 = .ok (.iadd, 1) := by decide +kernel
theorem dX12_measure_52 : decode cX12_measure 52 = .ok (.invokestatic 438, 3) := by decide +kernel
theorem dX12_measure_55 : decode cX12_measure 55 = .ok (.istore 5, 2) := by decide +kernel
theorem dX12_measure_57 : decode cX12_measure 57 = .ok (.iload 6, 2) := by decide +kernel
theorem dX12_measure_59 : decode cX12_measure 59 = .ok (.aload_n 0, 1) := by decide +kernel
theorem dX12_measure_60 : decode cX12_measure 60 = .ok (.getfield 68, 3) := by decide +kernel
theorem dX12_measure_63 : decode cX12_measure 63 = .ok (.iload_n 3, 1) := by decide +kernel
theorem dX12_measure_64 : decode cX12_measure 64 = .ok (.iload 9, 2) := by decide +kernel
theorem dX12_measure_66 : decode cX12_measure 66 = .ok (.iadd, 1) := by decide +kernel
theorem dX12_measure_67 : decode cX12_measure 67 = .ok (.iaload, 1) := by decide +kernel
theorem dX12_measure_68 : decode cX12_measure 68 = .ok (.iadd, 1) := by decide +kernel
theorem dX12_measure_69 : decode cX12_measure 69 = .ok (.invokestatic 438, 3) := by decide +kernel
theorem dX12_measure_72 : decode cX12_measure 72 = .ok (.istore 6, 2) := by decide +kernel
theorem dX12_measure_74 : decode cX12_measure 74 = .ok (.iload 7, 2) := by decide +kernel
theorem dX12_measure_76 : decode cX12_measure 76 = .ok (.ifCond .eq 19, 3) := by decide +kernel
theorem dX12_measure_79 : decode cX12_measure 79 = .ok (.aload_n 0, 1) := by decide +kernel
theorem dX12_measure_80 : decode cX12_measure 80 = .ok (.getfield 74, 3) := by decide +kernel
theorem dX12_measure_83 : decode cX12_measure 83 = .ok (.iload_n 3, 1) := by decide +kernel
theorem dX12_measure_84 : decode cX12_measure 84 = .ok (.iload 9, 2) := by decide +kernel
theorem dX12_measure_86 : decode cX12_measure 86 = .ok (.iadd, 1) := by decide +kernel
theorem dX12_measure_87 : decode cX12_measure 87 = .ok (.baload, 1) := by decide +kernel
theorem dX12_measure_88 : decode cX12_measure 88 = .ok (.ifCond .eq 7, 3) := by decide +kernel
theorem dX12_measure_91 : decode cX12_measure 91 = .ok (.iconst 1, 1) := by decide +kernel
theorem dX12_measure_92 : decode cX12_measure 92 = .ok (.goto 4, 3) := by decide +kernel
theorem dX12_measure_95 : decode cX12_measure 95 = .ok (.iconst 0, 1) := by decide +kernel
theorem dX12_measure_96 : decode cX12_measure 96 = .ok (.istore 7, 2) := by decide +kernel
theorem dX12_measure_98 : decode cX12_measure 98 = .ok (.iload 8, 2) := by decide +kernel
theorem dX12_measure_100 : decode cX12_measure 100 = .ok (.ifCond .ne 15, 3) := by decide +kernel
theorem dX12_measure_103 : decode cX12_measure 103 = .ok (.aload_n 0, 1) := by decide +kernel
theorem dX12_measure_104 : decode cX12_measure 104 = .ok (.getfield 74, 3) := by decide +kernel
theorem dX12_measure_107 : decode cX12_measure 107 = .ok (.iload_n 3, 1) := by decide +kernel
theorem dX12_measure_108 : decode cX12_measure 108 = .ok (.iload 9, 2) := by decide +kernel
theorem dX12_measure_110 : decode cX12_measure 110 = .ok (.iadd, 1) := by decide +kernel
theorem dX12_measure_111 : decode cX12_measure 111 = .ok (.baload, 1) := by decide +kernel
theorem dX12_measure_112 : decode cX12_measure 112 = .ok (.ifCond .eq 7, 3) := by decide +kernel
theorem dX12_measure_115 : decode cX12_measure 115 = .ok (.iconst 1, 1) := by decide +kernel
theorem dX12_measure_116 : decode cX12_measure 116 = .ok (.goto 4, 3) := by decide +kernel
theorem dX12_measure_119 : decode cX12_measure 119 = .ok (.iconst 0, 1) := by decide +kernel
theorem dX12_measure_120 : decode cX12_measure 120 = .ok (.istore 8, 2) := by decide +kernel
theorem dX12_measure_122 : decode cX12_measure 122 = .ok (.aload_n 0, 1) := by decide +kernel
theorem dX12_measure_123 : decode cX12_measure 123 = .ok (.getfield 62, 3) := by decide +kernel
theorem dX12_measure_126 : decode cX12_measure 126 = .ok (.iload_n 3, 1) := by decide +kernel
theorem dX12_measure_127 : decode cX12_measure 127 = .ok (.iload 9, 2) := by decide +kernel
theorem dX12_measure_129 : decode cX12_measure 129 = .ok (.iadd, 1) := by decide +kernel
theorem dX12_measure_130 : decode cX12_measure 130 = .ok (.iaload, 1) := by decide +kernel
theorem dX12_measure_131 : decode cX12_measure 131 = .ok (.istore 9, 2) := by decide +kernel
theorem dX12_measure_133 : decode cX12_measure 133 = .ok (.goto (-105), 3) := by decide +kernel
theorem dX12_measure_136 : decode cX12_measure 136 = .ok (.aload_n 0, 1) := by decide +kernel
theorem dX12_measure_137 : decode cX12_measure 137 = .ok (.getfield 44, 3) := by decide +kernel
theorem dX12_measure_140 : decode cX12_measure 140 = .ok (.iload 4, 2) := by decide +kernel
theorem dX12_measure_142 : decode cX12_measure 142 = .ok (.iaload, 1) := by decide +kernel
theorem dX12_measure_143 : decode cX12_measure 143 = .ok (.istore 9, 2) := by decide +kernel
theorem dX12_measure_145 : decode cX12_measure 145 = .ok (.iconst 1, 1) := by decide +kernel
theorem dX12_measure_146 : decode cX12_measure 146 = .ok (.istore 10, 2) := by decide +kernel
theorem dX12_measure_148 : decode cX12_measure 148 = .ok (.iload 9, 2) := by decide +kernel
theorem dX12_measure_150 : decode cX12_measure 150 = .ok (.bipush 7, 2) := by decide +kernel
theorem dX12_measure_152 : decode cX12_measure 152 = .ok (.if_icmp .ne 50, 3) := by decide +kernel
theorem dX12_measure_155 : decode cX12_measure 155 = .ok (.aload_n 0, 1) := by decide +kernel
theorem dX12_measure_156 : decode cX12_measure 156 = .ok (.getfield 53, 3) := by decide +kernel
theorem dX12_measure_159 : decode cX12_measure 159 = .ok (.iload 4, 2) := by decide +kernel
theorem dX12_measure_161 : decode cX12_measure 161 = .ok (.iaload, 1) := by decide +kernel
theorem dX12_measure_162 : decode cX12_measure 162 = .ok (.iconst (-1), 1) := by decide +kernel
theorem dX12_measure_163 : decode cX12_measure 163 = .ok (.if_icmp .ne 15, 3) := by decide +kernel
theorem dX12_measure_166 : decode cX12_measure 166 = .ok (.aload_n 0, 1) := by decide +kernel
theorem dX12_measure_167 : decode cX12_measure 167 = .ok (.getfield 50, 3) := by decide +kernel
theorem dX12_measure_170 : decode cX12_measure 170 = .ok (.iload 4, 2) := by decide +kernel
theorem dX12_measure_172 : decode cX12_measure 172 = .ok (.iaload, 1) := by decide +kernel
theorem dX12_measure_173 : decode cX12_measure 173 = .ok (.iconst 1, 1) := by decide +kernel
theorem dX12_measure_174 : decode cX12_measure 174 = .ok (.iadd, 1) := by decide +kernel
theorem dX12_measure_175 : decode cX12_measure 175 = .ok (.goto 25, 3) := by decide +kernel
theorem dX12_measure_178 : decode cX12_measure 178 = .ok (.aload_n 0, 1) := by decide +kernel
theorem dX12_measure_179 : decode cX12_measure 179 = .ok (.getfield 53, 3) := by decide +kernel
theorem dX12_measure_182 : decode cX12_measure 182 = .ok (.iload 4, 2) := by decide +kernel
theorem dX12_measure_184 : decode cX12_measure 184 = .ok (.iaload, 1) := by decide +kernel
theorem dX12_measure_185 : decode cX12_measure 185 = .ok (.iconst 1, 1) := by decide +kernel
theorem dX12_measure_186 : decode cX12_measure 186 = .ok (.if_icmp .ge 7, 3) := by decide +kernel
theorem dX12_measure_189 : decode cX12_measure 189 = .ok (.iconst 1, 1) := by decide +kernel
theorem dX12_measure_190 : decode cX12_measure 190 = .ok (.goto 10, 3) := by decide +kernel
theorem dX12_measure_193 : decode cX12_measure 193 = .ok (.aload_n 0, 1) := by decide +kernel
theorem dX12_measure_194 : decode cX12_measure 194 = .ok (.getfield 53, 3) := by decide +kernel
theorem dX12_measure_197 : decode cX12_measure 197 = .ok (.iload 4, 2) := by decide +kernel
theorem dX12_measure_199 : decode cX12_measure 199 = .ok (.iaload, 1) := by decide +kernel
theorem dX12_measure_200 : decode cX12_measure 200 = .ok (.istore 10, 2) := by decide +kernel
theorem dX12_measure_202 : decode cX12_measure 202 = .ok (.aload_n 0, 1) := by decide +kernel
theorem dX12_measure_203 : decode cX12_measure 203 = .ok (.getfield 65, 3) := by decide +kernel
theorem dX12_measure_206 : decode cX12_measure 206 = .ok (.iload 4, 2) := by decide +kernel
theorem dX12_measure_208 : decode cX12_measure 208 = .ok (.iconst 1, 1) := by decide +kernel
theorem dX12_measure_209 : decode cX12_measure 209 = .ok (.iload 10, 2) := by decide +kernel
theorem dX12_measure_211 : decode cX12_measure 211 = .ok (.iload 5, 2) := by decide +kernel
theorem dX12_measure_213 : decode cX12_measure 213 = .ok (.imul, 1) := by decide +kernel
theorem dX12_measure_214 : decode cX12_measure 214 = .ok (.iadd, 1) := by decide +kernel
theorem dX12_measure_215 : decode cX12_measure 215 = .ok (.invokestatic 438, 3) := by decide +kernel
theorem dX12_measure_218 : decode cX12_measure 218 = .ok (.iastore, 1) := by decide +kernel
theorem dX12_measure_219 : decode cX12_measure 219 = .ok (.aload_n 0, 1) := by decide +kernel
theorem dX12_measure_220 : decode cX12_measure 220 = .ok (.getfield 68, 3) := by decide +kernel
theorem dX12_measure_223 : decode cX12_measure 223 = .ok (.iload 4, 2) := by decide +kernel
theorem dX12_measure_225 : decode cX12_measure 225 = .ok (.iload 9, 2) := by decide +kernel
theorem dX12_measure_227 : decode cX12_measure 227 = .ok (.iconst 2, 1) := by decide +kernel
theorem dX12_measure_228 : decode cX12_measure 228 = .ok (.if_icmp .gt 7, 3) := by decide +kernel
theorem dX12_measure_231 : decode cX12_measure 231 = .ok (.iconst 1, 1) := by decide +kernel
theorem dX12_measure_232 : decode cX12_measure 232 = .ok (.goto 11, 3) := by decide +kernel
theorem dX12_measure_235 : decode cX12_measure 235 = .ok (.iload 10, 2) := by decide +kernel
theorem dX12_measure_237 : decode cX12_measure 237 = .ok (.iload 6, 2) := by decide +kernel
theorem dX12_measure_239 : decode cX12_measure 239 = .ok (.imul, 1) := by decide +kernel
theorem dX12_measure_240 : decode cX12_measure 240 = .ok (.invokestatic 438, 3) := by decide +kernel
theorem dX12_measure_243 : decode cX12_measure 243 = .ok (.iastore, 1) := by decide +kernel
theorem dX12_measure_244 : decode cX12_measure 244 = .ok (.aload_n 0, 1) := by decide +kernel
theorem dX12_measure_245 : decode cX12_measure 245 = .ok (.getfield 74, 3) := by decide +kernel
theorem dX12_measure_248 : decode cX12_measure 248 = .ok (.iload 4, 2) := by decide +kernel
theorem dX12_measure_250 : decode cX12_measure 250 = .ok (.iload 9, 2) := by decide +kernel
theorem dX12_measure_252 : decode cX12_measure 252 = .ok (.iconst 3, 1) := by decide +kernel
theorem dX12_measure_253 : decode cX12_measure 253 = .ok (.if_icmp .eq 63, 3) := by decide +kernel
theorem dX12_measure_256 : decode cX12_measure 256 = .ok (.iload 9, 2) := by decide +kernel
theorem dX12_measure_258 : decode cX12_measure 258 = .ok (.iconst 4, 1) := by decide +kernel
theorem dX12_measure_259 : decode cX12_measure 259 = .ok (.if_icmp .eq 57, 3) := by decide +kernel
theorem dX12_measure_262 : decode cX12_measure 262 = .ok (.iload 9, 2) := by decide +kernel
theorem dX12_measure_264 : decode cX12_measure 264 = .ok (.bipush 9, 2) := by decide +kernel
theorem dX12_measure_266 : decode cX12_measure 266 = .ok (.if_icmp .eq 50, 3) := by decide +kernel
theorem dX12_measure_269 : decode cX12_measure 269 = .ok (.iload 9, 2) := by decide +kernel
theorem dX12_measure_271 : decode cX12_measure 271 = .ok (.bipush 7, 2) := by decide +kernel
theorem dX12_measure_273 : decode cX12_measure 273 = .ok (.if_icmp .ne 13, 3) := by decide +kernel
theorem dX12_measure_276 : decode cX12_measure 276 = .ok (.aload_n 0, 1) := by decide +kernel
theorem dX12_measure_277 : decode cX12_measure 277 = .ok (.getfield 50, 3) := by decide +kernel
theorem dX12_measure_280 : decode cX12_measure 280 = .ok (.iload 4, 2) := by decide +kernel
theorem dX12_measure_282 : decode cX12_measure 282 = .ok (.iaload, 1) := by decide +kernel
theorem dX12_measure_283 : decode cX12_measure 283 = .ok (.ifCond .eq 33, 3) := by decide +kernel
theorem dX12_measure_286 : decode cX12_measure 286 = .ok (.iload 9, 2) := by decide +kernel
theorem dX12_measure_288 : decode cX12_measure 288 = .ok (.bipush 6, 2) := by decide +kernel
theorem dX12_measure_290 : decode cX12_measure 290 = .ok (.if_icmp .ne 8, 3) := by decide +kernel
theorem dX12_measure_293 : decode cX12_measure 293 = .ok (.iload 8, 2) := by decide +kernel
theorem dX12_measure_295 : decode cX12_measure 295 = .ok (.ifCond .ne 21, 3) := by decide +kernel
theorem dX12_measure_298 : decode cX12_measure 298 = .ok (.iload 9, 2) := by decide +kernel
theorem dX12_measure_300 : decode cX12_measure 300 = .ok (.bipush 6, 2) := by decide +kernel
theorem dX12_measure_302 : decode cX12_measure 302 = .ok (.if_icmp .eq 18, 3) := by decide +kernel
theorem dX12_measure_305 : decode cX12_measure 305 = .ok (.iload 9, 2) := by decide +kernel
theorem dX12_measure_307 : decode cX12_measure 307 = .ok (.iconst 2, 1) := by decide +kernel
theorem dX12_measure_308 : decode cX12_measure 308 = .ok (.if_icmp .le 12, 3) := by decide +kernel
theorem dX12_measure_311 : decode cX12_measure 311 = .ok (.iload 7, 2) := by decide +kernel
theorem dX12_measure_313 : decode cX12_measure 313 = .ok (.ifCond .eq 7, 3) := by decide +kernel
theorem dX12_measure_316 : decode cX12_measure 316 = .ok (.iconst 1, 1) := by decide +kernel
theorem dX12_measure_317 : decode cX12_measure 317 = .ok (.goto 4, 3) := by decide +kernel
theorem dX12_measure_320 : decode cX12_measure 320 = .ok (.iconst 0, 1) := by decide +kernel
theorem dX12_measure_321 : decode cX12_measure 321 = .ok (.bastore, 1) := by decide +kernel
theorem dX12_measure_322 : decode cX12_measure 322 = .ok (.return_, 1) := by decide +kernel
theorem dX12_meet_0 : decode cX12_meet 0 = .ok (.aload_n 0, 1) := by decide +kernel
theorem dX12_meet_1 : decode cX12_meet 1 = .ok (.getfield 305, 3) := by decide +kernel
theorem dX12_meet_4 : decode cX12_meet 4 = .ok (.bipush 61, 2) := by decide +kernel
theorem dX12_meet_6 : decode cX12_meet 6 = .ok (.iload_n 1, 1) := by decide +kernel
theorem dX12_meet_7 : decode cX12_meet 7 = .ok (.imul, 1) := by decide +kernel
theorem dX12_meet_8 : decode cX12_meet 8 = .ok (.iload_n 2, 1) := by decide +kernel
theorem dX12_meet_9 : decode cX12_meet 9 = .ok (.iadd, 1) := by decide +kernel
theorem dX12_meet_10 : decode cX12_meet 10 = .ok (.baload, 1) := by decide +kernel
theorem dX12_meet_11 : decode cX12_meet 11 = .ok (.ifCond .ne 66, 3) := by decide +kernel
theorem dX12_meet_14 : decode cX12_meet 14 = .ok (.aload_n 0, 1) := by decide +kernel
theorem dX12_meet_15 : decode cX12_meet 15 = .ok (.getfield 305, 3) := by decide +kernel
theorem dX12_meet_18 : decode cX12_meet 18 = .ok (.bipush 61, 2) := by decide +kernel
theorem dX12_meet_20 : decode cX12_meet 20 = .ok (.iload_n 1, 1) := by decide +kernel
theorem dX12_meet_21 : decode cX12_meet 21 = .ok (.imul, 1) := by decide +kernel
theorem dX12_meet_22 : decode cX12_meet 22 = .ok (.iload_n 2, 1) := by decide +kernel
theorem dX12_meet_23 : decode cX12_meet 23 = .ok (.iadd, 1) := by decide +kernel
theorem dX12_meet_24 : decode cX12_meet 24 = .ok (.iconst 1, 1) := by decide +kernel
theorem dX12_meet_25 : decode cX12_meet 25 = .ok (.bastore, 1) := by decide +kernel
theorem dX12_meet_26 : decode cX12_meet 26 = .ok (.aload_n 0, 1) := by decide +kernel
theorem dX12_meet_27 : decode cX12_meet 27 = .ok (.getfield 293, 3) := by decide +kernel
theorem dX12_meet_30 : decode cX12_meet 30 = .ok (.aload_n 0, 1) := by decide +kernel
theorem dX12_meet_31 : decode cX12_meet 31 = .ok (.getfield 745, 3) := by decide +kernel
theorem dX12_meet_34 : decode cX12_meet 34 = .ok (.iload_n 1, 1) := by decide +kernel
theorem dX12_meet_35 : decode cX12_meet 35 = .ok (.iastore, 1) := by decide +kernel
theorem dX12_meet_36 : decode cX12_meet 36 = .ok (.aload_n 0, 1) := by decide +kernel
theorem dX12_meet_37 : decode cX12_meet 37 = .ok (.getfield 296, 3) := by decide +kernel
theorem dX12_meet_40 : decode cX12_meet 40 = .ok (.aload_n 0, 1) := by decide +kernel
theorem dX12_meet_41 : decode cX12_meet 41 = .ok (.getfield 745, 3) := by decide +kernel
theorem dX12_meet_44 : decode cX12_meet 44 = .ok (.iload_n 2, 1) := by decide +kernel
theorem dX12_meet_45 : decode cX12_meet 45 = .ok (.iastore, 1) := by decide +kernel
theorem dX12_meet_46 : decode cX12_meet 46 = .ok (.aload_n 0, 1) := by decide +kernel
theorem dX12_meet_47 : decode cX12_meet 47 = .ok (.getfield 299, 3) := by decide +kernel
theorem dX12_meet_50 : decode cX12_meet 50 = .ok (.aload_n 0, 1) := by decide +kernel
theorem dX12_meet_51 : decode cX12_meet 51 = .ok (.getfield 745, 3) := by decide +kernel
theorem dX12_meet_54 : decode cX12_meet 54 = .ok (.iload_n 3, 1) := by decide +kernel
theorem dX12_meet_55 : decode cX12_meet 55 = .ok (.iastore, 1) := by decide +kernel
theorem dX12_meet_56 : decode cX12_meet 56 = .ok (.aload_n 0, 1) := by decide +kernel
theorem dX12_meet_57 : decode cX12_meet 57 = .ok (.getfield 302, 3) := by decide +kernel
theorem dX12_meet_60 : decode cX12_meet 60 = .ok (.aload_n 0, 1) := by decide +kernel
theorem dX12_meet_61 : decode cX12_meet 61 = .ok (.getfield 745, 3) := by decide +kernel
theorem dX12_meet_64 : decode cX12_meet 64 = .ok (.iload 4, 2) := by decide +kernel
theorem dX12_meet_66 : decode cX12_meet 66 = .ok (.iastore, 1) := by decide +kernel
theorem dX12_meet_67 : decode cX12_meet 67 = .ok (.aload_n 0, 1) := by decide +kernel
theorem dX12_meet_68 : decode cX12_meet 68 = .ok (.dup, 1) := by decide +kernel
theorem dX12_meet_69 : decode cX12_meet 69 = .ok (.getfield 745, 3) := by decide +kernel
theorem dX12_meet_72 : decode cX12_meet 72 = .ok (.iconst 1, 1) := by decide +kernel
theorem dX12_meet_73 : decode cX12_meet 73 = .ok (.iadd, 1) := by decide +kernel
theorem dX12_meet_74 : decode cX12_meet 74 = .ok (.putfield 745, 3) := by decide +kernel
theorem dX12_meet_77 : decode cX12_meet 77 = .ok (.return_, 1) := by decide +kernel
theorem dX12_member_0 : decode cX12_member 0 = .ok (.aload_n 0, 1) := by decide +kernel
theorem dX12_member_1 : decode cX12_member 1 = .ok (.iload_n 1, 1) := by decide +kernel
theorem dX12_member_2 : decode cX12_member 2 = .ok (.invokevirtual 349, 3) := by decide +kernel
theorem dX12_member_5 : decode cX12_member 5 = .ok (.istore_n 2, 1) := by decide +kernel
theorem dX12_member_6 : decode cX12_member 6 = .ok (.aload_n 0, 1) := by decide +kernel
theorem dX12_member_7 : decode cX12_member 7 = .ok (.iload_n 2, 1) := by decide +kernel
theorem dX12_member_8 : decode cX12_member 8 = .ok (.putfield 402, 3) := by decide +kernel
theorem dX12_member_11 : decode cX12_member 11 = .ok (.aload_n 0, 1) := by decide +kernel
theorem dX12_member_12 : decode cX12_member 12 = .ok (.iload_n 1, 1) := by decide +kernel
theorem dX12_member_13 : decode cX12_member 13 = .ok (.iconst 1, 1) := by decide +kernel
theorem dX12_member_14 : decode cX12_member 14 = .ok (.iadd, 1) := by decide +kernel
theorem dX12_member_15 : decode cX12_member 15 = .ok (.putfield 405, 3) := by decide +kernel
theorem dX12_member_18 : decode cX12_member 18 = .ok (.iload_n 2, 1) := by decide +kernel
theorem dX12_member_19 : decode cX12_member 19 = .ok (.iconst (-1), 1) := by decide +kernel
theorem dX12_member_20 : decode cX12_member 20 = .ok (.if_icmp .eq 27, 3) := by decide +kernel
theorem dX12_member_23 : decode cX12_member 23 = .ok (.iload_n 2, 1) := by decide +kernel
theorem dX12_member_24 : decode cX12_member 24 = .ok (.bipush 91, 2) := by decide +kernel
theorem dX12_member_26 : decode cX12_member 26 = .ok (.if_icmp .eq 21, 3) := by decide +kernel
theorem dX12_member_29 : decode cX12_member 29 = .ok (.iload_n 2, 1) := by decide +kernel
theorem dX12_member_30 : decode cX12_member 30 = .ok (.bipush 93, 2) := by decide +kernel
theorem dX12_member_32 : decode cX12_member 32 = .ok (.if_icmp .eq 15, 3) := by decide +kernel
theorem dX12_member_35 : decode cX12_member 35 = .ok (.iload_n 2, 1) := by decide +kernel
theorem dX12_member_36 : decode cX12_member 36 = .ok (.bipush 94, 2) := by decide +kernel
theorem dX12_member_38 : decode cX12_member 38 = .ok (.if_icmp .eq 9, 3) := by decide +kernel
theorem dX12_member_41 : decode cX12_member 41 = .ok (.iload_n 2, 1) := by decide +kernel
theorem dX12_member_42 : decode cX12_member 42 = .ok (.bipush 45, 2) := by decide +kernel
theorem dX12_member_44 : decode cX12_member 44 = .ok (.if_icmp .ne 12, 3) := by decide +kernel
theorem dX12_member_47 : decode cX12_member 47 = .ok (.aload_n 0, 1) := by decide +kernel
theorem dX12_member_48 : decode cX12_member 48 = .ok (.iconst 1, 1) := by decide +kernel
theorem dX12_member_49 : decode cX12_member 49 = .ok (.iload_n 1, 1) := by decide +kernel
theorem dX12_member_50 : decode cX12_member 50 = .ok (.invokevirtual 345, 3) := by decide +kernel
theorem dX12_member_53 : decode cX12_member 53 = .ok (.goto 84, 3) := by decide +kernel
theorem dX12_member_56 : decode cX12_member 56 = .ok (.iload_n 2, 1) := by decide +kernel
theorem dX12_member_57 : decode cX12_member 57 = .ok (.bipush 92, 2) := by decide +kernel
theorem dX12_member_59 : decode cX12_member 59 = .ok (.if_icmp .ne 78, 3) := by decide +kernel
theorem dX12_member_62 : decode cX12_member 62 = .ok (.aload_n 0, 1) := by decide +kernel
theorem dX12_member_63 : decode cX12_member 63 = .ok (.iload_n 1, 1) := by decide +kernel
theorem dX12_member_64 : decode cX12_member 64 = .ok (.iconst 1, 1) := by decide +kernel
theorem dX12_member_65 : decode cX12_member 65 = .ok (.iadd, 1) := by decide +kernel
theorem dX12_member_66 : decode cX12_member 66 = .ok (.invokevirtual 349, 3) := by decide +kernel
theorem dX12_member_69 : decode cX12_member 69 = .ok (.istore_n 3, 1) := by decide +kernel
theorem dX12_member_70 : decode cX12_member 70 = .ok (.aload_n 0, 1) := by decide +kernel
theorem dX12_member_71 : decode cX12_member 71 = .ok (.iload_n 1, 1) := by decide +kernel
theorem dX12_member_72 : decode cX12_member 72 = .ok (.iconst 2, 1) := by decide +kernel
theorem dX12_member_73 : decode cX12_member 73 = .ok (.iadd, 1) := by decide +kernel
theorem dX12_member_74 : decode cX12_member 74 = .ok (.putfield 405, 3) := by decide +kernel
theorem dX12_member_77 : decode cX12_member 77 = .ok (.aload_n 0, 1) := by decide +kernel
theorem dX12_member_78 : decode cX12_member 78 = .ok (.iload_n 3, 1) := by decide +kernel
theorem dX12_member_79 : decode cX12_member 79 = .ok (.putfield 402, 3) := by decide +kernel
theorem dX12_member_82 : decode cX12_member 82 = .ok (.iload_n 3, 1) := by decide +kernel
theorem dX12_member_83 : decode cX12_member 83 = .ok (.bipush 120, 2) := by decide +kernel
theorem dX12_member_85 : decode cX12_member 85 = .ok (.if_icmp .ne 25, 3) := by decide +kernel
theorem dX12_member_88 : decode cX12_member 88 = .ok (.aload_n 0, 1) := by decide +kernel
theorem dX12_member_89 : decode cX12_member 89 = .ok (.aload_n 0, 1) := by decide +kernel
theorem dX12_member_90 : decode cX12_member 90 = .ok (.iload_n 1, 1) := by decide +kernel
theorem dX12_member_91 : decode cX12_member 91 = .ok (.iconst 2, 1) := by decide +kernel
theorem dX12_member_92 : decode cX12_member 92 = .ok (.iadd, 1) := by decide +kernel
theorem dX12_member_93 : decode cX12_member 93 = .ok (.invokevirtual 408, 3) := by decide +kernel
theorem dX12_member_96 : decode cX12_member 96 = .ok (.putfield 402, 3) := by decide +kernel
theorem dX12_member_99 : decode cX12_member 99 = .ok (.aload_n 0, 1) := by decide +kernel
theorem dX12_member_100 : decode cX12_member 100 = .ok (.iload_n 1, 1) := by decide +kernel
theorem dX12_member_101 : decode cX12_member 101 = .ok (.bipush 6, 2) := by decide +kernel
theorem dX12_member_103 : decode cX12_member 103 = .ok (.iadd, 1) := by decide +kernel
theorem dX12_member_104 : decode cX12_member 104 = .ok (.putfield 405, 3) := by decide +kernel
theorem dX12_member_107 : decode cX12_member 107 = .ok (.goto 30, 3) := by decide +kernel
theorem dX12_member_110 : decode cX12_member 110 = .ok (.iload_n 3, 1) := by decide +kernel
theorem dX12_member_111 : decode cX12_member 111 = .ok (.iconst (-1), 1) := by decide +kernel
theorem dX12_member_112 : decode cX12_member 112 = .ok (.if_icmp .eq 17, 3) := by decide +kernel
theorem dX12_member_115 : decode cX12_member 115 = .ok (.iload_n 3, 1) := by decide +kernel
theorem dX12_member_116 : decode cX12_member 116 = .ok (.invokestatic 11, 3) := by decide +kernel
theorem dX12_member_119 : decode cX12_member 119 = .ok (.ifCond .ne 10, 3) := by decide +kernel
theorem dX12_member_122 : decode cX12_member 122 = .ok (.iload_n 3, 1) := by decide +kernel
theorem dX12_member_123 : decode cX12_member 123 = .ok (.invokestatic 15, 3) := by decide +kernel
theorem dX12_member_126 : decode cX12_member 126 = .ok (.ifCond .eq 11, 3) := by decide +kernel
theorem dX12_member_129 : decode cX12_member 129 = .ok (.aload_n 0, 1) := by decide +kernel
theorem dX12_member_130 : decode cX12_member 130 = .ok (.iconst 1, 1) := by decide +kernel
theorem dX12_member_131 : decode cX12_member 131 = .ok (.iload_n 1, 1) := by decide +kernel
theorem dX12_member_132 : decode cX12_member 132 = .ok (.iconst 1, 1) := by decide +kernel
theorem dX12_member_133 : decode cX12_member 133 = .ok (.iadd, 1) := by decide +kernel
theorem dX12_member_134 : decode cX12_member 134 = .ok (.invokevirtual 345, 3) := by decide +kernel
theorem dX12_member_137 : decode cX12_member 137 = .ok (.return_, 1) := by decide +kernel
theorem dX12_named_0 : decode cX12_named 0 = .ok (.aload_n 0, 1) := by decide +kernel
theorem dX12_named_1 : decode cX12_named 1 = .ok (.iconst 0, 1) := by decide +kernel
theorem dX12_named_2 : decode cX12_named 2 = .ok (.putfield 1, 3) := by decide +kernel
theorem dX12_named_5 : decode cX12_named 5 = .ok (.aload_n 0, 1) := by decide +kernel
theorem dX12_named_6 : decode cX12_named 6 = .ok (.iload_n 1, 1) := by decide +kernel
theorem dX12_named_7 : decode cX12_named 7 = .ok (.invokevirtual 459, 3) := by decide +kernel
theorem dX12_named_10 : decode cX12_named 10 = .ok (.ifCond .eq 6, 3) := by decide +kernel
theorem dX12_named_13 : decode cX12_named 13 = .ok (.bipush (-2), 2) := by decide +kernel
theorem dX12_named_15 : decode cX12_named 15 = .ok (.ireturn, 1) := by decide +kernel
theorem dX12_named_16 : decode cX12_named 16 = .ok (.iload_n 2, 1) := by decide +kernel
theorem dX12_named_17 : decode cX12_named 17 = .ok (.bipush 97, 2) := by decide +kernel
theorem dX12_named_19 : decode cX12_named 19 = .ok (.bipush 122, 2) := by decide +kernel
theorem dX12_named_21 : decode cX12_named 21 = .ok (.invokestatic 7, 3) := by decide +kernel
theorem dX12_named_24 : decode cX12_named 24 = .ok (.ifCond .ne 6, 3) := by decide +kernel
theorem dX12_named_27 : decode cX12_named 27 = .ok (.bipush (-4), 2) := by decide +kernel
theorem dX12_named_29 : decode cX12_named 29 = .ok (.ireturn, 1) := by decide +kernel
theorem dX12_named_30 : decode cX12_named 30 = .ok (.iconst 1, 1) := by decide +kernel
theorem dX12_named_31 : decode cX12_named 31 = .ok (.istore_n 3, 1) := by decide +kernel
theorem dX12_named_32 : decode cX12_named 32 = .ok (.iload_n 3, 1) := by decide +kernel
theorem dX12_named_33 : decode cX12_named 33 = .ok (.aload_n 0, 1) := by decide +kernel
theorem dX12_named_34 : decode cX12_named 34 = .ok (.getfield 38, 3) := by decide +kernel
theorem dX12_named_37 : decode cX12_named 37 = .ok (.iload_n 1, 1) := by decide +kernel
theorem dX12_named_38 : decode cX12_named 38 = .ok (.iaload, 1) := by decide +kernel
theorem dX12_named_39 : decode cX12_named 39 = .ok (.if_icmp .gt 26, 3) := by decide +kernel
theorem dX12_named_42 : decode cX12_named 42 = .ok (.aload_n 0, 1) := by decide +kernel
theorem dX12_named_43 : decode cX12_named 43 = .ok (.getfield 41, 3) := by decide +kernel
theorem dX12_named_46 : decode cX12_named 46 = .ok (.bipush 10, 2) := by decide +kernel
theorem dX12_named_48 : decode cX12_named 48 = .ok (.iload_n 1, 1) := by decide +kernel
theorem dX12_named_49 : decode cX12_named 49 = .ok (.imul, 1) := by decide +kernel
theorem dX12_named_50 : decode cX12_named 50 = .ok (.iload_n 3, 1) := by decide +kernel
theorem dX12_named_51 : decode cX12_named 51 = .ok (.iadd, 1) := by decide +kernel
theorem dX12_named_52 : decode cX12_named 52 = .ok (.iaload, 1) := by decide +kernel
theorem dX12_named_53 : decode cX12_named 53 = .ok (.iload_n 2, 1) := by decide +kernel
theorem dX12_named_54 : decode cX12_named 54 = .ok (.if_icmp .ne 5, 3) := by decide +kernel
theorem dX12_named_57 : decode cX12_named 57 = .ok (.iload_n 3, 1) := by decide +kernel
theorem dX12_named_58 : decode cX12_named 58 = .ok (.ireturn, 1) := by decide +kernel
theorem dX12_named_59 : decode cX12_named 59 = .ok (.iinc 3 1, 3) := by decide +kernel
theorem dX12_named_62 : decode cX12_named 62 = .ok (.goto (-30), 3) := by decide +kernel
theorem dX12_named_65 : decode cX12_named 65 = .ok (.iconst (-1), 1) := by decide +kernel
theorem dX12_named_66 : decode cX12_named 66 = .ok (.ireturn, 1) := by decide +kernel
theorem dX12_newLabel_0 : decode cX12_newLabel 0 = .ok (.aload_n 0, 1) := by decide +kernel
theorem dX12_newLabel_1 : decode cX12_newLabel 1 = .ok (.dup, 1) := by decide +kernel
theorem dX12_newLabel_2 : decode cX12_newLabel 2 = .ok (.getfield 548, 3) := by decide +kernel
theorem dX12_newLabel_5 : decode cX12_newLabel 5 = .ok (.iconst 1, 1) := by decide +kernel
theorem dX12_newLabel_6 : decode cX12_newLabel 6 = .ok (.iadd, 1) := by decide +kernel
theorem dX12_newLabel_7 : decode cX12_newLabel 7 = .ok (.putfield 548, 3) := by decide +kernel
theorem dX12_newLabel_10 : decode cX12_newLabel 10 = .ok (.aload_n 0, 1) := by decide +kernel
theorem dX12_newLabel_11 : decode cX12_newLabel 11 = .ok (.getfield 548, 3) := by decide +kernel
theorem dX12_newLabel_14 : decode cX12_newLabel 14 = .ok (.iconst 1, 1) := by decide +kernel
theorem dX12_newLabel_15 : decode cX12_newLabel 15 = .ok (.isub, 1) := by decide +kernel
theorem dX12_newLabel_16 : decode cX12_newLabel 16 = .ok (.ireturn, 1) := by decide +kernel
theorem dX12_node_0 : decode cX12_node 0 = .ok (.aload_n 0, 1) := by decide +kernel
theorem dX12_node_1 : decode cX12_node 1 = .ok (.iconst 0, 1) := by decide +kernel
theorem dX12_node_2 : decode cX12_node 2 = .ok (.putfield 1, 3) := by decide +kernel
theorem dX12_node_5 : decode cX12_node 5 = .ok (.aload_n 0, 1) := by decide +kernel
theorem dX12_node_6 : decode cX12_node 6 = .ok (.iload_n 1, 1) := by decide +kernel
theorem dX12_node_7 : decode cX12_node 7 = .ok (.invokevirtual 459, 3) := by decide +kernel
theorem dX12_node_10 : decode cX12_node 10 = .ok (.ifCond .eq 6, 3) := by decide +kernel
theorem dX12_node_13 : decode cX12_node 13 = .ok (.bipush (-2), 2) := by decide +kernel
theorem dX12_node_15 : decode cX12_node 15 = .ok (.ireturn, 1) := by decide +kernel
theorem dX12_node_16 : decode cX12_node 16 = .ok (.iload_n 2, 1) := by decide +kernel
theorem dX12_node_17 : decode cX12_node 17 = .ok (.iconst 0, 1) := by decide +kernel
theorem dX12_node_18 : decode cX12_node 18 = .ok (.aload_n 0, 1) := by decide +kernel
theorem dX12_node_19 : decode cX12_node 19 = .ok (.getfield 35, 3) := by decide +kernel
theorem dX12_node_22 : decode cX12_node 22 = .ok (.iload_n 1, 1) := by decide +kernel
theorem dX12_node_23 : decode cX12_node 23 = .ok (.iaload, 1) := by decide +kernel
theorem dX12_node_24 : decode cX12_node 24 = .ok (.iconst 1, 1) := by decide +kernel
theorem dX12_node_25 : decode cX12_node 25 = .ok (.isub, 1) := by decide +kernel
theorem dX12_node_26 : decode cX12_node 26 = .ok (.invokestatic 7, 3) := by decide +kernel
