theorem dX12_readSet_52 : decode cX12_readSet 52 = .ok (.ifCond .ne 111, 3) := by decide +kernel
theorem dX12_readSet_55 : decode cX12_readSet 55 = .ok (.aload_n 0, 1) := by decide +kernel
theorem dX12_readSet_56 : decode cX12_readSet 56 = .ok (.iload_n 2, 1) := by decide +kernel
theorem dX12_readSet_57 : decode cX12_readSet 57 = .ok (.invokevirtual 411, 3) := by decide +kernel
theorem dX12_readSet_60 : decode cX12_readSet 60 = .ok (.aload_n 0, 1) := by decide +kernel
theorem dX12_readSet_61 : decode cX12_readSet 61 = .ok (.getfield 402, 3) := by decide +kernel
theorem dX12_readSet_64 : decode cX12_readSet 64 = .ok (.istore 5, 2) := by decide +kernel
theorem dX12_readSet_66 : decode cX12_readSet 66 = .ok (.aload_n 0, 1) := by decide +kernel
theorem dX12_readSet_67 : decode cX12_readSet 67 = .ok (.getfield 405, 3) := by decide +kernel
theorem dX12_readSet_70 : decode cX12_readSet 70 = .ok (.istore_n 2, 1) := by decide +kernel
theorem dX12_readSet_71 : decode cX12_readSet 71 = .ok (.iload 5, 2) := by decide +kernel
theorem dX12_readSet_73 : decode cX12_readSet 73 = .ok (.istore 6, 2) := by decide +kernel
theorem dX12_readSet_75 : decode cX12_readSet 75 = .ok (.aload_n 0, 1) := by decide +kernel
theorem dX12_readSet_76 : decode cX12_readSet 76 = .ok (.getfield 320, 3) := by decide +kernel
theorem dX12_readSet_79 : decode cX12_readSet 79 = .ok (.ifCond .ne 49, 3) := by decide +kernel
theorem dX12_readSet_82 : decode cX12_readSet 82 = .ok (.aload_n 0, 1) := by decide +kernel
theorem dX12_readSet_83 : decode cX12_readSet 83 = .ok (.iload_n 2, 1) := by decide +kernel
theorem dX12_readSet_84 : decode cX12_readSet 84 = .ok (.invokevirtual 349, 3) := by decide +kernel
theorem dX12_readSet_87 : decode cX12_readSet 87 = .ok (.bipush 45, 2) := by decide +kernel
theorem dX12_readSet_89 : decode cX12_readSet 89 = .ok (.if_icmp .ne 39, 3) := by decide +kernel
theorem dX12_readSet_92 : decode cX12_readSet 92 = .ok (.iload_n 2, 1) := by decide +kernel
theorem dX12_readSet_93 : decode cX12_readSet 93 = .ok (.iconst 1, 1) := by decide +kernel
theorem dX12_readSet_94 : decode cX12_readSet 94 = .ok (.iadd, 1) := by decide +kernel
theorem dX12_readSet_95 : decode cX12_readSet 95 = .ok (.istore 7, 2) := by decide +kernel
theorem dX12_readSet_97 : decode cX12_readSet 97 = .ok (.aload_n 0, 1) := by decide +kernel
theorem dX12_readSet_98 : decode cX12_readSet 98 = .ok (.iload 7, 2) := by decide +kernel
theorem dX12_readSet_100 : decode cX12_readSet 100 = .ok (.invokevirtual 411, 3) := by decide +kernel
theorem dX12_readSet_103 : decode cX12_readSet 103 = .ok (.aload_n 0, 1) := by decide +kernel
theorem dX12_readSet_104 : decode cX12_readSet 104 = .ok (.getfield 402, 3) := by decide +kernel
theorem dX12_readSet_107 : decode cX12_readSet 107 = .ok (.istore 6, 2) := by decide +kernel
theorem dX12_readSet_109 : decode cX12_readSet 109 = .ok (.aload_n 0, 1) := by decide +kernel
theorem dX12_readSet_110 : decode cX12_readSet 110 = .ok (.getfield 405, 3) := by decide +kernel
theorem dX12_readSet_113 : decode cX12_readSet 113 = .ok (.istore_n 2, 1) := by decide +kernel
theorem dX12_readSet_114 : decode cX12_readSet 114 = .ok (.iload 6, 2) := by decide +kernel
theorem dX12_readSet_116 : decode cX12_readSet 116 = .ok (.iload 5, 2) := by decide +kernel
theorem dX12_readSet_118 : decode cX12_readSet 118 = .ok (.if_icmp .ge 10, 3) := by decide +kernel
theorem dX12_readSet_121 : decode cX12_readSet 121 = .ok (.aload_n 0, 1) := by decide +kernel
theorem dX12_readSet_122 : decode cX12_readSet 122 = .ok (.iconst 3, 1) := by decide +kernel
theorem dX12_readSet_123 : decode cX12_readSet 123 = .ok (.iload 7, 2) := by decide +kernel
theorem dX12_readSet_125 : decode cX12_readSet 125 = .ok (.invokevirtual 345, 3) := by decide +kernel
theorem dX12_readSet_128 : decode cX12_readSet 128 = .ok (.aload_n 0, 1) := by decide +kernel
theorem dX12_readSet_129 : decode cX12_readSet 129 = .ok (.getfield 320, 3) := by decide +kernel
theorem dX12_readSet_132 : decode cX12_readSet 132 = .ok (.ifCond .ne 11, 3) := by decide +kernel
theorem dX12_readSet_135 : decode cX12_readSet 135 = .ok (.aload_n 0, 1) := by decide +kernel
theorem dX12_readSet_136 : decode cX12_readSet 136 = .ok (.iload 5, 2) := by decide +kernel
theorem dX12_readSet_138 : decode cX12_readSet 138 = .ok (.iload 6, 2) := by decide +kernel
theorem dX12_readSet_140 : decode cX12_readSet 140 = .ok (.invokevirtual 414, 3) := by decide +kernel
theorem dX12_readSet_143 : decode cX12_readSet 143 = .ok (.aload_n 0, 1) := by decide +kernel
theorem dX12_readSet_144 : decode cX12_readSet 144 = .ok (.iload_n 2, 1) := by decide +kernel
theorem dX12_readSet_145 : decode cX12_readSet 145 = .ok (.invokevirtual 349, 3) := by decide +kernel
theorem dX12_readSet_148 : decode cX12_readSet 148 = .ok (.bipush 93, 2) := by decide +kernel
theorem dX12_readSet_150 : decode cX12_readSet 150 = .ok (.if_icmp .eq 7, 3) := by decide +kernel
theorem dX12_readSet_153 : decode cX12_readSet 153 = .ok (.iconst 1, 1) := by decide +kernel
theorem dX12_readSet_154 : decode cX12_readSet 154 = .ok (.goto 4, 3) := by decide +kernel
theorem dX12_readSet_157 : decode cX12_readSet 157 = .ok (.iconst 0, 1) := by decide +kernel
theorem dX12_readSet_158 : decode cX12_readSet 158 = .ok (.istore 4, 2) := by decide +kernel
theorem dX12_readSet_160 : decode cX12_readSet 160 = .ok (.goto (-117), 3) := by decide +kernel
theorem dX12_readSet_163 : decode cX12_readSet 163 = .ok (.aload_n 0, 1) := by decide +kernel
theorem dX12_readSet_164 : decode cX12_readSet 164 = .ok (.iload_n 2, 1) := by decide +kernel
theorem dX12_readSet_165 : decode cX12_readSet 165 = .ok (.iconst 1, 1) := by decide +kernel
theorem dX12_readSet_166 : decode cX12_readSet 166 = .ok (.iadd, 1) := by decide +kernel
theorem dX12_readSet_167 : decode cX12_readSet 167 = .ok (.putfield 362, 3) := by decide +kernel
theorem dX12_readSet_170 : decode cX12_readSet 170 = .ok (.aload_n 0, 1) := by decide +kernel
theorem dX12_readSet_171 : decode cX12_readSet 171 = .ok (.iload_n 1, 1) := by decide +kernel
theorem dX12_readSet_172 : decode cX12_readSet 172 = .ok (.iload_n 3, 1) := by decide +kernel
theorem dX12_readSet_173 : decode cX12_readSet 173 = .ok (.invokevirtual 417, 3) := by decide +kernel
theorem dX12_readSet_176 : decode cX12_readSet 176 = .ok (.ireturn, 1) := by decide +kernel
theorem dX12_replace_0 : decode cX12_replace 0 = .ok (.aload_n 0, 1) := by decide +kernel
theorem dX12_replace_1 : decode cX12_replace 1 = .ok (.iconst 0, 1) := by decide +kernel
theorem dX12_replace_2 : decode cX12_replace 2 = .ok (.putfield 1, 3) := by decide +kernel
theorem dX12_replace_5 : decode cX12_replace 5 = .ok (.aload_n 0, 1) := by decide +kernel
theorem dX12_replace_6 : decode cX12_replace 6 = .ok (.iload_n 1, 1) := by decide +kernel
theorem dX12_replace_7 : decode cX12_replace 7 = .ok (.iload_n 2, 1) := by decide +kernel
theorem dX12_replace_8 : decode cX12_replace 8 = .ok (.invokevirtual 687, 3) := by decide +kernel
theorem dX12_replace_11 : decode cX12_replace 11 = .ok (.istore 4, 2) := by decide +kernel
theorem dX12_replace_13 : decode cX12_replace 13 = .ok (.iload 4, 2) := by decide +kernel
theorem dX12_replace_15 : decode cX12_replace 15 = .ok (.ifCond .ne 17, 3) := by decide +kernel
theorem dX12_replace_18 : decode cX12_replace 18 = .ok (.iload_n 3, 1) := by decide +kernel
theorem dX12_replace_19 : decode cX12_replace 19 = .ok (.iconst 0, 1) := by decide +kernel
theorem dX12_replace_20 : decode cX12_replace 20 = .ok (.iconst 2, 1) := by decide +kernel
theorem dX12_replace_21 : decode cX12_replace 21 = .ok (.invokestatic 7, 3) := by decide +kernel
theorem dX12_replace_24 : decode cX12_replace 24 = .ok (.ifCond .ne 8, 3) := by decide +kernel
theorem dX12_replace_27 : decode cX12_replace 27 = .ok (.bipush (-4), 2) := by decide +kernel
theorem dX12_replace_29 : decode cX12_replace 29 = .ok (.goto 5, 3) := by decide +kernel
theorem dX12_replace_32 : decode cX12_replace 32 = .ok (.iload 4, 2) := by decide +kernel
theorem dX12_replace_34 : decode cX12_replace 34 = .ok (.istore 4, 2) := by decide +kernel
theorem dX12_replace_36 : decode cX12_replace 36 = .ok (.iload 4, 2) := by decide +kernel
theorem dX12_replace_38 : decode cX12_replace 38 = .ok (.ifCond .ne 16, 3) := by decide +kernel
theorem dX12_replace_41 : decode cX12_replace 41 = .ok (.aload_n 0, 1) := by decide +kernel
theorem dX12_replace_42 : decode cX12_replace 42 = .ok (.iload_n 1, 1) := by decide +kernel
theorem dX12_replace_43 : decode cX12_replace 43 = .ok (.invokevirtual 708, 3) := by decide +kernel
theorem dX12_replace_46 : decode cX12_replace 46 = .ok (.ifCond .ne 8, 3) := by decide +kernel
theorem dX12_replace_49 : decode cX12_replace 49 = .ok (.bipush (-5), 2) := by decide +kernel
theorem dX12_replace_51 : decode cX12_replace 51 = .ok (.goto 5, 3) := by decide +kernel
theorem dX12_replace_54 : decode cX12_replace 54 = .ok (.iload 4, 2) := by decide +kernel
theorem dX12_replace_56 : decode cX12_replace 56 = .ok (.istore 4, 2) := by decide +kernel
theorem dX12_replace_58 : decode cX12_replace 58 = .ok (.iload 4, 2) := by decide +kernel
theorem dX12_replace_60 : decode cX12_replace 60 = .ok (.ifCond .ne 12, 3) := by decide +kernel
theorem dX12_replace_63 : decode cX12_replace 63 = .ok (.aload_n 0, 1) := by decide +kernel
theorem dX12_replace_64 : decode cX12_replace 64 = .ok (.iload_n 1, 1) := by decide +kernel
theorem dX12_replace_65 : decode cX12_replace 65 = .ok (.iload_n 3, 1) := by decide +kernel
theorem dX12_replace_66 : decode cX12_replace 66 = .ok (.invokevirtual 690, 3) := by decide +kernel
theorem dX12_replace_69 : decode cX12_replace 69 = .ok (.goto 5, 3) := by decide +kernel
theorem dX12_replace_72 : decode cX12_replace 72 = .ok (.iload 4, 2) := by decide +kernel
theorem dX12_replace_74 : decode cX12_replace 74 = .ok (.istore 4, 2) := by decide +kernel
theorem dX12_replace_76 : decode cX12_replace 76 = .ok (.iload 4, 2) := by decide +kernel
theorem dX12_replace_78 : decode cX12_replace 78 = .ok (.ifCond .ne 13, 3) := by decide +kernel
theorem dX12_replace_81 : decode cX12_replace 81 = .ok (.aload_n 0, 1) := by decide +kernel
theorem dX12_replace_82 : decode cX12_replace 82 = .ok (.iload_n 1, 1) := by decide +kernel
theorem dX12_replace_83 : decode cX12_replace 83 = .ok (.iload_n 2, 1) := by decide +kernel
theorem dX12_replace_84 : decode cX12_replace 84 = .ok (.iload_n 3, 1) := by decide +kernel
theorem dX12_replace_85 : decode cX12_replace 85 = .ok (.invokevirtual 699, 3) := by decide +kernel
theorem dX12_replace_88 : decode cX12_replace 88 = .ok (.goto 5, 3) := by decide +kernel
theorem dX12_replace_91 : decode cX12_replace 91 = .ok (.iload 4, 2) := by decide +kernel
theorem dX12_replace_93 : decode cX12_replace 93 = .ok (.istore 4, 2) := by decide +kernel
theorem dX12_replace_95 : decode cX12_replace 95 = .ok (.iload 4, 2) := by decide +kernel
theorem dX12_replace_97 : decode cX12_replace 97 = .ok (.ifCond .eq 6, 3) := by decide +kernel
theorem dX12_replace_100 : decode cX12_replace 100 = .ok (.iload 4, 2) := by decide +kernel
theorem dX12_replace_102 : decode cX12_replace 102 = .ok (.ireturn, 1) := by decide +kernel
theorem dX12_replace_103 : decode cX12_replace 103 = .ok (.aload_n 0, 1) := by decide +kernel
theorem dX12_replace_104 : decode cX12_replace 104 = .ok (.iconst 0, 1) := by decide +kernel
theorem dX12_replace_105 : decode cX12_replace 105 = .ok (.putfield 702, 3) := by decide +kernel
theorem dX12_replace_108 : decode cX12_replace 108 = .ok (.iconst 0, 1) := by decide +kernel
theorem dX12_replace_109 : decode cX12_replace 109 = .ok (.istore 5, 2) := by decide +kernel
theorem dX12_replace_111 : decode cX12_replace 111 = .ok (.iconst 0, 1) := by decide +kernel
theorem dX12_replace_112 : decode cX12_replace 112 = .ok (.istore 6, 2) := by decide +kernel
theorem dX12_replace_114 : decode cX12_replace 114 = .ok (.iload 6, 2) := by decide +kernel
theorem dX12_replace_116 : decode cX12_replace 116 = .ok (.aload_n 0, 1) := by decide +kernel
theorem dX12_replace_117 : decode cX12_replace 117 = .ok (.getfield 696, 3) := by decide +kernel
theorem dX12_replace_120 : decode cX12_replace 120 = .ok (.if_icmp .ge 155, 3) := by decide +kernel
theorem dX12_replace_123 : decode cX12_replace 123 = .ok (.aload_n 0, 1) := by decide +kernel
theorem dX12_replace_124 : decode cX12_replace 124 = .ok (.iload_n 2, 1) := by decide +kernel
theorem dX12_replace_125 : decode cX12_replace 125 = .ok (.iload 5, 2) := by decide +kernel
theorem dX12_replace_127 : decode cX12_replace 127 = .ok (.aload_n 0, 1) := by decide +kernel
theorem dX12_replace_128 : decode cX12_replace 128 = .ok (.getfield 237, 3) := by decide +kernel
theorem dX12_replace_131 : decode cX12_replace 131 = .ok (.bipush 20, 2) := by decide +kernel
theorem dX12_replace_133 : decode cX12_replace 133 = .ok (.iload 6, 2) := by decide +kernel
theorem dX12_replace_135 : decode cX12_replace 135 = .ok (.imul, 1) := by decide +kernel
theorem dX12_replace_136 : decode cX12_replace 136 = .ok (.iaload, 1) := by decide +kernel
theorem dX12_replace_137 : decode cX12_replace 137 = .ok (.invokevirtual 711, 3) := by decide +kernel
theorem dX12_replace_140 : decode cX12_replace 140 = .ok (.iconst 0, 1) := by decide +kernel
theorem dX12_replace_141 : decode cX12_replace 141 = .ok (.istore 7, 2) := by decide +kernel
theorem dX12_replace_143 : decode cX12_replace 143 = .ok (.iload 7, 2) := by decide +kernel
theorem dX12_replace_145 : decode cX12_replace 145 = .ok (.aload_n 0, 1) := by decide +kernel
theorem dX12_replace_146 : decode cX12_replace 146 = .ok (.getfield 317, 3) := by decide +kernel
theorem dX12_replace_149 : decode cX12_replace 149 = .ok (.if_icmp .ge 106, 3) := by decide +kernel
theorem dX12_replace_152 : decode cX12_replace 152 = .ok (.aload_n 0, 1) := by decide +kernel
theorem dX12_replace_153 : decode cX12_replace 153 = .ok (.getfield 24, 3) := by decide +kernel
theorem dX12_replace_156 : decode cX12_replace 156 = .ok (.iload 7, 2) := by decide +kernel
theorem dX12_replace_158 : decode cX12_replace 158 = .ok (.iaload, 1) := by decide +kernel
theorem dX12_replace_159 : decode cX12_replace 159 = .ok (.istore 8, 2) := by decide +kernel
theorem dX12_replace_161 : decode cX12_replace 161 = .ok (.iload 8, 2) := by decide +kernel
theorem dX12_replace_163 : decode cX12_replace 163 = .ok (.bipush 36, 2) := by decide +kernel
theorem dX12_replace_165 : decode cX12_replace 165 = .ok (.if_icmp .ne 78, 3) := by decide +kernel
theorem dX12_replace_168 : decode cX12_replace 168 = .ok (.iinc 7 1, 3) := by decide +kernel
theorem dX12_replace_171 : decode cX12_replace 171 = .ok (.aload_n 0, 1) := by decide +kernel
theorem dX12_replace_172 : decode cX12_replace 172 = .ok (.getfield 24, 3) := by decide +kernel
theorem dX12_replace_175 : decode cX12_replace 175 = .ok (.iload 7, 2) := by decide +kernel
theorem dX12_replace_177 : decode cX12_replace 177 = .ok (.iaload, 1) := by decide +kernel
theorem dX12_replace_178 : decode cX12_replace 178 = .ok (.istore 8, 2) := by decide +kernel
theorem dX12_replace_180 : decode cX12_replace 180 = .ok (.iload 8, 2) := by decide +kernel
theorem dX12_replace_182 : decode cX12_replace 182 = .ok (.invokestatic 15, 3) := by decide +kernel
theorem dX12_replace_185 : decode cX12_replace 185 = .ok (.ifCond .eq 49, 3) := by decide +kernel
theorem dX12_replace_188 : decode cX12_replace 188 = .ok (.aload_n 0, 1) := by decide +kernel
theorem dX12_replace_189 : decode cX12_replace 189 = .ok (.iload_n 2, 1) := by decide +kernel
theorem dX12_replace_190 : decode cX12_replace 190 = .ok (.aload_n 0, 1) := by decide +kernel
theorem dX12_replace_191 : decode cX12_replace 191 = .ok (.getfield 237, 3) := by decide +kernel
theorem dX12_replace_194 : decode cX12_replace 194 = .ok (.bipush 20, 2) := by decide +kernel
theorem dX12_replace_196 : decode cX12_replace 196 = .ok (.iload 6, 2) := by decide +kernel
theorem dX12_replace_198 : decode cX12_replace 198 = .ok (.imul, 1) := by decide +kernel
theorem dX12_replace_199 : decode cX12_replace 199 = .ok (.iconst 2, 1) := by decide +kernel
theorem dX12_replace_200 : decode cX12_replace 200 = .ok (.iload 8, 2) := by decide +kernel
theorem dX12_replace_202 : decode cX12_replace 202 = .ok (.bipush 48, 2) := by decide +kernel
theorem dX12_replace_204 : decode cX12_replace 204 = .ok (.isub, 1) := by decide +kernel
theorem dX12_replace_205 : decode cX12_replace 205 = .ok (.imul, 1) := by decide +kernel
theorem dX12_replace_206 : decode cX12_replace 206 = .ok (.iadd, 1) := by decide +kernel
theorem dX12_replace_207 : decode cX12_replace 207 = .ok (.iaload, 1) := by decide +kernel
theorem dX12_replace_208 : decode cX12_replace 208 = .ok (.aload_n 0, 1) := by decide +kernel
theorem dX12_replace_209 : decode cX12_replace 209 = .ok (.getfield 237, 3) := by decide +kernel
theorem dX12_replace_212 : decode cX12_replace 212 = .ok (.bipush 20, 2) := by decide +kernel
theorem dX12_replace_214 : decode cX12_replace 214 = .ok (.iload 6, 2) := by decide +kernel
theorem dX12_replace_216 : decode cX12_replace 216 = .ok (.imul, 1) := by decide +kernel
theorem dX12_replace_217 : decode cX12_replace 217 = .ok (.iconst 2, 1) := by decide +kernel
theorem dX12_replace_218 : decode cX12_replace 218 = .ok (.iload 8, 2) := by decide +kernel
theorem dX12_replace_220 : decode cX12_replace 220 = .ok (.bipush 48, 2) := by decide +kernel
theorem dX12_replace_222 : decode cX12_replace 222 = .ok (.isub, 1) := by decide +kernel
theorem dX12_replace_223 : decode cX12_replace 223 = .ok (.imul, 1) := by decide +kernel
theorem dX12_replace_224 : decode cX12_replace 224 = .ok (.iadd, 1) := by decide +kernel
theorem dX12_replace_225 : decode cX12_replace 225 = .ok (.iconst 1, 1) := by decide +kernel
theorem dX12_replace_226 : decode cX12_replace 226 = .ok (.iadd, 1) := by decide +kernel
theorem dX12_replace_227 : decode cX12_replace 227 = .ok (.iaload, 1) := by decide +kernel
theorem dX12_replace_228 : decode cX12_replace 228 = .ok (.invokevirtual 711, 3) := by decide +kernel
theorem dX12_replace_231 : decode cX12_replace 231 = .ok (.goto 18, 3) := by decide +kernel
theorem dX12_replace_234 : decode cX12_replace 234 = .ok (.aload_n 0, 1) := by decide +kernel
theorem dX12_replace_235 : decode cX12_replace 235 = .ok (.iload 8, 2) := by decide +kernel
theorem dX12_replace_237 : decode cX12_replace 237 = .ok (.invokevirtual 705, 3) := by decide +kernel
theorem dX12_replace_240 : decode cX12_replace 240 = .ok (.goto 9, 3) := by decide +kernel
theorem dX12_replace_243 : decode cX12_replace 243 = .ok (.aload_n 0, 1) := by decide +kernel
theorem dX12_replace_244 : decode cX12_replace 244 = .ok (.iload 8, 2) := by decide +kernel
theorem dX12_replace_246 : decode cX12_replace 246 = .ok (.invokevirtual 705, 3) := by decide +kernel
theorem dX12_replace_249 : decode cX12_replace 249 = .ok (.iinc 7 1, 3) := by decide +kernel
theorem dX12_replace_252 : decode cX12_replace 252 = .ok (.goto (-109), 3) := by decide +kernel
theorem dX12_replace_255 : decode cX12_replace 255 = .ok (.aload_n 0, 1) := by decide +kernel
theorem dX12_replace_256 : decode cX12_replace 256 = .ok (.getfield 237, 3) := by decide +kernel
theorem dX12_replace_259 : decode cX12_replace 259 = .ok (.bipush 20, 2) := by decide +kernel
theorem dX12_replace_261 : decode cX12_replace 261 = .ok (.iload 6, 2) := by decide +kernel
theorem dX12_replace_263 : decode cX12_replace 263 = .ok (.imul, 1) := by decide +kernel
theorem dX12_replace_264 : decode cX12_replace 264 = .ok (.iconst 1, 1) := by decide +kernel
theorem dX12_replace_265 : decode cX12_replace 265 = .ok (.iadd, 1) := by decide +kernel
theorem dX12_replace_266 : decode cX12_replace 266 = .ok (.iaload, 1) := by decide +kernel
theorem dX12_replace_267 : decode cX12_replace 267 = .ok (.istore 5, 2) := by decide +kernel
theorem dX12_replace_269 : decode cX12_replace 269 = .ok (.iinc 6 1, 3) := by decide +kernel
theorem dX12_replace_272 : decode cX12_replace 272 = .ok (.goto (-158), 3) := by decide +kernel
theorem dX12_replace_275 : decode cX12_replace 275 = .ok (.aload_n 0, 1) := by decide +kernel
theorem dX12_replace_276 : decode cX12_replace 276 = .ok (.iload_n 2, 1) := by decide +kernel
theorem dX12_replace_277 : decode cX12_replace 277 = .ok (.iload 5, 2) := by decide +kernel
theorem dX12_replace_279 : decode cX12_replace 279 = .ok (.aload_n 0, 1) := by decide +kernel
theorem dX12_replace_280 : decode cX12_replace 280 = .ok (.getfield 174, 3) := by decide +kernel
theorem dX12_replace_283 : decode cX12_replace 283 = .ok (.iload_n 2, 1) := by decide +kernel
theorem dX12_replace_284 : decode cX12_replace 284 = .ok (.iaload, 1) := by decide +kernel
theorem dX12_replace_285 : decode cX12_replace 285 = .ok (.invokevirtual 711, 3) := by decide +kernel
theorem dX12_replace_288 : decode cX12_replace 288 = .ok (.aload_n 0, 1) := by decide +kernel
theorem dX12_replace_289 : decode cX12_replace 289 = .ok (.getfield 702, 3) := by decide +kernel
theorem dX12_replace_292 : decode cX12_replace 292 = .ok (.sipush 400, 3) := by decide +kernel
theorem dX12_replace_295 : decode cX12_replace 295 = .ok (.if_icmp .le 11, 3) := by decide +kernel
theorem dX12_replace_298 : decode cX12_replace 298 = .ok (.aload_n 0, 1) := by decide +kernel
theorem dX12_replace_299 : decode cX12_replace 299 = .ok (.iconst 4, 1) := by decide +kernel
theorem dX12_replace_300 : decode cX12_replace 300 = .ok (.putfield 456, 3) := by decide +kernel
theorem dX12_replace_303 : decode cX12_replace 303 = .ok (.bipush (-9), 2) := by decide +kernel
theorem dX12_replace_305 : decode cX12_replace 305 = .ok (.ireturn, 1) := by decide +kernel
theorem dX12_replace_306 : decode cX12_replace 306 = .ok (.iconst 0, 1) := by decide +kernel
theorem dX12_replace_307 : decode cX12_replace 307 = .ok (.istore 6, 2) := by decide +kernel
theorem dX12_replace_309 : decode cX12_replace 309 = .ok (.iload 6, 2) := by decide +kernel
theorem dX12_replace_311 : decode cX12_replace 311 = .ok (.aload_n 0, 1) := by decide +kernel
theorem dX12_replace_312 : decode cX12_replace 312 = .ok (.getfield 702, 3) := by decide +kernel
theorem dX12_replace_315 : decode cX12_replace 315 = .ok (.if_icmp .ge 23, 3) := by decide +kernel
theorem dX12_replace_318 : decode cX12_replace 318 = .ok (.aload_n 0, 1) := by decide +kernel
theorem dX12_replace_319 : decode cX12_replace 319 = .ok (.getfield 155, 3) := by decide +kernel
theorem dX12_replace_322 : decode cX12_replace 322 = .ok (.iload 6, 2) := by decide +kernel
theorem dX12_replace_324 : decode cX12_replace 324 = .ok (.aload_n 0, 1) := by decide +kernel
theorem dX12_replace_325 : decode cX12_replace 325 = .ok (.getfield 240, 3) := by decide +kernel
theorem dX12_replace_328 : decode cX12_replace 328 = .ok (.iload 6, 2) := by decide +kernel
theorem dX12_replace_330 : decode cX12_replace 330 = .ok (.iaload, 1) := by decide +kernel
theorem dX12_replace_331 : decode cX12_replace 331 = .ok (.iastore, 1) := by decide +kernel
theorem dX12_replace_332 : decode cX12_replace 332 = .ok (.iinc 6 1, 3) := by decide +kernel
theorem dX12_replace_335 : decode cX12_replace 335 = .ok (.goto (-26), 3) := by decide +kernel
theorem dX12_replace_338 : decode cX12_replace 338 = .ok (.aload_n 0, 1) := by decide +kernel
theorem dX12_replace_339 : decode cX12_replace 339 = .ok (.aload_n 0, 1) := by decide +kernel
theorem dX12_replace_340 : decode cX12_replace 340 = .ok (.getfield 702, 3) := by decide +kernel
theorem dX12_replace_343 : decode cX12_replace 343 = .ok (.putfield 502, 3) := by decide +kernel
theorem dX12_replace_346 : decode cX12_replace 346 = .ok (.aload_n 0, 1) := by decide +kernel
theorem dX12_replace_347 : decode cX12_replace 347 = .ok (.iconst 0, 1) := by decide +kernel
theorem dX12_replace_348 : decode cX12_replace 348 = .ok (.putfield 505, 3) := by decide +kernel
theorem dX12_replace_351 : decode cX12_replace 351 = .ok (.aload_n 0, 1) := by decide +kernel
theorem dX12_replace_352 : decode cX12_replace 352 = .ok (.iconst 0, 1) := by decide +kernel
theorem dX12_replace_353 : decode cX12_replace 353 = .ok (.putfield 317, 3) := by decide +kernel
theorem dX12_replace_356 : decode cX12_replace 356 = .ok (.aload_n 0, 1) := by decide +kernel
theorem dX12_replace_357 : decode cX12_replace 357 = .ok (.getfield 502, 3) := by decide +kernel
theorem dX12_replace_360 : decode cX12_replace 360 = .ok (.ireturn, 1) := by decide +kernel
theorem dX12_risky_0 : decode cX12_risky 0 = .ok (.aload_n 0, 1) := by decide +kernel
theorem dX12_risky_1 : decode cX12_risky 1 = .ok (.iconst 0, 1) := by decide +kernel
theorem dX12_risky_2 : decode cX12_risky 2 = .ok (.putfield 1, 3) := by decide +kernel
theorem dX12_risky_5 : decode cX12_risky 5 = .ok (.aload_n 0, 1) := by decide +kernel
theorem dX12_risky_6 : decode cX12_risky 6 = .ok (.iload_n 1, 1) := by decide +kernel
theorem dX12_risky_7 : decode cX12_risky 7 = .ok (.invokevirtual 459, 3) := by decide +kernel
theorem dX12_risky_10 : decode cX12_risky 10 = .ok (.ifCond .eq 6, 3) := by decide +kernel
theorem dX12_risky_13 : decode cX12_risky 13 = .ok (.bipush (-2), 2) := by decide +kernel
theorem dX12_risky_15 : decode cX12_risky 15 = .ok (.ireturn, 1) := by decide +kernel
theorem dX12_risky_16 : decode cX12_risky 16 = .ok (.sipush 220, 3) := by decide +kernel
theorem dX12_risky_19 : decode cX12_risky 19 = .ok (.iload_n 1, 1) := by decide +kernel
theorem dX12_risky_20 : decode cX12_risky 20 = .ok (.imul, 1) := by decide +kernel
theorem dX12_risky_21 : decode cX12_risky 21 = .ok (.istore_n 2, 1) := by decide +kernel
theorem dX12_risky_22 : decode cX12_risky 22 = .ok (.iconst 0, 1) := by decide +kernel
theorem dX12_risky_23 : decode cX12_risky 23 = .ok (.istore_n 3, 1) := by decide +kernel
theorem dX12_risky_24 : decode cX12_risky 24 = .ok (.iload_n 3, 1) := by decide +kernel
theorem dX12_risky_25 : decode cX12_risky 25 = .ok (.aload_n 0, 1) := by decide +kernel
theorem dX12_risky_26 : decode cX12_risky 26 = .ok (.getfield 35, 3) := by decide +kernel
theorem dX12_risky_29 : decode cX12_risky 29 = .ok (.iload_n 1, 1) := by decide +kernel
theorem dX12_risky_30 : decode cX12_risky 30 = .ok (.iaload, 1) := by decide +kernel
theorem dX12_risky_31 : decode cX12_risky 31 = .ok (.if_icmp .ge 16, 3) := by decide +kernel
theorem dX12_risky_34 : decode cX12_risky 34 = .ok (.aload_n 0, 1) := by decide +kernel
theorem dX12_risky_35 : decode cX12_risky 35 = .ok (.getfield 168, 3) := by decide +kernel
theorem dX12_risky_38 : decode cX12_risky 38 = .ok (.iload_n 3, 1) := by decide +kernel
theorem dX12_risky_39 : decode cX12_risky 39 = .ok (.iconst 0, 1) := by decide +kernel
theorem dX12_risky_40 : decode cX12_risky 40 = .ok (.bastore, 1) := by decide +kernel
theorem dX12_risky_41 : decode cX12_risky 41 = .ok (.iinc 3 1, 3) := by decide +kernel
theorem dX12_risky_44 : decode cX12_risky 44 = .ok (.goto (-20), 3) := by decide +kernel
theorem dX12_risky_47 : decode cX12_risky 47 = .ok (.aload_n 0, 1) := by decide +kernel
theorem dX12_risky_48 : decode cX12_risky 48 = .ok (.iload_n 1, 1) := by decide +kernel
theorem dX12_risky_49 : decode cX12_risky 49 = .ok (.invokevirtual 528, 3) := by decide +kernel
theorem dX12_risky_52 : decode cX12_risky 52 = .ok (.aload_n 0, 1) := by decide +kernel
theorem dX12_risky_53 : decode cX12_risky 53 = .ok (.invokevirtual 531, 3) := by decide +kernel
theorem dX12_risky_56 : decode cX12_risky 56 = .ok (.iconst 0, 1) := by decide +kernel
theorem dX12_risky_57 : decode cX12_risky 57 = .ok (.istore_n 3, 1) := by decide +kernel
theorem dX12_risky_58 : decode cX12_risky 58 = .ok (.iload_n 3, 1) := by decide +kernel
theorem dX12_risky_59 : decode cX12_risky 59 = .ok (.aload_n 0, 1) := by decide +kernel
theorem dX12_risky_60 : decode cX12_risky 60 = .ok (.getfield 524, 3) := by decide +kernel
theorem dX12_risky_63 : decode cX12_risky 63 = .ok (.if_icmp .ge 146, 3) := by decide +kernel
theorem dX12_risky_66 : decode cX12_risky 66 = .ok (.aload_n 0, 1) := by decide +kernel
theorem dX12_risky_67 : decode cX12_risky 67 = .ok (.iload_n 1, 1) := by decide +kernel
theorem dX12_risky_68 : decode cX12_risky 68 = .ok (.aload_n 0, 1) := by decide +kernel
theorem dX12_risky_69 : decode cX12_risky 69 = .ok (.getfield 165, 3) := by decide +kernel
theorem dX12_risky_72 : decode cX12_risky 72 = .ok (.iload_n 3, 1) := by decide +kernel
theorem dX12_risky_73 : decode cX12_risky 73 = .ok (.iaload, 1) := by decide +kernel
theorem dX12_risky_74 : decode cX12_risky 74 = .ok (.invokevirtual 521, 3) := by decide +kernel
theorem dX12_risky_77 : decode cX12_risky 77 = .ok (.iconst 0, 1) := by decide +kernel
theorem dX12_risky_78 : decode cX12_risky 78 = .ok (.istore 4, 2) := by decide +kernel
theorem dX12_risky_80 : decode cX12_risky 80 = .ok (.iload 4, 2) := by decide +kernel
theorem dX12_risky_82 : decode cX12_risky 82 = .ok (.aload_n 0, 1) := by decide +kernel
theorem dX12_risky_83 : decode cX12_risky 83 = .ok (.getfield 35, 3) := by decide +kernel
theorem dX12_risky_86 : decode cX12_risky 86 = .ok (.iload_n 1, 1) := by decide +kernel
theorem dX12_risky_87 : decode cX12_risky 87 = .ok (.iaload, 1) := by decide +kernel
theorem dX12_risky_88 : decode cX12_risky 88 = .ok (.if_icmp .ge 115, 3) := by decide +kernel
theorem dX12_risky_91 : decode cX12_risky 91 = .ok (.aload_n 0, 1) := by decide +kernel
theorem dX12_risky_92 : decode cX12_risky 92 = .ok (.iload_n 2, 1) := by decide +kernel
theorem dX12_risky_93 : decode cX12_risky 93 = .ok (.iload 4, 2) := by decide +kernel
theorem dX12_risky_95 : decode cX12_risky 95 = .ok (.iadd, 1) := by decide +kernel
theorem dX12_risky_96 : decode cX12_risky 96 = .ok (.invokevirtual 534, 3) := by decide +kernel
theorem dX12_risky_99 : decode cX12_risky 99 = .ok (.ifCond .eq 19, 3) := by decide +kernel
theorem dX12_risky_102 : decode cX12_risky 102 = .ok (.aload_n 0, 1) := by decide +kernel
theorem dX12_risky_103 : decode cX12_risky 103 = .ok (.getfield 158, 3) := by decide +kernel
theorem dX12_risky_106 : decode cX12_risky 106 = .ok (.iload 4, 2) := by decide +kernel
theorem dX12_risky_108 : decode cX12_risky 108 = .ok (.iconst 1, 1) := by decide +kernel
theorem dX12_risky_109 : decode cX12_risky 109 = .ok (.iadd, 1) := by decide +kernel
theorem dX12_risky_110 : decode cX12_risky 110 = .ok (.baload, 1) := by decide +kernel
theorem dX12_risky_111 : decode cX12_risky 111 = .ok (.ifCond .eq 7, 3) := by decide +kernel
theorem dX12_risky_114 : decode cX12_risky 114 = .ok (.iconst 1, 1) := by decide +kernel
theorem dX12_risky_115 : decode cX12_risky 115 = .ok (.goto 4, 3) := by decide +kernel
theorem dX12_risky_118 : decode cX12_risky 118 = .ok (.iconst 0, 1) := by decide +kernel
theorem dX12_risky_119 : decode cX12_risky 119 = .ok (.istore 5, 2) := by decide +kernel
theorem dX12_risky_121 : decode cX12_risky 121 = .ok (.iload 4, 2) := by decide +kernel
theorem dX12_risky_123 : decode cX12_risky 123 = .ok (.iconst 1, 1) := by decide +kernel
theorem dX12_risky_124 : decode cX12_risky 124 = .ok (.iadd, 1) := by decide +kernel
theorem dX12_risky_125 : decode cX12_risky 125 = .ok (.istore 6, 2) := by decide +kernel
theorem dX12_risky_127 : decode cX12_risky 127 = .ok (.iload 5, 2) := by decide +kernel
theorem dX12_risky_129 : decode cX12_risky 129 = .ok (.ifCond .eq 68, 3) := by decide +kernel
theorem dX12_risky_132 : decode cX12_risky 132 = .ok (.iload 6, 2) := by decide +kernel
theorem dX12_risky_134 : decode cX12_risky 134 = .ok (.aload_n 0, 1) := by decide +kernel
theorem dX12_risky_135 : decode cX12_risky 135 = .ok (.getfield 62, 3) := by decide +kernel
theorem dX12_risky_138 : decode cX12_risky 138 = .ok (.iload_n 2, 1) := by decide +kernel
theorem dX12_risky_139 : decode cX12_risky 139 = .ok (.iload 4, 2) := by decide +kernel
theorem dX12_risky_141 : decode cX12_risky 141 = .ok (.iadd, 1) := by decide +kernel
theorem dX12_risky_142 : decode cX12_risky 142 = .ok (.iaload, 1) := by decide +kernel
theorem dX12_risky_143 : decode cX12_risky 143 = .ok (.if_icmp .ge 54, 3) := by decide +kernel
theorem dX12_risky_146 : decode cX12_risky 146 = .ok (.aload_n 0, 1) := by decide +kernel
theorem dX12_risky_147 : decode cX12_risky 147 = .ok (.getfield 168, 3) := by decide +kernel
theorem dX12_risky_150 : decode cX12_risky 150 = .ok (.iload 4, 2) := by decide +kernel
theorem dX12_risky_152 : decode cX12_risky 152 = .ok (.aload_n 0, 1) := by decide +kernel
theorem dX12_risky_153 : decode cX12_risky 153 = .ok (.getfield 168, 3) := by decide +kernel
theorem dX12_risky_156 : decode cX12_risky 156 = .ok (.iload 4, 2) := by decide +kernel
theorem dX12_risky_158 : decode cX12_risky 158 = .ok (.baload, 1) := by decide +kernel
theorem dX12_risky_159 : decode cX12_risky 159 = .ok (.ifCond .ne 26, 3) := by decide +kernel
theorem dX12_risky_162 : decode cX12_risky 162 = .ok (.aload_n 0, 1) := by decide +kernel
theorem dX12_risky_163 : decode cX12_risky 163 = .ok (.iload_n 2, 1) := by decide +kernel
theorem dX12_risky_164 : decode cX12_risky 164 = .ok (.iload 6, 2) := by decide +kernel
theorem dX12_risky_166 : decode cX12_risky 166 = .ok (.iadd, 1) := by decide +kernel
theorem dX12_risky_167 : decode cX12_risky 167 = .ok (.invokevirtual 534, 3) := by decide +kernel
theorem dX12_risky_170 : decode cX12_risky 170 = .ok (.ifCond .eq 19, 3) := by decide +kernel
theorem dX12_risky_173 : decode cX12_risky 173 = .ok (.aload_n 0, 1) := by decide +kernel
theorem dX12_risky_174 : decode cX12_risky 174 = .ok (.getfield 158, 3) := by decide +kernel
theorem dX12_risky_177 : decode cX12_risky 177 = .ok (.iload 6, 2) := by decide +kernel
theorem dX12_risky_179 : decode cX12_risky 179 = .ok (.iconst 1, 1) := by decide +kernel
theorem dX12_risky_180 : decode cX12_risky 180 = .ok (.iadd, 1) := by decide +kernel
theorem dX12_risky_181 : decode cX12_risky 181 = .ok (.baload, 1) := by decide +kernel
theorem dX12_risky_182 : decode cX12_risky 182 = .ok (.ifCond .eq 7, 3) := by decide +kernel
theorem dX12_risky_185 : decode cX12_risky 185 = .ok (.iconst 1, 1) := by decide +kernel
theorem dX12_risky_186 : decode cX12_risky 186 = .ok (.goto 4, 3) := by decide +kernel
theorem dX12_risky_189 : decode cX12_risky 189 = .ok (.iconst 0, 1) := by decide +kernel
theorem dX12_risky_190 : decode cX12_risky 190 = .ok (.bastore, 1) := by decide +kernel
theorem dX12_risky_191 : decode cX12_risky 191 = .ok (.iinc 6 1, 3) := by decide +kernel
theorem dX12_risky_194 : decode cX12_risky 194 = .ok (.goto (-67), 3) := by decide +kernel
theorem dX12_risky_197 : decode cX12_risky 197 = .ok (.iinc 4 1, 3) := by decide +kernel
theorem dX12_risky_200 : decode cX12_risky 200 = .ok (.goto (-120), 3) := by decide +kernel
theorem dX12_risky_203 : decode cX12_risky 203 = .ok (.iinc 3 1, 3) := by decide +kernel
theorem dX12_risky_206 : decode cX12_risky 206 = .ok (.goto (-148), 3) := by decide +kernel
theorem dX12_risky_209 : decode cX12_risky 209 = .ok (.iconst 0, 1) := by decide +kernel
theorem dX12_risky_210 : decode cX12_risky 210 = .ok (.istore_n 3, 1) := by decide +kernel
theorem dX12_risky_211 : decode cX12_risky 211 = .ok (.iload_n 3, 1) := by decide +kernel
theorem dX12_risky_212 : decode cX12_risky 212 = .ok (.aload_n 0, 1) := by decide +kernel
theorem dX12_risky_213 : decode cX12_risky 213 = .ok (.getfield 35, 3) := by decide +kernel
theorem dX12_risky_216 : decode cX12_risky 216 = .ok (.iload_n 1, 1) := by decide +kernel
theorem dX12_risky_217 : decode cX12_risky 217 = .ok (.iaload, 1) := by decide +kernel
theorem dX12_risky_218 : decode cX12_risky 218 = .ok (.if_icmp .ge 20, 3) := by decide +kernel
theorem dX12_risky_221 : decode cX12_risky 221 = .ok (.aload_n 0, 1) := by decide +kernel
theorem dX12_risky_222 : decode cX12_risky 222 = .ok (.getfield 168, 3) := by decide +kernel
theorem dX12_risky_225 : decode cX12_risky 225 = .ok (.iload_n 3, 1) := by decide +kernel
theorem dX12_risky_226 : decode cX12_risky 226 = .ok (.baload, 1) := by decide +kernel
theorem dX12_risky_227 : decode cX12_risky 227 = .ok (.ifCond .eq 5, 3) := by decide +kernel
theorem dX12_risky_230 : decode cX12_risky 230 = .ok (.iload_n 3, 1) := by decide +kernel
theorem dX12_risky_231 : decode cX12_risky 231 = .ok (.ireturn, 1) := by decide +kernel
theorem dX12_risky_232 : decode cX12_risky 232 = .ok (.iinc 3 1, 3) := by decide +kernel
theorem dX12_risky_235 : decode cX12_risky 235 = .ok (.goto (-24), 3) := by decide +kernel
theorem dX12_risky_238 : decode cX12_risky 238 = .ok (.iconst (-1), 1) := by decide +kernel
theorem dX12_risky_239 : decode cX12_risky 239 = .ok (.ireturn, 1) := by decide +kernel
theorem dX12_searched_0 : decode cX12_searched 0 = .ok (.aload_n 0, 1) := by decide +kernel
theorem dX12_searched_1 : decode cX12_searched 1 = .ok (.sipush 220, 3) := by decide +kernel
theorem dX12_searched_4 : decode cX12_searched 4 = .ok (.iload_n 1, 1) := by decide +kernel
theorem dX12_searched_5 : decode cX12_searched 5 = .ok (.imul, 1) := by decide +kernel
theorem dX12_searched_6 : decode cX12_searched 6 = .ok (.putfield 629, 3) := by decide +kernel
theorem dX12_searched_9 : decode cX12_searched 9 = .ok (.aload_n 0, 1) := by decide +kernel
theorem dX12_searched_10 : decode cX12_searched 10 = .ok (.bipush 100, 2) := by decide +kernel
theorem dX12_searched_12 : decode cX12_searched 12 = .ok (.iload_n 2, 1) := by decide +kernel
theorem dX12_searched_13 : decode cX12_searched 13 = .ok (.imul, 1) := by decide +kernel
theorem dX12_searched_14 : decode cX12_searched 14 = .ok (.putfield 592, 3) := by decide +kernel
theorem dX12_searched_17 : decode cX12_searched 17 = .ok (.aload_n 0, 1) := by decide +kernel
theorem dX12_searched_18 : decode cX12_searched 18 = .ok (.aload_n 0, 1) := by decide +kernel
theorem dX12_searched_19 : decode cX12_searched 19 = .ok (.getfield 174, 3) := by decide +kernel
theorem dX12_searched_22 : decode cX12_searched 22 = .ok (.iload_n 2, 1) := by decide +kernel
theorem dX12_searched_23 : decode cX12_searched 23 = .ok (.iaload, 1) := by decide +kernel
theorem dX12_searched_24 : decode cX12_searched 24 = .ok (.putfield 595, 3) := by decide +kernel
theorem dX12_searched_27 : decode cX12_searched 27 = .ok (.aload_n 0, 1) := by decide +kernel
theorem dX12_searched_28 : decode cX12_searched 28 = .ok (.iconst 0, 1) := by decide +kernel
theorem dX12_searched_29 : decode cX12_searched 29 = .ok (.putfield 583, 3) := by decide +kernel
theorem dX12_searched_32 : decode cX12_searched 32 = .ok (.aload_n 0, 1) := by decide +kernel
theorem dX12_searched_33 : decode cX12_searched 33 = .ok (.iload 5, 2) := by decide +kernel
theorem dX12_searched_35 : decode cX12_searched 35 = .ok (.ifCond .eq 9, 3) := by decide +kernel
theorem dX12_searched_38 : decode cX12_searched 38 = .ok (.ldc_w 653, 3) := by decide +kernel
theorem dX12_searched_41 : decode cX12_searched 41 = .ok (.goto 5, 3) := by decide +kernel
theorem dX12_searched_44 : decode cX12_searched 44 = .ok (.iload 6, 2) := by decide +kernel
theorem dX12_searched_46 : decode cX12_searched 46 = .ok (.putfield 586, 3) := by decide +kernel
theorem dX12_searched_49 : decode cX12_searched 49 = .ok (.aload_n 0, 1) := by decide +kernel
theorem dX12_searched_50 : decode cX12_searched 50 = .ok (.iconst 0, 1) := by decide +kernel
theorem dX12_searched_51 : decode cX12_searched 51 = .ok (.putfield 589, 3) := by decide +kernel
theorem dX12_searched_54 : decode cX12_searched 54 = .ok (.aload_n 0, 1) := by decide +kernel
theorem dX12_searched_55 : decode cX12_searched 55 = .ok (.dup, 1) := by decide +kernel
theorem dX12_searched_56 : decode cX12_searched 56 = .ok (.getfield 644, 3) := by decide +kernel
theorem dX12_searched_59 : decode cX12_searched 59 = .ok (.iconst 1, 1) := by decide +kernel
theorem dX12_searched_60 : decode cX12_searched 60 = .ok (.iadd, 1) := by decide +kernel
theorem dX12_searched_61 : decode cX12_searched 61 = .ok (.putfield 644, 3) := by decide +kernel
theorem dX12_searched_64 : decode cX12_searched 64 = .ok (.iconst 0, 1) := by decide +kernel
theorem dX12_searched_65 : decode cX12_searched 65 = .ok (.istore 7, 2) := by decide +kernel
theorem dX12_searched_67 : decode cX12_searched 67 = .ok (.iload_n 3, 1) := by decide +kernel
theorem dX12_searched_68 : decode cX12_searched 68 = .ok (.istore 8, 2) := by decide +kernel
theorem dX12_searched_70 : decode cX12_searched 70 = .ok (.iload 7, 2) := by decide +kernel
theorem dX12_searched_72 : decode cX12_searched 72 = .ok (.ifCond .ne 39, 3) := by decide +kernel
theorem dX12_searched_75 : decode cX12_searched 75 = .ok (.iload 8, 2) := by decide +kernel
theorem dX12_searched_77 : decode cX12_searched 77 = .ok (.iload 4, 2) := by decide +kernel
theorem dX12_searched_79 : decode cX12_searched 79 = .ok (.ifCond .eq 7, 3) := by decide +kernel
theorem dX12_searched_82 : decode cX12_searched 82 = .ok (.iload_n 3, 1) := by decide +kernel
theorem dX12_searched_83 : decode cX12_searched 83 = .ok (.goto 7, 3) := by decide +kernel
theorem dX12_searched_86 : decode cX12_searched 86 = .ok (.aload_n 0, 1) := by decide +kernel
theorem dX12_searched_87 : decode cX12_searched 87 = .ok (.getfield 595, 3) := by decide +kernel
theorem dX12_searched_90 : decode cX12_searched 90 = .ok (.if_icmp .gt 21, 3) := by decide +kernel
theorem dX12_searched_93 : decode cX12_searched 93 = .ok (.aload_n 0, 1) := by decide +kernel
theorem dX12_searched_94 : decode cX12_searched 94 = .ok (.iload 8, 2) := by decide +kernel
theorem dX12_searched_96 : decode cX12_searched 96 = .ok (.iload 4, 2) := by decide +kernel
theorem dX12_searched_98 : decode cX12_searched 98 = .ok (.iload 5, 2) := by decide +kernel
theorem dX12_searched_100 : decode cX12_searched 100 = .ok (.invokevirtual 654, 3) := by decide +kernel
theorem dX12_searched_103 : decode cX12_searched 103 = .ok (.istore 7, 2) := by decide +kernel
theorem dX12_searched_105 : decode cX12_searched 105 = .ok (.iinc 8 1, 3) := by decide +kernel
