theorem dX12_printFrom_62 : decode cX12_printFrom 62 = .ok (.aload_n 0, 1) := by decide +kernel
theorem dX12_printFrom_63 : decode cX12_printFrom 63 = .ok (.iload_n 1, 1) := by decide +kernel
theorem dX12_printFrom_64 : decode cX12_printFrom 64 = .ok (.iload 5, 2) := by decide +kernel
theorem dX12_printFrom_66 : decode cX12_printFrom 66 = .ok (.invokevirtual 493, 3) := by decide +kernel
theorem dX12_printFrom_69 : decode cX12_printFrom 69 = .ok (.aload_n 0, 1) := by decide +kernel
theorem dX12_printFrom_70 : decode cX12_printFrom 70 = .ok (.getfield 146, 3) := by decide +kernel
theorem dX12_printFrom_73 : decode cX12_printFrom 73 = .ok (.iload 4, 2) := by decide +kernel
theorem dX12_printFrom_75 : decode cX12_printFrom 75 = .ok (.iconst 1, 1) := by decide +kernel
theorem dX12_printFrom_76 : decode cX12_printFrom 76 = .ok (.isub, 1) := by decide +kernel
theorem dX12_printFrom_77 : decode cX12_printFrom 77 = .ok (.iload 5, 2) := by decide +kernel
theorem dX12_printFrom_79 : decode cX12_printFrom 79 = .ok (.iconst 1, 1) := by decide +kernel
theorem dX12_printFrom_80 : decode cX12_printFrom 80 = .ok (.iadd, 1) := by decide +kernel
theorem dX12_printFrom_81 : decode cX12_printFrom 81 = .ok (.iastore, 1) := by decide +kernel
theorem dX12_printFrom_82 : decode cX12_printFrom 82 = .ok (.aload_n 0, 1) := by decide +kernel
theorem dX12_printFrom_83 : decode cX12_printFrom 83 = .ok (.getfield 146, 3) := by decide +kernel
theorem dX12_printFrom_86 : decode cX12_printFrom 86 = .ok (.iload 4, 2) := by decide +kernel
theorem dX12_printFrom_88 : decode cX12_printFrom 88 = .ok (.iconst 1, 1) := by decide +kernel
theorem dX12_printFrom_89 : decode cX12_printFrom 89 = .ok (.isub, 1) := by decide +kernel
theorem dX12_printFrom_90 : decode cX12_printFrom 90 = .ok (.iaload, 1) := by decide +kernel
theorem dX12_printFrom_91 : decode cX12_printFrom 91 = .ok (.istore 6, 2) := by decide +kernel
theorem dX12_printFrom_93 : decode cX12_printFrom 93 = .ok (.iload 6, 2) := by decide +kernel
theorem dX12_printFrom_95 : decode cX12_printFrom 95 = .ok (.aload_n 0, 1) := by decide +kernel
theorem dX12_printFrom_96 : decode cX12_printFrom 96 = .ok (.getfield 62, 3) := by decide +kernel
theorem dX12_printFrom_99 : decode cX12_printFrom 99 = .ok (.iload_n 3, 1) := by decide +kernel
theorem dX12_printFrom_100 : decode cX12_printFrom 100 = .ok (.iload 5, 2) := by decide +kernel
theorem dX12_printFrom_102 : decode cX12_printFrom 102 = .ok (.iadd, 1) := by decide +kernel
theorem dX12_printFrom_103 : decode cX12_printFrom 103 = .ok (.iaload, 1) := by decide +kernel
theorem dX12_printFrom_104 : decode cX12_printFrom 104 = .ok (.if_icmp .ge 73, 3) := by decide +kernel
theorem dX12_printFrom_107 : decode cX12_printFrom 107 = .ok (.aload_n 0, 1) := by decide +kernel
theorem dX12_printFrom_108 : decode cX12_printFrom 108 = .ok (.getfield 44, 3) := by decide +kernel
theorem dX12_printFrom_111 : decode cX12_printFrom 111 = .ok (.iload_n 3, 1) := by decide +kernel
theorem dX12_printFrom_112 : decode cX12_printFrom 112 = .ok (.iload 5, 2) := by decide +kernel
theorem dX12_printFrom_114 : decode cX12_printFrom 114 = .ok (.iadd, 1) := by decide +kernel
theorem dX12_printFrom_115 : decode cX12_printFrom 115 = .ok (.iaload, 1) := by decide +kernel
theorem dX12_printFrom_116 : decode cX12_printFrom 116 = .ok (.bipush 6, 2) := by decide +kernel
theorem dX12_printFrom_118 : decode cX12_printFrom 118 = .ok (.if_icmp .ne 18, 3) := by decide +kernel
theorem dX12_printFrom_121 : decode cX12_printFrom 121 = .ok (.iload 6, 2) := by decide +kernel
theorem dX12_printFrom_123 : decode cX12_printFrom 123 = .ok (.iload 5, 2) := by decide +kernel
theorem dX12_printFrom_125 : decode cX12_printFrom 125 = .ok (.iconst 1, 1) := by decide +kernel
theorem dX12_printFrom_126 : decode cX12_printFrom 126 = .ok (.iadd, 1) := by decide +kernel
theorem dX12_printFrom_127 : decode cX12_printFrom 127 = .ok (.if_icmp .le 9, 3) := by decide +kernel
theorem dX12_printFrom_130 : decode cX12_printFrom 130 = .ok (.aload_n 0, 1) := by decide +kernel
theorem dX12_printFrom_131 : decode cX12_printFrom 131 = .ok (.bipush 124, 2) := by decide +kernel
theorem dX12_printFrom_133 : decode cX12_printFrom 133 = .ok (.invokevirtual 468, 3) := by decide +kernel
theorem dX12_printFrom_136 : decode cX12_printFrom 136 = .ok (.aload_n 0, 1) := by decide +kernel
theorem dX12_printFrom_137 : decode cX12_printFrom 137 = .ok (.getfield 146, 3) := by decide +kernel
theorem dX12_printFrom_140 : decode cX12_printFrom 140 = .ok (.iload 4, 2) := by decide +kernel
theorem dX12_printFrom_142 : decode cX12_printFrom 142 = .ok (.iconst 1, 1) := by decide +kernel
theorem dX12_printFrom_143 : decode cX12_printFrom 143 = .ok (.isub, 1) := by decide +kernel
theorem dX12_printFrom_144 : decode cX12_printFrom 144 = .ok (.aload_n 0, 1) := by decide +kernel
theorem dX12_printFrom_145 : decode cX12_printFrom 145 = .ok (.getfield 62, 3) := by decide +kernel
theorem dX12_printFrom_148 : decode cX12_printFrom 148 = .ok (.iload_n 3, 1) := by decide +kernel
theorem dX12_printFrom_149 : decode cX12_printFrom 149 = .ok (.iload 6, 2) := by decide +kernel
theorem dX12_printFrom_151 : decode cX12_printFrom 151 = .ok (.iadd, 1) := by decide +kernel
theorem dX12_printFrom_152 : decode cX12_printFrom 152 = .ok (.iaload, 1) := by decide +kernel
theorem dX12_printFrom_153 : decode cX12_printFrom 153 = .ok (.iastore, 1) := by decide +kernel
theorem dX12_printFrom_154 : decode cX12_printFrom 154 = .ok (.aload_n 0, 1) := by decide +kernel
theorem dX12_printFrom_155 : decode cX12_printFrom 155 = .ok (.getfield 143, 3) := by decide +kernel
theorem dX12_printFrom_158 : decode cX12_printFrom 158 = .ok (.iload 4, 2) := by decide +kernel
theorem dX12_printFrom_160 : decode cX12_printFrom 160 = .ok (.iload 6, 2) := by decide +kernel
theorem dX12_printFrom_162 : decode cX12_printFrom 162 = .ok (.iastore, 1) := by decide +kernel
theorem dX12_printFrom_163 : decode cX12_printFrom 163 = .ok (.aload_n 0, 1) := by decide +kernel
theorem dX12_printFrom_164 : decode cX12_printFrom 164 = .ok (.getfield 146, 3) := by decide +kernel
theorem dX12_printFrom_167 : decode cX12_printFrom 167 = .ok (.iload 4, 2) := by decide +kernel
theorem dX12_printFrom_169 : decode cX12_printFrom 169 = .ok (.iconst (-1), 1) := by decide +kernel
theorem dX12_printFrom_170 : decode cX12_printFrom 170 = .ok (.iastore, 1) := by decide +kernel
theorem dX12_printFrom_171 : decode cX12_printFrom 171 = .ok (.iinc 4 1, 3) := by decide +kernel
theorem dX12_printFrom_174 : decode cX12_printFrom 174 = .ok (.goto 13, 3) := by decide +kernel
theorem dX12_printFrom_177 : decode cX12_printFrom 177 = .ok (.aload_n 0, 1) := by decide +kernel
theorem dX12_printFrom_178 : decode cX12_printFrom 178 = .ok (.iload_n 1, 1) := by decide +kernel
theorem dX12_printFrom_179 : decode cX12_printFrom 179 = .ok (.iload 5, 2) := by decide +kernel
theorem dX12_printFrom_181 : decode cX12_printFrom 181 = .ok (.invokevirtual 496, 3) := by decide +kernel
theorem dX12_printFrom_184 : decode cX12_printFrom 184 = .ok (.iinc 4 (-1), 3) := by decide +kernel
theorem dX12_printFrom_187 : decode cX12_printFrom 187 = .ok (.goto (-154), 3) := by decide +kernel
theorem dX12_printFrom_190 : decode cX12_printFrom 190 = .ok (.return_, 1) := by decide +kernel
theorem dX12_printHead_0 : decode cX12_printHead 0 = .ok (.sipush 220, 3) := by decide +kernel
theorem dX12_printHead_3 : decode cX12_printHead 3 = .ok (.iload_n 1, 1) := by decide +kernel
theorem dX12_printHead_4 : decode cX12_printHead 4 = .ok (.imul, 1) := by decide +kernel
theorem dX12_printHead_5 : decode cX12_printHead 5 = .ok (.iload_n 2, 1) := by decide +kernel
theorem dX12_printHead_6 : decode cX12_printHead 6 = .ok (.iadd, 1) := by decide +kernel
theorem dX12_printHead_7 : decode cX12_printHead 7 = .ok (.istore_n 3, 1) := by decide +kernel
theorem dX12_printHead_8 : decode cX12_printHead 8 = .ok (.aload_n 0, 1) := by decide +kernel
theorem dX12_printHead_9 : decode cX12_printHead 9 = .ok (.getfield 47, 3) := by decide +kernel
theorem dX12_printHead_12 : decode cX12_printHead 12 = .ok (.iload_n 3, 1) := by decide +kernel
theorem dX12_printHead_13 : decode cX12_printHead 13 = .ok (.iaload, 1) := by decide +kernel
theorem dX12_printHead_14 : decode cX12_printHead 14 = .ok (.istore 4, 2) := by decide +kernel
theorem dX12_printHead_16 : decode cX12_printHead 16 = .ok (.aload_n 0, 1) := by decide +kernel
theorem dX12_printHead_17 : decode cX12_printHead 17 = .ok (.iload_n 1, 1) := by decide +kernel
theorem dX12_printHead_18 : decode cX12_printHead 18 = .ok (.iload_n 2, 1) := by decide +kernel
theorem dX12_printHead_19 : decode cX12_printHead 19 = .ok (.invokevirtual 474, 3) := by decide +kernel
theorem dX12_printHead_22 : decode cX12_printHead 22 = .ok (.ifCond .eq 15, 3) := by decide +kernel
theorem dX12_printHead_25 : decode cX12_printHead 25 = .ok (.aload_n 0, 1) := by decide +kernel
theorem dX12_printHead_26 : decode cX12_printHead 26 = .ok (.bipush 40, 2) := by decide +kernel
theorem dX12_printHead_28 : decode cX12_printHead 28 = .ok (.invokevirtual 468, 3) := by decide +kernel
theorem dX12_printHead_31 : decode cX12_printHead 31 = .ok (.aload_n 0, 1) := by decide +kernel
theorem dX12_printHead_32 : decode cX12_printHead 32 = .ok (.bipush 58, 2) := by decide +kernel
theorem dX12_printHead_34 : decode cX12_printHead 34 = .ok (.invokevirtual 468, 3) := by decide +kernel
theorem dX12_printHead_37 : decode cX12_printHead 37 = .ok (.aload_n 0, 1) := by decide +kernel
theorem dX12_printHead_38 : decode cX12_printHead 38 = .ok (.getfield 44, 3) := by decide +kernel
theorem dX12_printHead_41 : decode cX12_printHead 41 = .ok (.iload_n 3, 1) := by decide +kernel
theorem dX12_printHead_42 : decode cX12_printHead 42 = .ok (.iaload, 1) := by decide +kernel
theorem dX12_printHead_43 : decode cX12_printHead 43 = .ok (.tableswitch 439 0 11 #[61, 124, 133, 237, 290, 439, 439, 439, 308, 362, 409, 424], 61) := by decide +kernel
theorem dX12_printHead_104 : decode cX12_printHead 104 = .ok (.iload 4, 2) := by decide +kernel
theorem dX12_printHead_106 : decode cX12_printHead 106 = .ok (.bipush 32, 2) := by decide +kernel
theorem dX12_printHead_108 : decode cX12_printHead 108 = .ok (.bipush 126, 2) := by decide +kernel
theorem dX12_printHead_110 : decode cX12_printHead 110 = .ok (.invokestatic 7, 3) := by decide +kernel
theorem dX12_printHead_113 : decode cX12_printHead 113 = .ok (.ifCond .eq 22, 3) := by decide +kernel
theorem dX12_printHead_116 : decode cX12_printHead 116 = .ok (.aload_n 0, 1) := by decide +kernel
theorem dX12_printHead_117 : decode cX12_printHead 117 = .ok (.getfield 465, 3) := by decide +kernel
theorem dX12_printHead_120 : decode cX12_printHead 120 = .ok (.aload_n 0, 1) := by decide +kernel
theorem dX12_printHead_121 : decode cX12_printHead 121 = .ok (.getfield 478, 3) := by decide +kernel
theorem dX12_printHead_124 : decode cX12_printHead 124 = .ok (.if_icmp .ne 20, 3) := by decide +kernel
theorem dX12_printHead_127 : decode cX12_printHead 127 = .ok (.iload 4, 2) := by decide +kernel
theorem dX12_printHead_129 : decode cX12_printHead 129 = .ok (.invokestatic 481, 3) := by decide +kernel
theorem dX12_printHead_132 : decode cX12_printHead 132 = .ok (.ifCond .eq 12, 3) := by decide +kernel
theorem dX12_printHead_135 : decode cX12_printHead 135 = .ok (.aload_n 0, 1) := by decide +kernel
theorem dX12_printHead_136 : decode cX12_printHead 136 = .ok (.iload 4, 2) := by decide +kernel
theorem dX12_printHead_138 : decode cX12_printHead 138 = .ok (.invokevirtual 471, 3) := by decide +kernel
theorem dX12_printHead_141 : decode cX12_printHead 141 = .ok (.goto 341, 3) := by decide +kernel
theorem dX12_printHead_144 : decode cX12_printHead 144 = .ok (.iload 4, 2) := by decide +kernel
theorem dX12_printHead_146 : decode cX12_printHead 146 = .ok (.invokestatic 484, 3) := by decide +kernel
theorem dX12_printHead_149 : decode cX12_printHead 149 = .ok (.ifCond .ne 9, 3) := by decide +kernel
theorem dX12_printHead_152 : decode cX12_printHead 152 = .ok (.aload_n 0, 1) := by decide +kernel
theorem dX12_printHead_153 : decode cX12_printHead 153 = .ok (.bipush 92, 2) := by decide +kernel
theorem dX12_printHead_155 : decode cX12_printHead 155 = .ok (.invokevirtual 468, 3) := by decide +kernel
theorem dX12_printHead_158 : decode cX12_printHead 158 = .ok (.aload_n 0, 1) := by decide +kernel
theorem dX12_printHead_159 : decode cX12_printHead 159 = .ok (.iload 4, 2) := by decide +kernel
theorem dX12_printHead_161 : decode cX12_printHead 161 = .ok (.invokevirtual 468, 3) := by decide +kernel
theorem dX12_printHead_164 : decode cX12_printHead 164 = .ok (.goto 318, 3) := by decide +kernel
theorem dX12_printHead_167 : decode cX12_printHead 167 = .ok (.aload_n 0, 1) := by decide +kernel
theorem dX12_printHead_168 : decode cX12_printHead 168 = .ok (.bipush 46, 2) := by decide +kernel
theorem dX12_printHead_170 : decode cX12_printHead 170 = .ok (.invokevirtual 468, 3) := by decide +kernel
theorem dX12_printHead_173 : decode cX12_printHead 173 = .ok (.goto 309, 3) := by decide +kernel
theorem dX12_printHead_176 : decode cX12_printHead 176 = .ok (.aload_n 0, 1) := by decide +kernel
theorem dX12_printHead_177 : decode cX12_printHead 177 = .ok (.bipush 91, 2) := by decide +kernel
theorem dX12_printHead_179 : decode cX12_printHead 179 = .ok (.invokevirtual 468, 3) := by decide +kernel
theorem dX12_printHead_182 : decode cX12_printHead 182 = .ok (.iload 4, 2) := by decide +kernel
theorem dX12_printHead_184 : decode cX12_printHead 184 = .ok (.iconst 1, 1) := by decide +kernel
theorem dX12_printHead_185 : decode cX12_printHead 185 = .ok (.if_icmp .ne 9, 3) := by decide +kernel
theorem dX12_printHead_188 : decode cX12_printHead 188 = .ok (.aload_n 0, 1) := by decide +kernel
theorem dX12_printHead_189 : decode cX12_printHead 189 = .ok (.bipush 94, 2) := by decide +kernel
theorem dX12_printHead_191 : decode cX12_printHead 191 = .ok (.invokevirtual 468, 3) := by decide +kernel
theorem dX12_printHead_194 : decode cX12_printHead 194 = .ok (.aload_n 0, 1) := by decide +kernel
theorem dX12_printHead_195 : decode cX12_printHead 195 = .ok (.getfield 71, 3) := by decide +kernel
theorem dX12_printHead_198 : decode cX12_printHead 198 = .ok (.iload_n 3, 1) := by decide +kernel
theorem dX12_printHead_199 : decode cX12_printHead 199 = .ok (.iaload, 1) := by decide +kernel
theorem dX12_printHead_200 : decode cX12_printHead 200 = .ok (.istore 5, 2) := by decide +kernel
theorem dX12_printHead_202 : decode cX12_printHead 202 = .ok (.iload 5, 2) := by decide +kernel
theorem dX12_printHead_204 : decode cX12_printHead 204 = .ok (.aload_n 0, 1) := by decide +kernel
theorem dX12_printHead_205 : decode cX12_printHead 205 = .ok (.getfield 71, 3) := by decide +kernel
theorem dX12_printHead_208 : decode cX12_printHead 208 = .ok (.iload_n 3, 1) := by decide +kernel
theorem dX12_printHead_209 : decode cX12_printHead 209 = .ok (.iaload, 1) := by decide +kernel
theorem dX12_printHead_210 : decode cX12_printHead 210 = .ok (.aload_n 0, 1) := by decide +kernel
theorem dX12_printHead_211 : decode cX12_printHead 211 = .ok (.getfield 59, 3) := by decide +kernel
theorem dX12_printHead_214 : decode cX12_printHead 214 = .ok (.iload_n 3, 1) := by decide +kernel
theorem dX12_printHead_215 : decode cX12_printHead 215 = .ok (.iaload, 1) := by decide +kernel
theorem dX12_printHead_216 : decode cX12_printHead 216 = .ok (.iadd, 1) := by decide +kernel
theorem dX12_printHead_217 : decode cX12_printHead 217 = .ok (.if_icmp .ge 54, 3) := by decide +kernel
theorem dX12_printHead_220 : decode cX12_printHead 220 = .ok (.aload_n 0, 1) := by decide +kernel
theorem dX12_printHead_221 : decode cX12_printHead 221 = .ok (.aload_n 0, 1) := by decide +kernel
theorem dX12_printHead_222 : decode cX12_printHead 222 = .ok (.getfield 80, 3) := by decide +kernel
theorem dX12_printHead_225 : decode cX12_printHead 225 = .ok (.iload 5, 2) := by decide +kernel
theorem dX12_printHead_227 : decode cX12_printHead 227 = .ok (.iaload, 1) := by decide +kernel
theorem dX12_printHead_228 : decode cX12_printHead 228 = .ok (.invokevirtual 487, 3) := by decide +kernel
theorem dX12_printHead_231 : decode cX12_printHead 231 = .ok (.aload_n 0, 1) := by decide +kernel
theorem dX12_printHead_232 : decode cX12_printHead 232 = .ok (.getfield 83, 3) := by decide +kernel
theorem dX12_printHead_235 : decode cX12_printHead 235 = .ok (.iload 5, 2) := by decide +kernel
theorem dX12_printHead_237 : decode cX12_printHead 237 = .ok (.iaload, 1) := by decide +kernel
theorem dX12_printHead_238 : decode cX12_printHead 238 = .ok (.aload_n 0, 1) := by decide +kernel
theorem dX12_printHead_239 : decode cX12_printHead 239 = .ok (.getfield 80, 3) := by decide +kernel
theorem dX12_printHead_242 : decode cX12_printHead 242 = .ok (.iload 5, 2) := by decide +kernel
theorem dX12_printHead_244 : decode cX12_printHead 244 = .ok (.iaload, 1) := by decide +kernel
theorem dX12_printHead_245 : decode cX12_printHead 245 = .ok (.if_icmp .le 20, 3) := by decide +kernel
theorem dX12_printHead_248 : decode cX12_printHead 248 = .ok (.aload_n 0, 1) := by decide +kernel
theorem dX12_printHead_249 : decode cX12_printHead 249 = .ok (.bipush 45, 2) := by decide +kernel
theorem dX12_printHead_251 : decode cX12_printHead 251 = .ok (.invokevirtual 468, 3) := by decide +kernel
theorem dX12_printHead_254 : decode cX12_printHead 254 = .ok (.aload_n 0, 1) := by decide +kernel
theorem dX12_printHead_255 : decode cX12_printHead 255 = .ok (.aload_n 0, 1) := by decide +kernel
theorem dX12_printHead_256 : decode cX12_printHead 256 = .ok (.getfield 83, 3) := by decide +kernel
theorem dX12_printHead_259 : decode cX12_printHead 259 = .ok (.iload 5, 2) := by decide +kernel
theorem dX12_printHead_261 : decode cX12_printHead 261 = .ok (.iaload, 1) := by decide +kernel
theorem dX12_printHead_262 : decode cX12_printHead 262 = .ok (.invokevirtual 487, 3) := by decide +kernel
theorem dX12_printHead_265 : decode cX12_printHead 265 = .ok (.iinc 5 1, 3) := by decide +kernel
theorem dX12_printHead_268 : decode cX12_printHead 268 = .ok (.goto (-66), 3) := by decide +kernel
theorem dX12_printHead_271 : decode cX12_printHead 271 = .ok (.aload_n 0, 1) := by decide +kernel
theorem dX12_printHead_272 : decode cX12_printHead 272 = .ok (.bipush 93, 2) := by decide +kernel
theorem dX12_printHead_274 : decode cX12_printHead 274 = .ok (.invokevirtual 468, 3) := by decide +kernel
theorem dX12_printHead_277 : decode cX12_printHead 277 = .ok (.goto 205, 3) := by decide +kernel
theorem dX12_printHead_280 : decode cX12_printHead 280 = .ok (.iload 4, 2) := by decide +kernel
theorem dX12_printHead_282 : decode cX12_printHead 282 = .ok (.iconst 1, 1) := by decide +kernel
theorem dX12_printHead_283 : decode cX12_printHead 283 = .ok (.if_icmp .le 9, 3) := by decide +kernel
theorem dX12_printHead_286 : decode cX12_printHead 286 = .ok (.aload_n 0, 1) := by decide +kernel
theorem dX12_printHead_287 : decode cX12_printHead 287 = .ok (.bipush 92, 2) := by decide +kernel
theorem dX12_printHead_289 : decode cX12_printHead 289 = .ok (.invokevirtual 468, 3) := by decide +kernel
theorem dX12_printHead_292 : decode cX12_printHead 292 = .ok (.aload_n 0, 1) := by decide +kernel
theorem dX12_printHead_293 : decode cX12_printHead 293 = .ok (.iload 4, 2) := by decide +kernel
theorem dX12_printHead_295 : decode cX12_printHead 295 = .ok (.ifCond .ne 8, 3) := by decide +kernel
theorem dX12_printHead_298 : decode cX12_printHead 298 = .ok (.bipush 94, 2) := by decide +kernel
theorem dX12_printHead_300 : decode cX12_printHead 300 = .ok (.goto 27, 3) := by decide +kernel
theorem dX12_printHead_303 : decode cX12_printHead 303 = .ok (.iload 4, 2) := by decide +kernel
theorem dX12_printHead_305 : decode cX12_printHead 305 = .ok (.iconst 1, 1) := by decide +kernel
theorem dX12_printHead_306 : decode cX12_printHead 306 = .ok (.if_icmp .ne 8, 3) := by decide +kernel
theorem dX12_printHead_309 : decode cX12_printHead 309 = .ok (.bipush 36, 2) := by decide +kernel
theorem dX12_printHead_311 : decode cX12_printHead 311 = .ok (.goto 16, 3) := by decide +kernel
theorem dX12_printHead_314 : decode cX12_printHead 314 = .ok (.iload 4, 2) := by decide +kernel
theorem dX12_printHead_316 : decode cX12_printHead 316 = .ok (.iconst 2, 1) := by decide +kernel
theorem dX12_printHead_317 : decode cX12_printHead 317 = .ok (.if_icmp .ne 8, 3) := by decide +kernel
theorem dX12_printHead_320 : decode cX12_printHead 320 = .ok (.bipush 98, 2) := by decide +kernel
theorem dX12_printHead_322 : decode cX12_printHead 322 = .ok (.goto 5, 3) := by decide +kernel
theorem dX12_printHead_325 : decode cX12_printHead 325 = .ok (.bipush 66, 2) := by decide +kernel
theorem dX12_printHead_327 : decode cX12_printHead 327 = .ok (.invokevirtual 468, 3) := by decide +kernel
theorem dX12_printHead_330 : decode cX12_printHead 330 = .ok (.goto 152, 3) := by decide +kernel
theorem dX12_printHead_333 : decode cX12_printHead 333 = .ok (.aload_n 0, 1) := by decide +kernel
theorem dX12_printHead_334 : decode cX12_printHead 334 = .ok (.bipush 92, 2) := by decide +kernel
theorem dX12_printHead_336 : decode cX12_printHead 336 = .ok (.invokevirtual 468, 3) := by decide +kernel
theorem dX12_printHead_339 : decode cX12_printHead 339 = .ok (.aload_n 0, 1) := by decide +kernel
theorem dX12_printHead_340 : decode cX12_printHead 340 = .ok (.bipush 48, 2) := by decide +kernel
theorem dX12_printHead_342 : decode cX12_printHead 342 = .ok (.iload 4, 2) := by decide +kernel
theorem dX12_printHead_344 : decode cX12_printHead 344 = .ok (.iadd, 1) := by decide +kernel
theorem dX12_printHead_345 : decode cX12_printHead 345 = .ok (.invokevirtual 468, 3) := by decide +kernel
theorem dX12_printHead_348 : decode cX12_printHead 348 = .ok (.goto 134, 3) := by decide +kernel
theorem dX12_printHead_351 : decode cX12_printHead 351 = .ok (.aload_n 0, 1) := by decide +kernel
theorem dX12_printHead_352 : decode cX12_printHead 352 = .ok (.bipush 40, 2) := by decide +kernel
theorem dX12_printHead_354 : decode cX12_printHead 354 = .ok (.invokevirtual 468, 3) := by decide +kernel
theorem dX12_printHead_357 : decode cX12_printHead 357 = .ok (.aload_n 0, 1) := by decide +kernel
theorem dX12_printHead_358 : decode cX12_printHead 358 = .ok (.aload_n 0, 1) := by decide +kernel
theorem dX12_printHead_359 : decode cX12_printHead 359 = .ok (.getfield 465, 3) := by decide +kernel
theorem dX12_printHead_362 : decode cX12_printHead 362 = .ok (.putfield 478, 3) := by decide +kernel
theorem dX12_printHead_365 : decode cX12_printHead 365 = .ok (.aload_n 0, 1) := by decide +kernel
theorem dX12_printHead_366 : decode cX12_printHead 366 = .ok (.getfield 41, 3) := by decide +kernel
theorem dX12_printHead_369 : decode cX12_printHead 369 = .ok (.bipush 10, 2) := by decide +kernel
theorem dX12_printHead_371 : decode cX12_printHead 371 = .ok (.iload_n 1, 1) := by decide +kernel
theorem dX12_printHead_372 : decode cX12_printHead 372 = .ok (.imul, 1) := by decide +kernel
theorem dX12_printHead_373 : decode cX12_printHead 373 = .ok (.iload 4, 2) := by decide +kernel
theorem dX12_printHead_375 : decode cX12_printHead 375 = .ok (.iadd, 1) := by decide +kernel
theorem dX12_printHead_376 : decode cX12_printHead 376 = .ok (.iaload, 1) := by decide +kernel
theorem dX12_printHead_377 : decode cX12_printHead 377 = .ok (.ifCond .le 105, 3) := by decide +kernel
theorem dX12_printHead_380 : decode cX12_printHead 380 = .ok (.aload_n 0, 1) := by decide +kernel
theorem dX12_printHead_381 : decode cX12_printHead 381 = .ok (.bipush 64, 2) := by decide +kernel
theorem dX12_printHead_383 : decode cX12_printHead 383 = .ok (.invokevirtual 468, 3) := by decide +kernel
theorem dX12_printHead_386 : decode cX12_printHead 386 = .ok (.aload_n 0, 1) := by decide +kernel
theorem dX12_printHead_387 : decode cX12_printHead 387 = .ok (.aload_n 0, 1) := by decide +kernel
theorem dX12_printHead_388 : decode cX12_printHead 388 = .ok (.getfield 41, 3) := by decide +kernel
theorem dX12_printHead_391 : decode cX12_printHead 391 = .ok (.bipush 10, 2) := by decide +kernel
theorem dX12_printHead_393 : decode cX12_printHead 393 = .ok (.iload_n 1, 1) := by decide +kernel
theorem dX12_printHead_394 : decode cX12_printHead 394 = .ok (.imul, 1) := by decide +kernel
theorem dX12_printHead_395 : decode cX12_printHead 395 = .ok (.iload 4, 2) := by decide +kernel
theorem dX12_printHead_397 : decode cX12_printHead 397 = .ok (.iadd, 1) := by decide +kernel
theorem dX12_printHead_398 : decode cX12_printHead 398 = .ok (.iaload, 1) := by decide +kernel
theorem dX12_printHead_399 : decode cX12_printHead 399 = .ok (.invokevirtual 468, 3) := by decide +kernel
theorem dX12_printHead_402 : decode cX12_printHead 402 = .ok (.goto 80, 3) := by decide +kernel
theorem dX12_printHead_405 : decode cX12_printHead 405 = .ok (.aload_n 0, 1) := by decide +kernel
theorem dX12_printHead_406 : decode cX12_printHead 406 = .ok (.bipush 40, 2) := by decide +kernel
theorem dX12_printHead_408 : decode cX12_printHead 408 = .ok (.invokevirtual 468, 3) := by decide +kernel
theorem dX12_printHead_411 : decode cX12_printHead 411 = .ok (.aload_n 0, 1) := by decide +kernel
theorem dX12_printHead_412 : decode cX12_printHead 412 = .ok (.iload 4, 2) := by decide +kernel
theorem dX12_printHead_414 : decode cX12_printHead 414 = .ok (.ifCond .ne 8, 3) := by decide +kernel
theorem dX12_printHead_417 : decode cX12_printHead 417 = .ok (.bipush 61, 2) := by decide +kernel
theorem dX12_printHead_419 : decode cX12_printHead 419 = .ok (.goto 27, 3) := by decide +kernel
theorem dX12_printHead_422 : decode cX12_printHead 422 = .ok (.iload 4, 2) := by decide +kernel
theorem dX12_printHead_424 : decode cX12_printHead 424 = .ok (.iconst 1, 1) := by decide +kernel
theorem dX12_printHead_425 : decode cX12_printHead 425 = .ok (.if_icmp .ne 8, 3) := by decide +kernel
theorem dX12_printHead_428 : decode cX12_printHead 428 = .ok (.bipush 33, 2) := by decide +kernel
theorem dX12_printHead_430 : decode cX12_printHead 430 = .ok (.goto 16, 3) := by decide +kernel
theorem dX12_printHead_433 : decode cX12_printHead 433 = .ok (.iload 4, 2) := by decide +kernel
theorem dX12_printHead_435 : decode cX12_printHead 435 = .ok (.iconst 2, 1) := by decide +kernel
theorem dX12_printHead_436 : decode cX12_printHead 436 = .ok (.if_icmp .ne 8, 3) := by decide +kernel
theorem dX12_printHead_439 : decode cX12_printHead 439 = .ok (.bipush 60, 2) := by decide +kernel
theorem dX12_printHead_441 : decode cX12_printHead 441 = .ok (.goto 5, 3) := by decide +kernel
theorem dX12_printHead_444 : decode cX12_printHead 444 = .ok (.bipush 126, 2) := by decide +kernel
theorem dX12_printHead_446 : decode cX12_printHead 446 = .ok (.invokevirtual 468, 3) := by decide +kernel
theorem dX12_printHead_449 : decode cX12_printHead 449 = .ok (.goto 33, 3) := by decide +kernel
theorem dX12_printHead_452 : decode cX12_printHead 452 = .ok (.aload_n 0, 1) := by decide +kernel
theorem dX12_printHead_453 : decode cX12_printHead 453 = .ok (.bipush 40, 2) := by decide +kernel
theorem dX12_printHead_455 : decode cX12_printHead 455 = .ok (.invokevirtual 468, 3) := by decide +kernel
theorem dX12_printHead_458 : decode cX12_printHead 458 = .ok (.aload_n 0, 1) := by decide +kernel
theorem dX12_printHead_459 : decode cX12_printHead 459 = .ok (.bipush 42, 2) := by decide +kernel
theorem dX12_printHead_461 : decode cX12_printHead 461 = .ok (.invokevirtual 468, 3) := by decide +kernel
theorem dX12_printHead_464 : decode cX12_printHead 464 = .ok (.goto 18, 3) := by decide +kernel
theorem dX12_printHead_467 : decode cX12_printHead 467 = .ok (.aload_n 0, 1) := by decide +kernel
theorem dX12_printHead_468 : decode cX12_printHead 468 = .ok (.bipush 40, 2) := by decide +kernel
theorem dX12_printHead_470 : decode cX12_printHead 470 = .ok (.invokevirtual 468, 3) := by decide +kernel
theorem dX12_printHead_473 : decode cX12_printHead 473 = .ok (.aload_n 0, 1) := by decide +kernel
theorem dX12_printHead_474 : decode cX12_printHead 474 = .ok (.bipush 37, 2) := by decide +kernel
theorem dX12_printHead_476 : decode cX12_printHead 476 = .ok (.invokevirtual 468, 3) := by decide +kernel
theorem dX12_printHead_479 : decode cX12_printHead 479 = .ok (.goto 3, 3) := by decide +kernel
theorem dX12_printHead_482 : decode cX12_printHead 482 = .ok (.return_, 1) := by decide +kernel
theorem dX12_printTail_0 : decode cX12_printTail 0 = .ok (.sipush 220, 3) := by decide +kernel
theorem dX12_printTail_3 : decode cX12_printTail 3 = .ok (.iload_n 1, 1) := by decide +kernel
theorem dX12_printTail_4 : decode cX12_printTail 4 = .ok (.imul, 1) := by decide +kernel
theorem dX12_printTail_5 : decode cX12_printTail 5 = .ok (.iload_n 2, 1) := by decide +kernel
theorem dX12_printTail_6 : decode cX12_printTail 6 = .ok (.iadd, 1) := by decide +kernel
theorem dX12_printTail_7 : decode cX12_printTail 7 = .ok (.istore_n 3, 1) := by decide +kernel
theorem dX12_printTail_8 : decode cX12_printTail 8 = .ok (.aload_n 0, 1) := by decide +kernel
theorem dX12_printTail_9 : decode cX12_printTail 9 = .ok (.getfield 44, 3) := by decide +kernel
theorem dX12_printTail_12 : decode cX12_printTail 12 = .ok (.iload_n 3, 1) := by decide +kernel
theorem dX12_printTail_13 : decode cX12_printTail 13 = .ok (.iaload, 1) := by decide +kernel
theorem dX12_printTail_14 : decode cX12_printTail 14 = .ok (.bipush 7, 2) := by decide +kernel
theorem dX12_printTail_16 : decode cX12_printTail 16 = .ok (.if_icmp .ne 160, 3) := by decide +kernel
theorem dX12_printTail_19 : decode cX12_printTail 19 = .ok (.aload_n 0, 1) := by decide +kernel
theorem dX12_printTail_20 : decode cX12_printTail 20 = .ok (.getfield 50, 3) := by decide +kernel
theorem dX12_printTail_23 : decode cX12_printTail 23 = .ok (.iload_n 3, 1) := by decide +kernel
theorem dX12_printTail_24 : decode cX12_printTail 24 = .ok (.iaload, 1) := by decide +kernel
theorem dX12_printTail_25 : decode cX12_printTail 25 = .ok (.istore 4, 2) := by decide +kernel
theorem dX12_printTail_27 : decode cX12_printTail 27 = .ok (.aload_n 0, 1) := by decide +kernel
theorem dX12_printTail_28 : decode cX12_printTail 28 = .ok (.getfield 53, 3) := by decide +kernel
theorem dX12_printTail_31 : decode cX12_printTail 31 = .ok (.iload_n 3, 1) := by decide +kernel
theorem dX12_printTail_32 : decode cX12_printTail 32 = .ok (.iaload, 1) := by decide +kernel
theorem dX12_printTail_33 : decode cX12_printTail 33 = .ok (.istore 5, 2) := by decide +kernel
theorem dX12_printTail_35 : decode cX12_printTail 35 = .ok (.iload 4, 2) := by decide +kernel
theorem dX12_printTail_37 : decode cX12_printTail 37 = .ok (.ifCond .ne 18, 3) := by decide +kernel
theorem dX12_printTail_40 : decode cX12_printTail 40 = .ok (.iload 5, 2) := by decide +kernel
theorem dX12_printTail_42 : decode cX12_printTail 42 = .ok (.iconst (-1), 1) := by decide +kernel
theorem dX12_printTail_43 : decode cX12_printTail 43 = .ok (.if_icmp .ne 12, 3) := by decide +kernel
theorem dX12_printTail_46 : decode cX12_printTail 46 = .ok (.aload_n 0, 1) := by decide +kernel
theorem dX12_printTail_47 : decode cX12_printTail 47 = .ok (.bipush 42, 2) := by decide +kernel
theorem dX12_printTail_49 : decode cX12_printTail 49 = .ok (.invokevirtual 468, 3) := by decide +kernel
theorem dX12_printTail_52 : decode cX12_printTail 52 = .ok (.goto 94, 3) := by decide +kernel
theorem dX12_printTail_55 : decode cX12_printTail 55 = .ok (.iload 4, 2) := by decide +kernel
theorem dX12_printTail_57 : decode cX12_printTail 57 = .ok (.iconst 1, 1) := by decide +kernel
theorem dX12_printTail_58 : decode cX12_printTail 58 = .ok (.if_icmp .ne 18, 3) := by decide +kernel
theorem dX12_printTail_61 : decode cX12_printTail 61 = .ok (.iload 5, 2) := by decide +kernel
theorem dX12_printTail_63 : decode cX12_printTail 63 = .ok (.iconst (-1), 1) := by decide +kernel
theorem dX12_printTail_64 : decode cX12_printTail 64 = .ok (.if_icmp .ne 12, 3) := by decide +kernel
theorem dX12_printTail_67 : decode cX12_printTail 67 = .ok (.aload_n 0, 1) := by decide +kernel
theorem dX12_printTail_68 : decode cX12_printTail 68 = .ok (.bipush 43, 2) := by decide +kernel
theorem dX12_printTail_70 : decode cX12_printTail 70 = .ok (.invokevirtual 468, 3) := by decide +kernel
theorem dX12_printTail_73 : decode cX12_printTail 73 = .ok (.goto 73, 3) := by decide +kernel
theorem dX12_printTail_76 : decode cX12_printTail 76 = .ok (.iload 4, 2) := by decide +kernel
theorem dX12_printTail_78 : decode cX12_printTail 78 = .ok (.ifCond .ne 18, 3) := by decide +kernel
theorem dX12_printTail_81 : decode cX12_printTail 81 = .ok (.iload 5, 2) := by decide +kernel
theorem dX12_printTail_83 : decode cX12_printTail 83 = .ok (.iconst 1, 1) := by decide +kernel
theorem dX12_printTail_84 : decode cX12_printTail 84 = .ok (.if_icmp .ne 12, 3) := by decide +kernel
theorem dX12_printTail_87 : decode cX12_printTail 87 = .ok (.aload_n 0, 1) := by decide +kernel
theorem dX12_printTail_88 : decode cX12_printTail 88 = .ok (.bipush 63, 2) := by decide +kernel
theorem dX12_printTail_90 : decode cX12_printTail 90 = .ok (.invokevirtual 468, 3) := by decide +kernel
theorem dX12_printTail_93 : decode cX12_printTail 93 = .ok (.goto 53, 3) := by decide +kernel
theorem dX12_printTail_96 : decode cX12_printTail 96 = .ok (.aload_n 0, 1) := by decide +kernel
theorem dX12_printTail_97 : decode cX12_printTail 97 = .ok (.bipush 123, 2) := by decide +kernel
theorem dX12_printTail_99 : decode cX12_printTail 99 = .ok (.invokevirtual 468, 3) := by decide +kernel
theorem dX12_printTail_102 : decode cX12_printTail 102 = .ok (.aload_n 0, 1) := by decide +kernel
theorem dX12_printTail_103 : decode cX12_printTail 103 = .ok (.iload 4, 2) := by decide +kernel
theorem dX12_printTail_105 : decode cX12_printTail 105 = .ok (.invokevirtual 490, 3) := by decide +kernel
theorem dX12_printTail_108 : decode cX12_printTail 108 = .ok (.iload 5, 2) := by decide +kernel
theorem dX12_printTail_110 : decode cX12_printTail 110 = .ok (.iload 4, 2) := by decide +kernel
theorem dX12_printTail_112 : decode cX12_printTail 112 = .ok (.if_icmp .eq 9, 3) := by decide +kernel
theorem dX12_printTail_115 : decode cX12_printTail 115 = .ok (.aload_n 0, 1) := by decide +kernel
theorem dX12_printTail_116 : decode cX12_printTail 116 = .ok (.bipush 44, 2) := by decide +kernel
theorem dX12_printTail_118 : decode cX12_printTail 118 = .ok (.invokevirtual 468, 3) := by decide +kernel
theorem dX12_printTail_121 : decode cX12_printTail 121 = .ok (.iload 5, 2) := by decide +kernel
theorem dX12_printTail_123 : decode cX12_printTail 123 = .ok (.iload 4, 2) := by decide +kernel
theorem dX12_printTail_125 : decode cX12_printTail 125 = .ok (.if_icmp .eq 15, 3) := by decide +kernel
theorem dX12_printTail_128 : decode cX12_printTail 128 = .ok (.iload 5, 2) := by decide +kernel
theorem dX12_printTail_130 : decode cX12_printTail 130 = .ok (.iconst (-1), 1) := by decide +kernel
theorem dX12_printTail_131 : decode cX12_printTail 131 = .ok (.if_icmp .eq 9, 3) := by decide +kernel
theorem dX12_printTail_134 : decode cX12_printTail 134 = .ok (.aload_n 0, 1) := by decide +kernel
theorem dX12_printTail_135 : decode cX12_printTail 135 = .ok (.iload 5, 2) := by decide +kernel
theorem dX12_printTail_137 : decode cX12_printTail 137 = .ok (.invokevirtual 490, 3) := by decide +kernel
theorem dX12_printTail_140 : decode cX12_printTail 140 = .ok (.aload_n 0, 1) := by decide +kernel
theorem dX12_printTail_141 : decode cX12_printTail 141 = .ok (.bipush 125, 2) := by decide +kernel
theorem dX12_printTail_143 : decode cX12_printTail 143 = .ok (.invokevirtual 468, 3) := by decide +kernel
theorem dX12_printTail_146 : decode cX12_printTail 146 = .ok (.aload_n 0, 1) := by decide +kernel
theorem dX12_printTail_147 : decode cX12_printTail 147 = .ok (.getfield 47, 3) := by decide +kernel
theorem dX12_printTail_150 : decode cX12_printTail 150 = .ok (.iload_n 3, 1) := by decide +kernel
theorem dX12_printTail_151 : decode cX12_printTail 151 = .ok (.iaload, 1) := by decide +kernel
theorem dX12_printTail_152 : decode cX12_printTail 152 = .ok (.ifCond .le 24, 3) := by decide +kernel
theorem dX12_printTail_155 : decode cX12_printTail 155 = .ok (.aload_n 0, 1) := by decide +kernel
theorem dX12_printTail_156 : decode cX12_printTail 156 = .ok (.aload_n 0, 1) := by decide +kernel
theorem dX12_printTail_157 : decode cX12_printTail 157 = .ok (.getfield 47, 3) := by decide +kernel
theorem dX12_printTail_160 : decode cX12_printTail 160 = .ok (.iload_n 3, 1) := by decide +kernel
theorem dX12_printTail_161 : decode cX12_printTail 161 = .ok (.iaload, 1) := by decide +kernel
theorem dX12_printTail_162 : decode cX12_printTail 162 = .ok (.iconst 1, 1) := by decide +kernel
theorem dX12_printTail_163 : decode cX12_printTail 163 = .ok (.if_icmp .ne 8, 3) := by decide +kernel
theorem dX12_printTail_166 : decode cX12_printTail 166 = .ok (.bipush 63, 2) := by decide +kernel
theorem dX12_printTail_168 : decode cX12_printTail 168 = .ok (.goto 5, 3) := by decide +kernel
theorem dX12_printTail_171 : decode cX12_printTail 171 = .ok (.bipush 43, 2) := by decide +kernel
theorem dX12_printTail_173 : decode cX12_printTail 173 = .ok (.invokevirtual 468, 3) := by decide +kernel
theorem dX12_printTail_176 : decode cX12_printTail 176 = .ok (.aload_n 0, 1) := by decide +kernel
theorem dX12_printTail_177 : decode cX12_printTail 177 = .ok (.getfield 44, 3) := by decide +kernel
theorem dX12_printTail_180 : decode cX12_printTail 180 = .ok (.iload_n 3, 1) := by decide +kernel
theorem dX12_printTail_181 : decode cX12_printTail 181 = .ok (.iaload, 1) := by decide +kernel
theorem dX12_printTail_182 : decode cX12_printTail 182 = .ok (.bipush 8, 2) := by decide +kernel
theorem dX12_printTail_184 : decode cX12_printTail 184 = .ok (.if_icmp .lt 9, 3) := by decide +kernel
theorem dX12_printTail_187 : decode cX12_printTail 187 = .ok (.aload_n 0, 1) := by decide +kernel
theorem dX12_printTail_188 : decode cX12_printTail 188 = .ok (.bipush 41, 2) := by decide +kernel
theorem dX12_printTail_190 : decode cX12_printTail 190 = .ok (.invokevirtual 468, 3) := by decide +kernel
theorem dX12_printTail_193 : decode cX12_printTail 193 = .ok (.aload_n 0, 1) := by decide +kernel
theorem dX12_printTail_194 : decode cX12_printTail 194 = .ok (.iload_n 1, 1) := by decide +kernel
theorem dX12_printTail_195 : decode cX12_printTail 195 = .ok (.iload_n 2, 1) := by decide +kernel
theorem dX12_printTail_196 : decode cX12_printTail 196 = .ok (.invokevirtual 474, 3) := by decide +kernel
theorem dX12_printTail_199 : decode cX12_printTail 199 = .ok (.ifCond .eq 9, 3) := by decide +kernel
theorem dX12_printTail_202 : decode cX12_printTail 202 = .ok (.aload_n 0, 1) := by decide +kernel
theorem dX12_printTail_203 : decode cX12_printTail 203 = .ok (.bipush 41, 2) := by decide +kernel
theorem dX12_printTail_205 : decode cX12_printTail 205 = .ok (.invokevirtual 468, 3) := by decide +kernel
theorem dX12_printTail_208 : decode cX12_printTail 208 = .ok (.return_, 1) := by decide +kernel
theorem dX12_put_0 : decode cX12_put 0 = .ok (.aload_n 0, 1) := by decide +kernel
theorem dX12_put_1 : decode cX12_put 1 = .ok (.getfield 149, 3) := by decide +kernel
theorem dX12_put_4 : decode cX12_put 4 = .ok (.aload_n 0, 1) := by decide +kernel
theorem dX12_put_5 : decode cX12_put 5 = .ok (.getfield 465, 3) := by decide +kernel
theorem dX12_put_8 : decode cX12_put 8 = .ok (.iload_n 1, 1) := by decide +kernel
theorem dX12_put_9 : decode cX12_put 9 = .ok (.iastore, 1) := by decide +kernel
theorem dX12_put_10 : decode cX12_put 10 = .ok (.aload_n 0, 1) := by decide +kernel
theorem dX12_put_11 : decode cX12_put 11 = .ok (.dup, 1) := by decide +kernel
theorem dX12_put_12 : decode cX12_put 12 = .ok (.getfield 465, 3) := by decide +kernel
theorem dX12_put_15 : decode cX12_put 15 = .ok (.iconst 1, 1) := by decide +kernel
theorem dX12_put_16 : decode cX12_put 16 = .ok (.iadd, 1) := by decide +kernel
theorem dX12_put_17 : decode cX12_put 17 = .ok (.putfield 465, 3) := by decide +kernel
theorem dX12_put_20 : decode cX12_put 20 = .ok (.return_, 1) := by decide +kernel
theorem dX12_putHex_0 : decode cX12_putHex 0 = .ok (.aload_n 0, 1) := by decide +kernel
theorem dX12_putHex_1 : decode cX12_putHex 1 = .ok (.bipush 92, 2) := by decide +kernel
theorem dX12_putHex_3 : decode cX12_putHex 3 = .ok (.invokevirtual 468, 3) := by decide +kernel
theorem dX12_putHex_6 : decode cX12_putHex 6 = .ok (.aload_n 0, 1) := by decide +kernel
theorem dX12_putHex_7 : decode cX12_putHex 7 = .ok (.bipush 120, 2) := by decide +kernel
theorem dX12_putHex_9 : decode cX12_putHex 9 = .ok (.invokevirtual 468, 3) := by decide +kernel
theorem dX12_putHex_12 : decode cX12_putHex 12 = .ok (.bipush 12, 2) := by decide +kernel
theorem dX12_putHex_14 : decode cX12_putHex 14 = .ok (.istore_n 2, 1) := by decide +kernel
theorem dX12_putHex_15 : decode cX12_putHex 15 = .ok (.iload_n 2, 1) := by decide +kernel
theorem dX12_putHex_16 : decode cX12_putHex 16 = .ok (.ifCond .lt 37, 3) := by decide +kernel
theorem dX12_putHex_19 : decode cX12_putHex 19 = .ok (.iload_n 1, 1) := by decide +kernel
theorem dX12_putHex_20 : decode cX12_putHex 20 = .ok (.iload_n 2, 1) := by decide +kernel
theorem dX12_putHex_21 : decode cX12_putHex 21 = .ok (.ishr, 1) := by decide +kernel
theorem dX12_putHex_22 : decode cX12_putHex 22 = .ok (.bipush 15, 2) := by decide +kernel
theorem dX12_putHex_24 : decode cX12_putHex 24 = .ok (.iand, 1) := by decide +kernel
theorem dX12_putHex_25 : decode cX12_putHex 25 = .ok (.istore_n 3, 1) := by decide +kernel
theorem dX12_putHex_26 : decode cX12_putHex 26 = .ok (.aload_n 0, 1) := by decide +kernel
theorem dX12_putHex_27 : decode cX12_putHex 27 = .ok (.iload_n 3, 1) := by decide +kernel
theorem dX12_putHex_28 : decode cX12_putHex 28 = .ok (.bipush 10, 2) := by decide +kernel
theorem dX12_putHex_30 : decode cX12_putHex 30 = .ok (.if_icmp .ge 10, 3) := by decide +kernel
theorem dX12_putHex_33 : decode cX12_putHex 33 = .ok (.bipush 48, 2) := by decide +kernel
theorem dX12_putHex_35 : decode cX12_putHex 35 = .ok (.iload_n 3, 1) := by decide +kernel
theorem dX12_putHex_36 : decode cX12_putHex 36 = .ok (.iadd, 1) := by decide +kernel
theorem dX12_putHex_37 : decode cX12_putHex 37 = .ok (.goto 7, 3) := by decide +kernel
theorem dX12_putHex_40 : decode cX12_putHex 40 = .ok (.bipush 87, 2) := by decide +kernel
theorem dX12_putHex_42 : decode cX12_putHex 42 = .ok (.iload_n 3, 1) := by decide +kernel
theorem dX12_putHex_43 : decode cX12_putHex 43 = .ok (.iadd, 1) := by decide +kernel
theorem dX12_putHex_44 : decode cX12_putHex 44 = .ok (.invokevirtual 468, 3) := by decide +kernel
theorem dX12_putHex_47 : decode cX12_putHex 47 = .ok (.iinc 2 (-4), 3) := by decide +kernel
theorem dX12_putHex_50 : decode cX12_putHex 50 = .ok (.goto (-35), 3) := by decide +kernel
theorem dX12_putHex_53 : decode cX12_putHex 53 = .ok (.return_, 1) := by decide +kernel
theorem dX12_putMember_0 : decode cX12_putMember 0 = .ok (.iload_n 1, 1) := by decide +kernel
theorem dX12_putMember_1 : decode cX12_putMember 1 = .ok (.bipush 32, 2) := by decide +kernel
theorem dX12_putMember_3 : decode cX12_putMember 3 = .ok (.bipush 126, 2) := by decide +kernel
theorem dX12_putMember_5 : decode cX12_putMember 5 = .ok (.invokestatic 7, 3) := by decide +kernel
theorem dX12_putMember_8 : decode cX12_putMember 8 = .ok (.ifCond .ne 9, 3) := by decide +kernel
theorem dX12_putMember_11 : decode cX12_putMember 11 = .ok (.aload_n 0, 1) := by decide +kernel
theorem dX12_putMember_12 : decode cX12_putMember 12 = .ok (.iload_n 1, 1) := by decide +kernel
theorem dX12_putMember_13 : decode cX12_putMember 13 = .ok (.invokevirtual 471, 3) := by decide +kernel
theorem dX12_putMember_16 : decode cX12_putMember 16 = .ok (.return_, 1) := by decide +kernel
theorem dX12_putMember_17 : decode cX12_putMember 17 = .ok (.iload_n 1, 1) := by decide +kernel
theorem dX12_putMember_18 : decode cX12_putMember 18 = .ok (.bipush 91, 2) := by decide +kernel
