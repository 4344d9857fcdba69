theorem dX12_isAlike_91 : decode cX12_isAlike 91 = .ok (.ireturn, 1) := by decide +kernel
theorem dX12_isBack_0 : decode cX12_isBack 0 = .ok (.aload_n 0, 1) := by decide +kernel
theorem dX12_isBack_1 : decode cX12_isBack 1 = .ok (.getfield 204, 3) := by decide +kernel
theorem dX12_isBack_4 : decode cX12_isBack 4 = .ok (.iconst 0, 1) := by decide +kernel
theorem dX12_isBack_5 : decode cX12_isBack 5 = .ok (.aload_n 0, 1) := by decide +kernel
theorem dX12_isBack_6 : decode cX12_isBack 6 = .ok (.getfield 47, 3) := by decide +kernel
theorem dX12_isBack_9 : decode cX12_isBack 9 = .ok (.iload_n 1, 1) := by decide +kernel
theorem dX12_isBack_10 : decode cX12_isBack 10 = .ok (.iaload, 1) := by decide +kernel
theorem dX12_isBack_11 : decode cX12_isBack 11 = .ok (.iadd, 1) := by decide +kernel
theorem dX12_isBack_12 : decode cX12_isBack 12 = .ok (.iaload, 1) := by decide +kernel
theorem dX12_isBack_13 : decode cX12_isBack 13 = .ok (.istore_n 2, 1) := by decide +kernel
theorem dX12_isBack_14 : decode cX12_isBack 14 = .ok (.aload_n 0, 1) := by decide +kernel
theorem dX12_isBack_15 : decode cX12_isBack 15 = .ok (.getfield 204, 3) := by decide +kernel
theorem dX12_isBack_18 : decode cX12_isBack 18 = .ok (.bipush 10, 2) := by decide +kernel
theorem dX12_isBack_20 : decode cX12_isBack 20 = .ok (.aload_n 0, 1) := by decide +kernel
theorem dX12_isBack_21 : decode cX12_isBack 21 = .ok (.getfield 47, 3) := by decide +kernel
theorem dX12_isBack_24 : decode cX12_isBack 24 = .ok (.iload_n 1, 1) := by decide +kernel
theorem dX12_isBack_25 : decode cX12_isBack 25 = .ok (.iaload, 1) := by decide +kernel
theorem dX12_isBack_26 : decode cX12_isBack 26 = .ok (.iadd, 1) := by decide +kernel
theorem dX12_isBack_27 : decode cX12_isBack 27 = .ok (.iaload, 1) := by decide +kernel
theorem dX12_isBack_28 : decode cX12_isBack 28 = .ok (.iload_n 2, 1) := by decide +kernel
theorem dX12_isBack_29 : decode cX12_isBack 29 = .ok (.isub, 1) := by decide +kernel
theorem dX12_isBack_30 : decode cX12_isBack 30 = .ok (.istore_n 3, 1) := by decide +kernel
theorem dX12_isBack_31 : decode cX12_isBack 31 = .ok (.iload_n 2, 1) := by decide +kernel
theorem dX12_isBack_32 : decode cX12_isBack 32 = .ok (.ifCond .lt 20, 3) := by decide +kernel
theorem dX12_isBack_35 : decode cX12_isBack 35 = .ok (.aload_n 0, 1) := by decide +kernel
theorem dX12_isBack_36 : decode cX12_isBack 36 = .ok (.getfield 604, 3) := by decide +kernel
theorem dX12_isBack_39 : decode cX12_isBack 39 = .ok (.iload_n 3, 1) := by decide +kernel
theorem dX12_isBack_40 : decode cX12_isBack 40 = .ok (.iadd, 1) := by decide +kernel
theorem dX12_isBack_41 : decode cX12_isBack 41 = .ok (.aload_n 0, 1) := by decide +kernel
theorem dX12_isBack_42 : decode cX12_isBack 42 = .ok (.getfield 595, 3) := by decide +kernel
theorem dX12_isBack_45 : decode cX12_isBack 45 = .ok (.if_icmp .gt 7, 3) := by decide +kernel
theorem dX12_isBack_48 : decode cX12_isBack 48 = .ok (.iconst 1, 1) := by decide +kernel
theorem dX12_isBack_49 : decode cX12_isBack 49 = .ok (.goto 4, 3) := by decide +kernel
theorem dX12_isBack_52 : decode cX12_isBack 52 = .ok (.iconst 0, 1) := by decide +kernel
theorem dX12_isBack_53 : decode cX12_isBack 53 = .ok (.istore 4, 2) := by decide +kernel
theorem dX12_isBack_55 : decode cX12_isBack 55 = .ok (.iconst 0, 1) := by decide +kernel
theorem dX12_isBack_56 : decode cX12_isBack 56 = .ok (.istore 5, 2) := by decide +kernel
theorem dX12_isBack_58 : decode cX12_isBack 58 = .ok (.iload 5, 2) := by decide +kernel
theorem dX12_isBack_60 : decode cX12_isBack 60 = .ok (.iload_n 3, 1) := by decide +kernel
theorem dX12_isBack_61 : decode cX12_isBack 61 = .ok (.if_icmp .ge 70, 3) := by decide +kernel
theorem dX12_isBack_64 : decode cX12_isBack 64 = .ok (.iload 4, 2) := by decide +kernel
theorem dX12_isBack_66 : decode cX12_isBack 66 = .ok (.ifCond .eq 65, 3) := by decide +kernel
theorem dX12_isBack_69 : decode cX12_isBack 69 = .ok (.aload_n 0, 1) := by decide +kernel
theorem dX12_isBack_70 : decode cX12_isBack 70 = .ok (.iload_n 2, 1) := by decide +kernel
theorem dX12_isBack_71 : decode cX12_isBack 71 = .ok (.iload 5, 2) := by decide +kernel
theorem dX12_isBack_73 : decode cX12_isBack 73 = .ok (.iadd, 1) := by decide +kernel
theorem dX12_isBack_74 : decode cX12_isBack 74 = .ok (.invokevirtual 598, 3) := by decide +kernel
theorem dX12_isBack_77 : decode cX12_isBack 77 = .ok (.istore 6, 2) := by decide +kernel
theorem dX12_isBack_79 : decode cX12_isBack 79 = .ok (.aload_n 0, 1) := by decide +kernel
theorem dX12_isBack_80 : decode cX12_isBack 80 = .ok (.aload_n 0, 1) := by decide +kernel
theorem dX12_isBack_81 : decode cX12_isBack 81 = .ok (.getfield 604, 3) := by decide +kernel
theorem dX12_isBack_84 : decode cX12_isBack 84 = .ok (.iload 5, 2) := by decide +kernel
theorem dX12_isBack_86 : decode cX12_isBack 86 = .ok (.iadd, 1) := by decide +kernel
theorem dX12_isBack_87 : decode cX12_isBack 87 = .ok (.invokevirtual 598, 3) := by decide +kernel
theorem dX12_isBack_90 : decode cX12_isBack 90 = .ok (.istore 7, 2) := by decide +kernel
theorem dX12_isBack_92 : decode cX12_isBack 92 = .ok (.iload 6, 2) := by decide +kernel
theorem dX12_isBack_94 : decode cX12_isBack 94 = .ok (.iload 7, 2) := by decide +kernel
theorem dX12_isBack_96 : decode cX12_isBack 96 = .ok (.if_icmp .eq 22, 3) := by decide +kernel
theorem dX12_isBack_99 : decode cX12_isBack 99 = .ok (.aload_n 0, 1) := by decide +kernel
theorem dX12_isBack_100 : decode cX12_isBack 100 = .ok (.getfield 77, 3) := by decide +kernel
theorem dX12_isBack_103 : decode cX12_isBack 103 = .ok (.iload_n 1, 1) := by decide +kernel
theorem dX12_isBack_104 : decode cX12_isBack 104 = .ok (.baload, 1) := by decide +kernel
theorem dX12_isBack_105 : decode cX12_isBack 105 = .ok (.ifCond .eq 17, 3) := by decide +kernel
theorem dX12_isBack_108 : decode cX12_isBack 108 = .ok (.iload 6, 2) := by decide +kernel
theorem dX12_isBack_110 : decode cX12_isBack 110 = .ok (.invokestatic 511, 3) := by decide +kernel
theorem dX12_isBack_113 : decode cX12_isBack 113 = .ok (.iload 7, 2) := by decide +kernel
theorem dX12_isBack_115 : decode cX12_isBack 115 = .ok (.if_icmp .ne 7, 3) := by decide +kernel
theorem dX12_isBack_118 : decode cX12_isBack 118 = .ok (.iconst 1, 1) := by decide +kernel
theorem dX12_isBack_119 : decode cX12_isBack 119 = .ok (.goto 4, 3) := by decide +kernel
theorem dX12_isBack_122 : decode cX12_isBack 122 = .ok (.iconst 0, 1) := by decide +kernel
theorem dX12_isBack_123 : decode cX12_isBack 123 = .ok (.istore 4, 2) := by decide +kernel
theorem dX12_isBack_125 : decode cX12_isBack 125 = .ok (.iinc 5 1, 3) := by decide +kernel
theorem dX12_isBack_128 : decode cX12_isBack 128 = .ok (.goto (-70), 3) := by decide +kernel
theorem dX12_isBack_131 : decode cX12_isBack 131 = .ok (.aload_n 0, 1) := by decide +kernel
theorem dX12_isBack_132 : decode cX12_isBack 132 = .ok (.dup, 1) := by decide +kernel
theorem dX12_isBack_133 : decode cX12_isBack 133 = .ok (.getfield 604, 3) := by decide +kernel
theorem dX12_isBack_136 : decode cX12_isBack 136 = .ok (.iload 4, 2) := by decide +kernel
theorem dX12_isBack_138 : decode cX12_isBack 138 = .ok (.ifCond .eq 7, 3) := by decide +kernel
theorem dX12_isBack_141 : decode cX12_isBack 141 = .ok (.iload_n 3, 1) := by decide +kernel
theorem dX12_isBack_142 : decode cX12_isBack 142 = .ok (.goto 4, 3) := by decide +kernel
theorem dX12_isBack_145 : decode cX12_isBack 145 = .ok (.iconst 0, 1) := by decide +kernel
theorem dX12_isBack_146 : decode cX12_isBack 146 = .ok (.iadd, 1) := by decide +kernel
theorem dX12_isBack_147 : decode cX12_isBack 147 = .ok (.putfield 604, 3) := by decide +kernel
theorem dX12_isBack_150 : decode cX12_isBack 150 = .ok (.iload 4, 2) := by decide +kernel
theorem dX12_isBack_152 : decode cX12_isBack 152 = .ok (.ireturn, 1) := by decide +kernel
theorem dX12_isDigit_0 : decode cX12_isDigit 0 = .ok (.iload_n 0, 1) := by decide +kernel
theorem dX12_isDigit_1 : decode cX12_isDigit 1 = .ok (.bipush 48, 2) := by decide +kernel
theorem dX12_isDigit_3 : decode cX12_isDigit 3 = .ok (.bipush 57, 2) := by decide +kernel
theorem dX12_isDigit_5 : decode cX12_isDigit 5 = .ok (.invokestatic 7, 3) := by decide +kernel
theorem dX12_isDigit_8 : decode cX12_isDigit 8 = .ok (.ireturn, 1) := by decide +kernel
theorem dX12_isDone_0 : decode cX12_isDone 0 = .ok (.aload_n 0, 1) := by decide +kernel
theorem dX12_isDone_1 : decode cX12_isDone 1 = .ok (.getfield 629, 3) := by decide +kernel
theorem dX12_isDone_4 : decode cX12_isDone 4 = .ok (.iload_n 2, 1) := by decide +kernel
theorem dX12_isDone_5 : decode cX12_isDone 5 = .ok (.iadd, 1) := by decide +kernel
theorem dX12_isDone_6 : decode cX12_isDone 6 = .ok (.istore_n 3, 1) := by decide +kernel
theorem dX12_isDone_7 : decode cX12_isDone 7 = .ok (.iload_n 1, 1) := by decide +kernel
theorem dX12_isDone_8 : decode cX12_isDone 8 = .ok (.tableswitch 662 0 21 #[104, 162, 187, 231, 258, 285, 297, 321, 361, 382, 398, 469, 501, 527, 561, 527, 601, 544, 617, 662, 662, 212], 104) := by decide +kernel
theorem dX12_isDone_112 : decode cX12_isDone 112 = .ok (.aload_n 0, 1) := by decide +kernel
theorem dX12_isDone_113 : decode cX12_isDone 113 = .ok (.invokevirtual 610, 3) := by decide +kernel
theorem dX12_isDone_116 : decode cX12_isDone 116 = .ok (.ifCond .eq 52, 3) := by decide +kernel
theorem dX12_isDone_119 : decode cX12_isDone 119 = .ok (.aload_n 0, 1) := by decide +kernel
theorem dX12_isDone_120 : decode cX12_isDone 120 = .ok (.getfield 604, 3) := by decide +kernel
theorem dX12_isDone_123 : decode cX12_isDone 123 = .ok (.aload_n 0, 1) := by decide +kernel
theorem dX12_isDone_124 : decode cX12_isDone 124 = .ok (.getfield 595, 3) := by decide +kernel
theorem dX12_isDone_127 : decode cX12_isDone 127 = .ok (.if_icmp .eq 19, 3) := by decide +kernel
theorem dX12_isDone_130 : decode cX12_isDone 130 = .ok (.aload_n 0, 1) := by decide +kernel
theorem dX12_isDone_131 : decode cX12_isDone 131 = .ok (.iload_n 3, 1) := by decide +kernel
theorem dX12_isDone_132 : decode cX12_isDone 132 = .ok (.aload_n 0, 1) := by decide +kernel
theorem dX12_isDone_133 : decode cX12_isDone 133 = .ok (.aload_n 0, 1) := by decide +kernel
theorem dX12_isDone_134 : decode cX12_isDone 134 = .ok (.getfield 604, 3) := by decide +kernel
theorem dX12_isDone_137 : decode cX12_isDone 137 = .ok (.invokevirtual 598, 3) := by decide +kernel
theorem dX12_isDone_140 : decode cX12_isDone 140 = .ok (.invokevirtual 517, 3) := by decide +kernel
theorem dX12_isDone_143 : decode cX12_isDone 143 = .ok (.ifCond .ne 5, 3) := by decide +kernel
theorem dX12_isDone_146 : decode cX12_isDone 146 = .ok (.iconst 0, 1) := by decide +kernel
theorem dX12_isDone_147 : decode cX12_isDone 147 = .ok (.ireturn, 1) := by decide +kernel
theorem dX12_isDone_148 : decode cX12_isDone 148 = .ok (.aload_n 0, 1) := by decide +kernel
theorem dX12_isDone_149 : decode cX12_isDone 149 = .ok (.dup, 1) := by decide +kernel
theorem dX12_isDone_150 : decode cX12_isDone 150 = .ok (.getfield 604, 3) := by decide +kernel
theorem dX12_isDone_153 : decode cX12_isDone 153 = .ok (.iconst 1, 1) := by decide +kernel
theorem dX12_isDone_154 : decode cX12_isDone 154 = .ok (.iadd, 1) := by decide +kernel
theorem dX12_isDone_155 : decode cX12_isDone 155 = .ok (.putfield 604, 3) := by decide +kernel
theorem dX12_isDone_158 : decode cX12_isDone 158 = .ok (.aload_n 0, 1) := by decide +kernel
theorem dX12_isDone_159 : decode cX12_isDone 159 = .ok (.dup, 1) := by decide +kernel
theorem dX12_isDone_160 : decode cX12_isDone 160 = .ok (.getfield 617, 3) := by decide +kernel
theorem dX12_isDone_163 : decode cX12_isDone 163 = .ok (.iconst 1, 1) := by decide +kernel
theorem dX12_isDone_164 : decode cX12_isDone 164 = .ok (.iadd, 1) := by decide +kernel
theorem dX12_isDone_165 : decode cX12_isDone 165 = .ok (.putfield 617, 3) := by decide +kernel
theorem dX12_isDone_168 : decode cX12_isDone 168 = .ok (.iconst 1, 1) := by decide +kernel
theorem dX12_isDone_169 : decode cX12_isDone 169 = .ok (.ireturn, 1) := by decide +kernel
theorem dX12_isDone_170 : decode cX12_isDone 170 = .ok (.aload_n 0, 1) := by decide +kernel
theorem dX12_isDone_171 : decode cX12_isDone 171 = .ok (.invokevirtual 610, 3) := by decide +kernel
theorem dX12_isDone_174 : decode cX12_isDone 174 = .ok (.ifCond .eq 19, 3) := by decide +kernel
theorem dX12_isDone_177 : decode cX12_isDone 177 = .ok (.aload_n 0, 1) := by decide +kernel
theorem dX12_isDone_178 : decode cX12_isDone 178 = .ok (.dup, 1) := by decide +kernel
theorem dX12_isDone_179 : decode cX12_isDone 179 = .ok (.getfield 617, 3) := by decide +kernel
theorem dX12_isDone_182 : decode cX12_isDone 182 = .ok (.iconst 1, 1) := by decide +kernel
theorem dX12_isDone_183 : decode cX12_isDone 183 = .ok (.iadd, 1) := by decide +kernel
theorem dX12_isDone_184 : decode cX12_isDone 184 = .ok (.putfield 617, 3) := by decide +kernel
theorem dX12_isDone_187 : decode cX12_isDone 187 = .ok (.aload_n 0, 1) := by decide +kernel
theorem dX12_isDone_188 : decode cX12_isDone 188 = .ok (.iload_n 3, 1) := by decide +kernel
theorem dX12_isDone_189 : decode cX12_isDone 189 = .ok (.invokevirtual 632, 3) := by decide +kernel
theorem dX12_isDone_192 : decode cX12_isDone 192 = .ok (.ireturn, 1) := by decide +kernel
theorem dX12_isDone_193 : decode cX12_isDone 193 = .ok (.iconst 1, 1) := by decide +kernel
theorem dX12_isDone_194 : decode cX12_isDone 194 = .ok (.ireturn, 1) := by decide +kernel
theorem dX12_isDone_195 : decode cX12_isDone 195 = .ok (.aload_n 0, 1) := by decide +kernel
theorem dX12_isDone_196 : decode cX12_isDone 196 = .ok (.invokevirtual 610, 3) := by decide +kernel
theorem dX12_isDone_199 : decode cX12_isDone 199 = .ok (.ifCond .eq 19, 3) := by decide +kernel
theorem dX12_isDone_202 : decode cX12_isDone 202 = .ok (.aload_n 0, 1) := by decide +kernel
theorem dX12_isDone_203 : decode cX12_isDone 203 = .ok (.dup, 1) := by decide +kernel
theorem dX12_isDone_204 : decode cX12_isDone 204 = .ok (.getfield 617, 3) := by decide +kernel
theorem dX12_isDone_207 : decode cX12_isDone 207 = .ok (.iconst 1, 1) := by decide +kernel
theorem dX12_isDone_208 : decode cX12_isDone 208 = .ok (.iadd, 1) := by decide +kernel
theorem dX12_isDone_209 : decode cX12_isDone 209 = .ok (.putfield 617, 3) := by decide +kernel
theorem dX12_isDone_212 : decode cX12_isDone 212 = .ok (.aload_n 0, 1) := by decide +kernel
theorem dX12_isDone_213 : decode cX12_isDone 213 = .ok (.iload_n 3, 1) := by decide +kernel
theorem dX12_isDone_214 : decode cX12_isDone 214 = .ok (.invokevirtual 635, 3) := by decide +kernel
theorem dX12_isDone_217 : decode cX12_isDone 217 = .ok (.ireturn, 1) := by decide +kernel
theorem dX12_isDone_218 : decode cX12_isDone 218 = .ok (.iconst 1, 1) := by decide +kernel
theorem dX12_isDone_219 : decode cX12_isDone 219 = .ok (.ireturn, 1) := by decide +kernel
theorem dX12_isDone_220 : decode cX12_isDone 220 = .ok (.aload_n 0, 1) := by decide +kernel
theorem dX12_isDone_221 : decode cX12_isDone 221 = .ok (.invokevirtual 610, 3) := by decide +kernel
theorem dX12_isDone_224 : decode cX12_isDone 224 = .ok (.ifCond .eq 13, 3) := by decide +kernel
theorem dX12_isDone_227 : decode cX12_isDone 227 = .ok (.aload_n 0, 1) := by decide +kernel
theorem dX12_isDone_228 : decode cX12_isDone 228 = .ok (.dup, 1) := by decide +kernel
theorem dX12_isDone_229 : decode cX12_isDone 229 = .ok (.getfield 617, 3) := by decide +kernel
theorem dX12_isDone_232 : decode cX12_isDone 232 = .ok (.iconst 1, 1) := by decide +kernel
theorem dX12_isDone_233 : decode cX12_isDone 233 = .ok (.iadd, 1) := by decide +kernel
theorem dX12_isDone_234 : decode cX12_isDone 234 = .ok (.putfield 617, 3) := by decide +kernel
theorem dX12_isDone_237 : decode cX12_isDone 237 = .ok (.iconst 1, 1) := by decide +kernel
theorem dX12_isDone_238 : decode cX12_isDone 238 = .ok (.ireturn, 1) := by decide +kernel
theorem dX12_isDone_239 : decode cX12_isDone 239 = .ok (.aload_n 0, 1) := by decide +kernel
theorem dX12_isDone_240 : decode cX12_isDone 240 = .ok (.iconst 0, 1) := by decide +kernel
theorem dX12_isDone_241 : decode cX12_isDone 241 = .ok (.aload_n 0, 1) := by decide +kernel
theorem dX12_isDone_242 : decode cX12_isDone 242 = .ok (.getfield 189, 3) := by decide +kernel
theorem dX12_isDone_245 : decode cX12_isDone 245 = .ok (.iload_n 2, 1) := by decide +kernel
theorem dX12_isDone_246 : decode cX12_isDone 246 = .ok (.iaload, 1) := by decide +kernel
theorem dX12_isDone_247 : decode cX12_isDone 247 = .ok (.aload_n 0, 1) := by decide +kernel
theorem dX12_isDone_248 : decode cX12_isDone 248 = .ok (.getfield 604, 3) := by decide +kernel
theorem dX12_isDone_251 : decode cX12_isDone 251 = .ok (.invokevirtual 620, 3) := by decide +kernel
theorem dX12_isDone_254 : decode cX12_isDone 254 = .ok (.aload_n 0, 1) := by decide +kernel
theorem dX12_isDone_255 : decode cX12_isDone 255 = .ok (.dup, 1) := by decide +kernel
theorem dX12_isDone_256 : decode cX12_isDone 256 = .ok (.getfield 617, 3) := by decide +kernel
theorem dX12_isDone_259 : decode cX12_isDone 259 = .ok (.iconst 1, 1) := by decide +kernel
theorem dX12_isDone_260 : decode cX12_isDone 260 = .ok (.iadd, 1) := by decide +kernel
theorem dX12_isDone_261 : decode cX12_isDone 261 = .ok (.putfield 617, 3) := by decide +kernel
theorem dX12_isDone_264 : decode cX12_isDone 264 = .ok (.iconst 1, 1) := by decide +kernel
theorem dX12_isDone_265 : decode cX12_isDone 265 = .ok (.ireturn, 1) := by decide +kernel
theorem dX12_isDone_266 : decode cX12_isDone 266 = .ok (.aload_n 0, 1) := by decide +kernel
theorem dX12_isDone_267 : decode cX12_isDone 267 = .ok (.iconst 0, 1) := by decide +kernel
theorem dX12_isDone_268 : decode cX12_isDone 268 = .ok (.aload_n 0, 1) := by decide +kernel
theorem dX12_isDone_269 : decode cX12_isDone 269 = .ok (.getfield 617, 3) := by decide +kernel
theorem dX12_isDone_272 : decode cX12_isDone 272 = .ok (.iconst 1, 1) := by decide +kernel
theorem dX12_isDone_273 : decode cX12_isDone 273 = .ok (.iadd, 1) := by decide +kernel
theorem dX12_isDone_274 : decode cX12_isDone 274 = .ok (.aload_n 0, 1) := by decide +kernel
theorem dX12_isDone_275 : decode cX12_isDone 275 = .ok (.getfield 604, 3) := by decide +kernel
theorem dX12_isDone_278 : decode cX12_isDone 278 = .ok (.invokevirtual 620, 3) := by decide +kernel
theorem dX12_isDone_281 : decode cX12_isDone 281 = .ok (.aload_n 0, 1) := by decide +kernel
theorem dX12_isDone_282 : decode cX12_isDone 282 = .ok (.aload_n 0, 1) := by decide +kernel
theorem dX12_isDone_283 : decode cX12_isDone 283 = .ok (.getfield 189, 3) := by decide +kernel
theorem dX12_isDone_286 : decode cX12_isDone 286 = .ok (.iload_n 2, 1) := by decide +kernel
theorem dX12_isDone_287 : decode cX12_isDone 287 = .ok (.iaload, 1) := by decide +kernel
theorem dX12_isDone_288 : decode cX12_isDone 288 = .ok (.putfield 617, 3) := by decide +kernel
theorem dX12_isDone_291 : decode cX12_isDone 291 = .ok (.iconst 1, 1) := by decide +kernel
theorem dX12_isDone_292 : decode cX12_isDone 292 = .ok (.ireturn, 1) := by decide +kernel
theorem dX12_isDone_293 : decode cX12_isDone 293 = .ok (.aload_n 0, 1) := by decide +kernel
theorem dX12_isDone_294 : decode cX12_isDone 294 = .ok (.aload_n 0, 1) := by decide +kernel
theorem dX12_isDone_295 : decode cX12_isDone 295 = .ok (.getfield 189, 3) := by decide +kernel
theorem dX12_isDone_298 : decode cX12_isDone 298 = .ok (.iload_n 2, 1) := by decide +kernel
theorem dX12_isDone_299 : decode cX12_isDone 299 = .ok (.iaload, 1) := by decide +kernel
theorem dX12_isDone_300 : decode cX12_isDone 300 = .ok (.putfield 617, 3) := by decide +kernel
theorem dX12_isDone_303 : decode cX12_isDone 303 = .ok (.iconst 1, 1) := by decide +kernel
theorem dX12_isDone_304 : decode cX12_isDone 304 = .ok (.ireturn, 1) := by decide +kernel
theorem dX12_isDone_305 : decode cX12_isDone 305 = .ok (.aload_n 0, 1) := by decide +kernel
theorem dX12_isDone_306 : decode cX12_isDone 306 = .ok (.bipush 20, 2) := by decide +kernel
theorem dX12_isDone_308 : decode cX12_isDone 308 = .ok (.iload_n 2, 1) := by decide +kernel
theorem dX12_isDone_309 : decode cX12_isDone 309 = .ok (.iadd, 1) := by decide +kernel
theorem dX12_isDone_310 : decode cX12_isDone 310 = .ok (.aload_n 0, 1) := by decide +kernel
theorem dX12_isDone_311 : decode cX12_isDone 311 = .ok (.getfield 604, 3) := by decide +kernel
theorem dX12_isDone_314 : decode cX12_isDone 314 = .ok (.invokevirtual 614, 3) := by decide +kernel
theorem dX12_isDone_317 : decode cX12_isDone 317 = .ok (.aload_n 0, 1) := by decide +kernel
theorem dX12_isDone_318 : decode cX12_isDone 318 = .ok (.dup, 1) := by decide +kernel
theorem dX12_isDone_319 : decode cX12_isDone 319 = .ok (.getfield 617, 3) := by decide +kernel
theorem dX12_isDone_322 : decode cX12_isDone 322 = .ok (.iconst 1, 1) := by decide +kernel
theorem dX12_isDone_323 : decode cX12_isDone 323 = .ok (.iadd, 1) := by decide +kernel
theorem dX12_isDone_324 : decode cX12_isDone 324 = .ok (.putfield 617, 3) := by decide +kernel
theorem dX12_isDone_327 : decode cX12_isDone 327 = .ok (.iconst 1, 1) := by decide +kernel
theorem dX12_isDone_328 : decode cX12_isDone 328 = .ok (.ireturn, 1) := by decide +kernel
theorem dX12_isDone_329 : decode cX12_isDone 329 = .ok (.aload_n 0, 1) := by decide +kernel
theorem dX12_isDone_330 : decode cX12_isDone 330 = .ok (.iconst 0, 1) := by decide +kernel
theorem dX12_isDone_331 : decode cX12_isDone 331 = .ok (.iload_n 2, 1) := by decide +kernel
theorem dX12_isDone_332 : decode cX12_isDone 332 = .ok (.iadd, 1) := by decide +kernel
theorem dX12_isDone_333 : decode cX12_isDone 333 = .ok (.aload_n 0, 1) := by decide +kernel
theorem dX12_isDone_334 : decode cX12_isDone 334 = .ok (.getfield 204, 3) := by decide +kernel
theorem dX12_isDone_337 : decode cX12_isDone 337 = .ok (.bipush 20, 2) := by decide +kernel
theorem dX12_isDone_339 : decode cX12_isDone 339 = .ok (.iload_n 2, 1) := by decide +kernel
theorem dX12_isDone_340 : decode cX12_isDone 340 = .ok (.iadd, 1) := by decide +kernel
theorem dX12_isDone_341 : decode cX12_isDone 341 = .ok (.iaload, 1) := by decide +kernel
theorem dX12_isDone_342 : decode cX12_isDone 342 = .ok (.invokevirtual 614, 3) := by decide +kernel
theorem dX12_isDone_345 : decode cX12_isDone 345 = .ok (.aload_n 0, 1) := by decide +kernel
theorem dX12_isDone_346 : decode cX12_isDone 346 = .ok (.bipush 10, 2) := by decide +kernel
theorem dX12_isDone_348 : decode cX12_isDone 348 = .ok (.iload_n 2, 1) := by decide +kernel
theorem dX12_isDone_349 : decode cX12_isDone 349 = .ok (.iadd, 1) := by decide +kernel
theorem dX12_isDone_350 : decode cX12_isDone 350 = .ok (.aload_n 0, 1) := by decide +kernel
theorem dX12_isDone_351 : decode cX12_isDone 351 = .ok (.getfield 604, 3) := by decide +kernel
theorem dX12_isDone_354 : decode cX12_isDone 354 = .ok (.invokevirtual 614, 3) := by decide +kernel
theorem dX12_isDone_357 : decode cX12_isDone 357 = .ok (.aload_n 0, 1) := by decide +kernel
theorem dX12_isDone_358 : decode cX12_isDone 358 = .ok (.dup, 1) := by decide +kernel
theorem dX12_isDone_359 : decode cX12_isDone 359 = .ok (.getfield 617, 3) := by decide +kernel
theorem dX12_isDone_362 : decode cX12_isDone 362 = .ok (.iconst 1, 1) := by decide +kernel
theorem dX12_isDone_363 : decode cX12_isDone 363 = .ok (.iadd, 1) := by decide +kernel
theorem dX12_isDone_364 : decode cX12_isDone 364 = .ok (.putfield 617, 3) := by decide +kernel
theorem dX12_isDone_367 : decode cX12_isDone 367 = .ok (.iconst 1, 1) := by decide +kernel
theorem dX12_isDone_368 : decode cX12_isDone 368 = .ok (.ireturn, 1) := by decide +kernel
theorem dX12_isDone_369 : decode cX12_isDone 369 = .ok (.aload_n 0, 1) := by decide +kernel
theorem dX12_isDone_370 : decode cX12_isDone 370 = .ok (.bipush 30, 2) := by decide +kernel
theorem dX12_isDone_372 : decode cX12_isDone 372 = .ok (.iload_n 2, 1) := by decide +kernel
theorem dX12_isDone_373 : decode cX12_isDone 373 = .ok (.iadd, 1) := by decide +kernel
theorem dX12_isDone_374 : decode cX12_isDone 374 = .ok (.iconst 0, 1) := by decide +kernel
theorem dX12_isDone_375 : decode cX12_isDone 375 = .ok (.invokevirtual 614, 3) := by decide +kernel
theorem dX12_isDone_378 : decode cX12_isDone 378 = .ok (.aload_n 0, 1) := by decide +kernel
theorem dX12_isDone_379 : decode cX12_isDone 379 = .ok (.dup, 1) := by decide +kernel
theorem dX12_isDone_380 : decode cX12_isDone 380 = .ok (.getfield 617, 3) := by decide +kernel
theorem dX12_isDone_383 : decode cX12_isDone 383 = .ok (.iconst 1, 1) := by decide +kernel
theorem dX12_isDone_384 : decode cX12_isDone 384 = .ok (.iadd, 1) := by decide +kernel
theorem dX12_isDone_385 : decode cX12_isDone 385 = .ok (.putfield 617, 3) := by decide +kernel
theorem dX12_isDone_388 : decode cX12_isDone 388 = .ok (.iconst 1, 1) := by decide +kernel
theorem dX12_isDone_389 : decode cX12_isDone 389 = .ok (.ireturn, 1) := by decide +kernel
theorem dX12_isDone_390 : decode cX12_isDone 390 = .ok (.aload_n 0, 1) := by decide +kernel
theorem dX12_isDone_391 : decode cX12_isDone 391 = .ok (.iload_n 2, 1) := by decide +kernel
theorem dX12_isDone_392 : decode cX12_isDone 392 = .ok (.aload_n 0, 1) := by decide +kernel
theorem dX12_isDone_393 : decode cX12_isDone 393 = .ok (.getfield 186, 3) := by decide +kernel
theorem dX12_isDone_396 : decode cX12_isDone 396 = .ok (.aload_n 0, 1) := by decide +kernel
theorem dX12_isDone_397 : decode cX12_isDone 397 = .ok (.getfield 617, 3) := by decide +kernel
theorem dX12_isDone_400 : decode cX12_isDone 400 = .ok (.iaload, 1) := by decide +kernel
theorem dX12_isDone_401 : decode cX12_isDone 401 = .ok (.invokevirtual 638, 3) := by decide +kernel
theorem dX12_isDone_404 : decode cX12_isDone 404 = .ok (.iconst 1, 1) := by decide +kernel
theorem dX12_isDone_405 : decode cX12_isDone 405 = .ok (.ireturn, 1) := by decide +kernel
theorem dX12_isDone_406 : decode cX12_isDone 406 = .ok (.aload_n 0, 1) := by decide +kernel
theorem dX12_isDone_407 : decode cX12_isDone 407 = .ok (.getfield 204, 3) := by decide +kernel
theorem dX12_isDone_410 : decode cX12_isDone 410 = .ok (.bipush 30, 2) := by decide +kernel
theorem dX12_isDone_412 : decode cX12_isDone 412 = .ok (.iload_n 2, 1) := by decide +kernel
theorem dX12_isDone_413 : decode cX12_isDone 413 = .ok (.iadd, 1) := by decide +kernel
theorem dX12_isDone_414 : decode cX12_isDone 414 = .ok (.iaload, 1) := by decide +kernel
theorem dX12_isDone_415 : decode cX12_isDone 415 = .ok (.aload_n 0, 1) := by decide +kernel
theorem dX12_isDone_416 : decode cX12_isDone 416 = .ok (.getfield 50, 3) := by decide +kernel
theorem dX12_isDone_419 : decode cX12_isDone 419 = .ok (.iload_n 3, 1) := by decide +kernel
theorem dX12_isDone_420 : decode cX12_isDone 420 = .ok (.iaload, 1) := by decide +kernel
theorem dX12_isDone_421 : decode cX12_isDone 421 = .ok (.if_icmp .le 24, 3) := by decide +kernel
theorem dX12_isDone_424 : decode cX12_isDone 424 = .ok (.aload_n 0, 1) := by decide +kernel
theorem dX12_isDone_425 : decode cX12_isDone 425 = .ok (.getfield 604, 3) := by decide +kernel
theorem dX12_isDone_428 : decode cX12_isDone 428 = .ok (.aload_n 0, 1) := by decide +kernel
theorem dX12_isDone_429 : decode cX12_isDone 429 = .ok (.getfield 204, 3) := by decide +kernel
theorem dX12_isDone_432 : decode cX12_isDone 432 = .ok (.sipush 250, 3) := by decide +kernel
theorem dX12_isDone_435 : decode cX12_isDone 435 = .ok (.iload_n 2, 1) := by decide +kernel
theorem dX12_isDone_436 : decode cX12_isDone 436 = .ok (.iadd, 1) := by decide +kernel
theorem dX12_isDone_437 : decode cX12_isDone 437 = .ok (.iaload, 1) := by decide +kernel
theorem dX12_isDone_438 : decode cX12_isDone 438 = .ok (.if_icmp .ne 7, 3) := by decide +kernel
theorem dX12_isDone_441 : decode cX12_isDone 441 = .ok (.iconst 1, 1) := by decide +kernel
theorem dX12_isDone_442 : decode cX12_isDone 442 = .ok (.goto 4, 3) := by decide +kernel
theorem dX12_isDone_445 : decode cX12_isDone 445 = .ok (.iconst 0, 1) := by decide +kernel
theorem dX12_isDone_446 : decode cX12_isDone 446 = .ok (.istore 4, 2) := by decide +kernel
theorem dX12_isDone_448 : decode cX12_isDone 448 = .ok (.aload_n 0, 1) := by decide +kernel
theorem dX12_isDone_449 : decode cX12_isDone 449 = .ok (.aload_n 0, 1) := by decide +kernel
theorem dX12_isDone_450 : decode cX12_isDone 450 = .ok (.getfield 189, 3) := by decide +kernel
theorem dX12_isDone_453 : decode cX12_isDone 453 = .ok (.aload_n 0, 1) := by decide +kernel
theorem dX12_isDone_454 : decode cX12_isDone 454 = .ok (.getfield 186, 3) := by decide +kernel
theorem dX12_isDone_457 : decode cX12_isDone 457 = .ok (.aload_n 0, 1) := by decide +kernel
theorem dX12_isDone_458 : decode cX12_isDone 458 = .ok (.getfield 617, 3) := by decide +kernel
theorem dX12_isDone_461 : decode cX12_isDone 461 = .ok (.iaload, 1) := by decide +kernel
theorem dX12_isDone_462 : decode cX12_isDone 462 = .ok (.iaload, 1) := by decide +kernel
theorem dX12_isDone_463 : decode cX12_isDone 463 = .ok (.putfield 617, 3) := by decide +kernel
theorem dX12_isDone_466 : decode cX12_isDone 466 = .ok (.iload 4, 2) := by decide +kernel
theorem dX12_isDone_468 : decode cX12_isDone 468 = .ok (.ifCond .ne 7, 3) := by decide +kernel
theorem dX12_isDone_471 : decode cX12_isDone 471 = .ok (.iconst 1, 1) := by decide +kernel
theorem dX12_isDone_472 : decode cX12_isDone 472 = .ok (.goto 4, 3) := by decide +kernel
theorem dX12_isDone_475 : decode cX12_isDone 475 = .ok (.iconst 0, 1) := by decide +kernel
theorem dX12_isDone_476 : decode cX12_isDone 476 = .ok (.ireturn, 1) := by decide +kernel
theorem dX12_isDone_477 : decode cX12_isDone 477 = .ok (.aload_n 0, 1) := by decide +kernel
theorem dX12_isDone_478 : decode cX12_isDone 478 = .ok (.invokevirtual 610, 3) := by decide +kernel
theorem dX12_isDone_481 : decode cX12_isDone 481 = .ok (.ifCond .eq 26, 3) := by decide +kernel
theorem dX12_isDone_484 : decode cX12_isDone 484 = .ok (.aload_n 0, 1) := by decide +kernel
theorem dX12_isDone_485 : decode cX12_isDone 485 = .ok (.sipush 470, 3) := by decide +kernel
theorem dX12_isDone_488 : decode cX12_isDone 488 = .ok (.iload_n 2, 1) := by decide +kernel
theorem dX12_isDone_489 : decode cX12_isDone 489 = .ok (.iadd, 1) := by decide +kernel
theorem dX12_isDone_490 : decode cX12_isDone 490 = .ok (.aload_n 0, 1) := by decide +kernel
theorem dX12_isDone_491 : decode cX12_isDone 491 = .ok (.getfield 580, 3) := by decide +kernel
theorem dX12_isDone_494 : decode cX12_isDone 494 = .ok (.invokevirtual 614, 3) := by decide +kernel
theorem dX12_isDone_497 : decode cX12_isDone 497 = .ok (.aload_n 0, 1) := by decide +kernel
theorem dX12_isDone_498 : decode cX12_isDone 498 = .ok (.dup, 1) := by decide +kernel
theorem dX12_isDone_499 : decode cX12_isDone 499 = .ok (.getfield 617, 3) := by decide +kernel
theorem dX12_isDone_502 : decode cX12_isDone 502 = .ok (.iconst 1, 1) := by decide +kernel
theorem dX12_isDone_503 : decode cX12_isDone 503 = .ok (.iadd, 1) := by decide +kernel
theorem dX12_isDone_504 : decode cX12_isDone 504 = .ok (.putfield 617, 3) := by decide +kernel
theorem dX12_isDone_507 : decode cX12_isDone 507 = .ok (.iconst 1, 1) := by decide +kernel
theorem dX12_isDone_508 : decode cX12_isDone 508 = .ok (.ireturn, 1) := by decide +kernel
theorem dX12_isDone_509 : decode cX12_isDone 509 = .ok (.aload_n 0, 1) := by decide +kernel
theorem dX12_isDone_510 : decode cX12_isDone 510 = .ok (.aload_n 0, 1) := by decide +kernel
theorem dX12_isDone_511 : decode cX12_isDone 511 = .ok (.getfield 204, 3) := by decide +kernel
theorem dX12_isDone_514 : decode cX12_isDone 514 = .ok (.sipush 470, 3) := by decide +kernel
theorem dX12_isDone_517 : decode cX12_isDone 517 = .ok (.iload_n 2, 1) := by decide +kernel
theorem dX12_isDone_518 : decode cX12_isDone 518 = .ok (.iadd, 1) := by decide +kernel
theorem dX12_isDone_519 : decode cX12_isDone 519 = .ok (.iaload, 1) := by decide +kernel
theorem dX12_isDone_520 : decode cX12_isDone 520 = .ok (.putfield 580, 3) := by decide +kernel
theorem dX12_isDone_523 : decode cX12_isDone 523 = .ok (.aload_n 0, 1) := by decide +kernel
theorem dX12_isDone_524 : decode cX12_isDone 524 = .ok (.dup, 1) := by decide +kernel
theorem dX12_isDone_525 : decode cX12_isDone 525 = .ok (.getfield 617, 3) := by decide +kernel
theorem dX12_isDone_528 : decode cX12_isDone 528 = .ok (.iconst 1, 1) := by decide +kernel
theorem dX12_isDone_529 : decode cX12_isDone 529 = .ok (.iadd, 1) := by decide +kernel
theorem dX12_isDone_530 : decode cX12_isDone 530 = .ok (.putfield 617, 3) := by decide +kernel
theorem dX12_isDone_533 : decode cX12_isDone 533 = .ok (.iconst 1, 1) := by decide +kernel
theorem dX12_isDone_534 : decode cX12_isDone 534 = .ok (.ireturn, 1) := by decide +kernel
theorem dX12_isDone_535 : decode cX12_isDone 535 = .ok (.aload_n 0, 1) := by decide +kernel
theorem dX12_isDone_536 : decode cX12_isDone 536 = .ok (.iload_n 2, 1) := by decide +kernel
theorem dX12_isDone_537 : decode cX12_isDone 537 = .ok (.aload_n 0, 1) := by decide +kernel
theorem dX12_isDone_538 : decode cX12_isDone 538 = .ok (.getfield 186, 3) := by decide +kernel
theorem dX12_isDone_541 : decode cX12_isDone 541 = .ok (.aload_n 0, 1) := by decide +kernel
theorem dX12_isDone_542 : decode cX12_isDone 542 = .ok (.getfield 617, 3) := by decide +kernel
theorem dX12_isDone_545 : decode cX12_isDone 545 = .ok (.iaload, 1) := by decide +kernel
theorem dX12_isDone_546 : decode cX12_isDone 546 = .ok (.iconst 0, 1) := by decide +kernel
theorem dX12_isDone_547 : decode cX12_isDone 547 = .ok (.invokevirtual 641, 3) := by decide +kernel
theorem dX12_isDone_550 : decode cX12_isDone 550 = .ok (.iconst 1, 1) := by decide +kernel
theorem dX12_isDone_551 : decode cX12_isDone 551 = .ok (.ireturn, 1) := by decide +kernel
theorem dX12_isDone_552 : decode cX12_isDone 552 = .ok (.aload_n 0, 1) := by decide +kernel
theorem dX12_isDone_553 : decode cX12_isDone 553 = .ok (.iload_n 2, 1) := by decide +kernel
theorem dX12_isDone_554 : decode cX12_isDone 554 = .ok (.aload_n 0, 1) := by decide +kernel
theorem dX12_isDone_555 : decode cX12_isDone 555 = .ok (.getfield 186, 3) := by decide +kernel
theorem dX12_isDone_558 : decode cX12_isDone 558 = .ok (.aload_n 0, 1) := by decide +kernel
theorem dX12_isDone_559 : decode cX12_isDone 559 = .ok (.getfield 617, 3) := by decide +kernel
theorem dX12_isDone_562 : decode cX12_isDone 562 = .ok (.iaload, 1) := by decide +kernel
theorem dX12_isDone_563 : decode cX12_isDone 563 = .ok (.iconst 1, 1) := by decide +kernel
theorem dX12_isDone_564 : decode cX12_isDone 564 = .ok (.invokevirtual 641, 3) := by decide +kernel
theorem dX12_isDone_567 : decode cX12_isDone 567 = .ok (.iconst 1, 1) := by decide +kernel
theorem dX12_isDone_568 : decode cX12_isDone 568 = .ok (.ireturn, 1) := by decide +kernel
theorem dX12_isDone_569 : decode cX12_isDone 569 = .ok (.aload_n 0, 1) := by decide +kernel
theorem dX12_isDone_570 : decode cX12_isDone 570 = .ok (.aload_n 0, 1) := by decide +kernel
theorem dX12_isDone_571 : decode cX12_isDone 571 = .ok (.getfield 204, 3) := by decide +kernel
theorem dX12_isDone_574 : decode cX12_isDone 574 = .ok (.sipush 470, 3) := by decide +kernel
theorem dX12_isDone_577 : decode cX12_isDone 577 = .ok (.iload_n 2, 1) := by decide +kernel
theorem dX12_isDone_578 : decode cX12_isDone 578 = .ok (.iadd, 1) := by decide +kernel
theorem dX12_isDone_579 : decode cX12_isDone 579 = .ok (.iaload, 1) := by decide +kernel
theorem dX12_isDone_580 : decode cX12_isDone 580 = .ok (.putfield 580, 3) := by decide +kernel
theorem dX12_isDone_583 : decode cX12_isDone 583 = .ok (.aload_n 0, 1) := by decide +kernel
theorem dX12_isDone_584 : decode cX12_isDone 584 = .ok (.aload_n 0, 1) := by decide +kernel
theorem dX12_isDone_585 : decode cX12_isDone 585 = .ok (.getfield 204, 3) := by decide +kernel
theorem dX12_isDone_588 : decode cX12_isDone 588 = .ok (.sipush 690, 3) := by decide +kernel
theorem dX12_isDone_591 : decode cX12_isDone 591 = .ok (.iload_n 2, 1) := by decide +kernel
theorem dX12_isDone_592 : decode cX12_isDone 592 = .ok (.iadd, 1) := by decide +kernel
theorem dX12_isDone_593 : decode cX12_isDone 593 = .ok (.iaload, 1) := by decide +kernel
theorem dX12_isDone_594 : decode cX12_isDone 594 = .ok (.putfield 604, 3) := by decide +kernel
theorem dX12_isDone_597 : decode cX12_isDone 597 = .ok (.aload_n 0, 1) := by decide +kernel
theorem dX12_isDone_598 : decode cX12_isDone 598 = .ok (.dup, 1) := by decide +kernel
theorem dX12_isDone_599 : decode cX12_isDone 599 = .ok (.getfield 617, 3) := by decide +kernel
theorem dX12_isDone_602 : decode cX12_isDone 602 = .ok (.iconst 1, 1) := by decide +kernel
theorem dX12_isDone_603 : decode cX12_isDone 603 = .ok (.iadd, 1) := by decide +kernel
theorem dX12_isDone_604 : decode cX12_isDone 604 = .ok (.putfield 617, 3) := by decide +kernel
theorem dX12_isDone_607 : decode cX12_isDone 607 = .ok (.iconst 1, 1) := by decide +kernel
theorem dX12_isDone_608 : decode cX12_isDone 608 = .ok (.ireturn, 1) := by decide +kernel
theorem dX12_isDone_609 : decode cX12_isDone 609 = .ok (.aload_n 0, 1) := by decide +kernel
theorem dX12_isDone_610 : decode cX12_isDone 610 = .ok (.aload_n 0, 1) := by decide +kernel
theorem dX12_isDone_611 : decode cX12_isDone 611 = .ok (.getfield 204, 3) := by decide +kernel
theorem dX12_isDone_614 : decode cX12_isDone 614 = .ok (.sipush 470, 3) := by decide +kernel
theorem dX12_isDone_617 : decode cX12_isDone 617 = .ok (.iload_n 2, 1) := by decide +kernel
theorem dX12_isDone_618 : decode cX12_isDone 618 = .ok (.iadd, 1) := by decide +kernel
theorem dX12_isDone_619 : decode cX12_isDone 619 = .ok (.iaload, 1) := by decide +kernel
theorem dX12_isDone_620 : decode cX12_isDone 620 = .ok (.putfield 580, 3) := by decide +kernel
theorem dX12_isDone_623 : decode cX12_isDone 623 = .ok (.iconst 0, 1) := by decide +kernel
theorem dX12_isDone_624 : decode cX12_isDone 624 = .ok (.ireturn, 1) := by decide +kernel
theorem dX12_isDone_625 : decode cX12_isDone 625 = .ok (.aload_n 0, 1) := by decide +kernel
theorem dX12_isDone_626 : decode cX12_isDone 626 = .ok (.getfield 604, 3) := by decide +kernel
theorem dX12_isDone_629 : decode cX12_isDone 629 = .ok (.aload_n 0, 1) := by decide +kernel
theorem dX12_isDone_630 : decode cX12_isDone 630 = .ok (.getfield 204, 3) := by decide +kernel
theorem dX12_isDone_633 : decode cX12_isDone 633 = .ok (.sipush 690, 3) := by decide +kernel
theorem dX12_isDone_636 : decode cX12_isDone 636 = .ok (.iload_n 2, 1) := by decide +kernel
theorem dX12_isDone_637 : decode cX12_isDone 637 = .ok (.iadd, 1) := by decide +kernel
theorem dX12_isDone_638 : decode cX12_isDone 638 = .ok (.iaload, 1) := by decide +kernel
theorem dX12_isDone_639 : decode cX12_isDone 639 = .ok (.if_icmp .eq 5, 3) := by decide +kernel
theorem dX12_isDone_642 : decode cX12_isDone 642 = .ok (.iconst 0, 1) := by decide +kernel
theorem dX12_isDone_643 : decode cX12_isDone 643 = .ok (.ireturn, 1) := by decide +kernel
theorem dX12_isDone_644 : decode cX12_isDone 644 = .ok (.aload_n 0, 1) := by decide +kernel
theorem dX12_isDone_645 : decode cX12_isDone 645 = .ok (.aload_n 0, 1) := by decide +kernel
theorem dX12_isDone_646 : decode cX12_isDone 646 = .ok (.getfield 204, 3) := by decide +kernel
theorem dX12_isDone_649 : decode cX12_isDone 649 = .ok (.sipush 470, 3) := by decide +kernel
theorem dX12_isDone_652 : decode cX12_isDone 652 = .ok (.iload_n 2, 1) := by decide +kernel
theorem dX12_isDone_653 : decode cX12_isDone 653 = .ok (.iadd, 1) := by decide +kernel
theorem dX12_isDone_654 : decode cX12_isDone 654 = .ok (.iaload, 1) := by decide +kernel
theorem dX12_isDone_655 : decode cX12_isDone 655 = .ok (.putfield 580, 3) := by decide +kernel
theorem dX12_isDone_658 : decode cX12_isDone 658 = .ok (.aload_n 0, 1) := by decide +kernel
theorem dX12_isDone_659 : decode cX12_isDone 659 = .ok (.dup, 1) := by decide +kernel
theorem dX12_isDone_660 : decode cX12_isDone 660 = .ok (.getfield 617, 3) := by decide +kernel
theorem dX12_isDone_663 : decode cX12_isDone 663 = .ok (.iconst 1, 1) := by decide +kernel
theorem dX12_isDone_664 : decode cX12_isDone 664 = .ok (.iadd, 1) := by decide +kernel
theorem dX12_isDone_665 : decode cX12_isDone 665 = .ok (.putfield 617, 3) := by decide +kernel
theorem dX12_isDone_668 : decode cX12_isDone 668 = .ok (.iconst 1, 1) := by decide +kernel
theorem dX12_isDone_669 : decode cX12_isDone 669 = .ok (.ireturn, 1) := by decide +kernel
theorem dX12_isDone_670 : decode cX12_isDone 670 = .ok (.aload_n 0, 1) := by decide +kernel
theorem dX12_isDone_671 : decode cX12_isDone 671 = .ok (.getfield 604, 3) := by decide +kernel
theorem dX12_isDone_674 : decode cX12_isDone 674 = .ok (.aload_n 0, 1) := by decide +kernel
theorem dX12_isDone_675 : decode cX12_isDone 675 = .ok (.getfield 204, 3) := by decide +kernel
theorem dX12_isDone_678 : decode cX12_isDone 678 = .ok (.sipush 690, 3) := by decide +kernel
theorem dX12_isDone_681 : decode cX12_isDone 681 = .ok (.iload_n 2, 1) := by decide +kernel
theorem dX12_isDone_682 : decode cX12_isDone 682 = .ok (.iadd, 1) := by decide +kernel
theorem dX12_isDone_683 : decode cX12_isDone 683 = .ok (.iaload, 1) := by decide +kernel
theorem dX12_isDone_684 : decode cX12_isDone 684 = .ok (.if_icmp .ne 17, 3) := by decide +kernel
theorem dX12_isDone_687 : decode cX12_isDone 687 = .ok (.aload_n 0, 1) := by decide +kernel
theorem dX12_isDone_688 : decode cX12_isDone 688 = .ok (.aload_n 0, 1) := by decide +kernel
theorem dX12_isDone_689 : decode cX12_isDone 689 = .ok (.getfield 204, 3) := by decide +kernel
theorem dX12_isDone_692 : decode cX12_isDone 692 = .ok (.sipush 470, 3) := by decide +kernel
theorem dX12_isDone_695 : decode cX12_isDone 695 = .ok (.iload_n 2, 1) := by decide +kernel
theorem dX12_isDone_696 : decode cX12_isDone 696 = .ok (.iadd, 1) := by decide +kernel
