theorem dX12_dead_127 : decode cX12_dead 127 = .ok (.ifCond .eq 11, 3) := by decide +kernel
theorem dX12_dead_130 : decode cX12_dead 130 = .ok (.iload 4, 2) := by decide +kernel
theorem dX12_dead_132 : decode cX12_dead 132 = .ok (.ifCond .ne 6, 3) := by decide +kernel
theorem dX12_dead_135 : decode cX12_dead 135 = .ok (.iload 5, 2) := by decide +kernel
theorem dX12_dead_137 : decode cX12_dead 137 = .ok (.ireturn, 1) := by decide +kernel
theorem dX12_dead_138 : decode cX12_dead 138 = .ok (.iload 4, 2) := by decide +kernel
theorem dX12_dead_140 : decode cX12_dead 140 = .ok (.iload 7, 2) := by decide +kernel
theorem dX12_dead_142 : decode cX12_dead 142 = .ok (.ifCond .eq 7, 3) := by decide +kernel
theorem dX12_dead_145 : decode cX12_dead 145 = .ok (.iconst 1, 1) := by decide +kernel
theorem dX12_dead_146 : decode cX12_dead 146 = .ok (.goto 4, 3) := by decide +kernel
theorem dX12_dead_149 : decode cX12_dead 149 = .ok (.iconst 0, 1) := by decide +kernel
theorem dX12_dead_150 : decode cX12_dead 150 = .ok (.isub, 1) := by decide +kernel
theorem dX12_dead_151 : decode cX12_dead 151 = .ok (.istore 4, 2) := by decide +kernel
theorem dX12_dead_153 : decode cX12_dead 153 = .ok (.iinc 5 1, 3) := by decide +kernel
theorem dX12_dead_156 : decode cX12_dead 156 = .ok (.goto (-121), 3) := by decide +kernel
theorem dX12_dead_159 : decode cX12_dead 159 = .ok (.iconst (-1), 1) := by decide +kernel
theorem dX12_dead_160 : decode cX12_dead 160 = .ok (.ireturn, 1) := by decide +kernel
theorem dX12_drop_0 : decode cX12_drop 0 = .ok (.aload_n 0, 1) := by decide +kernel
theorem dX12_drop_1 : decode cX12_drop 1 = .ok (.iconst 0, 1) := by decide +kernel
theorem dX12_drop_2 : decode cX12_drop 2 = .ok (.putfield 1, 3) := by decide +kernel
theorem dX12_drop_5 : decode cX12_drop 5 = .ok (.aload_n 0, 1) := by decide +kernel
theorem dX12_drop_6 : decode cX12_drop 6 = .ok (.iload_n 1, 1) := by decide +kernel
theorem dX12_drop_7 : decode cX12_drop 7 = .ok (.invokevirtual 542, 3) := by decide +kernel
theorem dX12_drop_10 : decode cX12_drop 10 = .ok (.istore_n 2, 1) := by decide +kernel
theorem dX12_drop_11 : decode cX12_drop 11 = .ok (.iload_n 2, 1) := by decide +kernel
theorem dX12_drop_12 : decode cX12_drop 12 = .ok (.ifCond .eq 5, 3) := by decide +kernel
theorem dX12_drop_15 : decode cX12_drop 15 = .ok (.iload_n 2, 1) := by decide +kernel
theorem dX12_drop_16 : decode cX12_drop 16 = .ok (.ireturn, 1) := by decide +kernel
theorem dX12_drop_17 : decode cX12_drop 17 = .ok (.aload_n 0, 1) := by decide +kernel
theorem dX12_drop_18 : decode cX12_drop 18 = .ok (.getfield 171, 3) := by decide +kernel
theorem dX12_drop_21 : decode cX12_drop 21 = .ok (.iload_n 1, 1) := by decide +kernel
theorem dX12_drop_22 : decode cX12_drop 22 = .ok (.iconst 0, 1) := by decide +kernel
theorem dX12_drop_23 : decode cX12_drop 23 = .ok (.bastore, 1) := by decide +kernel
theorem dX12_drop_24 : decode cX12_drop 24 = .ok (.aload_n 0, 1) := by decide +kernel
theorem dX12_drop_25 : decode cX12_drop 25 = .ok (.aload_n 0, 1) := by decide +kernel
theorem dX12_drop_26 : decode cX12_drop 26 = .ok (.getfield 449, 3) := by decide +kernel
theorem dX12_drop_29 : decode cX12_drop 29 = .ok (.ifCond .eq 15, 3) := by decide +kernel
theorem dX12_drop_32 : decode cX12_drop 32 = .ok (.aload_n 0, 1) := by decide +kernel
theorem dX12_drop_33 : decode cX12_drop 33 = .ok (.getfield 539, 3) := by decide +kernel
theorem dX12_drop_36 : decode cX12_drop 36 = .ok (.iload_n 1, 1) := by decide +kernel
theorem dX12_drop_37 : decode cX12_drop 37 = .ok (.if_icmp .eq 7, 3) := by decide +kernel
theorem dX12_drop_40 : decode cX12_drop 40 = .ok (.iconst 1, 1) := by decide +kernel
theorem dX12_drop_41 : decode cX12_drop 41 = .ok (.goto 4, 3) := by decide +kernel
theorem dX12_drop_44 : decode cX12_drop 44 = .ok (.iconst 0, 1) := by decide +kernel
theorem dX12_drop_45 : decode cX12_drop 45 = .ok (.putfield 449, 3) := by decide +kernel
theorem dX12_drop_48 : decode cX12_drop 48 = .ok (.aload_n 0, 1) := by decide +kernel
theorem dX12_drop_49 : decode cX12_drop 49 = .ok (.getfield 174, 3) := by decide +kernel
theorem dX12_drop_52 : decode cX12_drop 52 = .ok (.iload_n 1, 1) := by decide +kernel
theorem dX12_drop_53 : decode cX12_drop 53 = .ok (.iaload, 1) := by decide +kernel
theorem dX12_drop_54 : decode cX12_drop 54 = .ok (.ireturn, 1) := by decide +kernel
theorem dX12_escaped_0 : decode cX12_escaped 0 = .ok (.aload_n 0, 1) := by decide +kernel
theorem dX12_escaped_1 : decode cX12_escaped 1 = .ok (.aload_n 0, 1) := by decide +kernel
theorem dX12_escaped_2 : decode cX12_escaped 2 = .ok (.getfield 362, 3) := by decide +kernel
theorem dX12_escaped_5 : decode cX12_escaped 5 = .ok (.iconst 1, 1) := by decide +kernel
theorem dX12_escaped_6 : decode cX12_escaped 6 = .ok (.iadd, 1) := by decide +kernel
theorem dX12_escaped_7 : decode cX12_escaped 7 = .ok (.invokevirtual 349, 3) := by decide +kernel
theorem dX12_escaped_10 : decode cX12_escaped 10 = .ok (.istore_n 1, 1) := by decide +kernel
theorem dX12_escaped_11 : decode cX12_escaped 11 = .ok (.aload_n 0, 1) := by decide +kernel
theorem dX12_escaped_12 : decode cX12_escaped 12 = .ok (.getfield 396, 3) := by decide +kernel
theorem dX12_escaped_15 : decode cX12_escaped 15 = .ok (.istore_n 2, 1) := by decide +kernel
theorem dX12_escaped_16 : decode cX12_escaped 16 = .ok (.aload_n 0, 1) := by decide +kernel
theorem dX12_escaped_17 : decode cX12_escaped 17 = .ok (.getfield 362, 3) := by decide +kernel
theorem dX12_escaped_20 : decode cX12_escaped 20 = .ok (.iconst 1, 1) := by decide +kernel
theorem dX12_escaped_21 : decode cX12_escaped 21 = .ok (.iadd, 1) := by decide +kernel
theorem dX12_escaped_22 : decode cX12_escaped 22 = .ok (.istore_n 3, 1) := by decide +kernel
theorem dX12_escaped_23 : decode cX12_escaped 23 = .ok (.aload_n 0, 1) := by decide +kernel
theorem dX12_escaped_24 : decode cX12_escaped 24 = .ok (.dup, 1) := by decide +kernel
theorem dX12_escaped_25 : decode cX12_escaped 25 = .ok (.getfield 362, 3) := by decide +kernel
theorem dX12_escaped_28 : decode cX12_escaped 28 = .ok (.iconst 2, 1) := by decide +kernel
theorem dX12_escaped_29 : decode cX12_escaped 29 = .ok (.iadd, 1) := by decide +kernel
theorem dX12_escaped_30 : decode cX12_escaped 30 = .ok (.putfield 362, 3) := by decide +kernel
theorem dX12_escaped_33 : decode cX12_escaped 33 = .ok (.iload_n 1, 1) := by decide +kernel
theorem dX12_escaped_34 : decode cX12_escaped 34 = .ok (.bipush 98, 2) := by decide +kernel
theorem dX12_escaped_36 : decode cX12_escaped 36 = .ok (.if_icmp .eq 9, 3) := by decide +kernel
theorem dX12_escaped_39 : decode cX12_escaped 39 = .ok (.iload_n 1, 1) := by decide +kernel
theorem dX12_escaped_40 : decode cX12_escaped 40 = .ok (.bipush 66, 2) := by decide +kernel
theorem dX12_escaped_42 : decode cX12_escaped 42 = .ok (.if_icmp .ne 20, 3) := by decide +kernel
theorem dX12_escaped_45 : decode cX12_escaped 45 = .ok (.aload_n 0, 1) := by decide +kernel
theorem dX12_escaped_46 : decode cX12_escaped 46 = .ok (.iconst 3, 1) := by decide +kernel
theorem dX12_escaped_47 : decode cX12_escaped 47 = .ok (.iload_n 1, 1) := by decide +kernel
theorem dX12_escaped_48 : decode cX12_escaped 48 = .ok (.bipush 98, 2) := by decide +kernel
theorem dX12_escaped_50 : decode cX12_escaped 50 = .ok (.if_icmp .ne 7, 3) := by decide +kernel
theorem dX12_escaped_53 : decode cX12_escaped 53 = .ok (.iconst 2, 1) := by decide +kernel
theorem dX12_escaped_54 : decode cX12_escaped 54 = .ok (.goto 4, 3) := by decide +kernel
theorem dX12_escaped_57 : decode cX12_escaped 57 = .ok (.iconst 3, 1) := by decide +kernel
theorem dX12_escaped_58 : decode cX12_escaped 58 = .ok (.invokevirtual 335, 3) := by decide +kernel
theorem dX12_escaped_61 : decode cX12_escaped 61 = .ok (.ireturn, 1) := by decide +kernel
theorem dX12_escaped_62 : decode cX12_escaped 62 = .ok (.iload_n 1, 1) := by decide +kernel
theorem dX12_escaped_63 : decode cX12_escaped 63 = .ok (.bipush 100, 2) := by decide +kernel
theorem dX12_escaped_65 : decode cX12_escaped 65 = .ok (.if_icmp .eq 9, 3) := by decide +kernel
theorem dX12_escaped_68 : decode cX12_escaped 68 = .ok (.iload_n 1, 1) := by decide +kernel
theorem dX12_escaped_69 : decode cX12_escaped 69 = .ok (.bipush 119, 2) := by decide +kernel
theorem dX12_escaped_71 : decode cX12_escaped 71 = .ok (.if_icmp .ne 48, 3) := by decide +kernel
theorem dX12_escaped_74 : decode cX12_escaped 74 = .ok (.aload_n 0, 1) := by decide +kernel
theorem dX12_escaped_75 : decode cX12_escaped 75 = .ok (.bipush 48, 2) := by decide +kernel
theorem dX12_escaped_77 : decode cX12_escaped 77 = .ok (.bipush 57, 2) := by decide +kernel
theorem dX12_escaped_79 : decode cX12_escaped 79 = .ok (.invokevirtual 414, 3) := by decide +kernel
theorem dX12_escaped_82 : decode cX12_escaped 82 = .ok (.iload_n 1, 1) := by decide +kernel
theorem dX12_escaped_83 : decode cX12_escaped 83 = .ok (.bipush 119, 2) := by decide +kernel
theorem dX12_escaped_85 : decode cX12_escaped 85 = .ok (.if_icmp .ne 27, 3) := by decide +kernel
theorem dX12_escaped_88 : decode cX12_escaped 88 = .ok (.aload_n 0, 1) := by decide +kernel
theorem dX12_escaped_89 : decode cX12_escaped 89 = .ok (.bipush 65, 2) := by decide +kernel
theorem dX12_escaped_91 : decode cX12_escaped 91 = .ok (.bipush 90, 2) := by decide +kernel
theorem dX12_escaped_93 : decode cX12_escaped 93 = .ok (.invokevirtual 414, 3) := by decide +kernel
theorem dX12_escaped_96 : decode cX12_escaped 96 = .ok (.aload_n 0, 1) := by decide +kernel
theorem dX12_escaped_97 : decode cX12_escaped 97 = .ok (.bipush 95, 2) := by decide +kernel
theorem dX12_escaped_99 : decode cX12_escaped 99 = .ok (.bipush 95, 2) := by decide +kernel
theorem dX12_escaped_101 : decode cX12_escaped 101 = .ok (.invokevirtual 414, 3) := by decide +kernel
theorem dX12_escaped_104 : decode cX12_escaped 104 = .ok (.aload_n 0, 1) := by decide +kernel
theorem dX12_escaped_105 : decode cX12_escaped 105 = .ok (.bipush 97, 2) := by decide +kernel
theorem dX12_escaped_107 : decode cX12_escaped 107 = .ok (.bipush 122, 2) := by decide +kernel
theorem dX12_escaped_109 : decode cX12_escaped 109 = .ok (.invokevirtual 414, 3) := by decide +kernel
theorem dX12_escaped_112 : decode cX12_escaped 112 = .ok (.aload_n 0, 1) := by decide +kernel
theorem dX12_escaped_113 : decode cX12_escaped 113 = .ok (.iload_n 2, 1) := by decide +kernel
theorem dX12_escaped_114 : decode cX12_escaped 114 = .ok (.iconst 0, 1) := by decide +kernel
theorem dX12_escaped_115 : decode cX12_escaped 115 = .ok (.invokevirtual 417, 3) := by decide +kernel
theorem dX12_escaped_118 : decode cX12_escaped 118 = .ok (.ireturn, 1) := by decide +kernel
theorem dX12_escaped_119 : decode cX12_escaped 119 = .ok (.iload_n 1, 1) := by decide +kernel
theorem dX12_escaped_120 : decode cX12_escaped 120 = .ok (.bipush 49, 2) := by decide +kernel
theorem dX12_escaped_122 : decode cX12_escaped 122 = .ok (.bipush 57, 2) := by decide +kernel
theorem dX12_escaped_124 : decode cX12_escaped 124 = .ok (.invokestatic 7, 3) := by decide +kernel
theorem dX12_escaped_127 : decode cX12_escaped 127 = .ok (.ifCond .eq 30, 3) := by decide +kernel
theorem dX12_escaped_130 : decode cX12_escaped 130 = .ok (.iload_n 1, 1) := by decide +kernel
theorem dX12_escaped_131 : decode cX12_escaped 131 = .ok (.bipush 48, 2) := by decide +kernel
theorem dX12_escaped_133 : decode cX12_escaped 133 = .ok (.isub, 1) := by decide +kernel
theorem dX12_escaped_134 : decode cX12_escaped 134 = .ok (.aload_n 0, 1) := by decide +kernel
theorem dX12_escaped_135 : decode cX12_escaped 135 = .ok (.getfield 377, 3) := by decide +kernel
theorem dX12_escaped_138 : decode cX12_escaped 138 = .ok (.if_icmp .le 9, 3) := by decide +kernel
theorem dX12_escaped_141 : decode cX12_escaped 141 = .ok (.aload_n 0, 1) := by decide +kernel
theorem dX12_escaped_142 : decode cX12_escaped 142 = .ok (.iconst 3, 1) := by decide +kernel
theorem dX12_escaped_143 : decode cX12_escaped 143 = .ok (.iload_n 3, 1) := by decide +kernel
theorem dX12_escaped_144 : decode cX12_escaped 144 = .ok (.invokevirtual 345, 3) := by decide +kernel
theorem dX12_escaped_147 : decode cX12_escaped 147 = .ok (.aload_n 0, 1) := by decide +kernel
theorem dX12_escaped_148 : decode cX12_escaped 148 = .ok (.iconst 4, 1) := by decide +kernel
theorem dX12_escaped_149 : decode cX12_escaped 149 = .ok (.iload_n 1, 1) := by decide +kernel
theorem dX12_escaped_150 : decode cX12_escaped 150 = .ok (.bipush 48, 2) := by decide +kernel
theorem dX12_escaped_152 : decode cX12_escaped 152 = .ok (.isub, 1) := by decide +kernel
theorem dX12_escaped_153 : decode cX12_escaped 153 = .ok (.invokevirtual 335, 3) := by decide +kernel
theorem dX12_escaped_156 : decode cX12_escaped 156 = .ok (.ireturn, 1) := by decide +kernel
theorem dX12_escaped_157 : decode cX12_escaped 157 = .ok (.iload_n 1, 1) := by decide +kernel
theorem dX12_escaped_158 : decode cX12_escaped 158 = .ok (.bipush 64, 2) := by decide +kernel
theorem dX12_escaped_160 : decode cX12_escaped 160 = .ok (.if_icmp .ne 74, 3) := by decide +kernel
theorem dX12_escaped_163 : decode cX12_escaped 163 = .ok (.aload_n 0, 1) := by decide +kernel
theorem dX12_escaped_164 : decode cX12_escaped 164 = .ok (.aload_n 0, 1) := by decide +kernel
theorem dX12_escaped_165 : decode cX12_escaped 165 = .ok (.getfield 362, 3) := by decide +kernel
theorem dX12_escaped_168 : decode cX12_escaped 168 = .ok (.invokevirtual 349, 3) := by decide +kernel
theorem dX12_escaped_171 : decode cX12_escaped 171 = .ok (.istore 4, 2) := by decide +kernel
theorem dX12_escaped_173 : decode cX12_escaped 173 = .ok (.iload 4, 2) := by decide +kernel
theorem dX12_escaped_175 : decode cX12_escaped 175 = .ok (.bipush 97, 2) := by decide +kernel
theorem dX12_escaped_177 : decode cX12_escaped 177 = .ok (.bipush 122, 2) := by decide +kernel
theorem dX12_escaped_179 : decode cX12_escaped 179 = .ok (.invokestatic 7, 3) := by decide +kernel
theorem dX12_escaped_182 : decode cX12_escaped 182 = .ok (.ifCond .ne 12, 3) := by decide +kernel
theorem dX12_escaped_185 : decode cX12_escaped 185 = .ok (.aload_n 0, 1) := by decide +kernel
theorem dX12_escaped_186 : decode cX12_escaped 186 = .ok (.iconst 1, 1) := by decide +kernel
theorem dX12_escaped_187 : decode cX12_escaped 187 = .ok (.aload_n 0, 1) := by decide +kernel
theorem dX12_escaped_188 : decode cX12_escaped 188 = .ok (.getfield 362, 3) := by decide +kernel
theorem dX12_escaped_191 : decode cX12_escaped 191 = .ok (.invokevirtual 345, 3) := by decide +kernel
theorem dX12_escaped_194 : decode cX12_escaped 194 = .ok (.aload_n 0, 1) := by decide +kernel
theorem dX12_escaped_195 : decode cX12_escaped 195 = .ok (.iload 4, 2) := by decide +kernel
theorem dX12_escaped_197 : decode cX12_escaped 197 = .ok (.invokevirtual 380, 3) := by decide +kernel
theorem dX12_escaped_200 : decode cX12_escaped 200 = .ok (.istore 5, 2) := by decide +kernel
theorem dX12_escaped_202 : decode cX12_escaped 202 = .ok (.iload 5, 2) := by decide +kernel
theorem dX12_escaped_204 : decode cX12_escaped 204 = .ok (.ifCond .ne 12, 3) := by decide +kernel
theorem dX12_escaped_207 : decode cX12_escaped 207 = .ok (.aload_n 0, 1) := by decide +kernel
theorem dX12_escaped_208 : decode cX12_escaped 208 = .ok (.iconst 3, 1) := by decide +kernel
theorem dX12_escaped_209 : decode cX12_escaped 209 = .ok (.aload_n 0, 1) := by decide +kernel
theorem dX12_escaped_210 : decode cX12_escaped 210 = .ok (.getfield 362, 3) := by decide +kernel
theorem dX12_escaped_213 : decode cX12_escaped 213 = .ok (.invokevirtual 345, 3) := by decide +kernel
theorem dX12_escaped_216 : decode cX12_escaped 216 = .ok (.aload_n 0, 1) := by decide +kernel
theorem dX12_escaped_217 : decode cX12_escaped 217 = .ok (.dup, 1) := by decide +kernel
theorem dX12_escaped_218 : decode cX12_escaped 218 = .ok (.getfield 362, 3) := by decide +kernel
theorem dX12_escaped_221 : decode cX12_escaped 221 = .ok (.iconst 1, 1) := by decide +kernel
theorem dX12_escaped_222 : decode cX12_escaped 222 = .ok (.iadd, 1) := by decide +kernel
theorem dX12_escaped_223 : decode cX12_escaped 223 = .ok (.putfield 362, 3) := by decide +kernel
theorem dX12_escaped_226 : decode cX12_escaped 226 = .ok (.aload_n 0, 1) := by decide +kernel
theorem dX12_escaped_227 : decode cX12_escaped 227 = .ok (.iconst 4, 1) := by decide +kernel
theorem dX12_escaped_228 : decode cX12_escaped 228 = .ok (.iload 5, 2) := by decide +kernel
theorem dX12_escaped_230 : decode cX12_escaped 230 = .ok (.invokevirtual 335, 3) := by decide +kernel
theorem dX12_escaped_233 : decode cX12_escaped 233 = .ok (.ireturn, 1) := by decide +kernel
theorem dX12_escaped_234 : decode cX12_escaped 234 = .ok (.iload_n 1, 1) := by decide +kernel
theorem dX12_escaped_235 : decode cX12_escaped 235 = .ok (.bipush 120, 2) := by decide +kernel
theorem dX12_escaped_237 : decode cX12_escaped 237 = .ok (.if_icmp .ne 31, 3) := by decide +kernel
theorem dX12_escaped_240 : decode cX12_escaped 240 = .ok (.aload_n 0, 1) := by decide +kernel
theorem dX12_escaped_241 : decode cX12_escaped 241 = .ok (.aload_n 0, 1) := by decide +kernel
theorem dX12_escaped_242 : decode cX12_escaped 242 = .ok (.getfield 362, 3) := by decide +kernel
theorem dX12_escaped_245 : decode cX12_escaped 245 = .ok (.invokevirtual 408, 3) := by decide +kernel
theorem dX12_escaped_248 : decode cX12_escaped 248 = .ok (.istore 4, 2) := by decide +kernel
theorem dX12_escaped_250 : decode cX12_escaped 250 = .ok (.aload_n 0, 1) := by decide +kernel
theorem dX12_escaped_251 : decode cX12_escaped 251 = .ok (.dup, 1) := by decide +kernel
theorem dX12_escaped_252 : decode cX12_escaped 252 = .ok (.getfield 362, 3) := by decide +kernel
theorem dX12_escaped_255 : decode cX12_escaped 255 = .ok (.iconst 4, 1) := by decide +kernel
theorem dX12_escaped_256 : decode cX12_escaped 256 = .ok (.iadd, 1) := by decide +kernel
theorem dX12_escaped_257 : decode cX12_escaped 257 = .ok (.putfield 362, 3) := by decide +kernel
theorem dX12_escaped_260 : decode cX12_escaped 260 = .ok (.aload_n 0, 1) := by decide +kernel
theorem dX12_escaped_261 : decode cX12_escaped 261 = .ok (.iconst 0, 1) := by decide +kernel
theorem dX12_escaped_262 : decode cX12_escaped 262 = .ok (.iload 4, 2) := by decide +kernel
theorem dX12_escaped_264 : decode cX12_escaped 264 = .ok (.invokevirtual 335, 3) := by decide +kernel
theorem dX12_escaped_267 : decode cX12_escaped 267 = .ok (.ireturn, 1) := by decide +kernel
theorem dX12_escaped_268 : decode cX12_escaped 268 = .ok (.iload_n 1, 1) := by decide +kernel
theorem dX12_escaped_269 : decode cX12_escaped 269 = .ok (.iconst (-1), 1) := by decide +kernel
theorem dX12_escaped_270 : decode cX12_escaped 270 = .ok (.if_icmp .eq 17, 3) := by decide +kernel
theorem dX12_escaped_273 : decode cX12_escaped 273 = .ok (.iload_n 1, 1) := by decide +kernel
theorem dX12_escaped_274 : decode cX12_escaped 274 = .ok (.invokestatic 11, 3) := by decide +kernel
theorem dX12_escaped_277 : decode cX12_escaped 277 = .ok (.ifCond .ne 10, 3) := by decide +kernel
theorem dX12_escaped_280 : decode cX12_escaped 280 = .ok (.iload_n 1, 1) := by decide +kernel
theorem dX12_escaped_281 : decode cX12_escaped 281 = .ok (.invokestatic 15, 3) := by decide +kernel
theorem dX12_escaped_284 : decode cX12_escaped 284 = .ok (.ifCond .eq 9, 3) := by decide +kernel
theorem dX12_escaped_287 : decode cX12_escaped 287 = .ok (.aload_n 0, 1) := by decide +kernel
theorem dX12_escaped_288 : decode cX12_escaped 288 = .ok (.iconst 1, 1) := by decide +kernel
theorem dX12_escaped_289 : decode cX12_escaped 289 = .ok (.iload_n 3, 1) := by decide +kernel
theorem dX12_escaped_290 : decode cX12_escaped 290 = .ok (.invokevirtual 345, 3) := by decide +kernel
theorem dX12_escaped_293 : decode cX12_escaped 293 = .ok (.aload_n 0, 1) := by decide +kernel
theorem dX12_escaped_294 : decode cX12_escaped 294 = .ok (.iconst 0, 1) := by decide +kernel
theorem dX12_escaped_295 : decode cX12_escaped 295 = .ok (.iload_n 1, 1) := by decide +kernel
theorem dX12_escaped_296 : decode cX12_escaped 296 = .ok (.invokevirtual 335, 3) := by decide +kernel
theorem dX12_escaped_299 : decode cX12_escaped 299 = .ok (.ireturn, 1) := by decide +kernel
theorem dX12_fail_0 : decode cX12_fail 0 = .ok (.aload_n 0, 1) := by decide +kernel
theorem dX12_fail_1 : decode cX12_fail 1 = .ok (.getfield 320, 3) := by decide +kernel
theorem dX12_fail_4 : decode cX12_fail 4 = .ok (.ifCond .ne 13, 3) := by decide +kernel
theorem dX12_fail_7 : decode cX12_fail 7 = .ok (.aload_n 0, 1) := by decide +kernel
theorem dX12_fail_8 : decode cX12_fail 8 = .ok (.iload_n 1, 1) := by decide +kernel
theorem dX12_fail_9 : decode cX12_fail 9 = .ok (.putfield 320, 3) := by decide +kernel
theorem dX12_fail_12 : decode cX12_fail 12 = .ok (.aload_n 0, 1) := by decide +kernel
theorem dX12_fail_13 : decode cX12_fail 13 = .ok (.iload_n 2, 1) := by decide +kernel
theorem dX12_fail_14 : decode cX12_fail 14 = .ok (.putfield 323, 3) := by decide +kernel
theorem dX12_fail_17 : decode cX12_fail 17 = .ok (.return_, 1) := by decide +kernel
theorem dX12_feed_0 : decode cX12_feed 0 = .ok (.aload_n 0, 1) := by decide +kernel
theorem dX12_feed_1 : decode cX12_feed 1 = .ok (.iconst 0, 1) := by decide +kernel
theorem dX12_feed_2 : decode cX12_feed 2 = .ok (.putfield 1, 3) := by decide +kernel
theorem dX12_feed_5 : decode cX12_feed 5 = .ok (.iload_n 1, 1) := by decide +kernel
theorem dX12_feed_6 : decode cX12_feed 6 = .ok (.iconst 1, 1) := by decide +kernel
theorem dX12_feed_7 : decode cX12_feed 7 = .ok (.bipush 8, 2) := by decide +kernel
theorem dX12_feed_9 : decode cX12_feed 9 = .ok (.invokestatic 7, 3) := by decide +kernel
theorem dX12_feed_12 : decode cX12_feed 12 = .ok (.istore 4, 2) := by decide +kernel
theorem dX12_feed_14 : decode cX12_feed 14 = .ok (.iconst 0, 1) := by decide +kernel
theorem dX12_feed_15 : decode cX12_feed 15 = .ok (.istore 5, 2) := by decide +kernel
theorem dX12_feed_17 : decode cX12_feed 17 = .ok (.iload 5, 2) := by decide +kernel
theorem dX12_feed_19 : decode cX12_feed 19 = .ok (.iload_n 1, 1) := by decide +kernel
theorem dX12_feed_20 : decode cX12_feed 20 = .ok (.if_icmp .ge 35, 3) := by decide +kernel
theorem dX12_feed_23 : decode cX12_feed 23 = .ok (.iload 4, 2) := by decide +kernel
theorem dX12_feed_25 : decode cX12_feed 25 = .ok (.ifCond .eq 30, 3) := by decide +kernel
theorem dX12_feed_28 : decode cX12_feed 28 = .ok (.lload_n 2, 1) := by decide +kernel
theorem dX12_feed_29 : decode cX12_feed 29 = .ok (.bipush 8, 2) := by decide +kernel
theorem dX12_feed_31 : decode cX12_feed 31 = .ok (.iload 5, 2) := by decide +kernel
theorem dX12_feed_33 : decode cX12_feed 33 = .ok (.imul, 1) := by decide +kernel
theorem dX12_feed_34 : decode cX12_feed 34 = .ok (.lshr, 1) := by decide +kernel
theorem dX12_feed_35 : decode cX12_feed 35 = .ok (.ldc2_w 441, 3) := by decide +kernel
theorem dX12_feed_38 : decode cX12_feed 38 = .ok (.land, 1) := by decide +kernel
theorem dX12_feed_39 : decode cX12_feed 39 = .ok (.l2i, 1) := by decide +kernel
theorem dX12_feed_40 : decode cX12_feed 40 = .ok (.bipush 32, 2) := by decide +kernel
theorem dX12_feed_42 : decode cX12_feed 42 = .ok (.bipush 126, 2) := by decide +kernel
theorem dX12_feed_44 : decode cX12_feed 44 = .ok (.invokestatic 7, 3) := by decide +kernel
theorem dX12_feed_47 : decode cX12_feed 47 = .ok (.istore 4, 2) := by decide +kernel
theorem dX12_feed_49 : decode cX12_feed 49 = .ok (.iinc 5 1, 3) := by decide +kernel
theorem dX12_feed_52 : decode cX12_feed 52 = .ok (.goto (-35), 3) := by decide +kernel
theorem dX12_feed_55 : decode cX12_feed 55 = .ok (.iload 4, 2) := by decide +kernel
theorem dX12_feed_57 : decode cX12_feed 57 = .ok (.ifCond .ne 6, 3) := by decide +kernel
theorem dX12_feed_60 : decode cX12_feed 60 = .ok (.bipush (-4), 2) := by decide +kernel
theorem dX12_feed_62 : decode cX12_feed 62 = .ok (.ireturn, 1) := by decide +kernel
theorem dX12_feed_63 : decode cX12_feed 63 = .ok (.aload_n 0, 1) := by decide +kernel
theorem dX12_feed_64 : decode cX12_feed 64 = .ok (.getfield 317, 3) := by decide +kernel
theorem dX12_feed_67 : decode cX12_feed 67 = .ok (.iload_n 1, 1) := by decide +kernel
theorem dX12_feed_68 : decode cX12_feed 68 = .ok (.iadd, 1) := by decide +kernel
theorem dX12_feed_69 : decode cX12_feed 69 = .ok (.sipush 200, 3) := by decide +kernel
theorem dX12_feed_72 : decode cX12_feed 72 = .ok (.if_icmp .le 6, 3) := by decide +kernel
theorem dX12_feed_75 : decode cX12_feed 75 = .ok (.bipush (-9), 2) := by decide +kernel
theorem dX12_feed_77 : decode cX12_feed 77 = .ok (.ireturn, 1) := by decide +kernel
theorem dX12_feed_78 : decode cX12_feed 78 = .ok (.iload_n 1, 1) := by decide +kernel
theorem dX12_feed_79 : decode cX12_feed 79 = .ok (.iconst 1, 1) := by decide +kernel
theorem dX12_feed_80 : decode cX12_feed 80 = .ok (.isub, 1) := by decide +kernel
theorem dX12_feed_81 : decode cX12_feed 81 = .ok (.istore 5, 2) := by decide +kernel
theorem dX12_feed_83 : decode cX12_feed 83 = .ok (.iload 5, 2) := by decide +kernel
theorem dX12_feed_85 : decode cX12_feed 85 = .ok (.ifCond .lt 40, 3) := by decide +kernel
theorem dX12_feed_88 : decode cX12_feed 88 = .ok (.aload_n 0, 1) := by decide +kernel
theorem dX12_feed_89 : decode cX12_feed 89 = .ok (.getfield 24, 3) := by decide +kernel
theorem dX12_feed_92 : decode cX12_feed 92 = .ok (.aload_n 0, 1) := by decide +kernel
theorem dX12_feed_93 : decode cX12_feed 93 = .ok (.getfield 317, 3) := by decide +kernel
theorem dX12_feed_96 : decode cX12_feed 96 = .ok (.lload_n 2, 1) := by decide +kernel
theorem dX12_feed_97 : decode cX12_feed 97 = .ok (.bipush 8, 2) := by decide +kernel
theorem dX12_feed_99 : decode cX12_feed 99 = .ok (.iload 5, 2) := by decide +kernel
theorem dX12_feed_101 : decode cX12_feed 101 = .ok (.imul, 1) := by decide +kernel
theorem dX12_feed_102 : decode cX12_feed 102 = .ok (.lshr, 1) := by decide +kernel
theorem dX12_feed_103 : decode cX12_feed 103 = .ok (.ldc2_w 441, 3) := by decide +kernel
theorem dX12_feed_106 : decode cX12_feed 106 = .ok (.land, 1) := by decide +kernel
theorem dX12_feed_107 : decode cX12_feed 107 = .ok (.l2i, 1) := by decide +kernel
theorem dX12_feed_108 : decode cX12_feed 108 = .ok (.iastore, 1) := by decide +kernel
theorem dX12_feed_109 : decode cX12_feed 109 = .ok (.aload_n 0, 1) := by decide +kernel
theorem dX12_feed_110 : decode cX12_feed 110 = .ok (.dup, 1) := by decide +kernel
theorem dX12_feed_111 : decode cX12_feed 111 = .ok (.getfield 317, 3) := by decide +kernel
theorem dX12_feed_114 : decode cX12_feed 114 = .ok (.iconst 1, 1) := by decide +kernel
theorem dX12_feed_115 : decode cX12_feed 115 = .ok (.iadd, 1) := by decide +kernel
theorem dX12_feed_116 : decode cX12_feed 116 = .ok (.putfield 317, 3) := by decide +kernel
theorem dX12_feed_119 : decode cX12_feed 119 = .ok (.iinc 5 (-1), 3) := by decide +kernel
theorem dX12_feed_122 : decode cX12_feed 122 = .ok (.goto (-39), 3) := by decide +kernel
theorem dX12_feed_125 : decode cX12_feed 125 = .ok (.aload_n 0, 1) := by decide +kernel
theorem dX12_feed_126 : decode cX12_feed 126 = .ok (.getfield 317, 3) := by decide +kernel
theorem dX12_feed_129 : decode cX12_feed 129 = .ok (.ireturn, 1) := by decide +kernel
theorem dX12_find_0 : decode cX12_find 0 = .ok (.aload_n 0, 1) := by decide +kernel
theorem dX12_find_1 : decode cX12_find 1 = .ok (.iconst 0, 1) := by decide +kernel
theorem dX12_find_2 : decode cX12_find 2 = .ok (.putfield 1, 3) := by decide +kernel
theorem dX12_find_5 : decode cX12_find 5 = .ok (.aload_n 0, 1) := by decide +kernel
theorem dX12_find_6 : decode cX12_find 6 = .ok (.iload_n 1, 1) := by decide +kernel
theorem dX12_find_7 : decode cX12_find 7 = .ok (.iload_n 2, 1) := by decide +kernel
theorem dX12_find_8 : decode cX12_find 8 = .ok (.invokevirtual 687, 3) := by decide +kernel
theorem dX12_find_11 : decode cX12_find 11 = .ok (.istore 6, 2) := by decide +kernel
theorem dX12_find_13 : decode cX12_find 13 = .ok (.iload 6, 2) := by decide +kernel
theorem dX12_find_15 : decode cX12_find 15 = .ok (.ifCond .eq 6, 3) := by decide +kernel
theorem dX12_find_18 : decode cX12_find 18 = .ok (.iload 6, 2) := by decide +kernel
theorem dX12_find_20 : decode cX12_find 20 = .ok (.ireturn, 1) := by decide +kernel
theorem dX12_find_21 : decode cX12_find 21 = .ok (.iload_n 3, 1) := by decide +kernel
theorem dX12_find_22 : decode cX12_find 22 = .ok (.iconst 0, 1) := by decide +kernel
theorem dX12_find_23 : decode cX12_find 23 = .ok (.aload_n 0, 1) := by decide +kernel
theorem dX12_find_24 : decode cX12_find 24 = .ok (.getfield 174, 3) := by decide +kernel
theorem dX12_find_27 : decode cX12_find 27 = .ok (.iload_n 2, 1) := by decide +kernel
theorem dX12_find_28 : decode cX12_find 28 = .ok (.iaload, 1) := by decide +kernel
theorem dX12_find_29 : decode cX12_find 29 = .ok (.invokestatic 7, 3) := by decide +kernel
theorem dX12_find_32 : decode cX12_find 32 = .ok (.ifCond .eq 30, 3) := by decide +kernel
theorem dX12_find_35 : decode cX12_find 35 = .ok (.iload 4, 2) := by decide +kernel
theorem dX12_find_37 : decode cX12_find 37 = .ok (.iconst 0, 1) := by decide +kernel
theorem dX12_find_38 : decode cX12_find 38 = .ok (.iconst 2, 1) := by decide +kernel
theorem dX12_find_39 : decode cX12_find 39 = .ok (.invokestatic 7, 3) := by decide +kernel
theorem dX12_find_42 : decode cX12_find 42 = .ok (.ifCond .eq 20, 3) := by decide +kernel
theorem dX12_find_45 : decode cX12_find 45 = .ok (.iload 4, 2) := by decide +kernel
theorem dX12_find_47 : decode cX12_find 47 = .ok (.ifCond .ne 18, 3) := by decide +kernel
theorem dX12_find_50 : decode cX12_find 50 = .ok (.iload 5, 2) := by decide +kernel
theorem dX12_find_52 : decode cX12_find 52 = .ok (.iconst 1, 1) := by decide +kernel
theorem dX12_find_53 : decode cX12_find 53 = .ok (.sipush 3000, 3) := by decide +kernel
theorem dX12_find_56 : decode cX12_find 56 = .ok (.invokestatic 7, 3) := by decide +kernel
theorem dX12_find_59 : decode cX12_find 59 = .ok (.ifCond .ne 6, 3) := by decide +kernel
theorem dX12_find_62 : decode cX12_find 62 = .ok (.bipush (-4), 2) := by decide +kernel
theorem dX12_find_64 : decode cX12_find 64 = .ok (.ireturn, 1) := by decide +kernel
theorem dX12_find_65 : decode cX12_find 65 = .ok (.aload_n 0, 1) := by decide +kernel
theorem dX12_find_66 : decode cX12_find 66 = .ok (.iload_n 1, 1) := by decide +kernel
theorem dX12_find_67 : decode cX12_find 67 = .ok (.iload 4, 2) := by decide +kernel
theorem dX12_find_69 : decode cX12_find 69 = .ok (.invokevirtual 690, 3) := by decide +kernel
theorem dX12_find_72 : decode cX12_find 72 = .ok (.istore 6, 2) := by decide +kernel
theorem dX12_find_74 : decode cX12_find 74 = .ok (.iload 6, 2) := by decide +kernel
theorem dX12_find_76 : decode cX12_find 76 = .ok (.ifCond .eq 6, 3) := by decide +kernel
theorem dX12_find_79 : decode cX12_find 79 = .ok (.iload 6, 2) := by decide +kernel
theorem dX12_find_81 : decode cX12_find 81 = .ok (.ireturn, 1) := by decide +kernel
theorem dX12_find_82 : decode cX12_find 82 = .ok (.aload_n 0, 1) := by decide +kernel
theorem dX12_find_83 : decode cX12_find 83 = .ok (.iload_n 1, 1) := by decide +kernel
theorem dX12_find_84 : decode cX12_find 84 = .ok (.putfield 453, 3) := by decide +kernel
theorem dX12_find_87 : decode cX12_find 87 = .ok (.aload_n 0, 1) := by decide +kernel
theorem dX12_find_88 : decode cX12_find 88 = .ok (.iload_n 2, 1) := by decide +kernel
theorem dX12_find_89 : decode cX12_find 89 = .ok (.putfield 539, 3) := by decide +kernel
theorem dX12_find_92 : decode cX12_find 92 = .ok (.aload_n 0, 1) := by decide +kernel
theorem dX12_find_93 : decode cX12_find 93 = .ok (.iload_n 3, 1) := by decide +kernel
theorem dX12_find_94 : decode cX12_find 94 = .ok (.putfield 677, 3) := by decide +kernel
theorem dX12_find_97 : decode cX12_find 97 = .ok (.aload_n 0, 1) := by decide +kernel
theorem dX12_find_98 : decode cX12_find 98 = .ok (.iconst 0, 1) := by decide +kernel
theorem dX12_find_99 : decode cX12_find 99 = .ok (.putfield 449, 3) := by decide +kernel
theorem dX12_find_102 : decode cX12_find 102 = .ok (.iload 4, 2) := by decide +kernel
theorem dX12_find_104 : decode cX12_find 104 = .ok (.ifCond .ne 10, 3) := by decide +kernel
theorem dX12_find_107 : decode cX12_find 107 = .ok (.aload_n 0, 1) := by decide +kernel
theorem dX12_find_108 : decode cX12_find 108 = .ok (.iload 5, 2) := by decide +kernel
theorem dX12_find_110 : decode cX12_find 110 = .ok (.invokevirtual 693, 3) := by decide +kernel
theorem dX12_find_113 : decode cX12_find 113 = .ok (.ireturn, 1) := by decide +kernel
theorem dX12_find_114 : decode cX12_find 114 = .ok (.aload_n 0, 1) := by decide +kernel
theorem dX12_find_115 : decode cX12_find 115 = .ok (.iload_n 1, 1) := by decide +kernel
theorem dX12_find_116 : decode cX12_find 116 = .ok (.iconst 1, 1) := by decide +kernel
theorem dX12_find_117 : decode cX12_find 117 = .ok (.invokevirtual 673, 3) := by decide +kernel
theorem dX12_find_120 : decode cX12_find 120 = .ok (.aload_n 0, 1) := by decide +kernel
theorem dX12_find_121 : decode cX12_find 121 = .ok (.iload_n 1, 1) := by decide +kernel
theorem dX12_find_122 : decode cX12_find 122 = .ok (.iload_n 2, 1) := by decide +kernel
theorem dX12_find_123 : decode cX12_find 123 = .ok (.iload_n 3, 1) := by decide +kernel
theorem dX12_find_124 : decode cX12_find 124 = .ok (.iconst 0, 1) := by decide +kernel
theorem dX12_find_125 : decode cX12_find 125 = .ok (.iconst 1, 1) := by decide +kernel
theorem dX12_find_126 : decode cX12_find 126 = .ok (.iconst 0, 1) := by decide +kernel
theorem dX12_find_127 : decode cX12_find 127 = .ok (.invokevirtual 680, 3) := by decide +kernel
theorem dX12_find_130 : decode cX12_find 130 = .ok (.istore 7, 2) := by decide +kernel
theorem dX12_find_132 : decode cX12_find 132 = .ok (.aload_n 0, 1) := by decide +kernel
theorem dX12_find_133 : decode cX12_find 133 = .ok (.iload_n 1, 1) := by decide +kernel
theorem dX12_find_134 : decode cX12_find 134 = .ok (.iload 7, 2) := by decide +kernel
theorem dX12_find_136 : decode cX12_find 136 = .ok (.iconst 1, 1) := by decide +kernel
theorem dX12_find_137 : decode cX12_find 137 = .ok (.if_icmp .ne 7, 3) := by decide +kernel
theorem dX12_find_140 : decode cX12_find 140 = .ok (.iconst 1, 1) := by decide +kernel
theorem dX12_find_141 : decode cX12_find 141 = .ok (.goto 4, 3) := by decide +kernel
theorem dX12_find_144 : decode cX12_find 144 = .ok (.iconst 0, 1) := by decide +kernel
theorem dX12_find_145 : decode cX12_find 145 = .ok (.invokevirtual 684, 3) := by decide +kernel
theorem dX12_find_148 : decode cX12_find 148 = .ok (.iload 7, 2) := by decide +kernel
theorem dX12_find_150 : decode cX12_find 150 = .ok (.ireturn, 1) := by decide +kernel
theorem dX12_findAll_0 : decode cX12_findAll 0 = .ok (.aload_n 0, 1) := by decide +kernel
theorem dX12_findAll_1 : decode cX12_findAll 1 = .ok (.iconst 0, 1) := by decide +kernel
theorem dX12_findAll_2 : decode cX12_findAll 2 = .ok (.putfield 449, 3) := by decide +kernel
theorem dX12_findAll_5 : decode cX12_findAll 5 = .ok (.aload_n 0, 1) := by decide +kernel
theorem dX12_findAll_6 : decode cX12_findAll 6 = .ok (.iload_n 1, 1) := by decide +kernel
theorem dX12_findAll_7 : decode cX12_findAll 7 = .ok (.iload_n 3, 1) := by decide +kernel
theorem dX12_findAll_8 : decode cX12_findAll 8 = .ok (.ifCond .le 7, 3) := by decide +kernel
theorem dX12_findAll_11 : decode cX12_findAll 11 = .ok (.iconst 1, 1) := by decide +kernel
theorem dX12_findAll_12 : decode cX12_findAll 12 = .ok (.goto 4, 3) := by decide +kernel
theorem dX12_findAll_15 : decode cX12_findAll 15 = .ok (.iconst 0, 1) := by decide +kernel
theorem dX12_findAll_16 : decode cX12_findAll 16 = .ok (.invokevirtual 673, 3) := by decide +kernel
theorem dX12_findAll_19 : decode cX12_findAll 19 = .ok (.aload_n 0, 1) := by decide +kernel
theorem dX12_findAll_20 : decode cX12_findAll 20 = .ok (.iconst 0, 1) := by decide +kernel
theorem dX12_findAll_21 : decode cX12_findAll 21 = .ok (.putfield 696, 3) := by decide +kernel
theorem dX12_findAll_24 : decode cX12_findAll 24 = .ok (.iconst 0, 1) := by decide +kernel
theorem dX12_findAll_25 : decode cX12_findAll 25 = .ok (.istore 4, 2) := by decide +kernel
theorem dX12_findAll_27 : decode cX12_findAll 27 = .ok (.iload 4, 2) := by decide +kernel
theorem dX12_findAll_29 : decode cX12_findAll 29 = .ok (.aload_n 0, 1) := by decide +kernel
theorem dX12_findAll_30 : decode cX12_findAll 30 = .ok (.getfield 174, 3) := by decide +kernel
theorem dX12_findAll_33 : decode cX12_findAll 33 = .ok (.iload_n 2, 1) := by decide +kernel
theorem dX12_findAll_34 : decode cX12_findAll 34 = .ok (.iaload, 1) := by decide +kernel
theorem dX12_findAll_35 : decode cX12_findAll 35 = .ok (.if_icmp .gt 127, 3) := by decide +kernel
theorem dX12_findAll_38 : decode cX12_findAll 38 = .ok (.aload_n 0, 1) := by decide +kernel
theorem dX12_findAll_39 : decode cX12_findAll 39 = .ok (.iload_n 1, 1) := by decide +kernel
theorem dX12_findAll_40 : decode cX12_findAll 40 = .ok (.iload_n 2, 1) := by decide +kernel
theorem dX12_findAll_41 : decode cX12_findAll 41 = .ok (.iload 4, 2) := by decide +kernel
theorem dX12_findAll_43 : decode cX12_findAll 43 = .ok (.iconst 0, 1) := by decide +kernel
theorem dX12_findAll_44 : decode cX12_findAll 44 = .ok (.iload_n 3, 1) := by decide +kernel
theorem dX12_findAll_45 : decode cX12_findAll 45 = .ok (.ifCond .le 7, 3) := by decide +kernel
theorem dX12_findAll_48 : decode cX12_findAll 48 = .ok (.iconst 1, 1) := by decide +kernel
theorem dX12_findAll_49 : decode cX12_findAll 49 = .ok (.goto 4, 3) := by decide +kernel
theorem dX12_findAll_52 : decode cX12_findAll 52 = .ok (.iconst 0, 1) := by decide +kernel
theorem dX12_findAll_53 : decode cX12_findAll 53 = .ok (.sipush 3000, 3) := by decide +kernel
theorem dX12_findAll_56 : decode cX12_findAll 56 = .ok (.invokevirtual 680, 3) := by decide +kernel
theorem dX12_findAll_59 : decode cX12_findAll 59 = .ok (.istore 5, 2) := by decide +kernel
theorem dX12_findAll_61 : decode cX12_findAll 61 = .ok (.iload 5, 2) := by decide +kernel
theorem dX12_findAll_63 : decode cX12_findAll 63 = .ok (.iconst 2, 1) := by decide +kernel
theorem dX12_findAll_64 : decode cX12_findAll 64 = .ok (.if_icmp .ne 6, 3) := by decide +kernel
theorem dX12_findAll_67 : decode cX12_findAll 67 = .ok (.bipush (-8), 2) := by decide +kernel
theorem dX12_findAll_69 : decode cX12_findAll 69 = .ok (.ireturn, 1) := by decide +kernel
theorem dX12_findAll_70 : decode cX12_findAll 70 = .ok (.iload 5, 2) := by decide +kernel
theorem dX12_findAll_72 : decode cX12_findAll 72 = .ok (.ifCond .ne 5, 3) := by decide +kernel
theorem dX12_findAll_75 : decode cX12_findAll 75 = .ok (.iconst 0, 1) := by decide +kernel
theorem dX12_findAll_76 : decode cX12_findAll 76 = .ok (.ireturn, 1) := by decide +kernel
theorem dX12_findAll_77 : decode cX12_findAll 77 = .ok (.iconst 0, 1) := by decide +kernel
theorem dX12_findAll_78 : decode cX12_findAll 78 = .ok (.istore 6, 2) := by decide +kernel
theorem dX12_findAll_80 : decode cX12_findAll 80 = .ok (.iload 6, 2) := by decide +kernel
theorem dX12_findAll_82 : decode cX12_findAll 82 = .ok (.bipush 20, 2) := by decide +kernel
theorem dX12_findAll_84 : decode cX12_findAll 84 = .ok (.if_icmp .ge 31, 3) := by decide +kernel
theorem dX12_findAll_87 : decode cX12_findAll 87 = .ok (.aload_n 0, 1) := by decide +kernel
theorem dX12_findAll_88 : decode cX12_findAll 88 = .ok (.getfield 237, 3) := by decide +kernel
theorem dX12_findAll_91 : decode cX12_findAll 91 = .ok (.bipush 20, 2) := by decide +kernel
theorem dX12_findAll_93 : decode cX12_findAll 93 = .ok (.aload_n 0, 1) := by decide +kernel
theorem dX12_findAll_94 : decode cX12_findAll 94 = .ok (.getfield 696, 3) := by decide +kernel
theorem dX12_findAll_97 : decode cX12_findAll 97 = .ok (.imul, 1) := by decide +kernel
theorem dX12_findAll_98 : decode cX12_findAll 98 = .ok (.iload 6, 2) := by decide +kernel
theorem dX12_findAll_100 : decode cX12_findAll 100 = .ok (.iadd, 1) := by decide +kernel
theorem dX12_findAll_101 : decode cX12_findAll 101 = .ok (.aload_n 0, 1) := by decide +kernel
theorem dX12_findAll_102 : decode cX12_findAll 102 = .ok (.getfield 231, 3) := by decide +kernel
theorem dX12_findAll_105 : decode cX12_findAll 105 = .ok (.iload 6, 2) := by decide +kernel
theorem dX12_findAll_107 : decode cX12_findAll 107 = .ok (.iaload, 1) := by decide +kernel
theorem dX12_findAll_108 : decode cX12_findAll 108 = .ok (.iastore, 1) := by decide +kernel
theorem dX12_findAll_109 : decode cX12_findAll 109 = .ok (.iinc 6 1, 3) := by decide +kernel
theorem dX12_findAll_112 : decode cX12_findAll 112 = .ok (.goto (-32), 3) := by decide +kernel
theorem dX12_findAll_115 : decode cX12_findAll 115 = .ok (.aload_n 0, 1) := by decide +kernel
theorem dX12_findAll_116 : decode cX12_findAll 116 = .ok (.dup, 1) := by decide +kernel
theorem dX12_findAll_117 : decode cX12_findAll 117 = .ok (.getfield 696, 3) := by decide +kernel
theorem dX12_findAll_120 : decode cX12_findAll 120 = .ok (.iconst 1, 1) := by decide +kernel
