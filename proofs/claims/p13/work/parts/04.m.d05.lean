theorem dX12_first_67 : decode cX12_first 67 = .ok (.istore 7, 2) := by decide +kernel
theorem dX12_first_69 : decode cX12_first 69 = .ok (.iload 7, 2) := by decide +kernel
theorem dX12_first_71 : decode cX12_first 71 = .ok (.ifCond .eq 6, 3) := by decide +kernel
theorem dX12_first_74 : decode cX12_first 74 = .ok (.iload 7, 2) := by decide +kernel
theorem dX12_first_76 : decode cX12_first 76 = .ok (.ireturn, 1) := by decide +kernel
theorem dX12_first_77 : decode cX12_first 77 = .ok (.iload_n 3, 1) := by decide +kernel
theorem dX12_first_78 : decode cX12_first 78 = .ok (.iconst 0, 1) := by decide +kernel
theorem dX12_first_79 : decode cX12_first 79 = .ok (.aload_n 0, 1) := by decide +kernel
theorem dX12_first_80 : decode cX12_first 80 = .ok (.getfield 174, 3) := by decide +kernel
theorem dX12_first_83 : decode cX12_first 83 = .ok (.iload_n 2, 1) := by decide +kernel
theorem dX12_first_84 : decode cX12_first 84 = .ok (.iaload, 1) := by decide +kernel
theorem dX12_first_85 : decode cX12_first 85 = .ok (.invokestatic 7, 3) := by decide +kernel
theorem dX12_first_88 : decode cX12_first 88 = .ok (.ifCond .eq 13, 3) := by decide +kernel
theorem dX12_first_91 : decode cX12_first 91 = .ok (.iload 4, 2) := by decide +kernel
theorem dX12_first_93 : decode cX12_first 93 = .ok (.iconst 0, 1) := by decide +kernel
theorem dX12_first_94 : decode cX12_first 94 = .ok (.iconst 2, 1) := by decide +kernel
theorem dX12_first_95 : decode cX12_first 95 = .ok (.invokestatic 7, 3) := by decide +kernel
theorem dX12_first_98 : decode cX12_first 98 = .ok (.ifCond .ne 6, 3) := by decide +kernel
theorem dX12_first_101 : decode cX12_first 101 = .ok (.bipush (-4), 2) := by decide +kernel
theorem dX12_first_103 : decode cX12_first 103 = .ok (.ireturn, 1) := by decide +kernel
theorem dX12_first_104 : decode cX12_first 104 = .ok (.iconst 0, 1) := by decide +kernel
theorem dX12_first_105 : decode cX12_first 105 = .ok (.istore 8, 2) := by decide +kernel
theorem dX12_first_107 : decode cX12_first 107 = .ok (.iload 8, 2) := by decide +kernel
theorem dX12_first_109 : decode cX12_first 109 = .ok (.bipush 6, 2) := by decide +kernel
theorem dX12_first_111 : decode cX12_first 111 = .ok (.if_icmp .ge 45, 3) := by decide +kernel
theorem dX12_first_114 : decode cX12_first 114 = .ok (.iload_n 1, 1) := by decide +kernel
theorem dX12_first_115 : decode cX12_first 115 = .ok (.iload 8, 2) := by decide +kernel
theorem dX12_first_117 : decode cX12_first 117 = .ok (.ishr, 1) := by decide +kernel
theorem dX12_first_118 : decode cX12_first 118 = .ok (.iconst 1, 1) := by decide +kernel
theorem dX12_first_119 : decode cX12_first 119 = .ok (.iand, 1) := by decide +kernel
theorem dX12_first_120 : decode cX12_first 120 = .ok (.iconst 1, 1) := by decide +kernel
theorem dX12_first_121 : decode cX12_first 121 = .ok (.if_icmp .ne 29, 3) := by decide +kernel
theorem dX12_first_124 : decode cX12_first 124 = .ok (.iload 5, 2) := by decide +kernel
theorem dX12_first_126 : decode cX12_first 126 = .ok (.aload_n 0, 1) := by decide +kernel
theorem dX12_first_127 : decode cX12_first 127 = .ok (.iload 8, 2) := by decide +kernel
theorem dX12_first_129 : decode cX12_first 129 = .ok (.iload 4, 2) := by decide +kernel
theorem dX12_first_131 : decode cX12_first 131 = .ok (.invokevirtual 658, 3) := by decide +kernel
theorem dX12_first_134 : decode cX12_first 134 = .ok (.iadd, 1) := by decide +kernel
theorem dX12_first_135 : decode cX12_first 135 = .ok (.istore 5, 2) := by decide +kernel
theorem dX12_first_137 : decode cX12_first 137 = .ok (.iload 6, 2) := by decide +kernel
theorem dX12_first_139 : decode cX12_first 139 = .ok (.aload_n 0, 1) := by decide +kernel
theorem dX12_first_140 : decode cX12_first 140 = .ok (.iload 8, 2) := by decide +kernel
theorem dX12_first_142 : decode cX12_first 142 = .ok (.iload 4, 2) := by decide +kernel
theorem dX12_first_144 : decode cX12_first 144 = .ok (.invokevirtual 661, 3) := by decide +kernel
theorem dX12_first_147 : decode cX12_first 147 = .ok (.iadd, 1) := by decide +kernel
theorem dX12_first_148 : decode cX12_first 148 = .ok (.istore 6, 2) := by decide +kernel
theorem dX12_first_150 : decode cX12_first 150 = .ok (.iinc 8 1, 3) := by decide +kernel
theorem dX12_first_153 : decode cX12_first 153 = .ok (.goto (-46), 3) := by decide +kernel
theorem dX12_first_156 : decode cX12_first 156 = .ok (.iload 5, 2) := by decide +kernel
theorem dX12_first_158 : decode cX12_first 158 = .ok (.ifCond .ne 8, 3) := by decide +kernel
theorem dX12_first_161 : decode cX12_first 161 = .ok (.iload 6, 2) := by decide +kernel
theorem dX12_first_163 : decode cX12_first 163 = .ok (.ifCond .eq 16, 3) := by decide +kernel
theorem dX12_first_166 : decode cX12_first 166 = .ok (.iload 5, 2) := by decide +kernel
theorem dX12_first_168 : decode cX12_first 168 = .ok (.ifCond .eq 8, 3) := by decide +kernel
theorem dX12_first_171 : decode cX12_first 171 = .ok (.bipush (-6), 2) := by decide +kernel
theorem dX12_first_173 : decode cX12_first 173 = .ok (.goto 5, 3) := by decide +kernel
theorem dX12_first_176 : decode cX12_first 176 = .ok (.bipush (-7), 2) := by decide +kernel
theorem dX12_first_178 : decode cX12_first 178 = .ok (.ireturn, 1) := by decide +kernel
theorem dX12_first_179 : decode cX12_first 179 = .ok (.aload_n 0, 1) := by decide +kernel
theorem dX12_first_180 : decode cX12_first 180 = .ok (.iconst 0, 1) := by decide +kernel
theorem dX12_first_181 : decode cX12_first 181 = .ok (.putfield 449, 3) := by decide +kernel
theorem dX12_first_184 : decode cX12_first 184 = .ok (.iconst (-1), 1) := by decide +kernel
theorem dX12_first_185 : decode cX12_first 185 = .ok (.istore 8, 2) := by decide +kernel
theorem dX12_first_187 : decode cX12_first 187 = .ok (.bipush 101, 2) := by decide +kernel
theorem dX12_first_189 : decode cX12_first 189 = .ok (.istore 9, 2) := by decide +kernel
theorem dX12_first_191 : decode cX12_first 191 = .ok (.iconst 0, 1) := by decide +kernel
theorem dX12_first_192 : decode cX12_first 192 = .ok (.istore 10, 2) := by decide +kernel
theorem dX12_first_194 : decode cX12_first 194 = .ok (.iload 10, 2) := by decide +kernel
theorem dX12_first_196 : decode cX12_first 196 = .ok (.bipush 6, 2) := by decide +kernel
theorem dX12_first_198 : decode cX12_first 198 = .ok (.if_icmp .ge 97, 3) := by decide +kernel
theorem dX12_first_201 : decode cX12_first 201 = .ok (.iload_n 1, 1) := by decide +kernel
theorem dX12_first_202 : decode cX12_first 202 = .ok (.iload 10, 2) := by decide +kernel
theorem dX12_first_204 : decode cX12_first 204 = .ok (.ishr, 1) := by decide +kernel
theorem dX12_first_205 : decode cX12_first 205 = .ok (.iconst 1, 1) := by decide +kernel
theorem dX12_first_206 : decode cX12_first 206 = .ok (.iand, 1) := by decide +kernel
theorem dX12_first_207 : decode cX12_first 207 = .ok (.iconst 1, 1) := by decide +kernel
theorem dX12_first_208 : decode cX12_first 208 = .ok (.if_icmp .ne 81, 3) := by decide +kernel
theorem dX12_first_211 : decode cX12_first 211 = .ok (.aload_n 0, 1) := by decide +kernel
theorem dX12_first_212 : decode cX12_first 212 = .ok (.iload 10, 2) := by decide +kernel
theorem dX12_first_214 : decode cX12_first 214 = .ok (.iload 4, 2) := by decide +kernel
theorem dX12_first_216 : decode cX12_first 216 = .ok (.ifCond .le 7, 3) := by decide +kernel
theorem dX12_first_219 : decode cX12_first 219 = .ok (.iconst 1, 1) := by decide +kernel
theorem dX12_first_220 : decode cX12_first 220 = .ok (.goto 4, 3) := by decide +kernel
theorem dX12_first_223 : decode cX12_first 223 = .ok (.iconst 0, 1) := by decide +kernel
theorem dX12_first_224 : decode cX12_first 224 = .ok (.invokevirtual 673, 3) := by decide +kernel
theorem dX12_first_227 : decode cX12_first 227 = .ok (.aload_n 0, 1) := by decide +kernel
theorem dX12_first_228 : decode cX12_first 228 = .ok (.iload 10, 2) := by decide +kernel
theorem dX12_first_230 : decode cX12_first 230 = .ok (.iload_n 2, 1) := by decide +kernel
theorem dX12_first_231 : decode cX12_first 231 = .ok (.iload_n 3, 1) := by decide +kernel
theorem dX12_first_232 : decode cX12_first 232 = .ok (.iconst 0, 1) := by decide +kernel
theorem dX12_first_233 : decode cX12_first 233 = .ok (.iload 4, 2) := by decide +kernel
theorem dX12_first_235 : decode cX12_first 235 = .ok (.ifCond .le 7, 3) := by decide +kernel
theorem dX12_first_238 : decode cX12_first 238 = .ok (.iconst 1, 1) := by decide +kernel
theorem dX12_first_239 : decode cX12_first 239 = .ok (.goto 4, 3) := by decide +kernel
theorem dX12_first_242 : decode cX12_first 242 = .ok (.iconst 0, 1) := by decide +kernel
theorem dX12_first_243 : decode cX12_first 243 = .ok (.sipush 3000, 3) := by decide +kernel
theorem dX12_first_246 : decode cX12_first 246 = .ok (.invokevirtual 680, 3) := by decide +kernel
theorem dX12_first_249 : decode cX12_first 249 = .ok (.istore 11, 2) := by decide +kernel
theorem dX12_first_251 : decode cX12_first 251 = .ok (.iload 11, 2) := by decide +kernel
theorem dX12_first_253 : decode cX12_first 253 = .ok (.iconst 2, 1) := by decide +kernel
theorem dX12_first_254 : decode cX12_first 254 = .ok (.if_icmp .ne 6, 3) := by decide +kernel
theorem dX12_first_257 : decode cX12_first 257 = .ok (.bipush (-8), 2) := by decide +kernel
theorem dX12_first_259 : decode cX12_first 259 = .ok (.ireturn, 1) := by decide +kernel
theorem dX12_first_260 : decode cX12_first 260 = .ok (.iload 11, 2) := by decide +kernel
theorem dX12_first_262 : decode cX12_first 262 = .ok (.iconst 1, 1) := by decide +kernel
theorem dX12_first_263 : decode cX12_first 263 = .ok (.if_icmp .ne 26, 3) := by decide +kernel
theorem dX12_first_266 : decode cX12_first 266 = .ok (.aload_n 0, 1) := by decide +kernel
theorem dX12_first_267 : decode cX12_first 267 = .ok (.getfield 231, 3) := by decide +kernel
theorem dX12_first_270 : decode cX12_first 270 = .ok (.iconst 0, 1) := by decide +kernel
theorem dX12_first_271 : decode cX12_first 271 = .ok (.iaload, 1) := by decide +kernel
theorem dX12_first_272 : decode cX12_first 272 = .ok (.iload 9, 2) := by decide +kernel
theorem dX12_first_274 : decode cX12_first 274 = .ok (.if_icmp .ge 15, 3) := by decide +kernel
theorem dX12_first_277 : decode cX12_first 277 = .ok (.iload 10, 2) := by decide +kernel
theorem dX12_first_279 : decode cX12_first 279 = .ok (.istore 8, 2) := by decide +kernel
theorem dX12_first_281 : decode cX12_first 281 = .ok (.aload_n 0, 1) := by decide +kernel
theorem dX12_first_282 : decode cX12_first 282 = .ok (.getfield 231, 3) := by decide +kernel
theorem dX12_first_285 : decode cX12_first 285 = .ok (.iconst 0, 1) := by decide +kernel
theorem dX12_first_286 : decode cX12_first 286 = .ok (.iaload, 1) := by decide +kernel
theorem dX12_first_287 : decode cX12_first 287 = .ok (.istore 9, 2) := by decide +kernel
theorem dX12_first_289 : decode cX12_first 289 = .ok (.iinc 10 1, 3) := by decide +kernel
theorem dX12_first_292 : decode cX12_first 292 = .ok (.goto (-98), 3) := by decide +kernel
theorem dX12_first_295 : decode cX12_first 295 = .ok (.iload 8, 2) := by decide +kernel
theorem dX12_first_297 : decode cX12_first 297 = .ok (.ireturn, 1) := by decide +kernel
theorem dX12_forget_0 : decode cX12_forget 0 = .ok (.aload_n 0, 1) := by decide +kernel
theorem dX12_forget_1 : decode cX12_forget 1 = .ok (.iconst 0, 1) := by decide +kernel
theorem dX12_forget_2 : decode cX12_forget 2 = .ok (.putfield 1, 3) := by decide +kernel
theorem dX12_forget_5 : decode cX12_forget 5 = .ok (.aload_n 0, 1) := by decide +kernel
theorem dX12_forget_6 : decode cX12_forget 6 = .ok (.iload_n 1, 1) := by decide +kernel
theorem dX12_forget_7 : decode cX12_forget 7 = .ok (.invokevirtual 459, 3) := by decide +kernel
theorem dX12_forget_10 : decode cX12_forget 10 = .ok (.ifCond .eq 6, 3) := by decide +kernel
theorem dX12_forget_13 : decode cX12_forget 13 = .ok (.bipush (-2), 2) := by decide +kernel
theorem dX12_forget_15 : decode cX12_forget 15 = .ok (.ireturn, 1) := by decide +kernel
theorem dX12_forget_16 : decode cX12_forget 16 = .ok (.aload_n 0, 1) := by decide +kernel
theorem dX12_forget_17 : decode cX12_forget 17 = .ok (.getfield 31, 3) := by decide +kernel
theorem dX12_forget_20 : decode cX12_forget 20 = .ok (.iload_n 1, 1) := by decide +kernel
theorem dX12_forget_21 : decode cX12_forget 21 = .ok (.iconst 0, 1) := by decide +kernel
theorem dX12_forget_22 : decode cX12_forget 22 = .ok (.bastore, 1) := by decide +kernel
theorem dX12_forget_23 : decode cX12_forget 23 = .ok (.aload_n 0, 1) := by decide +kernel
theorem dX12_forget_24 : decode cX12_forget 24 = .ok (.aload_n 0, 1) := by decide +kernel
theorem dX12_forget_25 : decode cX12_forget 25 = .ok (.getfield 449, 3) := by decide +kernel
theorem dX12_forget_28 : decode cX12_forget 28 = .ok (.ifCond .eq 15, 3) := by decide +kernel
theorem dX12_forget_31 : decode cX12_forget 31 = .ok (.aload_n 0, 1) := by decide +kernel
theorem dX12_forget_32 : decode cX12_forget 32 = .ok (.getfield 453, 3) := by decide +kernel
theorem dX12_forget_35 : decode cX12_forget 35 = .ok (.iload_n 1, 1) := by decide +kernel
theorem dX12_forget_36 : decode cX12_forget 36 = .ok (.if_icmp .eq 7, 3) := by decide +kernel
theorem dX12_forget_39 : decode cX12_forget 39 = .ok (.iconst 1, 1) := by decide +kernel
theorem dX12_forget_40 : decode cX12_forget 40 = .ok (.goto 4, 3) := by decide +kernel
theorem dX12_forget_43 : decode cX12_forget 43 = .ok (.iconst 0, 1) := by decide +kernel
theorem dX12_forget_44 : decode cX12_forget 44 = .ok (.putfield 449, 3) := by decide +kernel
theorem dX12_forget_47 : decode cX12_forget 47 = .ok (.iconst 1, 1) := by decide +kernel
theorem dX12_forget_48 : decode cX12_forget 48 = .ok (.ireturn, 1) := by decide +kernel
theorem dX12_goOn_0 : decode cX12_goOn 0 = .ok (.aload_n 0, 1) := by decide +kernel
theorem dX12_goOn_1 : decode cX12_goOn 1 = .ok (.iconst 0, 1) := by decide +kernel
theorem dX12_goOn_2 : decode cX12_goOn 2 = .ok (.putfield 1, 3) := by decide +kernel
theorem dX12_goOn_5 : decode cX12_goOn 5 = .ok (.iload_n 1, 1) := by decide +kernel
theorem dX12_goOn_6 : decode cX12_goOn 6 = .ok (.iconst 1, 1) := by decide +kernel
theorem dX12_goOn_7 : decode cX12_goOn 7 = .ok (.sipush 3000, 3) := by decide +kernel
theorem dX12_goOn_10 : decode cX12_goOn 10 = .ok (.invokestatic 7, 3) := by decide +kernel
theorem dX12_goOn_13 : decode cX12_goOn 13 = .ok (.ifCond .ne 6, 3) := by decide +kernel
theorem dX12_goOn_16 : decode cX12_goOn 16 = .ok (.bipush (-4), 2) := by decide +kernel
theorem dX12_goOn_18 : decode cX12_goOn 18 = .ok (.ireturn, 1) := by decide +kernel
theorem dX12_goOn_19 : decode cX12_goOn 19 = .ok (.aload_n 0, 1) := by decide +kernel
theorem dX12_goOn_20 : decode cX12_goOn 20 = .ok (.getfield 449, 3) := by decide +kernel
theorem dX12_goOn_23 : decode cX12_goOn 23 = .ok (.ifCond .eq 16, 3) := by decide +kernel
theorem dX12_goOn_26 : decode cX12_goOn 26 = .ok (.aload_n 0, 1) := by decide +kernel
theorem dX12_goOn_27 : decode cX12_goOn 27 = .ok (.aload_n 0, 1) := by decide +kernel
theorem dX12_goOn_28 : decode cX12_goOn 28 = .ok (.getfield 670, 3) := by decide +kernel
theorem dX12_goOn_31 : decode cX12_goOn 31 = .ok (.iload_n 1, 1) := by decide +kernel
theorem dX12_goOn_32 : decode cX12_goOn 32 = .ok (.iadd, 1) := by decide +kernel
theorem dX12_goOn_33 : decode cX12_goOn 33 = .ok (.invokevirtual 693, 3) := by decide +kernel
theorem dX12_goOn_36 : decode cX12_goOn 36 = .ok (.goto 5, 3) := by decide +kernel
theorem dX12_goOn_39 : decode cX12_goOn 39 = .ok (.bipush (-5), 2) := by decide +kernel
theorem dX12_goOn_41 : decode cX12_goOn 41 = .ok (.ireturn, 1) := by decide +kernel
theorem dX12_goes_0 : decode cX12_goes 0 = .ok (.aload_n 0, 1) := by decide +kernel
theorem dX12_goes_1 : decode cX12_goes 1 = .ok (.iload_n 1, 1) := by decide +kernel
theorem dX12_goes_2 : decode cX12_goes 2 = .ok (.sipush 3000, 3) := by decide +kernel
theorem dX12_goes_5 : decode cX12_goes 5 = .ok (.if_icmp .ge 7, 3) := by decide +kernel
theorem dX12_goes_8 : decode cX12_goes 8 = .ok (.iload_n 1, 1) := by decide +kernel
theorem dX12_goes_9 : decode cX12_goes 9 = .ok (.goto 6, 3) := by decide +kernel
theorem dX12_goes_12 : decode cX12_goes 12 = .ok (.sipush 3000, 3) := by decide +kernel
theorem dX12_goes_15 : decode cX12_goes 15 = .ok (.putfield 670, 3) := by decide +kernel
theorem dX12_goes_18 : decode cX12_goes 18 = .ok (.aload_n 0, 1) := by decide +kernel
theorem dX12_goes_19 : decode cX12_goes 19 = .ok (.aload_n 0, 1) := by decide +kernel
theorem dX12_goes_20 : decode cX12_goes 20 = .ok (.getfield 453, 3) := by decide +kernel
theorem dX12_goes_23 : decode cX12_goes 23 = .ok (.iconst 0, 1) := by decide +kernel
theorem dX12_goes_24 : decode cX12_goes 24 = .ok (.invokevirtual 673, 3) := by decide +kernel
theorem dX12_goes_27 : decode cX12_goes 27 = .ok (.aload_n 0, 1) := by decide +kernel
theorem dX12_goes_28 : decode cX12_goes 28 = .ok (.aload_n 0, 1) := by decide +kernel
theorem dX12_goes_29 : decode cX12_goes 29 = .ok (.getfield 453, 3) := by decide +kernel
theorem dX12_goes_32 : decode cX12_goes 32 = .ok (.aload_n 0, 1) := by decide +kernel
theorem dX12_goes_33 : decode cX12_goes 33 = .ok (.getfield 539, 3) := by decide +kernel
theorem dX12_goes_36 : decode cX12_goes 36 = .ok (.aload_n 0, 1) := by decide +kernel
theorem dX12_goes_37 : decode cX12_goes 37 = .ok (.getfield 677, 3) := by decide +kernel
theorem dX12_goes_40 : decode cX12_goes 40 = .ok (.iconst 0, 1) := by decide +kernel
theorem dX12_goes_41 : decode cX12_goes 41 = .ok (.iconst 0, 1) := by decide +kernel
theorem dX12_goes_42 : decode cX12_goes 42 = .ok (.aload_n 0, 1) := by decide +kernel
theorem dX12_goes_43 : decode cX12_goes 43 = .ok (.getfield 670, 3) := by decide +kernel
theorem dX12_goes_46 : decode cX12_goes 46 = .ok (.invokevirtual 680, 3) := by decide +kernel
theorem dX12_goes_49 : decode cX12_goes 49 = .ok (.istore_n 2, 1) := by decide +kernel
theorem dX12_goes_50 : decode cX12_goes 50 = .ok (.aload_n 0, 1) := by decide +kernel
theorem dX12_goes_51 : decode cX12_goes 51 = .ok (.iload_n 2, 1) := by decide +kernel
theorem dX12_goes_52 : decode cX12_goes 52 = .ok (.iconst 2, 1) := by decide +kernel
theorem dX12_goes_53 : decode cX12_goes 53 = .ok (.if_icmp .ne 17, 3) := by decide +kernel
theorem dX12_goes_56 : decode cX12_goes 56 = .ok (.aload_n 0, 1) := by decide +kernel
theorem dX12_goes_57 : decode cX12_goes 57 = .ok (.getfield 670, 3) := by decide +kernel
theorem dX12_goes_60 : decode cX12_goes 60 = .ok (.sipush 3000, 3) := by decide +kernel
theorem dX12_goes_63 : decode cX12_goes 63 = .ok (.if_icmp .ge 7, 3) := by decide +kernel
theorem dX12_goes_66 : decode cX12_goes 66 = .ok (.iconst 1, 1) := by decide +kernel
theorem dX12_goes_67 : decode cX12_goes 67 = .ok (.goto 4, 3) := by decide +kernel
theorem dX12_goes_70 : decode cX12_goes 70 = .ok (.iconst 0, 1) := by decide +kernel
theorem dX12_goes_71 : decode cX12_goes 71 = .ok (.putfield 449, 3) := by decide +kernel
theorem dX12_goes_74 : decode cX12_goes 74 = .ok (.iload_n 2, 1) := by decide +kernel
theorem dX12_goes_75 : decode cX12_goes 75 = .ok (.iconst 2, 1) := by decide +kernel
theorem dX12_goes_76 : decode cX12_goes 76 = .ok (.if_icmp .ne 17, 3) := by decide +kernel
theorem dX12_goes_79 : decode cX12_goes 79 = .ok (.aload_n 0, 1) := by decide +kernel
theorem dX12_goes_80 : decode cX12_goes 80 = .ok (.getfield 449, 3) := by decide +kernel
theorem dX12_goes_83 : decode cX12_goes 83 = .ok (.ifCond .eq 7, 3) := by decide +kernel
theorem dX12_goes_86 : decode cX12_goes 86 = .ok (.iconst 2, 1) := by decide +kernel
theorem dX12_goes_87 : decode cX12_goes 87 = .ok (.goto 5, 3) := by decide +kernel
theorem dX12_goes_90 : decode cX12_goes 90 = .ok (.bipush (-8), 2) := by decide +kernel
theorem dX12_goes_92 : decode cX12_goes 92 = .ok (.ireturn, 1) := by decide +kernel
theorem dX12_goes_93 : decode cX12_goes 93 = .ok (.aload_n 0, 1) := by decide +kernel
theorem dX12_goes_94 : decode cX12_goes 94 = .ok (.aload_n 0, 1) := by decide +kernel
theorem dX12_goes_95 : decode cX12_goes 95 = .ok (.getfield 453, 3) := by decide +kernel
theorem dX12_goes_98 : decode cX12_goes 98 = .ok (.iload_n 2, 1) := by decide +kernel
theorem dX12_goes_99 : decode cX12_goes 99 = .ok (.iconst 1, 1) := by decide +kernel
theorem dX12_goes_100 : decode cX12_goes 100 = .ok (.if_icmp .ne 7, 3) := by decide +kernel
theorem dX12_goes_103 : decode cX12_goes 103 = .ok (.iconst 1, 1) := by decide +kernel
theorem dX12_goes_104 : decode cX12_goes 104 = .ok (.goto 4, 3) := by decide +kernel
theorem dX12_goes_107 : decode cX12_goes 107 = .ok (.iconst 0, 1) := by decide +kernel
theorem dX12_goes_108 : decode cX12_goes 108 = .ok (.invokevirtual 684, 3) := by decide +kernel
theorem dX12_goes_111 : decode cX12_goes 111 = .ok (.iload_n 2, 1) := by decide +kernel
theorem dX12_goes_112 : decode cX12_goes 112 = .ok (.ireturn, 1) := by decide +kernel
theorem dX12_goesBack_0 : decode cX12_goesBack 0 = .ok (.aload_n 0, 1) := by decide +kernel
theorem dX12_goesBack_1 : decode cX12_goesBack 1 = .ok (.getfield 580, 3) := by decide +kernel
theorem dX12_goesBack_4 : decode cX12_goesBack 4 = .ok (.ifCond .ne 5, 3) := by decide +kernel
theorem dX12_goesBack_7 : decode cX12_goesBack 7 = .ok (.iconst 0, 1) := by decide +kernel
theorem dX12_goesBack_8 : decode cX12_goesBack 8 = .ok (.ireturn, 1) := by decide +kernel
theorem dX12_goesBack_9 : decode cX12_goesBack 9 = .ok (.aload_n 0, 1) := by decide +kernel
theorem dX12_goesBack_10 : decode cX12_goesBack 10 = .ok (.dup, 1) := by decide +kernel
theorem dX12_goesBack_11 : decode cX12_goesBack 11 = .ok (.getfield 580, 3) := by decide +kernel
theorem dX12_goesBack_14 : decode cX12_goesBack 14 = .ok (.iconst 1, 1) := by decide +kernel
theorem dX12_goesBack_15 : decode cX12_goesBack 15 = .ok (.isub, 1) := by decide +kernel
theorem dX12_goesBack_16 : decode cX12_goesBack 16 = .ok (.putfield 580, 3) := by decide +kernel
theorem dX12_goesBack_19 : decode cX12_goesBack 19 = .ok (.aload_n 0, 1) := by decide +kernel
theorem dX12_goesBack_20 : decode cX12_goesBack 20 = .ok (.getfield 577, 3) := by decide +kernel
theorem dX12_goesBack_23 : decode cX12_goesBack 23 = .ok (.aload_n 0, 1) := by decide +kernel
theorem dX12_goesBack_24 : decode cX12_goesBack 24 = .ok (.getfield 224, 3) := by decide +kernel
theorem dX12_goesBack_27 : decode cX12_goesBack 27 = .ok (.aload_n 0, 1) := by decide +kernel
theorem dX12_goesBack_28 : decode cX12_goesBack 28 = .ok (.getfield 580, 3) := by decide +kernel
theorem dX12_goesBack_31 : decode cX12_goesBack 31 = .ok (.iaload, 1) := by decide +kernel
theorem dX12_goesBack_32 : decode cX12_goesBack 32 = .ok (.if_icmp .le 39, 3) := by decide +kernel
theorem dX12_goesBack_35 : decode cX12_goesBack 35 = .ok (.aload_n 0, 1) := by decide +kernel
theorem dX12_goesBack_36 : decode cX12_goesBack 36 = .ok (.dup, 1) := by decide +kernel
theorem dX12_goesBack_37 : decode cX12_goesBack 37 = .ok (.getfield 577, 3) := by decide +kernel
theorem dX12_goesBack_40 : decode cX12_goesBack 40 = .ok (.iconst 1, 1) := by decide +kernel
theorem dX12_goesBack_41 : decode cX12_goesBack 41 = .ok (.isub, 1) := by decide +kernel
theorem dX12_goesBack_42 : decode cX12_goesBack 42 = .ok (.putfield 577, 3) := by decide +kernel
theorem dX12_goesBack_45 : decode cX12_goesBack 45 = .ok (.aload_n 0, 1) := by decide +kernel
theorem dX12_goesBack_46 : decode cX12_goesBack 46 = .ok (.getfield 204, 3) := by decide +kernel
theorem dX12_goesBack_49 : decode cX12_goesBack 49 = .ok (.aload_n 0, 1) := by decide +kernel
theorem dX12_goesBack_50 : decode cX12_goesBack 50 = .ok (.getfield 208, 3) := by decide +kernel
theorem dX12_goesBack_53 : decode cX12_goesBack 53 = .ok (.aload_n 0, 1) := by decide +kernel
theorem dX12_goesBack_54 : decode cX12_goesBack 54 = .ok (.getfield 577, 3) := by decide +kernel
theorem dX12_goesBack_57 : decode cX12_goesBack 57 = .ok (.iaload, 1) := by decide +kernel
theorem dX12_goesBack_58 : decode cX12_goesBack 58 = .ok (.aload_n 0, 1) := by decide +kernel
theorem dX12_goesBack_59 : decode cX12_goesBack 59 = .ok (.getfield 211, 3) := by decide +kernel
theorem dX12_goesBack_62 : decode cX12_goesBack 62 = .ok (.aload_n 0, 1) := by decide +kernel
theorem dX12_goesBack_63 : decode cX12_goesBack 63 = .ok (.getfield 577, 3) := by decide +kernel
theorem dX12_goesBack_66 : decode cX12_goesBack 66 = .ok (.iaload, 1) := by decide +kernel
theorem dX12_goesBack_67 : decode cX12_goesBack 67 = .ok (.iastore, 1) := by decide +kernel
theorem dX12_goesBack_68 : decode cX12_goesBack 68 = .ok (.goto (-49), 3) := by decide +kernel
theorem dX12_goesBack_71 : decode cX12_goesBack 71 = .ok (.aload_n 0, 1) := by decide +kernel
theorem dX12_goesBack_72 : decode cX12_goesBack 72 = .ok (.aload_n 0, 1) := by decide +kernel
theorem dX12_goesBack_73 : decode cX12_goesBack 73 = .ok (.getfield 218, 3) := by decide +kernel
theorem dX12_goesBack_76 : decode cX12_goesBack 76 = .ok (.aload_n 0, 1) := by decide +kernel
theorem dX12_goesBack_77 : decode cX12_goesBack 77 = .ok (.getfield 580, 3) := by decide +kernel
theorem dX12_goesBack_80 : decode cX12_goesBack 80 = .ok (.iaload, 1) := by decide +kernel
theorem dX12_goesBack_81 : decode cX12_goesBack 81 = .ok (.putfield 617, 3) := by decide +kernel
theorem dX12_goesBack_84 : decode cX12_goesBack 84 = .ok (.aload_n 0, 1) := by decide +kernel
theorem dX12_goesBack_85 : decode cX12_goesBack 85 = .ok (.aload_n 0, 1) := by decide +kernel
theorem dX12_goesBack_86 : decode cX12_goesBack 86 = .ok (.getfield 221, 3) := by decide +kernel
theorem dX12_goesBack_89 : decode cX12_goesBack 89 = .ok (.aload_n 0, 1) := by decide +kernel
theorem dX12_goesBack_90 : decode cX12_goesBack 90 = .ok (.getfield 580, 3) := by decide +kernel
theorem dX12_goesBack_93 : decode cX12_goesBack 93 = .ok (.iaload, 1) := by decide +kernel
theorem dX12_goesBack_94 : decode cX12_goesBack 94 = .ok (.putfield 604, 3) := by decide +kernel
theorem dX12_goesBack_97 : decode cX12_goesBack 97 = .ok (.aload_n 0, 1) := by decide +kernel
theorem dX12_goesBack_98 : decode cX12_goesBack 98 = .ok (.getfield 215, 3) := by decide +kernel
theorem dX12_goesBack_101 : decode cX12_goesBack 101 = .ok (.aload_n 0, 1) := by decide +kernel
theorem dX12_goesBack_102 : decode cX12_goesBack 102 = .ok (.getfield 580, 3) := by decide +kernel
theorem dX12_goesBack_105 : decode cX12_goesBack 105 = .ok (.iaload, 1) := by decide +kernel
theorem dX12_goesBack_106 : decode cX12_goesBack 106 = .ok (.iconst 1, 1) := by decide +kernel
theorem dX12_goesBack_107 : decode cX12_goesBack 107 = .ok (.if_icmp .ne 19, 3) := by decide +kernel
theorem dX12_goesBack_110 : decode cX12_goesBack 110 = .ok (.aload_n 0, 1) := by decide +kernel
theorem dX12_goesBack_111 : decode cX12_goesBack 111 = .ok (.aload_n 0, 1) := by decide +kernel
theorem dX12_goesBack_112 : decode cX12_goesBack 112 = .ok (.getfield 183, 3) := by decide +kernel
theorem dX12_goesBack_115 : decode cX12_goesBack 115 = .ok (.aload_n 0, 1) := by decide +kernel
theorem dX12_goesBack_116 : decode cX12_goesBack 116 = .ok (.getfield 617, 3) := by decide +kernel
theorem dX12_goesBack_119 : decode cX12_goesBack 119 = .ok (.iaload, 1) := by decide +kernel
theorem dX12_goesBack_120 : decode cX12_goesBack 120 = .ok (.invokevirtual 623, 3) := by decide +kernel
theorem dX12_goesBack_123 : decode cX12_goesBack 123 = .ok (.goto 49, 3) := by decide +kernel
theorem dX12_goesBack_126 : decode cX12_goesBack 126 = .ok (.aload_n 0, 1) := by decide +kernel
theorem dX12_goesBack_127 : decode cX12_goesBack 127 = .ok (.getfield 215, 3) := by decide +kernel
theorem dX12_goesBack_130 : decode cX12_goesBack 130 = .ok (.aload_n 0, 1) := by decide +kernel
theorem dX12_goesBack_131 : decode cX12_goesBack 131 = .ok (.getfield 580, 3) := by decide +kernel
theorem dX12_goesBack_134 : decode cX12_goesBack 134 = .ok (.iaload, 1) := by decide +kernel
theorem dX12_goesBack_135 : decode cX12_goesBack 135 = .ok (.iconst 2, 1) := by decide +kernel
theorem dX12_goesBack_136 : decode cX12_goesBack 136 = .ok (.if_icmp .ne 36, 3) := by decide +kernel
theorem dX12_goesBack_139 : decode cX12_goesBack 139 = .ok (.aload_n 0, 1) := by decide +kernel
theorem dX12_goesBack_140 : decode cX12_goesBack 140 = .ok (.aload_n 0, 1) := by decide +kernel
theorem dX12_goesBack_141 : decode cX12_goesBack 141 = .ok (.getfield 183, 3) := by decide +kernel
theorem dX12_goesBack_144 : decode cX12_goesBack 144 = .ok (.aload_n 0, 1) := by decide +kernel
theorem dX12_goesBack_145 : decode cX12_goesBack 145 = .ok (.getfield 617, 3) := by decide +kernel
theorem dX12_goesBack_148 : decode cX12_goesBack 148 = .ok (.iaload, 1) := by decide +kernel
theorem dX12_goesBack_149 : decode cX12_goesBack 149 = .ok (.aload_n 0, 1) := by decide +kernel
theorem dX12_goesBack_150 : decode cX12_goesBack 150 = .ok (.getfield 204, 3) := by decide +kernel
theorem dX12_goesBack_153 : decode cX12_goesBack 153 = .ok (.sipush 910, 3) := by decide +kernel
theorem dX12_goesBack_156 : decode cX12_goesBack 156 = .ok (.aload_n 0, 1) := by decide +kernel
theorem dX12_goesBack_157 : decode cX12_goesBack 157 = .ok (.getfield 183, 3) := by decide +kernel
theorem dX12_goesBack_160 : decode cX12_goesBack 160 = .ok (.aload_n 0, 1) := by decide +kernel
theorem dX12_goesBack_161 : decode cX12_goesBack 161 = .ok (.getfield 617, 3) := by decide +kernel
theorem dX12_goesBack_164 : decode cX12_goesBack 164 = .ok (.iaload, 1) := by decide +kernel
theorem dX12_goesBack_165 : decode cX12_goesBack 165 = .ok (.iadd, 1) := by decide +kernel
theorem dX12_goesBack_166 : decode cX12_goesBack 166 = .ok (.iaload, 1) := by decide +kernel
theorem dX12_goesBack_167 : decode cX12_goesBack 167 = .ok (.iconst 1, 1) := by decide +kernel
theorem dX12_goesBack_168 : decode cX12_goesBack 168 = .ok (.isub, 1) := by decide +kernel
theorem dX12_goesBack_169 : decode cX12_goesBack 169 = .ok (.invokevirtual 626, 3) := by decide +kernel
theorem dX12_goesBack_172 : decode cX12_goesBack 172 = .ok (.iconst 1, 1) := by decide +kernel
theorem dX12_goesBack_173 : decode cX12_goesBack 173 = .ok (.ireturn, 1) := by decide +kernel
theorem dX12_hexes_0 : decode cX12_hexes 0 = .ok (.iconst 0, 1) := by decide +kernel
theorem dX12_hexes_1 : decode cX12_hexes 1 = .ok (.istore_n 2, 1) := by decide +kernel
theorem dX12_hexes_2 : decode cX12_hexes 2 = .ok (.iconst 0, 1) := by decide +kernel
theorem dX12_hexes_3 : decode cX12_hexes 3 = .ok (.istore_n 3, 1) := by decide +kernel
theorem dX12_hexes_4 : decode cX12_hexes 4 = .ok (.iload_n 3, 1) := by decide +kernel
theorem dX12_hexes_5 : decode cX12_hexes 5 = .ok (.iconst 4, 1) := by decide +kernel
theorem dX12_hexes_6 : decode cX12_hexes 6 = .ok (.if_icmp .ge 61, 3) := by decide +kernel
theorem dX12_hexes_9 : decode cX12_hexes 9 = .ok (.aload_n 0, 1) := by decide +kernel
theorem dX12_hexes_10 : decode cX12_hexes 10 = .ok (.iload_n 1, 1) := by decide +kernel
theorem dX12_hexes_11 : decode cX12_hexes 11 = .ok (.iload_n 3, 1) := by decide +kernel
theorem dX12_hexes_12 : decode cX12_hexes 12 = .ok (.iadd, 1) := by decide +kernel
theorem dX12_hexes_13 : decode cX12_hexes 13 = .ok (.invokevirtual 349, 3) := by decide +kernel
theorem dX12_hexes_16 : decode cX12_hexes 16 = .ok (.istore 4, 2) := by decide +kernel
theorem dX12_hexes_18 : decode cX12_hexes 18 = .ok (.iload 4, 2) := by decide +kernel
theorem dX12_hexes_20 : decode cX12_hexes 20 = .ok (.invokestatic 353, 3) := by decide +kernel
theorem dX12_hexes_23 : decode cX12_hexes 23 = .ok (.ifCond .ne 11, 3) := by decide +kernel
theorem dX12_hexes_26 : decode cX12_hexes 26 = .ok (.aload_n 0, 1) := by decide +kernel
theorem dX12_hexes_27 : decode cX12_hexes 27 = .ok (.iconst 1, 1) := by decide +kernel
theorem dX12_hexes_28 : decode cX12_hexes 28 = .ok (.iload_n 1, 1) := by decide +kernel
theorem dX12_hexes_29 : decode cX12_hexes 29 = .ok (.iload_n 3, 1) := by decide +kernel
theorem dX12_hexes_30 : decode cX12_hexes 30 = .ok (.iadd, 1) := by decide +kernel
theorem dX12_hexes_31 : decode cX12_hexes 31 = .ok (.invokevirtual 345, 3) := by decide +kernel
theorem dX12_hexes_34 : decode cX12_hexes 34 = .ok (.bipush 16, 2) := by decide +kernel
theorem dX12_hexes_36 : decode cX12_hexes 36 = .ok (.iload_n 2, 1) := by decide +kernel
theorem dX12_hexes_37 : decode cX12_hexes 37 = .ok (.imul, 1) := by decide +kernel
theorem dX12_hexes_38 : decode cX12_hexes 38 = .ok (.iload 4, 2) := by decide +kernel
theorem dX12_hexes_40 : decode cX12_hexes 40 = .ok (.invokestatic 15, 3) := by decide +kernel
theorem dX12_hexes_43 : decode cX12_hexes 43 = .ok (.ifCond .eq 11, 3) := by decide +kernel
theorem dX12_hexes_46 : decode cX12_hexes 46 = .ok (.iload 4, 2) := by decide +kernel
theorem dX12_hexes_48 : decode cX12_hexes 48 = .ok (.bipush 48, 2) := by decide +kernel
theorem dX12_hexes_50 : decode cX12_hexes 50 = .ok (.isub, 1) := by decide +kernel
theorem dX12_hexes_51 : decode cX12_hexes 51 = .ok (.goto 8, 3) := by decide +kernel
theorem dX12_hexes_54 : decode cX12_hexes 54 = .ok (.iload 4, 2) := by decide +kernel
theorem dX12_hexes_56 : decode cX12_hexes 56 = .ok (.bipush 87, 2) := by decide +kernel
theorem dX12_hexes_58 : decode cX12_hexes 58 = .ok (.isub, 1) := by decide +kernel
theorem dX12_hexes_59 : decode cX12_hexes 59 = .ok (.iadd, 1) := by decide +kernel
theorem dX12_hexes_60 : decode cX12_hexes 60 = .ok (.istore_n 2, 1) := by decide +kernel
theorem dX12_hexes_61 : decode cX12_hexes 61 = .ok (.iinc 3 1, 3) := by decide +kernel
theorem dX12_hexes_64 : decode cX12_hexes 64 = .ok (.goto (-60), 3) := by decide +kernel
theorem dX12_hexes_67 : decode cX12_hexes 67 = .ok (.iload_n 2, 1) := by decide +kernel
theorem dX12_hexes_68 : decode cX12_hexes 68 = .ok (.ireturn, 1) := by decide +kernel
theorem dX12_holding_0 : decode cX12_holding 0 = .ok (.aload_n 0, 1) := by decide +kernel
theorem dX12_holding_1 : decode cX12_holding 1 = .ok (.iload_n 1, 1) := by decide +kernel
theorem dX12_holding_2 : decode cX12_holding 2 = .ok (.iload_n 2, 1) := by decide +kernel
theorem dX12_holding_3 : decode cX12_holding 3 = .ok (.invokevirtual 335, 3) := by decide +kernel
theorem dX12_holding_6 : decode cX12_holding 6 = .ok (.istore 4, 2) := by decide +kernel
theorem dX12_holding_8 : decode cX12_holding 8 = .ok (.aload_n 0, 1) := by decide +kernel
theorem dX12_holding_9 : decode cX12_holding 9 = .ok (.getfield 98, 3) := by decide +kernel
theorem dX12_holding_12 : decode cX12_holding 12 = .ok (.iload 4, 2) := by decide +kernel
theorem dX12_holding_14 : decode cX12_holding 14 = .ok (.iload_n 3, 1) := by decide +kernel
theorem dX12_holding_15 : decode cX12_holding 15 = .ok (.iastore, 1) := by decide +kernel
theorem dX12_holding_16 : decode cX12_holding 16 = .ok (.aload_n 0, 1) := by decide +kernel
theorem dX12_holding_17 : decode cX12_holding 17 = .ok (.getfield 104, 3) := by decide +kernel
theorem dX12_holding_20 : decode cX12_holding 20 = .ok (.iload 4, 2) := by decide +kernel
theorem dX12_holding_22 : decode cX12_holding 22 = .ok (.iconst 1, 1) := by decide +kernel
theorem dX12_holding_23 : decode cX12_holding 23 = .ok (.iastore, 1) := by decide +kernel
theorem dX12_holding_24 : decode cX12_holding 24 = .ok (.iload 4, 2) := by decide +kernel
theorem dX12_holding_26 : decode cX12_holding 26 = .ok (.ireturn, 1) := by decide +kernel
theorem dX12_in_0 : decode cX12_in 0 = .ok (.iload_n 0, 1) := by decide +kernel
theorem dX12_in_1 : decode cX12_in 1 = .ok (.iload_n 1, 1) := by decide +kernel
theorem dX12_in_2 : decode cX12_in 2 = .ok (.if_icmp .lt 12, 3) := by decide +kernel
theorem dX12_in_5 : decode cX12_in 5 = .ok (.iload_n 0, 1) := by decide +kernel
theorem dX12_in_6 : decode cX12_in 6 = .ok (.iload_n 2, 1) := by decide +kernel
theorem dX12_in_7 : decode cX12_in 7 = .ok (.if_icmp .gt 7, 3) := by decide +kernel
theorem dX12_in_10 : decode cX12_in 10 = .ok (.iconst 1, 1) := by decide +kernel
theorem dX12_in_11 : decode cX12_in 11 = .ok (.goto 4, 3) := by decide +kernel
theorem dX12_in_14 : decode cX12_in 14 = .ok (.iconst 0, 1) := by decide +kernel
theorem dX12_in_15 : decode cX12_in 15 = .ok (.ireturn, 1) := by decide +kernel
theorem dX12_isAlike_0 : decode cX12_isAlike 0 = .ok (.aload_n 0, 1) := by decide +kernel
theorem dX12_isAlike_1 : decode cX12_isAlike 1 = .ok (.getfield 287, 3) := by decide +kernel
theorem dX12_isAlike_4 : decode cX12_isAlike 4 = .ok (.iload_n 1, 1) := by decide +kernel
theorem dX12_isAlike_5 : decode cX12_isAlike 5 = .ok (.iaload, 1) := by decide +kernel
theorem dX12_isAlike_6 : decode cX12_isAlike 6 = .ok (.aload_n 0, 1) := by decide +kernel
theorem dX12_isAlike_7 : decode cX12_isAlike 7 = .ok (.getfield 287, 3) := by decide +kernel
theorem dX12_isAlike_10 : decode cX12_isAlike 10 = .ok (.iload_n 2, 1) := by decide +kernel
theorem dX12_isAlike_11 : decode cX12_isAlike 11 = .ok (.iaload, 1) := by decide +kernel
theorem dX12_isAlike_12 : decode cX12_isAlike 12 = .ok (.if_icmp .ne 7, 3) := by decide +kernel
theorem dX12_isAlike_15 : decode cX12_isAlike 15 = .ok (.iconst 1, 1) := by decide +kernel
theorem dX12_isAlike_16 : decode cX12_isAlike 16 = .ok (.goto 4, 3) := by decide +kernel
theorem dX12_isAlike_19 : decode cX12_isAlike 19 = .ok (.iconst 0, 1) := by decide +kernel
theorem dX12_isAlike_20 : decode cX12_isAlike 20 = .ok (.istore_n 3, 1) := by decide +kernel
theorem dX12_isAlike_21 : decode cX12_isAlike 21 = .ok (.iconst 0, 1) := by decide +kernel
theorem dX12_isAlike_22 : decode cX12_isAlike 22 = .ok (.istore 4, 2) := by decide +kernel
theorem dX12_isAlike_24 : decode cX12_isAlike 24 = .ok (.iload 4, 2) := by decide +kernel
theorem dX12_isAlike_26 : decode cX12_isAlike 26 = .ok (.aload_n 0, 1) := by decide +kernel
theorem dX12_isAlike_27 : decode cX12_isAlike 27 = .ok (.getfield 274, 3) := by decide +kernel
theorem dX12_isAlike_30 : decode cX12_isAlike 30 = .ok (.iconst 0, 1) := by decide +kernel
theorem dX12_isAlike_31 : decode cX12_isAlike 31 = .ok (.iaload, 1) := by decide +kernel
theorem dX12_isAlike_32 : decode cX12_isAlike 32 = .ok (.if_icmp .ge 58, 3) := by decide +kernel
theorem dX12_isAlike_35 : decode cX12_isAlike 35 = .ok (.iload_n 3, 1) := by decide +kernel
theorem dX12_isAlike_36 : decode cX12_isAlike 36 = .ok (.ifCond .eq 54, 3) := by decide +kernel
theorem dX12_isAlike_39 : decode cX12_isAlike 39 = .ok (.aload_n 0, 1) := by decide +kernel
theorem dX12_isAlike_40 : decode cX12_isAlike 40 = .ok (.getfield 287, 3) := by decide +kernel
theorem dX12_isAlike_43 : decode cX12_isAlike 43 = .ok (.aload_n 0, 1) := by decide +kernel
theorem dX12_isAlike_44 : decode cX12_isAlike 44 = .ok (.getfield 284, 3) := by decide +kernel
theorem dX12_isAlike_47 : decode cX12_isAlike 47 = .ok (.sipush 500, 3) := by decide +kernel
theorem dX12_isAlike_50 : decode cX12_isAlike 50 = .ok (.iload_n 1, 1) := by decide +kernel
theorem dX12_isAlike_51 : decode cX12_isAlike 51 = .ok (.imul, 1) := by decide +kernel
theorem dX12_isAlike_52 : decode cX12_isAlike 52 = .ok (.iload 4, 2) := by decide +kernel
theorem dX12_isAlike_54 : decode cX12_isAlike 54 = .ok (.iadd, 1) := by decide +kernel
theorem dX12_isAlike_55 : decode cX12_isAlike 55 = .ok (.iaload, 1) := by decide +kernel
theorem dX12_isAlike_56 : decode cX12_isAlike 56 = .ok (.iaload, 1) := by decide +kernel
theorem dX12_isAlike_57 : decode cX12_isAlike 57 = .ok (.aload_n 0, 1) := by decide +kernel
theorem dX12_isAlike_58 : decode cX12_isAlike 58 = .ok (.getfield 287, 3) := by decide +kernel
theorem dX12_isAlike_61 : decode cX12_isAlike 61 = .ok (.aload_n 0, 1) := by decide +kernel
theorem dX12_isAlike_62 : decode cX12_isAlike 62 = .ok (.getfield 284, 3) := by decide +kernel
theorem dX12_isAlike_65 : decode cX12_isAlike 65 = .ok (.sipush 500, 3) := by decide +kernel
theorem dX12_isAlike_68 : decode cX12_isAlike 68 = .ok (.iload_n 2, 1) := by decide +kernel
theorem dX12_isAlike_69 : decode cX12_isAlike 69 = .ok (.imul, 1) := by decide +kernel
theorem dX12_isAlike_70 : decode cX12_isAlike 70 = .ok (.iload 4, 2) := by decide +kernel
theorem dX12_isAlike_72 : decode cX12_isAlike 72 = .ok (.iadd, 1) := by decide +kernel
theorem dX12_isAlike_73 : decode cX12_isAlike 73 = .ok (.iaload, 1) := by decide +kernel
theorem dX12_isAlike_74 : decode cX12_isAlike 74 = .ok (.iaload, 1) := by decide +kernel
theorem dX12_isAlike_75 : decode cX12_isAlike 75 = .ok (.if_icmp .ne 7, 3) := by decide +kernel
theorem dX12_isAlike_78 : decode cX12_isAlike 78 = .ok (.iconst 1, 1) := by decide +kernel
theorem dX12_isAlike_79 : decode cX12_isAlike 79 = .ok (.goto 4, 3) := by decide +kernel
theorem dX12_isAlike_82 : decode cX12_isAlike 82 = .ok (.iconst 0, 1) := by decide +kernel
theorem dX12_isAlike_83 : decode cX12_isAlike 83 = .ok (.istore_n 3, 1) := by decide +kernel
theorem dX12_isAlike_84 : decode cX12_isAlike 84 = .ok (.iinc 4 1, 3) := by decide +kernel
theorem dX12_isAlike_87 : decode cX12_isAlike 87 = .ok (.goto (-63), 3) := by decide +kernel
theorem dX12_isAlike_90 : decode cX12_isAlike 90 = .ok (.iload_n 3, 1) := by decide +kernel
