theorem dX12_first_67 : decode cX12_first 67 = .ok (.istore 7, 2) := by decide +kernel
theorem dX12_first_69 : decode cX12_first 69 = .ok (.iload 7, 2) := by decide +kernel
theorem dX12_first_71 : decode cX12_first 71 = .ok (.ifCond .eq 6, 3) := by decide +kernel
theorem dX12_first_74 : decode cX12_first 74 = .ok (.iload 7, 2) := by decide +kernel
theorem dX12_first_76 : decode cX12_first 76 = .ok (.ireturn, 1) := by decide +kernel
theorem dX12_first_77 : decode cX12_first 77 = .ok (.iload_n 3, 1) := by decide +kernel
theorem dX12_first_78 : decode cX12_first 78 = .ok (.iconst 0, 1) := by decide +kernel
theorem dX12_first_79 : decode cX12_first 79 = .ok (.aload_n 0, 1) := by decide +kernel
theorem dX12_first_80 : decode cX12_first 80 = .ok (.getfield 174, 3) := by decide +kernel
theorem dX12_first_83 : decode cX12_first 83 = .ok (.iload_n 2, 1) := by decide +kernel
theorem dX12_first_84 : decode cX12_first 84 = .ok (.iaload, 1) := by decide +kernel
theorem dX12_first_85 : decode cX12_first 85 = .ok (.invokestatic 7, 3) := by decide +kernel
theorem dX12_first_88 : decode cX12_first 88 = .ok (.ifCond .eq 13, 3) := by decide +kernel
theorem dX12_first_91 : decode cX12_first 91 = .ok (.iload 4, 2) := by decide +kernel
theorem dX12_first_93 : decode cX12_first 93 = .ok (.iconst 0, 1) := by decide +kernel
theorem dX12_first_94 : decode cX12_first 94 = .ok (.iconst 2, 1) := by decide +kernel
theorem dX12_first_95 : decode cX12_first 95 = .ok (.invokestatic 7, 3) := by decide +kernel
theorem dX12_first_98 : decode cX12_first 98 = .ok (.ifCond .ne 6, 3) := by decide +kernel
theorem dX12_first_101 : decode cX12_first 101 = .ok (.bipush (-4), 2) := by decide +kernel
theorem dX12_first_103 : decode cX12_first 103 = .ok (.ireturn, 1) := by decide +kernel
theorem dX12_first_104 : decode cX12_first 104 = .ok (.iconst 0, 1) := by decide +kernel
theorem dX12_first_105 : decode cX12_first 105 = .ok (.istore 8, 2) := by decide +kernel
theorem dX12_first_107 : decode cX12_first 107 = .ok (.iload 8, 2) := by decide +kernel
theorem dX12_first_109 : decode cX12_first 109 = .ok (.bipush 6, 2) := by decide +kernel
theorem dX12_first_111 : decode cX12_first 111 = .ok (.if_icmp .ge 45, 3) := by decide +kernel
theorem dX12_first_114 : decode cX12_first 114 = .ok (.iload_n 1, 1) := by decide +kernel
theorem dX12_first_115 : decode cX12_first 115 = .ok (.iload 8, 2) := by decide +kernel
theorem dX12_first_117 : decode cX12_first 117 = .ok (.ishr, 1) := by decide +kernel
theorem dX12_first_118 : decode cX12_first 118 = .ok (.iconst 1, 1) := by decide +kernel
theorem dX12_first_119 : decode cX12_first 119 = .ok (.iand, 1) := by decide +kernel
theorem dX12_first_120 : decode cX12_first 120 = .ok (.iconst 1, 1) := by decide +kernel
theorem dX12_first_121 : decode cX12_first 121 = .ok (.if_icmp .ne 29, 3) := by decide +kernel
theorem dX12_first_124 : decode cX12_first 124 = .ok (.iload 5, 2) := by decide +kernel
theorem dX12_first_126 : decode cX12_first 126 = .ok (.aload_n 0, 1) := by decide +kernel
theorem dX12_first_127 : decode cX12_first 127 = .ok (.iload 8, 2) := by decide +kernel
theorem dX12_first_129 : decode cX12_first 129 = .ok (.iload 4, 2) := by decide +kernel
theorem dX12_first_131 : decode cX12_first 131 = .ok (.invokevirtual 658, 3) := by decide +kernel
theorem dX12_first_134 : decode cX12_first 134 = .ok (.iadd, 1) := by decide +kernel
theorem dX12_first_135 : decode cX12_first 135 = .ok (.istore 5, 2) := by decide +kernel
theorem dX12_first_137 : decode cX12_first 137 = .ok (.iload 6, 2) := by decide +kernel
theorem dX12_first_139 : decode cX12_first 139 = .ok (.aload_n 0, 1) := by decide +kernel
theorem dX12_first_140 : decode cX12_first 140 = .ok (.iload 8, 2) := by decide +kernel
theorem dX12_first_142 : decode cX12_first 142 = .ok (.iload 4, 2) := by decide +kernel
theorem dX12_first_144 : decode cX12_first 144 = .ok (.invokevirtual 661, 3) := by decide +kernel
theorem dX12_first_147 : decode cX12_first 147 = .ok (.iadd, 1) := by decide +kernel
theorem dX12_first_148 : decode cX12_first 148 = .ok (.istore 6, 2) := by decide +kernel
theorem dX12_first_150 : decode cX12_first 150 = .ok (.iinc 8 1, 3) := by decide +kernel
theorem dX12_first_153 : decode cX12_first 153 = .ok (.goto (-46), 3) := by decide +kernel
theorem dX12_first_156 : decode cX12_first 156 = .ok (.iload 5, 2) := by decide +kernel
theorem dX12_first_158 : decode cX12_first 158 = .ok (.ifCond .ne 8, 3) := by decide +kernel
theorem dX12_first_161 : decode cX12_first 161 = .ok (.iload 6, 2) := by decide +kernel
theorem dX12_first_163 : decode cX12_first 163 = .ok (.ifCond .eq 16, 3) := by decide +kernel
theorem dX12_first_166 : decode cX12_first 166 = .ok (.iload 5, 2) := by decide +kernel
theorem dX12_first_168 : decode cX12_first 168 = .ok (.ifCond .eq 8, 3) := by decide +kernel
theorem dX12_first_171 : decode cX12_first 171 = .ok (.bipush (-6), 2) := by decide +kernel
theorem dX12_first_173 : decode cX12_first 173 = .ok (.goto 5, 3) := by decide +kernel
theorem dX12_first_176 : decode cX12_first 176 = .ok (.bipush (-7), 2) := by decide +kernel
theorem dX12_first_178 : decode cX12_first 178 = .ok (.ireturn, 1) := by decide +kernel
theorem dX12_first_179 : decode cX12_first 179 = .ok (.aload_n 0, 1) := by decide +kernel
theorem dX12_first_180 : decode cX12_first 180 = .ok (.iconst 0, 1) := by decide +kernel
theorem dX12_first_181 : decode cX12_first 181 = .ok (.putfield 449, 3) := by decide +kernel
theorem dX12_first_184 : decode cX12_first 184 = .ok (.iconst (-1), 1) := by decide +kernel
theorem dX12_first_185 : decode cX12_first 185 = .ok (.istore 8, 2) := by decide +kernel
theorem dX12_first_187 : decode cX12_first 187 = .ok (.bipush 101, 2) := by decide +kernel
theorem dX12_first_189 : decode cX12_first 189 = .ok (.istore 9, 2) := by decide +kernel
theorem dX12_first_191 : decode cX12_first 191 = .ok (.iconst 0, 1) := by decide +kernel
theorem dX12_first_192 : decode cX12_first 192 = .ok (.istore 10, 2) := by decide +kernel
theorem dX12_first_194 : decode cX12_first 194 = .ok (.iload 10, 2) := by decide +kernel
theorem dX12_first_196 : decode cX12_first 196 = .ok (.bipush 6, 2) := by decide +kernel
theorem dX12_first_198 : decode cX12_first 198 = .ok (.if_icmp .ge 97, 3) := by decide +kernel
theorem dX12_first_201 : decode cX12_first 201 = .ok (.iload_n 1, 1) := by decide +kernel
theorem dX12_first_202 : decode cX12_first 202 = .ok (.iload 10, 2) := by decide +kernel
theorem dX12_first_204 : decode cX12_first 204 = .ok (.ishr, 1) := by decide +kernel
theorem dX12_first_205 : decode cX12_first 205 = .ok (.iconst 1, 1) := by decide +kernel
theorem dX12_first_206 : decode cX12_first 206 = .ok (.iand, 1) := by decide +kernel
theorem dX12_first_207 : decode cX12_first 207 = .ok (.iconst 1, 1) := by decide +kernel
theorem dX12_first_208 : decode cX12_first 208 = .ok (.if_icmp .ne 81, 3) := by decide +kernel
theorem dX12_first_211 : decode cX12_first 211 = .ok (.aload_n 0, 1) := by decide +kernel
theorem dX12_first_212 : decode cX12_first 212 = .ok (.iload 10, 2) := by decide +kernel
theorem dX12_first_214 : decode cX12_first 214 = .ok (.iload 4, 2) := by decide +kernel
theorem dX12_first_216 : decode cX12_first 216 = .ok (.ifCond .le 7, 3) := by decide +kernel
theorem dX12_first_219 : decode cX12_first 219 = .ok (.iconst 1, 1) := by decide +kernel
theorem dX12_first_220 : decode cX12_first 220 = .ok (.goto 4, 3) := by decide +kernel
theorem dX12_first_223 : decode cX12_first 223 = .ok (.iconst 0, 1) := by decide +kernel
theorem dX12_first_224 : decode cX12_first 224 = .ok (.invokevirtual 673, 3) := by decide +kernel
theorem dX12_first_227 : decode cX12_first 227 = .ok (.aload_n 0, 1) := by decide +kernel
theorem dX12_first_228 : decode cX12_first 228 = .ok (.iload 10, 2) := by decide +kernel
theorem dX12_first_230 : decode cX12_first 230 = .ok (.iload_n 2, 1) := by decide +kernel
theorem dX12_first_231 : decode cX12_first 231 = .ok (.iload_n 3, 1) := by decide +kernel
theorem dX12_first_232 : decode cX12_first 232 = .ok (.iconst 0, 1) := by decide +kernel
theorem dX12_first_233 : decode cX12_first 233 = .ok (.iload 4, 2) := by decide +kernel
theorem dX12_first_235 : decode cX12_first 235 = .ok (.ifCond .le 7, 3) := by decide +kernel
theorem dX12_first_238 : decode cX12_first 238 = .ok (.iconst 1, 1) := by decide +kernel
theorem dX12_first_239 : decode cX12_first 239 = .ok (.goto 4, 3) := by decide +kernel
theorem dX12_first_242 : decode cX12_first 242 = .ok (.iconst 0, 1) := by decide +kernel
theorem dX12_first_243 : decode cX12_first 243 = .ok (.sipush 3000, 3) := by decide +kernel
theorem dX12_first_246 : decode cX12_first 246 = .ok (.invokevirtual 680, 3) := by decide +kernel
theorem dX12_first_249 : decode cX12_first 249 = .ok (.istore 11, 2) := by decide +kernel
theorem dX12_first_251 : decode cX12_first 251 = .ok (.iload 11, 2) := by decide +kernel
theorem dX12_first_253 : decode cX12_first 253 = .ok (.iconst 2, 1) := by decide +kernel
theorem dX12_first_254 : decode cX12_first 254 = .ok (.if_icmp .ne 6, 3) := by decide +kernel
theorem dX12_first_257 : decode cX12_first 257 = .ok (.bipush (-8), 2) := by decide +kernel
theorem dX12_first_259 : decode cX12_first 259 = .ok (.ireturn, 1) := by decide +kernel
theorem dX12_first_260 : decode cX12_first 260 = .ok (.iload 11, 2) := by decide +kernel
theorem dX12_first_262 : decode cX12_first 262 = .ok (.iconst 1, 1) := by decide +kernel
theorem dX12_first_263 : decode cX12_first 263 = .ok (.if_icmp .ne 26, 3) := by decide +kernel
theorem dX12_first_266 : decode cX12_first 266 = .ok (.aload_n 0, 1) := by decide +kernel
theorem dX12_first_267 : decode cX12_first 267 = .ok (.getfield 231, 3) := by decide +kernel
theorem dX12_first_270 : decode cX12_first 270 = .ok (.iconst 0, 1) := by decide +kernel
theorem dX12_first_271 : decode cX12_first 271 = .ok (.iaload, 1) := by decide +kernel
theorem dX12_first_272 : decode cX12_first 272 = .ok (.iload 9, 2) := by decide +kernel
theorem dX12_first_274 : decode cX12_first 274 = .ok (.if_icmp .ge 15, 3) := by decide +kernel
theorem dX12_first_277 : decode cX12_first 277 = .ok (.iload 10, 2) := by decide +kernel
theorem dX12_first_279 : decode cX12_first 279 = .ok (.istore 8, 2) := by decide +kernel
theorem dX12_first_281 : decode cX12_first 281 = .ok (.aload_n 0, 1) := by decide +kernel
theorem dX12_first_282 : decode cX12_first 282 = .ok (.getfield 231, 3) := by decide +kernel
theorem dX12_first_285 : decode cX12_first 285 = .ok (.iconst 0, 1) := by decide +kernel
theorem dX12_first_286 : decode cX12_first 286 = .ok (.iaload, 1) := by decide +kernel
theorem dX12_first_287 : decode cX12_first 287 = .ok (.istore 9, 2) := by decide +kernel
theorem dX12_first_289 : decode cX12_first 289 = .ok (.iinc 10 1, 3) := by decide +kernel
theorem dX12_first_292 : decode cX12_first 292 = .ok (.goto (-98), 3) := by decide +kernel
theorem dX12_first_295 : decode cX12_first 295 = .ok (.iload 8, 2) := by decide +kernel
theorem dX12_first_297 : decode cX12_first 297 = .ok (.ireturn, 1) := by decide +kernel
theorem dX12_forget_0 : decode cX12_forget 0 = .ok (.aload_n 0, 1) := by decide +kernel
theorem dX12_forget_1 : decode cX12_forget 1 = .ok (.iconst 0, 1) := by decide +kernel
theorem dX12_forget_2 : decode cX12_forget 2 = .ok (.putfield 1, 3) := by decide +kernel
theorem dX12_forget_5 : decode cX12_forget 5 = .ok (.aload_n 0, 1) := by decide +kernel
theorem dX12_forget_6 : decode cX12_forget 6 = .ok (.iload_n 1, 1) := by decide +kernel
theorem dX12_forget_7 : decode cX12_forget 7 = .ok (.invokevirtual 459, 3) := by decide +kernel
theorem dX12_forget_10 : decode cX12_forget 10 = .ok (.ifCond .eq 6, 3) := by decide +kernel
theorem dX12_forget_13 : decode cX12_forget 13 = .ok (.bipush (-2), 2) := by decide +kernel
theorem dX12_forget_15 : decode cX12_forget 15 = .ok (.ireturn, 1) := by decide +kernel
theorem dX12_forget_16 : decode cX12_forget 16 = .ok (.aload_n 0, 1) := by decide +kernel
theorem dX12_forget_17 : decode cX12_forget 17 = .ok (.getfield 31, 3) := by decide +kernel
theorem dX12_forget_20 : decode cX12_forget 20 = .ok (.iload_n 1, 1) := by decide +kernel
theorem dX12_forget_21 : decode cX12_forget 21 = .ok (.iconst 0, 1) := by decide +kernel
theorem dX12_forget_22 : decode cX12_forget 22 = .ok (.bastore, 1) := by decide +kernel
theorem dX12_forget_23 : decode cX12_forget 23 = .ok (.aload_n 0, 1) := by decide +kernel
theorem dX12_forget_24 : decode cX12_forget 24 = .ok (.aload_n 0, 1) := by decide +kernel
theorem dX12_forget_25 : decode cX12_forget 25 = .ok (.getfield 449, 3) := by decide +kernel
theorem dX12_forget_28 : decode cX12_forget 28 = .ok (.ifCond .eq 15, 3) := by decide +kernel
theorem dX12_forget_31 : decode cX12_forget 31 = .ok (.aload_n 0, 1) := by decide +kernel
theorem dX12_forget_32 : decode cX12_forget 32 = .ok (.getfield 453, 3) := by decide +kernel
theorem dX12_forget_35 : decode cX12_forget 35 = .ok (.iload_n 1, 1) := by decide +kernel
theorem dX12_forget_36 : decode cX12_forget 36 = .ok (.if_icmp .eq 7, 3) := by decide +kernel
theorem dX12_forget_39 : decode cX12_forget 39 = .ok (.iconst 1, 1) := by decide +kernel
theorem dX12_forget_40 : decode cX12_forget 40 = .ok (.goto 4, 3) := by decide +kernel
theorem dX12_forget_43 : decode cX12_forget 43 = .ok (.iconst 0, 1) := by decide +kernel
theorem dX12_forget_44 : decode cX12_forget 44 = .ok (.putfield 449, 3) := by decide +kernel
theorem dX12_forget_47 : decode cX12_forget 47 = .ok (.iconst 1, 1) := by decide +kernel
theorem dX12_forget_48 : decode cX12_forget 48 = .ok (.ireturn, 1) := by decide +kernel
theorem dX12_goOn_0 : decode cX12_goOn 0 = .ok (.aload_n 0, 1) := by decide +kernel
theorem dX12_goOn_1 : decode cX12_goOn 1 = .ok (.iconst 0, 1) := by decide +kernel
theorem dX12_goOn_2 : decode cX12_goOn 2 = .ok (.putfield 1, 3) := by decide +kernel
theorem dX12_goOn_5 : decode cX12_goOn 5 = .ok (.iload_n 1, 1) := by decide +kernel
theorem dX12_goOn_6 : decode cX12_goOn 6 = .ok (.iconst 1, 1) := by decide +kernel
theorem dX12_goOn_7 : decode cX12_goOn 7 = .ok (.sipush 3000, 3) := by decide +kernel
theorem dX12_goOn_10 : decode cX12_goOn 10 = .ok (.invokestatic 7, 3) := by decide +kernel
theorem dX12_goOn_13 : decode cX12_goOn 13 = .ok (.ifCond .ne 6, 3) := by decide +kernel
theorem dX12_goOn_16 : decode cX12_goOn 16 = .ok (.bipush (-4), 2) := by decide +kernel
theorem dX12_goOn_18 : decode cX12_goOn 18 = .ok (.ireturn, 1) := by decide +kernel
theorem dX12_goOn_19 : decode cX12_goOn 19 = .ok (.aload_n 0, 1) := by decide +kernel
theorem dX12_goOn_20 : decode cX12_goOn 20 = .ok (.getfield 449, 3) := by decide +kernel
theorem dX12_goOn_23 : decode cX12_goOn 23 = .ok (.ifCond .eq 16, 3) := by decide +kernel
theorem dX12_goOn_26 : decode cX12_goOn 26 = .ok (.aload_n 0, 1) := by decide +kernel
theorem dX12_goOn_27 : decode cX12_goOn 27 = .ok (.aload_n 0, 1) := by decide +kernel
theorem dX12_goOn_28 : decode cX12_goOn 28 = .ok (.getfield 670, 3) := by decide +kernel
theorem dX12_goOn_31 : decode cX12_goOn 31 = .ok (.iload_n 1, 1) := by decide +kernel
theorem dX12_goOn_32 : decode cX12_goOn 32 = .ok (.iadd, 1) := by decide +kernel
theorem dX12_goOn_33 : decode cX12_goOn 33 = .ok (.invokevirtual 693, 3) := by decide +kernel
theorem dX12_goOn_36 : decode cX12_goOn 36 = .ok (.goto 5, 3) := by decide +kernel
theorem dX12_goOn_39 : decode cX12_goOn 39 = .ok (.bipush (-5), 2) := by decide +kernel
theorem dX12_goOn_41 : decode cX12_goOn 41 = .ok (.ireturn, 1) := by decide +kernel
theorem dX12_goes_0 : decode cX12_goes 0 = .ok (.aload_n 0, 1) := by decide +kernel
theorem dX12_goes_1 : decode cX12_goes 1 = .ok (.iload_n 1, 1) := by decide +kernel
theorem dX12_goes_2 : decode cX12_goes 2 = .ok (.sipush 3000, 3) := by decide +kernel
theorem dX12_goes_5 : decode cX12_goes 5 = .ok (.if_icmp .ge 7, 3) := by decide +kernel
theorem dX12_goes_8 : decode cX12_goes 8 = .ok (.iload_n 1, 1) := by decide +kernel
theorem dX12_goes_9 : decode cX12_goes 9 = .ok (.goto 6, 3) := by decide +kernel
theorem dX12_goes_12 : decode cX12_goes 12 = .ok (.sipush 3000, 3) := by decide +kernel
theorem dX12_goes_15 : decode cX12_goes 15 = .ok (.putfield 670, 3) := by decide +kernel
theorem dX12_goes_18 : decode cX12_goes 18 = .ok (.aload_n 0, 1) := by decide +kernel
theorem dX12_goes_19 : decode cX12_goes 19 = .ok (.aload_n 0, 1) := by decide +kernel
theorem dX12_goes_20 : decode cX12_goes 20 = .ok (.getfield 453, 3) := by decide +kernel
theorem dX12_goes_23 : decode cX12_goes 23 = .ok (.iconst 0, 1) := by decide +kernel
theorem dX12_goes_24 : decode cX12_goes 24 = .ok (.invokevirtual 673, 3) := by decide +kernel
theorem dX12_goes_27 : decode cX12_goes 27 = .ok (.aload_n 0, 1) := by decide +kernel
theorem dX12_goes_28 : decode cX12_goes 28 = .ok (.aload_n 0, 1) := by decide +kernel
theorem dX12_goes_29 : decode cX12_goes 29 = .ok (.getfield 453, 3) := by decide +kernel
theorem dX12_goes_32 : decode cX12_goes 32 = .ok (.aload_n 0, 1) := by decide +kernel
theorem dX12_goes_33 : decode cX12_goes 33 = .ok (.getfield 539, 3) := by decide +kernel
theorem dX12_goes_36 : decode cX12_goes 36 = .ok (.aload_n 0, 1) := by decide +kernel
theorem dX12_goes_37 : decode cX12_goes 37 = .ok (.getfield 677, 3) := by decide +kernel
theorem dX12_goes_40 : decode cX12_goes 40 = .ok (.iconst 0, 1) := by decide +kernel
theorem dX12_goes_41 : decode cX12_goes 41 = .ok (.iconst 0, 1) := by decide +kernel
theorem dX12_goes_42 : decode cX12_goes 42 = .ok (.aload_n 0, 1) := by decide +kernel
theorem dX12_goes_43 : decode cX12_goes 43 = .ok (.getfield 670, 3) := by decide +kernel
theorem dX12_goes_46 : decode cX12_goes 46 = .ok (.invokevirtual 680, 3) := by decide +kernel
theorem dX12_goes_49 : decode cX12_goes 49 = .ok (.istore_n 2, 1) := by decide +kernel
theorem dX12_goes_50 : decode cX12_goes 50 = .ok (.aload_n 0, 1) := by decide +kernel
theorem dX12_goes_51 : decode cX12_goes 51 = .ok (.iload_n 2, 1) := by decide +kernel
theorem dX12_goes_52 : decode cX12_goes 52 = .ok (.iconst 2, 1) := by decide +kernel
theorem dX12_goes_53 : decode cX12_goes 53 = .ok (.if_icmp .ne 17, 3) := by decide +kernel
theorem dX12_goes_56 : decode cX12_goes 56 = .ok (.aload_n 0, 1) := by decide +kernel
theorem dX12_goes_57 : decode cX12_goes 57 = .ok (.getfield 670, 3) := by decide +kernel
theorem dX12_goes_60 : decode cX12_goes 60 = .ok (.sipush 3000, 3) := by decide +kernel
theorem dX12_goes_63 : decode cX12_goes 63 = .ok (.if_icmp .ge 7, 3) := by decide +kernel
theorem dX12_goes_66 : decode cX12_goes 66 = .ok (.iconst 1, 1) := by decide +kernel
theorem dX12_goes_67 : decode cX12_goes 67 = .ok (.goto 4, 3) := by decide +kernel
theorem dX12_goes_70 : decode cX12_goes 70 = .ok (.iconst 0, 1) := by decide +kernel
theorem dX12_goes_71 : decode cX12_goes 71 = .ok (.putfield 449, 3) := by decide +kernel
theorem dX12_goes_74 : decode cX12_goes 74 = .ok (.iload_n 2, 1) := by decide +kernel
theorem dX12_goes_75 : decode cX12_goes 75 = .ok (.iconst 2, 1) := by decide +kernel
theorem dX12_goes_76 : decode cX12_goes 76 = .ok (.if_icmp .ne 17, 3) := by decide +kernel
theorem dX12_goes_79 : decode cX12_goes 79 = .ok (.aload_n 0, 1) := by decide +kernel
theorem dX12_goes_80 : decode cX12_goes 80 = .ok (.getfield 449, 3) := by decide +kernel
theorem dX12_goes_83 : decode cX12_goes 83 = .ok (.ifCond .eq 7, 3) := by decide +kernel
theorem dX12_goes_86 : decode cX12_goes 86 = .ok (.iconst 2, 1) := by decide +kernel
theorem dX12_goes_87 : decode cX12_goes 87 = .ok (.goto 5, 3) := by decide +kernel
theorem dX12_goes_90 : decode cX12_goes 90 = .ok (.bipush (-8), 2) := by decide +kernel
theorem dX12_goes_92 : decode cX12_goes 92 = .ok (.ireturn, 1) := by decide +kernel
theorem dX12_goes_93 : decode cX12_goes 93 = .ok (.aload_n 0, 1) := by decide +kernel
theorem dX12_goes_94 : decode cX12_goes 94 = .ok (.aload_n 0, 1) := by decide +kernel
theorem dX12_goes_95 : decode cX12_goes 95 = .ok (.getfield 453, 3) := by decide +kernel
theorem dX12_goes_98 : decode cX12_goes 98 = .ok (.iload_n 2, 1) := by decide +kernel
theorem dX12_goes_99 : decode cX12_goes 99 = .ok (.iconst 1, 1) := by decide +kernel
theorem dX12_goes_100 : decode cX12_goes 100 = .ok (.if_icmp .ne 7, 3) := by decide +kernel
theorem dX12_goes_103 : decode cX12_goes 103 = .ok (.iconst 1, 1) := by decide +kernel
theorem dX12_goes_104 : decode cX12_goes 104 = .ok (.goto 4, 3) := by decide +kernel
theorem dX12_goes_107 : decode cX12_goes 107 = .ok (.iconst 0, 1) := by decide +kernel
theorem dX12_goes_108 : decode cX12_goes 108 = .ok (.invokevirtual 684, 3) := by decide +kernel
theorem dX12_goes_111 : decode cX12_goes 111 = .ok (.iload_n 2, 1) := by decide +kernel
theorem dX12_goes_112 : decode cX12_goes 112 = .ok (.ireturn, 1) := by decide +kernel
theorem dX12_goesBack_0 : decode cX12_goesBack 0 = .ok (.aload_n 0, 1) := by decide +kernel
theorem dX12_goesBack_1 : decode cX12_goesBack 1 = .ok (.getfield 580, 3) := by decide +kernel
theorem dX12_goesBack_4 : decode cX12_goesBack 4 = .ok (.ifCond .ne 5, 3) := by decide +kernel
theorem dX12_goesBack_7 : decode cX12_goesBack 7 = .ok (.iconst 0, 1) := by decide +kernel
theorem dX12_goesBack_8 : decode cX12_goesBack 8 = .ok (.ireturn, 1) := by decide +kernel
theorem dX12_goesBack_9 : decode cX12_goesBack 9 = .ok (.aload_n 0, 1) := by decide +kernel
theorem dX12_goesBack_10 : decode cX12_goesBack 10 = .ok (.dup, 1) := by decide +kernel
theorem dX12_goesBack_11 : decode cX12_goesBack 11 = .ok (.getfield 580, 3) := by decide +kernel
theorem dX12_goesBack_14 : decode cX12_goesBack 14 = .ok (.iconst 1, 1) := by decide +kernel
theorem dX12_goesBack_15 : decode cX12_goesBack 15 = .ok (.isub, 1) := by decide +kernel
theorem dX12_goesBack_16 : decode cX12_goesBack 16 = .ok (.putfield 580, 3) := by decide +kernel
theorem dX12_goesBack_19 : decode cX12_goesBack 19 = .ok (.aload_n 0, 1) := by decide +kernel
theorem dX12_goesBack_20 : decode cX12_goesBack 20 = .ok (.getfield 577, 3) := by decide +kernel
theorem dX12_goesBack_23 : decode cX12_goesBack 23 = .ok (.aload_n 0, 1) := by decide +kernel
theorem dX12_goesBack_24 : decode cX12_goesBack 24 = .ok (.getfield 224, 3) := by decide +kernel
theorem dX12_goesBack_27 : decode cX12_goesBack 27 = .ok (.aload_n 0, 1) := by decide +kernel
theorem dX12_goesBack_28 : decode cX12_goesBack 28 = .ok (.getfield 580, 3) := by decide +kernel
theorem dX12_goesBack_31 : decode cX12_goesBack 31 = .ok (.iaload, 1) := by decide +kernel
theorem dX12_goesBack_32 : decode cX12_goesBack 32 = .ok (.if_icmp .le 39, 3) := by decide +kernel
theorem dX12_goesBack_35 : decode cX12_goesBack 35 = .ok (.aload_n 0, 1) := by decide +kernel
theorem dX12_goesBack_36 : decode cX12_goesBack 36 = .ok (.dup, 1) := by decide +kernel
theorem dX12_goesBack_37 : decode cX12_goesBack 37 = .ok (.getfield 577, 3) := by decide +kernel
theorem dX12_goesBack_40 : decode cX12_goesBack 40 = .ok (.iconst 1, 1) := by decide +kernel
theorem dX12_goesBack_41 : decode cX12_goesBack 41 = .ok (.isub, 1) := by decide +kernel
theorem dX12_goesBack_42 : decode cX12_goesBack 42 = .ok (.putfield 577, 3) := by decide +kernel
theorem dX12_goesBack_45 : decode cX12_goesBack 45 = .ok (.aload_n 0, 1) := by decide +kernel
theorem dX12_goesBack_46 : decode cX12_goesBack 46 = .ok (.getfield 204, 3) := by decide +kernel
theorem dX12_goesBack_49 : decode cX12_goesBack 49 = .ok (.aload_n 0, 1) := by decide +kernel
theorem dX12_goesBack_50 : decode cX12_goesBack 50 = .ok (.getfield 208, 3) := by decide +kernel
theorem dX12_goesBack_53 : decode cX12_goesBack 53 = .ok (.aload_n 0, 1) := by decide +kernel
theorem dX12_goesBack_54 : decode cX12_goesBack 54 = .ok (.getfield 577, 3) := by decide +kernel
theorem dX12_goesBack_57 : decode cX12_goesBack 57 = .ok (.iaload, 1) := by decide +kernel
theorem dX12_goesBack_58 : decode cX12_goesBack 58 = .ok (.aload_n 0, 1) := by decide +kernel
theorem dX12_goesBack_59 : decode cX12_goesBack 59 = .ok (.getfield 211, 3) := by decide +kernel
theorem dX12_goesBack_62 : decode cX12_goesBack 62 = .ok (.aload_n 0, 1) := by decide +kernel
theorem dX12_goesBack_63 : decode cX12_goesBack 63 = .ok (.getfield 577, 3) := by decide +kernel
theorem dX12_goesBack_66 : decode cX12_goesBack 66 = .ok (.iaload, 1) := by decide +kernel
theorem dX12_goesBack_67 : decode cX12_goesBack 67 = .ok (.iastore, 1) := by decide +kernel
theorem dX12_goesBack_68 : decode cX12_goesBack 68 = .ok (.goto (-49), 3) := by decide +kernel
theorem dX12_goesBack_71 : decode cX12_goesBack 71 = .ok (.aload_n 0, 1) := by decide +kernel
theorem dX12_goesBack_72 : decode cX12_goesBack 72 = .ok (.aload_n 0, 1) := by decide +kernel
theorem dX12_goesBack_73 : decode cX12_goesBack 73 = .ok (.getfield 218, 3) := by decide +kernel
theorem dX12_goesBack_76 : decode cX12_goesBack 76 = .ok (.aload_n 0, 1) := by decide +kernel
theorem dX12_goesBack_77 : decode cX12_goesBack 77 = .ok (.getfield 580, 3) := by decide +kernel
theorem dX12_goesBack_80 : decode cX12_goesBack 80 = .ok (.iaload, 1) := by decide +kernel
theorem dX12_goesBack_81 : decode cX12_goesBack 81 = .ok (.putfield 617, 3) := by decide +kernel
theorem dX12_goesBack_84 : decode cX12_goesBack 84 = .ok (.aload_n 0, 1) := by decide +kernel
theorem dX12_goesBack_85 : decode cX12_goesBack 85 = .ok (.aload_n 0, 1) := by decide +kernel
theorem dX12_goesBack_86 : decode cX12_goesBack 86 = .ok (.getfield 221, 3) := by decide +kernel
theorem dX12_goesBack_89 : decode cX12_goesBack 89 = .ok (.aload_n 0, 1) := by decide +kernel
theorem dX12_goesBack_90 : decode cX12_goesBack 90 = .ok (.getfield 580, 3) := by decide +kernel
theorem dX12_goesBack_93 : decode cX12_goesBack 93 = .ok (.iaload, 1) := by decide +kernel
theorem dX12_goesBack_94 : decode cX12_goesBack 94 = .ok (.putfield 604, 3) := by decide +kernel
theorem dX12_goesBack_97 : decode cX12_goesBack 97 = .ok (.aload_n 0, 1) := by decide +kernel
theorem dX12_goesBack_98 : decode cX12_goesBack 98 = .ok (.getfield 215, 3) := by decide +kernel
theorem dX12_goesBack_101 : decode cX12_goesBack 101 = .ok (.aload_n 0, 1) := by decide +kernel
theorem dX12_goesBack_102 : decode cX12_goesBack 102 = .ok (.getfield 580, 3) := by decide +kernel
theorem dX12_goesBack_105 : decode cX12_goesBack 105 = .ok (.iaload, 1) := by decide +kernel
theorem dX12_goesBack_106 : decode cX12_goesBack 106 = .ok (.iconst 1, 1) := by decide +kernel
theorem dX12_goesBack_107 : decode cX12_goesBack 107 = .ok (.if_icmp .ne 19, 3) := by decide +kernel
theorem dX12_goesBack_110 : decode cX12_goesBack 110 = .ok (.aload_n 0, 1) := by decide +kernel
theorem dX12_goesBack_111 : decode cX12_goesBack 111 = .ok (.aload_n 0, 1) := by decide +kernel
theorem dX12_goesBack_112 : decode cX12_goesBack 112 = .ok (.getfield 183, 3) := by decide +kernel
theorem dX12_goesBack_115 : decode cX12_goesBack 115 = .ok (.aload_n 0, 1) := by decide +kernel
theorem dX12_goesBack_116 : decode cX12_goesBack 116 = .ok (.getfield 617, 3) := by decide +kernel
theorem dX12_goesBack_119 : decode cX12_goesBack 119 = .ok (.iaload, 1) := by decide +kernel
theorem dX12_goesBack_120 : decode cX12_goesBack 120 = .ok (.invokevirtual 623, 3) := by decide +kernel
theorem dX12_goesBack_123 : decode cX12_goesBack 123 = .ok (.goto 49, 3) := by decide +kernel
theorem dX12_goesBack_126 : decode cX12_goesBack 126 = .ok (.aload_n 0, 1) := by decide +kernel
theorem dX12_goesBack_127 : decode cX12_goesBack 127 = .ok (.getfield 215, 3) := by decide +kernel
theorem dX12_goesBack_130 : decode cX12_goesBack 130 = .ok (.aload_n 0, 1) := by decide +kernel
theorem dX12_goesBack_131 : decode cX12_goesBack 131 = .ok (.getfield 580, 3) := by decide +kernel
theorem dX12_goesBack_134 : decode cX12_goesBack 134 = .ok (.iaload, 1) := by decide +kernel
theorem dX12_goesBack_135 : decode cX12_goesBack 135 = .ok (.iconst 2, 1) := by decide +kernel
theorem dX12_goesBack_136 : decode cX12_goesBack 136 = .ok (.if_icmp .ne 36, 3) := by decide +kernel
theorem dX12_goesBack_139 : decode cX12_goesBack 139 = .ok (.aload_n 0, 1) := by decide +kernel
theorem dX12_goesBack_140 : decode cX12_goesBack 140 = .ok (.aload_n 0, 1) := by decide +kernel
theorem dX12_goesBack_141 : decode cX12_goesBack 141 = .ok (.getfield 183, 3) := by decide +kernel
theorem dX12_goesBack_144 : decode cX12_goesBack 144 = .ok (.aload_n 0, 1) := by decide +kernel
theorem dX12_goesBack_145 : decode cX12_goesBack 145 = .ok (.getfield 617, 3) := by decide +kernel
theorem dX12_goesBack_148 : decode cX12_goesBack 148 = .ok (.iaload, 1) := by decide +kernel
theorem dX12_goesBack_149 : decode cX12_goesBack 149 = .ok (.aload_n 0, 1) := by decide +kernel
theorem dX12_goesBack_150 : decode cX12_goesBack 150 = .ok (.getfield 204, 3) := by decide +kernel
theorem dX12_goesBack_153 : decode cX12_goesBack 153 = .ok (.sipush 910, 3) := by decide +kernel
theorem dX12_goesBack_156 : decode cX12_goesBack 156 = .ok (.aload_n 0, 1) := by decide +kernel
theorem dX12_goesBack_157 : decode cX12_goesBack 157 = .ok (.getfield 183, 3) := by decide +kernel
theorem dX12_goesBack_160 : decode cX12_goesBack 160 = .ok (.aload_n 0, 1) := by decide +kernel
theorem dX12_goesBack_161 : decode cX12_goesBack 161 = .ok (.getfield 617, 3) := by decide +kernel
theorem dX12_goesBack_164 : decode cX12_goesBack 164 = .ok (.iaload, 1) := by decide +kernel
theorem dX12_goesBack_165 : decode cX12_goesBack 165 = .ok (.iadd, 1) := by decide +kernel
theorem dX12_goesBack_166 : decode cX12_goesBack 166 = .ok (.iaload, 1) := by decide +kernel
theorem dX12_goesBack_167 : decode cX12_goesBack 167 = .ok (.iconst 1, 1) := by decide +kernel
theorem dX12_goesBack_168 : decode cX12_goesBack 168 = .ok (.isub, 1) := by decide +kernel
theorem dX12_goesBack_169 : decode cX12_goesBack 169 = .ok (.invokevirtual 626, 3) := by decide +kernel
theorem dX12_goesBack_172 : decode cX12_goesBack 172 = .ok (.iconst 1, 1) := by decide +kernel
theorem dX12_goesBack_173 : decode cX12_goesBack 173 = .ok (.ireturn, 1) := by decide +kernel
theorem dX12_hexes_0 : decode cX12_hexes 0 = .ok (.iconst 0, 1) := by decide +kernel
theorem dX12_hexes_1 : decode cX12_hexes 1 = .ok (.istore_n 2, 1) := by decide +kernel
theorem dX12_hexes_2 : decode cX12_hexes 2 = .ok (.iconst 0, 1) := by decide +kernel
theorem dX12_hexes_3 : decode cX12_hexes 3 = .ok (.istore_n 3, 1) := by decide +kernel
theorem dX12_hexes_4 : decode cX12_hexes 4 = .ok (.iload_n 3, 1) := by decide +kernel
theorem dX12_hexes_5 : decode cX12_hexes 5 = .ok (.iconst 4, 1) := by decide +kernel
theorem dX12_hexes_6 : decode cX12_hexes 6 = .ok (.if_icmp .ge 61, 3) := by decide +kernel
theorem dX12_hexes_9 : decode cX12_hexes 9 = .ok (.aload_n 0, 1) := by decide +kernel
theorem dX12_hexes_10 : decode cX12_hexes 10 = .ok (.iload_n 1, 1) := by decide +kernel
theorem dX12_hexes_11 : decode cX12_hexes 11 = .ok (.iload_n 3, 1) := by decide +kernel
theorem dX12_hexes_12 : decode cX12_hexes 12 = .ok (.iadd, 1) := by decide +kernel
theorem dX12_hexes_13 : decode cX12_hexes 13 = .ok (.invokevirtual 349, 3) := by decide +kernel
theorem dX12_hexes_16 : decode cX12_hexes 16 = .ok (.istore 4, 2) := by decide +kernel
theorem dX12_hexes_18 : decode cX12_hexes 18 = .ok (.iload 4, 2) := by decide +kernel
theorem dX12_hexes_20 : decode cX12_hexes 20 = .ok (.invokestatic 353, 3) := by decide +kernel
theorem dX12_hexes_23 : decode cX12_hexes 23 = .ok (.ifCond .ne 11, 3) := by decide +kernel
theorem dX12_hexes_26 : decode cX12_hexes 26 = .ok (.aload_n 0, 1) := by decide +kernel
theorem dX12_hexes_27 : decode cX12_hexes 27 = .ok (.iconst 1, 1) := by decide +kernel
theorem dX12_hexes_28 : decode cX12_hexes 28 = .ok (.iload_n 1, 1) := by decide +kernel
theorem dX12_hexes_29 : decode cX12_hexes 29 = .ok (.iload_n 3, 1) := by decide +kernel
theorem dX12_hexes_30 : decode cX12_hexes 30 = .ok (.iadd, 1) := by decide +kernel
theorem dX12_hexes_31 : decode cX12_hexes 31 = .ok (.invokevirtual 345, 3) := by decide +kernel
theorem dX12_hexes_34 : decode cX12_hexes 34 = .ok (.bipush 16, 2) := by decide +kernel
theorem dX12_hexes_36 : decode cX12_hexes 36 = .ok (.iload_n 2, 1) := by decide +kernel
theorem dX12_hexes_37 : decode cX12_hexes 37 = .ok (.imul, 1) := by decide +kernel
theorem dX12_hexes_38 : decode cX12_hexes 38 = .ok (.iload 4, 2) := by decide +kernel
theorem dX12_hexes_40 : decode cX12_hexes 40 = .ok (.invokestatic 15, 3) := by decide +kernel
theorem dX12_hexes_43 : decode cX12_hexes 43 = .ok (.ifCond .eq 11, 3) := by decide +kernel
theorem dX12_hexes_46 : decode cX12_hexes 46 = .ok (.iload 4, 2) := by decide +kernel
theorem dX12_hexes_48 : decode cX12_hexes 48 = .ok (.bipush 48, 2) := by decide +kernel
theorem dX12_hexes_50 : decode cX12_hexes 50 = .ok (.isub, 1) := by decide +kernel
theorem dX12_hexes_51 : decode cX12_hexes 51 = .ok (.goto 8, 3) := by decide +kernel
theorem dX12_hexes_54 : decode cX12_hexes 54 = .ok (.iload 4, 2) := by decide +kernel
theorem dX12_hexes_56 : decode cX12_hexes 56 = .ok (.bipush 87, 2) := by decide +kernel
theorem dX12_hexes_58 : decode cX12_hexes 58 = .ok (.isub, 1) := by decide +kernel
theorem dX12_hexes_59 : decode cX12_hexes 59 = .ok (.iadd, 1) := by decide +kernel
theorem dX12_hexes_60 : decode cX12_hexes 60 = .ok (.istore_n 2, 1) := by decide +kernel
theorem dX12_hexes_61 : decode cX12_hexes 61 = .ok (.iinc 3 1, 3) := by decide +kernel
theorem dX12_hexes_64 : decode cX12_hexes 64 = .ok (.goto (-60), 3) := by decide +kernel
theorem dX12_hexes_67 : decode cX12_hexes 67 = .ok (.iload_n 2, 1) := by decide +kernel
theorem dX12_hexes_68 : decode cX12_hexes 68 = .ok (.ireturn, 1) := by decide +kernel
theorem dX12_holding_0 : decode cX12_holding 0 = .ok (.aload_n 0, 1) := by decide +kernel
theorem dX12_holding_1 : decode cX12_holding 1 = .ok (.iload_n 1, 1) := by decide +kernel
theorem dX12_holding_2 : decode cX12_holding 2 = .ok (.iload_n 2, 1) := by decide +kernel
theorem dX12_holding_3 : decode cX12_holding 3 = .ok (.invokevirtual 335, 3) := by decide +kernel
theorem dX12_holding_6 : decode cX12_holding 6 = .ok (.istore 4, 2) := by decide +kernel
theorem dX12_holding_8 : decode cX12_holding 8 = .ok (.aload_n 0, 1) := by decide +kernel
theorem dX12_holding_9 : decode cX12_holding 9 = .ok (.getfield 98, 3) := by decide +kernel
theorem dX12_holding_12 : decode cX12_holding 12 = .ok (.iload 4, 2) := by decide +kernel
theorem dX12_holding_14 : decode cX12_holding 14 = .ok (.iload_n 3, 1) := by decide +kernel
theorem dX12_holding_15 : decode cX12_holding 15 = .ok (.iastore, 1) := by decide +kernel
theorem dX12_holding_16 : decode cX12_holding 16 = .ok (.aload_n 0, 1) := by decide +kernel
theorem dX12_holding_17 : decode cX12_holding 17 = .ok (.getfield 104, 3) := by decide +kernel
theorem dX12_holding_20 : decode cX12_holding 20 = .ok (.iload 4, 2) := by decide +kernel
theorem dX12_holding_22 : decode cX12_holding 22 = .ok (.iconst 1, 1) := by decide +kernel
theorem dX12_holding_23 : decode cX12_holding 23 = .ok (.iastore, 1) := by decide +kernel
theorem dX12_holding_24 : decode cX12_holding 24 = .ok (.iload 4, 2) := by decide +kernel
theorem dX12_holding_26 : decode cX12_holding 26 = .ok (.ireturn, 1) := by decide +kernel
theorem dX12_in_0 : decode cX12_in 0 = .ok (.iload_n 0, 1) := by decide +kernel
theorem dX12_in_1 : decode cX12_in 1 = .ok (.iload_n 1, 1) := by decide +kernel
theorem dX12_in_2 : decode cX12_in 2 = .ok (.if_icmp .lt 12, 3) := by decide +kernel
theorem dX12_in_5 : decode cX12_in 5 = .ok (.iload_n 0, 1) := by decide +kernel
theorem dX12_in_6 : decode cX12_in 6 = .ok (.iload_n 2, 1) := by decide +kernel
theorem dX12_in_7 : decode cX12_in 7 = .ok (.if_icmp .gt 7, 3) := by decide +kernel
theorem dX12_in_10 : decode cX12_in 10 = .ok (.iconst 1, 1) := by decide +kernel
theorem dX12_in_11 : decode cX12_in 11 = .ok (.goto 4, 3) := by decide +kernel
theorem dX12_in_14 : decode cX12_in 14 = .ok (.iconst 0, 1) := by decide +kernel
theorem dX12_in_15 : decode cX12_in 15 = .ok (.ireturn, 1) := by decide +kernel
theorem dX12_isAlike_0 : decode cX12_isAlike 0 = .ok (.aload_n 0, 1) := by decide +kernel
theorem dX12_isAlike_1 : decode cX12_isAlike 1 = .ok (.getfield 287, 3) := by decide +kernel
theorem dX12_isAlike_4 : decode cX12_isAlike 4 = .ok (.iload_n 1, 1) := by decide +kernel
theorem dX12_isAlike_5 : decode cX12_isAlike 5 = .ok (.iaload, 1) := by decide +kernel
theorem dX12_isAlike_6 : decode cX12_isAlike 6 = .ok (.aload_n 0, 1) := by decide +kernel
theorem dX12_isAlike_7 : decode cX12_isAlike 7 = .ok (.getfield 287, 3) := by decide +kernel
theorem dX12_isAlike_10 : decode cX12_isAlike 10 = .ok (.iload_n 2, 1) := by decide +kernel
theorem dX12_isAlike_11 : decode cX12_isAlike 11 = .ok (.iaload, 1) := by decide +kernel
theorem dX12_isAlike_12 : decode cX12_isAlike 12 = .ok (.if_icmp .ne 7, 3) := by decide +kernel
theorem dX12_isAlike_15 : decode cX12_isAlike 15 = .ok (.iconst 1, 1) := by decide +kernel
theorem dX12_isAlike_16 : decode cX12_isAlike 16 = .ok (.goto 4, 3) := by decide +kernel
theorem dX12_isAlike_19 : decode cX12_isAlike 19 = .ok (.iconst 0, 1) := by decide +kernel
theorem dX12_isAlike_20 : decode cX12_isAlike 20 = .ok (.istore_n 3, 1) := by decide +kernel
theorem dX12_isAlike_21 : decode cX12_isAlike 21 = .ok (.iconst 0, 1) := by decide +kernel
theorem dX12_isAlike_22 : decode cX12_isAlike 22 = .ok (.istore 4, 2) := by decide +kernel
theorem dX12_isAlike_24 : decode cX12_isAlike 24 = .ok (.iload 4, 2) := by decide +kernel
theorem dX12_isAlike_26 : decode cX12_isAlike 26 = .ok (.aload_n 0, 1) := by decide +kernel
theorem dX12_isAlike_27 : decode cX12_isAlike 27 = .ok (.getfield 274, 3) := by decide +kernel
theorem dX12_isAlike_30 : decode cX12_isAlike 30 = .ok (.iconst 0, 1) := by decide +kernel
theorem dX12_isAlike_31 : decode cX12_isAlike 31 = .ok (.iaload, 1) := by decide +kernel
theorem dX12_isAlike_32 : decode cX12_isAlike 32 = .ok (.if_icmp .ge 58, 3) := by decide +kernel
theorem dX12_isAlike_35 : decode cX12_isAlike 35 = .ok (.iload_n 3, 1) := by decide +kernel
theorem dX12_isAlike_36 : decode cX12_isAlike 36 = .ok (.ifCond .eq 54, 3) := by decide +kernel
theorem dX12_isAlike_39 : decode cX12_isAlike 39 = .ok (.aload_n 0, 1) := by decide +kernel
theorem dX12_isAlike_40 : decode cX12_isAlike 40 = .ok (.getfield 287, 3) := by decide +kernel
theorem dX12_isAlike_43 : decode cX12_isAlike 43 = .ok (.aload_n 0, 1) := by decide +kernel
theorem dX12_isAlike_44 : decode cX12_isAlike 44 = .ok (.getfield 284, 3) := by decide +kernel
theorem dX12_isAlike_47 : decode cX12_isAlike 47 = .ok (.sipush 500, 3) := by decide +kernel
theorem dX12_isAlike_50 : decode cX12_isAlike 50 = .ok (.iload_n 1, 1) := by decide +kernel
theorem dX12_isAlike_51 : decode cX12_isAlike 51 = .ok (.imul, 1) := by decide +kernel
theorem dX12_isAlike_52 : decode cX12_isAlike 52 = .ok (.iload 4, 2) := by decide +kernel
theorem dX12_isAlike_54 : decode cX12_isAlike 54 = .ok (.iadd, 1) := by decide +kernel
theorem dX12_isAlike_55 : decode cX12_isAlike 55 = .ok (.iaload, 1) := by decide +kernel
theorem dX12_isAlike_56 : decode cX12_isAlike 56 = .ok (.iaload, 1) := by decide +kernel
theorem dX12_isAlike_57 : decode cX12_isAlike 57 = .ok (.aload_n 0, 1) := by decide +kernel
theorem dX12_isAlike_58 : decode cX12_isAlike 58 = .ok (.getfield 287, 3) := by decide +kernel
theorem dX12_isAlike_61 : decode cX12_isAlike 61 = .ok (.aload_n 0, 1) := by decide +kernel
theorem dX12_isAlike_62 : decode cX12_isAlike 62 = .ok (.getfield 284, 3) := by decide +kernel
theorem dX12_isAlike_65 : decode cX12_isAlike 65 = .ok (.sipush 500, 3) := by decide +kernel
theorem dX12_isAlike_68 : decode cX12_isAlike 68 = .ok (.iload_n 2, 1) := by decide +kernel
theorem dX12_isAlike_69 : decode cX12_isAlike 69 = .ok (.imul, 1) := by decide +kernel
theorem dX12_isAlike_70 : decode cX12_isAlike 70 = .ok (.iload 4, 2) := by decide +kernel
theorem dX12_isAlike_72 : decode cX12_isAlike 72 = .ok (.iadd, 1) := by decide +kernel
theorem dX12_isAlike_73 : decode cX12_isAlike 73 = .ok (.iaload, 1) := by decide +kernel
theorem dX12_isAlike_74 : decode cX12_isAlike 74 = .ok (.iaload, 1) := by decide +kernel
theorem dX12_isAlike_75 : decode cX12_isAlike 75 = .ok (.if_icmp .ne 7, 3) := by decide +kernel
theorem dX12_isAlike_78 : decode cX12_isAlike 78 = .ok (.iconst 1, 1) := by decide +kernel
theorem dX12_isAlike_79 : decode cX12_isAlike 79 = .ok (.goto 4, 3) := by decide +kernel
theorem dX12_isAlike_82 : decode cX12_isAlike 82 = .ok (.iconst 0, 1) := by decide +kernel
theorem dX12_isAlike_83 : decode cX12_isAlike 83 = .ok (.istore_n 3, 1) := by decide +kernel
theorem dX12_isAlike_84 : decode cX12_isAlike 84 = .ok (.iinc 4 1, 3) := by decide +kernel
theorem dX12_isAlike_87 : decode cX12_isAlike 87 = .ok (.goto (-63), 3) := by decide +kernel
theorem dX12_isAlike_90 : decode cX12_isAlike 90 = .ok (.iload_n 3, 1) := by decide +kernel
theorem dX12_isAlike_91 : decode cX12_isAlike 91 = .ok (.ireturn, 1) := by decide +kernel
theorem dX12_isBack_0 : decode cX12_isBack 0 = .ok (.aload_n 0, 1) := by decide +kernel
theorem dX12_isBack_1 : decode cX12_isBack 1 = .ok (.getfield 204, 3) := by decide +kernel
theorem dX12_isBack_4 : decode cX12_isBack 4 = .ok (.iconst 0, 1) := by decide +kernel
theorem dX12_isBack_5 : decode cX12_isBack 5 = .ok (.aload_n 0, 1) := by decide +kernel
theorem dX12_isBack_6 : decode cX12_isBack 6 = .ok (.getfield 47, 3) := by decide +kernel
theorem dX12_isBack_9 : decode cX12_isBack 9 = .ok (.iload_n 1, 1) := by decide +kernel
theorem dX12_isBack_10 : decode cX12_isBack 10 = .ok (.iaload, 1) := by decide +kernel
theorem dX12_isBack_11 : decode cX12_isBack 11 = .ok (.iadd, 1) := by decide +kernel
theorem dX12_isBack_12 : decode cX12_isBack 12 = .ok (.iaload, 1) := by decide +kernel
theorem dX12_isBack_13 : decode cX12_isBack 13 = .ok (.istore_n 2, 1) := by decide +kernel
theorem dX12_isBack_14 : decode cX12_isBack 14 = .ok (.aload_n 0, 1) := by decide +kernel
theorem dX12_isBack_15 : decode cX12_isBack 15 = .ok (.getfield 204, 3) := by decide +kernel
theorem dX12_isBack_18 : decode cX12_isBack 18 = .ok (.bipush 10, 2) := by decide +kernel
theorem dX12_isBack_20 : decode cX12_isBack 20 = .ok (.aload_n 0, 1) := by decide +kernel
theorem dX12_isBack_21 : decode cX12_isBack 21 = .ok (.getfield 47, 3) := by decide +kernel
theorem dX12_isBack_24 : decode cX12_isBack 24 = .ok (.iload_n 1, 1) := by decide +kernel
theorem dX12_isBack_25 : decode cX12_isBack 25 = .ok (.iaload, 1) := by decide +kernel
theorem dX12_isBack_26 : decode cX12_isBack 26 = .ok (.iadd, 1) := by decide +kernel
theorem dX12_isBack_27 : decode cX12_isBack 27 = .ok (.iaload, 1) := by decide +kernel
theorem dX12_isBack_28 : decode cX12_isBack 28 = .ok (.iload_n 2, 1) := by decide +kernel
theorem dX12_isBack_29 : decode cX12_isBack 29 = .ok (.isub, 1) := by decide +kernel
theorem dX12_isBack_30 : decode cX12_isBack 30 = .ok (.istore_n 3, 1) := by decide +kernel
theorem dX12_isBack_31 : decode cX12_isBack 31 = .ok (.iload_n 2, 1) := by decide +kernel
theorem dX12_isBack_32 : decode cX12_isBack 32 = .ok (.ifCond .lt 20, 3) := by decide +kernel
theorem dX12_isBack_35 : decode cX12_isBack 35 = .ok (.aload_n 0, 1) := by decide +kernel
theorem dX12_isBack_36 : decode cX12_isBack 36 = .ok (.getfield 604, 3) := by decide +kernel
theorem dX12_isBack_39 : decode cX12_isBack 39 = .ok (.iload_n 3, 1) := by decide +kernel
theorem dX12_isBack_40 : decode cX12_isBack 40 = .ok (.iadd, 1) := by decide +kernel
theorem dX12_isBack_41 : decode cX12_isBack 41 = .ok (.aload_n 0, 1) := by decide +kernel
theorem dX12_isBack_42 : decode cX12_isBack 42 = .ok (.getfield 595, 3) := by decide +kernel
theorem dX12_isBack_45 : decode cX12_isBack 45 = .ok (.if_icmp .gt 7, 3) := by decide +kernel
theorem dX12_isBack_48 : decode cX12_isBack 48 = .ok (.iconst 1, 1) := by decide +kernel
theorem dX12_isBack_49 : decode cX12_isBack 49 = .ok (.goto 4, 3) := by decide +kernel
theorem dX12_isBack_52 : decode cX12_isBack 52 = .ok (.iconst 0, 1) := by decide +kernel
theorem dX12_isBack_53 : decode cX12_isBack 53 = .ok (.istore 4, 2) := by decide +kernel
theorem dX12_isBack_55 : decode cX12_isBack 55 = .ok (.iconst 0, 1) := by decide +kernel
theorem dX12_isBack_56 : decode cX12_isBack 56 = .ok (.istore 5, 2) := by decide +kernel
theorem dX12_isBack_58 : decode cX12_isBack 58 = .ok (.iload 5, 2) := by decide +kernel
theorem dX12_isBack_60 : decode cX12_isBack 60 = .ok (.iload_n 3, 1) := by decide +kernel
theorem dX12_isBack_61 : decode cX12_isBack 61 = .ok (.if_icmp .ge 70, 3) := by decide +kernel
theorem dX12_isBack_64 : decode cX12_isBack 64 = .ok (.iload 4, 2) := by decide +kernel
theorem dX12_isBack_66 : decode cX12_isBack 66 = .ok (.ifCond .eq 65, 3) := by decide +kernel
theorem dX12_isBack_69 : decode cX12_isBack 69 = .ok (.aload_n 0, 1) := by decide +kernel
theorem dX12_isBack_70 : decode cX12_isBack 70 = .ok (.iload_n 2, 1) := by decide +kernel
theorem dX12_isBack_71 : decode cX12_isBack 71 = .ok (.iload 5, 2) := by decide +kernel
theorem dX12_isBack_73 : decode cX12_isBack 73 = .ok (.iadd, 1) := by decide +kernel
theorem dX12_isBack_74 : decode cX12_isBack 74 = .ok (.invokevirtual 598, 3) := by decide +kernel
theorem dX12_isBack_77 : decode cX12_isBack 77 = .ok (.istore 6, 2) := by decide +kernel
theorem dX12_isBack_79 : decode cX12_isBack 79 = .ok (.aload_n 0, 1) := by decide +kernel
theorem dX12_isBack_80 : decode cX12_isBack 80 = .ok (.aload_n 0, 1) := by decide +kernel
theorem dX12_isBack_81 : decode cX12_isBack 81 = .ok (.getfield 604, 3) := by decide +kernel
theorem dX12_isBack_84 : decode cX12_isBack 84 = .ok (.iload 5, 2) := by decide +kernel
theorem dX12_isBack_86 : decode cX12_isBack 86 = .ok (.iadd, 1) := by decide +kernel
theorem dX12_isBack_87 : decode cX12_isBack 87 = .ok (.invokevirtual 598, 3) := by decide +kernel
theorem dX12_isBack_90 : decode cX12_isBack 90 = .ok (.istore 7, 2) := by decide +kernel
theorem dX12_isBack_92 : decode cX12_isBack 92 = .ok (.iload 6, 2) := by decide +kernel
theorem dX12_isBack_94 : decode cX12_isBack 94 = .ok (.iload 7, 2) := by decide +kernel
theorem dX12_isBack_96 : decode cX12_isBack 96 = .ok (.if_icmp .eq 22, 3) := by decide +kernel
theorem dX12_isBack_99 : decode cX12_isBack 99 = .ok (.aload_n 0, 1) := by decide +kernel
theorem dX12_isBack_100 : decode cX12_isBack 100 = .ok (.getfield 77, 3) := by decide +kernel
theorem dX12_isBack_103 : decode cX12_isBack 103 = .ok (.iload_n 1, 1) := by decide +kernel
theorem dX12_isBack_104 : decode cX12_isBack 104 = .ok (.baload, 1) := by decide +kernel
theorem dX12_isBack_105 : decode cX12_isBack 105 = .ok (.ifCond .eq 17, 3) := by decide +kernel
theorem dX12_isBack_108 : decode cX12_isBack 108 = .ok (.iload 6, 2) := by decide +kernel
theorem dX12_isBack_110 : decode cX12_isBack 110 = .ok (.invokestatic 511, 3) := by decide +kernel
theorem dX12_isBack_113 : decode cX12_isBack 113 = .ok (.iload 7, 2) := by decide +kernel
theorem dX12_isBack_115 : decode cX12_isBack 115 = .ok (.if_icmp .ne 7, 3) := by decide +kernel
theorem dX12_isBack_118 : decode cX12_isBack 118 = .ok (.iconst 1, 1) := by decide +kernel
theorem dX12_isBack_119 : decode cX12_isBack 119 = .ok (.goto 4, 3) := by decide +kernel
theorem dX12_isBack_122 : decode cX12_isBack 122 = .ok (.iconst 0, 1) := by decide +kernel
theorem dX12_isBack_123 : decode cX12_isBack 123 = .ok (.istore 4, 2) := by decide +kernel
theorem dX12_isBack_125 : decode cX12_isBack 125 = .ok (.iinc 5 1, 3) := by decide +kernel
theorem dX12_isBack_128 : decode cX12_isBack 128 = .ok (.goto (-70), 3) := by decide +kernel
theorem dX12_isBack_131 : decode cX12_isBack 131 = .ok (.aload_n 0, 1) := by decide +kernel
theorem dX12_isBack_132 : decode cX12_isBack 132 = .ok (.dup, 1) := by decide +kernel
theorem dX12_isBack_133 : decode cX12_isBack 133 = .ok (.getfield 604, 3) := by decide +kernel
theorem dX12_isBack_136 : decode cX12_isBack 136 = .ok (.iload 4, 2) := by decide +kernel
theorem dX12_isBack_138 : decode cX12_isBack 138 = .ok (.ifCond .eq 7, 3) := by decide +kernel
theorem dX12_isBack_141 : decode cX12_isBack 141 = .ok (.iload_n 3, 1) := by decide +kernel
theorem dX12_isBack_142 : decode cX12_isBack 142 = .ok (.goto 4, 3) := by decide +kernel
theorem dX12_isBack_145 : decode cX12_isBack 145 = .ok (.iconst 0, 1) := by decide +kernel
theorem dX12_isBack_146 : decode cX12_isBack 146 = .ok (.iadd, 1) := by decide +kernel
theorem dX12_isBack_147 : decode cX12_isBack 147 = .ok (.putfield 604, 3) := by decide +kernel
theorem dX12_isBack_150 : decode cX12_isBack 150 = .ok (.iload 4, 2) := by decide +kernel
theorem dX12_isBack_152 : decode cX12_isBack 152 = .ok (.ireturn, 1) := by decide +kernel
theorem dX12_isDigit_0 : decode cX12_isDigit 0 = .ok (.iload_n 0, 1) := by decide +kernel
theorem dX12_isDigit_1 : decode cX12_isDigit 1 = .ok (.bipush 48, 2) := by decide +kernel
theorem dX12_isDigit_3 : decode cX12_isDigit 3 = .ok (.bipush 57, 2) := by decide +kernel
theorem dX12_isDigit_5 : decode cX12_isDigit 5 = .ok (.invokestatic 7, 3) := by decide +kernel
theorem dX12_isDigit_8 : decode cX12_isDigit 8 = .ok (.ireturn, 1) := by decide +kernel
theorem dX12_isDone_0 : decode cX12_isDone 0 = .ok (.aload_n 0, 1) := by decide +kernel
theorem dX12_isDone_1 : decode cX12_isDone 1 = .ok (.getfield 629, 3) := by decide +kernel
theorem dX12_isDone_4 : decode cX12_isDone 4 = .ok (.iload_n 2, 1) := by decide +kernel
theorem dX12_isDone_5 : decode cX12_isDone 5 = .ok (.iadd, 1) := by decide +kernel
theorem dX12_isDone_6 : decode cX12_isDone 6 = .ok (.istore_n 3, 1) := by decide +kernel
theorem dX12_isDone_7 : decode cX12_isDone 7 = .ok (.iload_n 1, 1) := by decide +kernel
theorem dX12_isDone_8 : decode cX12_isDone 8 = .ok (.tableswitch 662 0 21 #[104, 162, 187, 231, 258, 285, 297, 321, 361, 382, 398, 469, 501, 527, 561, 527, 601, 544, 617, 662, 662, 212], 104) := by decide +kernel
theorem dX12_isDone_112 : decode cX12_isDone 112 = .ok (.aload_n 0, 1) := by decide +kernel
theorem dX12_isDone_113 : decode cX12_isDone 113 = .ok (.invokevirtual 610, 3) := by decide +kernel
theorem dX12_isDone_116 : decode cX12_isDone 116 = .ok (.ifCond .eq 52, 3) := by decide +kernel
theorem dX12_isDone_119 : decode cX12_isDone 119 = .ok (.aload_n 0, 1) := by decide +kernel
theorem dX12_isDone_120 : decode cX12_isDone 120 = .ok (.getfield 604, 3) := by decide +kernel
theorem dX12_isDone_123 : decode cX12_isDone 123 = .ok (.aload_n 0, 1) := by decide +kernel
theorem dX12_isDone_124 : decode cX12_isDone 124 = .ok (.getfield 595, 3) := by decide +kernel
theorem dX12_isDone_127 : decode cX12_isDone 127 = .ok (.if_icmp .eq 19, 3) := by decide +kernel
theorem dX12_isDone_130 : decode cX12_isDone 130 = .ok (.aload_n 0, 1) := by decide +kernel
theorem dX12_isDone_131 : decode cX12_isDone 131 = .ok (.iload_n 3, 1) := by decide +kernel
theorem dX12_isDone_132 : decode cX12_isDone 132 = .ok (.aload_n 0, 1) := by decide +kernel
theorem dX12_isDone_133 : decode cX12_isDone 133 = .ok (.aload_n 0, 1) := by decide +kernel
theorem dX12_isDone_134 : decode cX12_isDone 134 = .ok (.getfield 604, 3) := by decide +kernel
theorem dX12_isDone_137 : decode cX12_isDone 137 = .ok (.invokevirtual 598, 3) := by decide +kernel
theorem dX12_isDone_140 : decode cX12_isDone 140 = .ok (.invokevirtual 517, 3) := by decide +kernel
theorem dX12_isDone_143 : decode cX12_isDone 143 = .ok (.ifCond .ne 5, 3) := by decide +kernel
theorem dX12_isDone_146 : decode cX12_isDone 146 = .ok (.iconst 0, 1) := by decide +kernel
theorem dX12_isDone_147 : decode cX12_isDone 147 = .ok (.ireturn, 1) := by decide +kernel
theorem dX12_isDone_148 : decode cX12_isDone 148 = .ok (.aload_n 0, 1) := by decide +kernel
theorem dX12_isDone_149 : decode cX12_isDone 149 = .ok (.dup, 1) := by decide +kernel
theorem dX12_isDone_150 : decode cX12_isDone 150 = .ok (.getfield 604, 3) := by decide +kernel
theorem dX12_isDone_153 : decode cX12_isDone 153 = .ok (.iconst 1, 1) := by decide +kernel
theorem dX12_isDone_154 : decode cX12_isDone 154 = .ok (.iadd, 1) := by decide +kernel
theorem dX12_isDone_155 : decode cX12_isDone 155 = .ok (.putfield 604, 3) := by decide +kernel
theorem dX12_isDone_158 : decode cX12_isDone 158 = .ok (.aload_n 0, 1) := by decide +kernel
theorem dX12_isDone_159 : decode cX12_isDone 159 = .ok (.dup, 1) := by decide +kernel
theorem dX12_isDone_160 : decode cX12_isDone 160 = .ok (.getfield 617, 3) := by decide +kernel
theorem dX12_isDone_163 : decode cX12_isDone 163 = .ok (.iconst 1, 1) := by decide +kernel
theorem dX12_isDone_164 : decode cX12_isDone 164 = .ok (.iadd, 1) := by decide +kernel
theorem dX12_isDone_165 : decode cX12_isDone 165 = .ok (.putfield 617, 3) := by decide +kernel
theorem dX12_isDone_168 : decode cX12_isDone 168 = .ok (.iconst 1, 1) := by decide +kernel
theorem dX12_isDone_169 : decode cX12_isDone 169 = .ok (.ireturn, 1) := by decide +kernel
theorem dX12_isDone_170 : decode cX12_isDone 170 = .ok (.aload_n 0, 1) := by decide +kernel
theorem dX12_isDone_171 : decode cX12_isDone 171 = .ok (.invokevirtual 610, 3) := by decide +kernel
theorem dX12_isDone_174 : decode cX12_isDone 174 = .ok (.ifCond .eq 19, 3) := by decide +kernel
theorem dX12_isDone_177 : decode cX12_isDone 177 = .ok (.aload_n 0, 1) := by decide +kernel
theorem dX12_isDone_178 : decode cX12_isDone 178 = .ok (.dup, 1) := by decide +kernel
theorem dX12_isDone_179 : decode cX12_isDone 179 = .ok (.getfield 617, 3) := by decide +kernel
theorem dX12_isDone_182 : decode cX12_isDone 182 = .ok (.iconst 1, 1) := by decide +kernel
theorem dX12_isDone_183 : decode cX12_isDone 183 = .ok (.iadd, 1) := by decide +kernel
theorem dX12_isDone_184 : decode cX12_isDone 184 = .ok (.putfield 617, 3) := by decide +kernel
theorem dX12_isDone_187 : decode cX12_isDone 187 = .ok (.aload_n 0, 1) := by decide +kernel
theorem dX12_isDone_188 : decode cX12_isDone 188 = .ok (.iload_n 3, 1) := by decide +kernel
theorem dX12_isDone_189 : decode cX12_isDone 189 = .ok (.invokevirtual 632, 3) := by decide +kernel
theorem dX12_isDone_192 : decode cX12_isDone 192 = .ok (.ireturn, 1) := by decide +kernel
theorem dX12_isDone_193 : decode cX12_isDone 193 = .ok (.iconst 1, 1) := by decide +kernel
theorem dX12_isDone_194 : decode cX12_isDone 194 = .ok (.ireturn, 1) := by decide +kernel
theorem dX12_isDone_195 : decode cX12_isDone 195 = .ok (.aload_n 0, 1) := by decide +kernel
theorem dX12_isDone_196 : decode cX12_isDone 196 = .ok (.invokevirtual 610, 3) := by decide +kernel
theorem dX12_isDone_199 : decode cX12_isDone 199 = .ok (.ifCond .eq 19, 3) := by decide +kernel
theorem dX12_isDone_202 : decode cX12_isDone 202 = .ok (.aload_n 0, 1) := by decide +kernel
theorem dX12_isDone_203 : decode cX12_isDone 203 = .ok (.dup, 1) := by decide +kernel
theorem dX12_isDone_204 : decode cX12_isDone 204 = .ok (.getfield 617, 3) := by decide +kernel
theorem dX12_isDone_207 : decode cX12_isDone 207 = .ok (.iconst 1, 1) := by decide +kernel
theorem dX12_isDone_208 : decode cX12_isDone 208 = .ok (.iadd, 1) := by decide +kernel
theorem dX12_isDone_209 : decode cX12_isDone 209 = .ok (.putfield 617, 3) := by decide +kernel
theorem dX12_isDone_212 : decode cX12_isDone 212 = .ok (.aload_n 0, 1) := by decide +kernel
theorem dX12_isDone_213 : decode cX12_isDone 213 = .ok (.iload_n 3, 1) := by decide +kernel
theorem dX12_isDone_214 : decode cX12_isDone 214 = .ok (.invokevirtual 635, 3) := by decide +kernel
theorem dX12_isDone_217 : decode cX12_isDone 217 = .ok (.ireturn, 1) := by decide +kernel
theorem dX12_isDone_218 : decode cX12_isDone 218 = .ok (.iconst 1, 1) := by decide +kernel
theorem dX12_isDone_219 : decode cX12_isDone 219 = .ok (.ireturn, 1) := by decide +kernel
theorem dX12_isDone_220 : decode cX12_isDone 220 = .ok (.aload_n 0, 1) := by decide +kernel
theorem dX12_isDone_221 : decode cX12_isDone 221 = .ok (.invokevirtual 610, 3) := by decide +kernel
theorem dX12_isDone_224 : decode cX12_isDone 224 = .ok (.ifCond .eq 13, 3) := by decide +kernel
theorem dX12_isDone_227 : decode cX12_isDone 227 = .ok (.aload_n 0, 1) := by decide +kernel
theorem dX12_isDone_228 : decode cX12_isDone 228 = .ok (.dup, 1) := by decide +kernel
theorem dX12_isDone_229 : decode cX12_isDone 229 = .ok (.getfield 617, 3) := by decide +kernel
theorem dX12_isDone_232 : decode cX12_isDone 232 = .ok (.iconst 1, 1) := by decide +kernel
theorem dX12_isDone_233 : decode cX12_isDone 233 = .ok (.iadd, 1) := by decide +kernel
theorem dX12_isDone_234 : decode cX12_isDone 234 = .ok (.putfield 617, 3) := by decide +kernel
theorem dX12_isDone_237 : decode cX12_isDone 237 = .ok (.iconst 1, 1) := by decide +kernel
theorem dX12_isDone_238 : decode cX12_isDone 238 = .ok (.ireturn, 1) := by decide +kernel
theorem dX12_isDone_239 : decode cX12_isDone 239 = .ok (.aload_n 0, 1) := by decide +kernel
theorem dX12_isDone_240 : decode cX12_isDone 240 = .ok (.iconst 0, 1) := by decide +kernel
theorem dX12_isDone_241 : decode cX12_isDone 241 = .ok (.aload_n 0, 1) := by decide +kernel
theorem dX12_isDone_242 : decode cX12_isDone 242 = .ok (.getfield 189, 3) := by decide +kernel
theorem dX12_isDone_245 : decode cX12_isDone 245 = .ok (.iload_n 2, 1) := by decide +kernel
theorem dX12_isDone_246 : decode cX12_isDone 246 = .ok (.iaload, 1) := by decide +kernel
theorem dX12_isDone_247 : decode cX12_isDone 247 = .ok (.aload_n 0, 1) := by decide +kernel
theorem dX12_isDone_248 : decode cX12_isDone 248 = .ok (.getfield 604, 3) := by decide +kernel
theorem dX12_isDone_251 : decode cX12_isDone 251 = .ok (.invokevirtual 620, 3) := by decide +kernel
theorem dX12_isDone_254 : decode cX12_isDone 254 = .ok (.aload_n 0, 1) := by decide +kernel
theorem dX12_isDone_255 : decode cX12_isDone 255 = .ok (.dup, 1) := by decide +kernel
theorem dX12_isDone_256 : decode cX12_isDone 256 = .ok (.getfield 617, 3) := by decide +kernel
theorem dX12_isDone_259 : decode cX12_isDone 259 = .ok (.iconst 1, 1) := by decide +kernel
theorem dX12_isDone_260 : decode cX12_isDone 260 = .ok (.iadd, 1) := by decide +kernel
theorem dX12_isDone_261 : decode cX12_isDone 261 = .ok (.putfield 617, 3) := by decide +kernel
theorem dX12_isDone_264 : decode cX12_isDone 264 = .ok (.iconst 1, 1) := by decide +kernel
theorem dX12_isDone_265 : decode cX12_isDone 265 = .ok (.ireturn, 1) := by decide +kernel
theorem dX12_isDone_266 : decode cX12_isDone 266 = .ok (.aload_n 0, 1) := by decide +kernel
theorem dX12_isDone_267 : decode cX12_isDone 267 = .ok (.iconst 0, 1) := by decide +kernel
theorem dX12_isDone_268 : decode cX12_isDone 268 = .ok (.aload_n 0, 1) := by decide +kernel
theorem dX12_isDone_269 : decode cX12_isDone 269 = .ok (.getfield 617, 3) := by decide +kernel
theorem dX12_isDone_272 : decode cX12_isDone 272 = .ok (.iconst 1, 1) := by decide +kernel
theorem dX12_isDone_273 : decode cX12_isDone 273 = .ok (.iadd, 1) := by decide +kernel
theorem dX12_isDone_274 : decode cX12_isDone 274 = .ok (.aload_n 0, 1) := by decide +kernel
theorem dX12_isDone_275 : decode cX12_isDone 275 = .ok (.getfield 604, 3) := by decide +kernel
theorem dX12_isDone_278 : decode cX12_isDone 278 = .ok (.invokevirtual 620, 3) := by decide +kernel
theorem dX12_isDone_281 : decode cX12_isDone 281 = .ok (.aload_n 0, 1) := by decide +kernel
theorem dX12_isDone_282 : decode cX12_isDone 282 = .ok (.aload_n 0, 1) := by decide +kernel
theorem dX12_isDone_283 : decode cX12_isDone 283 = .ok (.getfield 189, 3) := by decide +kernel
theorem dX12_isDone_286 : decode cX12_isDone 286 = .ok (.iload_n 2, 1) := by decide +kernel
theorem dX12_isDone_287 : decode cX12_isDone 287 = .ok (.iaload, 1) := by decide +kernel
theorem dX12_isDone_288 : decode cX12_isDone 288 = .ok (.putfield 617, 3) := by decide +kernel
theorem dX12_isDone_291 : decode cX12_isDone 291 = .ok (.iconst 1, 1) := by decide +kernel
theorem dX12_isDone_292 : decode cX12_isDone 292 = .ok (.ireturn, 1) := by decide +kernel
theorem dX12_isDone_293 : decode cX12_isDone 293 = .ok (.aload_n 0, 1) := by decide +kernel
theorem dX12_isDone_294 : decode cX12_isDone 294 = .ok (.aload_n 0, 1) := by decide +kernel
theorem dX12_isDone_295 : decode cX12_isDone 295 = .ok (.getfield 189, 3) := by decide +kernel
theorem dX12_isDone_298 : decode cX12_isDone 298 = .ok (.iload_n 2, 1) := by decide +kernel
theorem dX12_isDone_299 : decode cX12_isDone 299 = .ok (.iaload, 1) := by decide +kernel
theorem dX12_isDone_300 : decode cX12_isDone 300 = .ok (.putfield 617, 3) := by decide +kernel
theorem dX12_isDone_303 : decode cX12_isDone 303 = .ok (.iconst 1, 1) := by decide +kernel
theorem dX12_isDone_304 : decode cX12_isDone 304 = .ok (.ireturn, 1) := by decide +kernel
theorem dX12_isDone_305 : decode cX12_isDone 305 = .ok (.aload_n 0, 1) := by decide +kernel
theorem dX12_isDone_306 : decode cX12_isDone 306 = .ok (.bipush 20, 2) := by decide +kernel
theorem dX12_isDone_308 : decode cX12_isDone 308 = .ok (.iload_n 2, 1) := by decide +kernel
theorem dX12_isDone_309 : decode cX12_isDone 309 = .ok (.iadd, 1) := by decide +kernel
theorem dX12_isDone_310 : decode cX12_isDone 310 = .ok (.aload_n 0, 1) := by decide +kernel
theorem dX12_isDone_311 : decode cX12_isDone 311 = .ok (.getfield 604, 3) := by decide +kernel
theorem dX12_isDone_314 : decode cX12_isDone 314 = .ok (.invokevirtual 614, 3) := by decide +kernel
theorem dX12_isDone_317 : decode cX12_isDone 317 = .ok (.aload_n 0, 1) := by decide +kernel
theorem dX12_isDone_318 : decode cX12_isDone 318 = .ok (.dup, 1) := by decide +kernel
theorem dX12_isDone_319 : decode cX12_isDone 319 = .ok (.getfield 617, 3) := by decide +kernel
theorem dX12_isDone_322 : decode cX12_isDone 322 = .ok (.iconst 1, 1) := by decide +kernel
theorem dX12_isDone_323 : decode cX12_isDone 323 = .ok (.iadd, 1) := by decide +kernel
theorem dX12_isDone_324 : decode cX12_isDone 324 = .ok (.putfield 617, 3) := by decide +kernel
theorem dX12_isDone_327 : decode cX12_isDone 327 = .ok (.iconst 1, 1) := by decide +kernel
theorem dX12_isDone_328 : decode cX12_isDone 328 = .ok (.ireturn, 1) := by decide +kernel
theorem dX12_isDone_329 : decode cX12_isDone 329 = .ok (.aload_n 0, 1) := by decide +kernel
theorem dX12_isDone_330 : decode cX12_isDone 330 = .ok (.iconst 0, 1) := by decide +kernel
theorem dX12_isDone_331 : decode cX12_isDone 331 = .ok (.iload_n 2, 1) := by decide +kernel
theorem dX12_isDone_332 : decode cX12_isDone 332 = .ok (.iadd, 1) := by decide +kernel
theorem dX12_isDone_333 : decode cX12_isDone 333 = .ok (.aload_n 0, 1) := by decide +kernel
theorem dX12_isDone_334 : decode cX12_isDone 334 = .ok (.getfield 204, 3) := by decide +kernel
theorem dX12_isDone_337 : decode cX12_isDone 337 = .ok (.bipush 20, 2) := by decide +kernel
theorem dX12_isDone_339 : decode cX12_isDone 339 = .ok (.iload_n 2, 1) := by decide +kernel
theorem dX12_isDone_340 : decode cX12_isDone 340 = .ok (.iadd, 1) := by decide +kernel
theorem dX12_isDone_341 : decode cX12_isDone 341 = .ok (.iaload, 1) := by decide +kernel
theorem dX12_isDone_342 : decode cX12_isDone 342 = .ok (.invokevirtual 614, 3) := by decide +kernel
theorem dX12_isDone_345 : decode cX12_isDone 345 = .ok (.aload_n 0, 1) := by decide +kernel
theorem dX12_isDone_346 : decode cX12_isDone 346 = .ok (.bipush 10, 2) := by decide +kernel
theorem dX12_isDone_348 : decode cX12_isDone 348 = .ok (.iload_n 2, 1) := by decide +kernel
theorem dX12_isDone_349 : decode cX12_isDone 349 = .ok (.iadd, 1) := by decide +kernel
theorem dX12_isDone_350 : decode cX12_isDone 350 = .ok (.aload_n 0, 1) := by decide +kernel
theorem dX12_isDone_351 : decode cX12_isDone 351 = .ok (.getfield 604, 3) := by decide +kernel
theorem dX12_isDone_354 : decode cX12_isDone 354 = .ok (.invokevirtual 614, 3) := by decide +kernel
theorem dX12_isDone_357 : decode cX12_isDone 357 = .ok (.aload_n 0, 1) := by decide +kernel
theorem dX12_isDone_358 : decode cX12_isDone 358 = .ok (.dup, 1) := by decide +kernel
theorem dX12_isDone_359 : decode cX12_isDone 359 = .ok (.getfield 617, 3) := by decide +kernel
theorem dX12_isDone_362 : decode cX12_isDone 362 = .ok (.iconst 1, 1) := by decide +kernel
theorem dX12_isDone_363 : decode cX12_isDone 363 = .ok (.iadd, 1) := by decide +kernel
theorem dX12_isDone_364 : decode cX12_isDone 364 = .ok (.putfield 617, 3) := by decide +kernel
theorem dX12_isDone_367 : decode cX12_isDone 367 = .ok (.iconst 1, 1) := by decide +kernel
theorem dX12_isDone_368 : decode cX12_isDone 368 = .ok (.ireturn, 1) := by decide +kernel
theorem dX12_isDone_369 : decode cX12_isDone 369 = .ok (.aload_n 0, 1) := by decide +kernel
theorem dX12_isDone_370 : decode cX12_isDone 370 = .ok (.bipush 30, 2) := by decide +kernel
theorem dX12_isDone_372 : decode cX12_isDone 372 = .ok (.iload_n 2, 1) := by decide +kernel
theorem dX12_isDone_373 : decode cX12_isDone 373 = .ok (.iadd, 1) := by decide +kernel
theorem dX12_isDone_374 : decode cX12_isDone 374 = .ok (.iconst 0, 1) := by decide +kernel
theorem dX12_isDone_375 : decode cX12_isDone 375 = .ok (.invokevirtual 614, 3) := by decide +kernel
theorem dX12_isDone_378 : decode cX12_isDone 378 = .ok (.aload_n 0, 1) := by decide +kernel
theorem dX12_isDone_379 : decode cX12_isDone 379 = .ok (.dup, 1) := by decide +kernel
theorem dX12_isDone_380 : decode cX12_isDone 380 = .ok (.getfield 617, 3) := by decide +kernel
theorem dX12_isDone_383 : decode cX12_isDone 383 = .ok (.iconst 1, 1) := by decide +kernel
theorem dX12_isDone_384 : decode cX12_isDone 384 = .ok (.iadd, 1) := by decide +kernel
theorem dX12_isDone_385 : decode cX12_isDone 385 = .ok (.putfield 617, 3) := by decide +kernel
theorem dX12_isDone_388 : decode cX12_isDone 388 = .ok (.iconst 1, 1) := by decide +kernel
theorem dX12_isDone_389 : decode cX12_isDone 389 = .ok (.ireturn, 1) := by decide +kernel
theorem dX12_isDone_390 : decode cX12_isDone 390 = .ok (.aload_n 0, 1) := by decide +kernel
theorem dX12_isDone_391 : decode cX12_isDone 391 = .ok (.iload_n 2, 1) := by decide +kernel
theorem dX12_isDone_392 : decode cX12_isDone 392 = .ok (.aload_n 0, 1) := by decide +kernel
theorem dX12_isDone_393 : decode cX12_isDone 393 = .ok (.getfield 186, 3) := by decide +kernel
theorem dX12_isDone_396 : decode cX12_isDone 396 = .ok (.aload_n 0, 1) := by decide +kernel
theorem dX12_isDone_397 : decode cX12_isDone 397 = .ok (.getfield 617, 3) := by decide +kernel
theorem dX12_isDone_400 : decode cX12_isDone 400 = .ok (.iaload, 1) := by decide +kernel
theorem dX12_isDone_401 : decode cX12_isDone 401 = .ok (.invokevirtual 638, 3) := by decide +kernel
theorem dX12_isDone_404 : decode cX12_isDone 404 = .ok (.iconst 1, 1) := by decide +kernel
theorem dX12_isDone_405 : decode cX12_isDone 405 = .ok (.ireturn, 1) := by decide +kernel
theorem dX12_isDone_406 : decode cX12_isDone 406 = .ok (.aload_n 0, 1) := by decide +kernel
theorem dX12_isDone_407 : decode cX12_isDone 407 = .ok (.getfield 204, 3) := by decide +kernel
theorem dX12_isDone_410 : decode cX12_isDone 410 = .ok (.bipush 30, 2) := by decide +kernel
theorem dX12_isDone_412 : decode cX12_isDone 412 = .ok (.iload_n 2, 1) := by decide +kernel
theorem dX12_isDone_413 : decode cX12_isDone 413 = .ok (.iadd, 1) := by decide +kernel
theorem dX12_isDone_414 : decode cX12_isDone 414 = .ok (.iaload, 1) := by decide +kernel
theorem dX12_isDone_415 : decode cX12_isDone 415 = .ok (.aload_n 0, 1) := by decide +kernel
theorem dX12_isDone_416 : decode cX12_isDone 416 = .ok (.getfield 50, 3) := by decide +kernel
theorem dX12_isDone_419 : decode cX12_isDone 419 = .ok (.iload_n 3, 1) := by decide +kernel
theorem dX12_isDone_420 : decode cX12_isDone 420 = .ok (.iaload, 1) := by decide +kernel
theorem dX12_isDone_421 : decode cX12_isDone 421 = .ok (.if_icmp .le 24, 3) := by decide +kernel
theorem dX12_isDone_424 : decode cX12_isDone 424 = .ok (.aload_n 0, 1) := by decide +kernel
theorem dX12_isDone_425 : decode cX12_isDone 425 = .ok (.getfield 604, 3) := by decide +kernel
theorem dX12_isDone_428 : decode cX12_isDone 428 = .ok (.aload_n 0, 1) := by decide +kernel
theorem dX12_isDone_429 : decode cX12_isDone 429 = .ok (.getfield 204, 3) := by decide +kernel
theorem dX12_isDone_432 : decode cX12_isDone 432 = .ok (.sipush 250, 3) := by decide +kernel
theorem dX12_isDone_435 : decode cX12_isDone 435 = .ok (.iload_n 2, 1) := by decide +kernel
theorem dX12_isDone_436 : decode cX12_isDone 436 = .ok (.iadd, 1) := by decide +kernel
theorem dX12_isDone_437 : decode cX12_isDone 437 = .ok (.iaload, 1) := by decide +kernel
theorem dX12_isDone_438 : decode cX12_isDone 438 = .ok (.if_icmp .ne 7, 3) := by decide +kernel
theorem dX12_isDone_441 : decode cX12_isDone 441 = .ok (.iconst 1, 1) := by decide +kernel
theorem dX12_isDone_442 : decode cX12_isDone 442 = .ok (.goto 4, 3) := by decide +kernel
theorem dX12_isDone_445 : decode cX12_isDone 445 = .ok (.iconst 0, 1) := by decide +kernel
theorem dX12_isDone_446 : decode cX12_isDone 446 = .ok (.istore 4, 2) := by decide +kernel
theorem dX12_isDone_448 : decode cX12_isDone 448 = .ok (.aload_n 0, 1) := by decide +kernel
theorem dX12_isDone_449 : decode cX12_isDone 449 = .ok (.aload_n 0, 1) := by decide +kernel
theorem dX12_isDone_450 : decode cX12_isDone 450 = .ok (.getfield 189, 3) := by decide +kernel
theorem dX12_isDone_453 : decode cX12_isDone 453 = .ok (.aload_n 0, 1) := by decide +kernel
theorem dX12_isDone_454 : decode cX12_isDone 454 = .ok (.getfield 186, 3) := by decide +kernel
theorem dX12_isDone_457 : decode cX12_isDone 457 = .ok (.aload_n 0, 1) := by decide +kernel
theorem dX12_isDone_458 : decode cX12_isDone 458 = .ok (.getfield 617, 3) := by decide +kernel
theorem dX12_isDone_461 : decode cX12_isDone 461 = .ok (.iaload, 1) := by decide +kernel
theorem dX12_isDone_462 : decode cX12_isDone 462 = .ok (.iaload, 1) := by decide +kernel
theorem dX12_isDone_463 : decode cX12_isDone 463 = .ok (.putfield 617, 3) := by decide +kernel
theorem dX12_isDone_466 : decode cX12_isDone 466 = .ok (.iload 4, 2) := by decide +kernel
theorem dX12_isDone_468 : decode cX12_isDone 468 = .ok (.ifCond .ne 7, 3) := by decide +kernel
theorem dX12_isDone_471 : decode cX12_isDone 471 = .ok (.iconst 1, 1) := by decide +kernel
theorem dX12_isDone_472 : decode cX12_isDone 472 = .ok (.goto 4, 3) := by decide +kernel
theorem dX12_isDone_475 : decode cX12_isDone 475 = .ok (.iconst 0, 1) := by decide +kernel
theorem dX12_isDone_476 : decode cX12_isDone 476 = .ok (.ireturn, 1) := by decide +kernel
theorem dX12_isDone_477 : decode cX12_isDone 477 = .ok (.aload_n 0, 1) := by decide +kernel
theorem dX12_isDone_478 : decode cX12_isDone 478 = .ok (.invokevirtual 610, 3) := by decide +kernel
theorem dX12_isDone_481 : decode cX12_isDone 481 = .ok (.ifCond .eq 26, 3) := by decide +kernel
theorem dX12_isDone_484 : decode cX12_isDone 484 = .ok (.aload_n 0, 1) := by decide +kernel
theorem dX12_isDone_485 : decode cX12_isDone 485 = .ok (.sipush 470, 3) := by decide +kernel
theorem dX12_isDone_488 : decode cX12_isDone 488 = .ok (.iload_n 2, 1) := by decide +kernel
theorem dX12_isDone_489 : decode cX12_isDone 489 = .ok (.iadd, 1) := by decide +kernel
theorem dX12_isDone_490 : decode cX12_isDone 490 = .ok (.aload_n 0, 1) := by decide +kernel
theorem dX12_isDone_491 : decode cX12_isDone 491 = .ok (.getfield 580, 3) := by decide +kernel
theorem dX12_isDone_494 : decode cX12_isDone 494 = .ok (.invokevirtual 614, 3) := by decide +kernel
theorem dX12_isDone_497 : decode cX12_isDone 497 = .ok (.aload_n 0, 1) := by decide +kernel
theorem dX12_isDone_498 : decode cX12_isDone 498 = .ok (.dup, 1) := by decide +kernel
theorem dX12_isDone_499 : decode cX12_isDone 499 = .ok (.getfield 617, 3) := by decide +kernel
theorem dX12_isDone_502 : decode cX12_isDone 502 = .ok (.iconst 1, 1) := by decide +kernel
theorem dX12_isDone_503 : decode cX12_isDone 503 = .ok (.iadd, 1) := by decide +kernel
theorem dX12_isDone_504 : decode cX12_isDone 504 = .ok (.putfield 617, 3) := by decide +kernel
theorem dX12_isDone_507 : decode cX12_isDone 507 = .ok (.iconst 1, 1) := by decide +kernel
theorem dX12_isDone_508 : decode cX12_isDone 508 = .ok (.ireturn, 1) := by decide +kernel
theorem dX12_isDone_509 : decode cX12_isDone 509 = .ok (.aload_n 0, 1) := by decide +kernel
theorem dX12_isDone_510 : decode cX12_isDone 510 = .ok (.aload_n 0, 1) := by decide +kernel
theorem dX12_isDone_511 : decode cX12_isDone 511 = .ok (.getfield 204, 3) := by decide +kernel
theorem dX12_isDone_514 : decode cX12_isDone 514 = .ok (.sipush 470, 3) := by decide +kernel
theorem dX12_isDone_517 : decode cX12_isDone 517 = .ok (.iload_n 2, 1) := by decide +kernel
theorem dX12_isDone_518 : decode cX12_isDone 518 = .ok (.iadd, 1) := by decide +kernel
theorem dX12_isDone_519 : decode cX12_isDone 519 = .ok (.iaload, 1) := by decide +kernel
theorem dX12_isDone_520 : decode cX12_isDone 520 = .ok (.putfield 580, 3) := by decide +kernel
theorem dX12_isDone_523 : decode cX12_isDone 523 = .ok (.aload_n 0, 1) := by decide +kernel
theorem dX12_isDone_524 : decode cX12_isDone 524 = .ok (.dup, 1) := by decide +kernel
theorem dX12_isDone_525 : decode cX12_isDone 525 = .ok (.getfield 617, 3) := by decide +kernel
theorem dX12_isDone_528 : decode cX12_isDone 528 = .ok (.iconst 1, 1) := by decide +kernel
theorem dX12_isDone_529 : decode cX12_isDone 529 = .ok (.iadd, 1) := by decide +kernel
theorem dX12_isDone_530 : decode cX12_isDone 530 = .ok (.putfield 617, 3) := by decide +kernel
theorem dX12_isDone_533 : decode cX12_isDone 533 = .ok (.iconst 1, 1) := by decide +kernel
theorem dX12_isDone_534 : decode cX12_isDone 534 = .ok (.ireturn, 1) := by decide +kernel
theorem dX12_isDone_535 : decode cX12_isDone 535 = .ok (.aload_n 0, 1) := by decide +kernel
theorem dX12_isDone_536 : decode cX12_isDone 536 = .ok (.iload_n 2, 1) := by decide +kernel
theorem dX12_isDone_537 : decode cX12_isDone 537 = .ok (.aload_n 0, 1) := by decide +kernel
theorem dX12_isDone_538 : decode cX12_isDone 538 = .ok (.getfield 186, 3) := by decide +kernel
theorem dX12_isDone_541 : decode cX12_isDone 541 = .ok (.aload_n 0, 1) := by decide +kernel
theorem dX12_isDone_542 : decode cX12_isDone 542 = .ok (.getfield 617, 3) := by decide +kernel
theorem dX12_isDone_545 : decode cX12_isDone 545 = .ok (.iaload, 1) := by decide +kernel
theorem dX12_isDone_546 : decode cX12_isDone 546 = .ok (.iconst 0, 1) := by decide +kernel
theorem dX12_isDone_547 : decode cX12_isDone 547 = .ok (.invokevirtual 641, 3) := by decide +kernel
theorem dX12_isDone_550 : decode cX12_isDone 550 = .ok (.iconst 1, 1) := by decide +kernel
theorem dX12_isDone_551 : decode cX12_isDone 551 = .ok (.ireturn, 1) := by decide +kernel
theorem dX12_isDone_552 : decode cX12_isDone 552 = .ok (.aload_n 0, 1) := by decide +kernel
theorem dX12_isDone_553 : decode cX12_isDone 553 = .ok (.iload_n 2, 1) := by decide +kernel
theorem dX12_isDone_554 : decode cX12_isDone 554 = .ok (.aload_n 0, 1) := by decide +kernel
theorem dX12_isDone_555 : decode cX12_isDone 555 = .ok (.getfield 186, 3) := by decide +kernel
theorem dX12_isDone_558 : decode cX12_isDone 558 = .ok (.aload_n 0, 1) := by decide +kernel
theorem dX12_isDone_559 : decode cX12_isDone 559 = .ok (.getfield 617, 3) := by decide +kernel
theorem dX12_isDone_562 : decode cX12_isDone 562 = .ok (.iaload, 1) := by decide +kernel
theorem dX12_isDone_563 : decode cX12_isDone 563 = .ok (.iconst 1, 1) := by decide +kernel
theorem dX12_isDone_564 : decode cX12_isDone 564 = .ok (.invokevirtual 641, 3) := by decide +kernel
theorem dX12_isDone_567 : decode cX12_isDone 567 = .ok (.iconst 1, 1) := by decide +kernel
theorem dX12_isDone_568 : decode cX12_isDone 568 = .ok (.ireturn, 1) := by decide +kernel
theorem dX12_isDone_569 : decode cX12_isDone 569 = .ok (.aload_n 0, 1) := by decide +kernel
theorem dX12_isDone_570 : decode cX12_isDone 570 = .ok (.aload_n 0, 1) := by decide +kernel
theorem dX12_isDone_571 : decode cX12_isDone 571 = .ok (.getfield 204, 3) := by decide +kernel
theorem dX12_isDone_574 : decode cX12_isDone 574 = .ok (.sipush 470, 3) := by decide +kernel
theorem dX12_isDone_577 : decode cX12_isDone 577 = .ok (.iload_n 2, 1) := by decide +kernel
theorem dX12_isDone_578 : decode cX12_isDone 578 = .ok (.iadd, 1) := by decide +kernel
theorem dX12_isDone_579 : decode cX12_isDone 579 = .ok (.iaload, 1) := by decide +kernel
theorem dX12_isDone_580 : decode cX12_isDone 580 = .ok (.putfield 580, 3) := by decide +kernel
theorem dX12_isDone_583 : decode cX12_isDone 583 = .ok (.aload_n 0, 1) := by decide +kernel
theorem dX12_isDone_584 : decode cX12_isDone 584 = .ok (.aload_n 0, 1) := by decide +kernel
theorem dX12_isDone_585 : decode cX12_isDone 585 = .ok (.getfield 204, 3) := by decide +kernel
theorem dX12_isDone_588 : decode cX12_isDone 588 = .ok (.sipush 690, 3) := by decide +kernel
theorem dX12_isDone_591 : decode cX12_isDone 591 = .ok (.iload_n 2, 1) := by decide +kernel
theorem dX12_isDone_592 : decode cX12_isDone 592 = .ok (.iadd, 1) := by decide +kernel
theorem dX12_isDone_593 : decode cX12_isDone 593 = .ok (.iaload, 1) := by decide +kernel
theorem dX12_isDone_594 : decode cX12_isDone 594 = .ok (.putfield 604, 3) := by decide +kernel
theorem dX12_isDone_597 : decode cX12_isDone 597 = .ok (.aload_n 0, 1) := by decide +kernel
theorem dX12_isDone_598 : decode cX12_isDone 598 = .ok (.dup, 1) := by decide +kernel
theorem dX12_isDone_599 : decode cX12_isDone 599 = .ok (.getfield 617, 3) := by decide +kernel
theorem dX12_isDone_602 : decode cX12_isDone 602 = .ok (.iconst 1, 1) := by decide +kernel
theorem dX12_isDone_603 : decode cX12_isDone 603 = .ok (.iadd, 1) := by decide +kernel
theorem dX12_isDone_604 : decode cX12_isDone 604 = .ok (.putfield 617, 3) := by decide +kernel
theorem dX12_isDone_607 : decode cX12_isDone 607 = .ok (.iconst 1, 1) := by decide +kernel
theorem dX12_isDone_608 : decode cX12_isDone 608 = .ok (.ireturn, 1) := by decide +kernel
theorem dX12_isDone_609 : decode cX12_isDone 609 = .ok (.aload_n 0, 1) := by decide +kernel
theorem dX12_isDone_610 : decode cX12_isDone 610 = .ok (.aload_n 0, 1) := by decide +kernel
theorem dX12_isDone_611 : decode cX12_isDone 611 = .ok (.getfield 204, 3) := by decide +kernel
theorem dX12_isDone_614 : decode cX12_isDone 614 = .ok (.sipush 470, 3) := by decide +kernel
theorem dX12_isDone_617 : decode cX12_isDone 617 = .ok (.iload_n 2, 1) := by decide +kernel
theorem dX12_isDone_618 : decode cX12_isDone 618 = .ok (.iadd, 1) := by decide +kernel
theorem dX12_isDone_619 : decode cX12_isDone 619 = .ok (.iaload, 1) := by decide +kernel
theorem dX12_isDone_620 : decode cX12_isDone 620 = .ok (.putfield 580, 3) := by decide +kernel
theorem dX12_isDone_623 : decode cX12_isDone 623 = .ok (.iconst 0, 1) := by decide +kernel
theorem dX12_isDone_624 : decode cX12_isDone 624 = .ok (.ireturn, 1) := by decide +kernel
theorem dX12_isDone_625 : decode cX12_isDone 625 = .ok (.aload_n 0, 1) := by decide +kernel
theorem dX12_isDone_626 : decode cX12_isDone 626 = .ok (.getfield 604, 3) := by decide +kernel
theorem dX12_isDone_629 : decode cX12_isDone 629 = .ok (.aload_n 0, 1) := by decide +kernel
theorem dX12_isDone_630 : decode cX12_isDone 630 = .ok (.getfield 204, 3) := by decide +kernel
theorem dX12_isDone_633 : decode cX12_isDone 633 = .ok (.sipush 690, 3) := by decide +kernel
theorem dX12_isDone_636 : decode cX12_isDone 636 = .ok (.iload_n 2, 1) := by decide +kernel
theorem dX12_isDone_637 : decode cX12_isDone 637 = .ok (.iadd, 1) := by decide +kernel
theorem dX12_isDone_638 : decode cX12_isDone 638 = .ok (.iaload, 1) := by decide +kernel
theorem dX12_isDone_639 : decode cX12_isDone 639 = .ok (.if_icmp .eq 5, 3) := by decide +kernel
theorem dX12_isDone_642 : decode cX12_isDone 642 = .ok (.iconst 0, 1) := by decide +kernel
theorem dX12_isDone_643 : decode cX12_isDone 643 = .ok (.ireturn, 1) := by decide +kernel
theorem dX12_isDone_644 : decode cX12_isDone 644 = .ok (.aload_n 0, 1) := by decide +kernel
theorem dX12_isDone_645 : decode cX12_isDone 645 = .ok (.aload_n 0, 1) := by decide +kernel
theorem dX12_isDone_646 : decode cX12_isDone 646 = .ok (.getfield 204, 3) := by decide +kernel
theorem dX12_isDone_649 : decode cX12_isDone 649 = .ok (.sipush 470, 3) := by decide +kernel
theorem dX12_isDone_652 : decode cX12_isDone 652 = .ok (.iload_n 2, 1) := by decide +kernel
theorem dX12_isDone_653 : decode cX12_isDone 653 = .ok (.iadd, 1) := by decide +kernel
theorem dX12_isDone_654 : decode cX12_isDone 654 = .ok (.iaload, 1) := by decide +kernel
theorem dX12_isDone_655 : decode cX12_isDone 655 = .ok (.putfield 580, 3) := by decide +kernel
theorem dX12_isDone_658 : decode cX12_isDone 658 = .ok (.aload_n 0, 1) := by decide +kernel
theorem dX12_isDone_659 : decode cX12_isDone 659 = .ok (.dup, 1) := by decide +kernel
theorem dX12_isDone_660 : decode cX12_isDone 660 = .ok (.getfield 617, 3) := by decide +kernel
theorem dX12_isDone_663 : decode cX12_isDone 663 = .ok (.iconst 1, 1) := by decide +kernel
theorem dX12_isDone_664 : decode cX12_isDone 664 = .ok (.iadd, 1) := by decide +kernel
theorem dX12_isDone_665 : decode cX12_isDone 665 = .ok (.putfield 617, 3) := by decide +kernel
theorem dX12_isDone_668 : decode cX12_isDone 668 = .ok (.iconst 1, 1) := by decide +kernel
theorem dX12_isDone_669 : decode cX12_isDone 669 = .ok (.ireturn, 1) := by decide +kernel
theorem dX12_isDone_670 : decode cX12_isDone 670 = .ok (.aload_n 0, 1) := by decide +kernel
theorem dX12_isDone_671 : decode cX12_isDone 671 = .ok (.getfield 604, 3) := by decide +kernel
theorem dX12_isDone_674 : decode cX12_isDone 674 = .ok (.aload_n 0, 1) := by decide +kernel
theorem dX12_isDone_675 : decode cX12_isDone 675 = .ok (.getfield 204, 3) := by decide +kernel
theorem dX12_isDone_678 : decode cX12_isDone 678 = .ok (.sipush 690, 3) := by decide +kernel
theorem dX12_isDone_681 : decode cX12_isDone 681 = .ok (.iload_n 2, 1) := by decide +kernel
theorem dX12_isDone_682 : decode cX12_isDone 682 = .ok (.iadd, 1) := by decide +kernel
theorem dX12_isDone_683 : decode cX12_isDone 683 = .ok (.iaload, 1) := by decide +kernel
theorem dX12_isDone_684 : decode cX12_isDone 684 = .ok (.if_icmp .ne 17, 3) := by decide +kernel
theorem dX12_isDone_687 : decode cX12_isDone 687 = .ok (.aload_n 0, 1) := by decide +kernel
theorem dX12_isDone_688 : decode cX12_isDone 688 = .ok (.aload_n 0, 1) := by decide +kernel
theorem dX12_isDone_689 : decode cX12_isDone 689 = .ok (.getfield 204, 3) := by decide +kernel
theorem dX12_isDone_692 : decode cX12_isDone 692 = .ok (.sipush 470, 3) := by decide +kernel
theorem dX12_isDone_695 : decode cX12_isDone 695 = .ok (.iload_n 2, 1) := by decide +kernel
theorem dX12_isDone_696 : decode cX12_isDone 696 = .ok (.iadd, 1) := by decide +kernel
theorem dX12_isDone_697 : decode cX12_isDone 697 = .ok (.iaload, 1) := by decide +kernel
theorem dX12_isDone_698 : decode cX12_isDone 698 = .ok (.putfield 580, 3) := by decide +kernel
theorem dX12_isDone_701 : decode cX12_isDone 701 = .ok (.iconst 0, 1) := by decide +kernel
theorem dX12_isDone_702 : decode cX12_isDone 702 = .ok (.ireturn, 1) := by decide +kernel
theorem dX12_isEdge_0 : decode cX12_isEdge 0 = .ok (.aload_n 0, 1) := by decide +kernel
theorem dX12_isEdge_1 : decode cX12_isEdge 1 = .ok (.getfield 47, 3) := by decide +kernel
theorem dX12_isEdge_4 : decode cX12_isEdge 4 = .ok (.iload_n 1, 1) := by decide +kernel
theorem dX12_isEdge_5 : decode cX12_isEdge 5 = .ok (.iaload, 1) := by decide +kernel
theorem dX12_isEdge_6 : decode cX12_isEdge 6 = .ok (.istore_n 2, 1) := by decide +kernel
theorem dX12_isEdge_7 : decode cX12_isEdge 7 = .ok (.iload_n 2, 1) := by decide +kernel
theorem dX12_isEdge_8 : decode cX12_isEdge 8 = .ok (.iconst 2, 1) := by decide +kernel
theorem dX12_isEdge_9 : decode cX12_isEdge 9 = .ok (.if_icmp .ge 28, 3) := by decide +kernel
theorem dX12_isEdge_12 : decode cX12_isEdge 12 = .ok (.aload_n 0, 1) := by decide +kernel
theorem dX12_isEdge_13 : decode cX12_isEdge 13 = .ok (.getfield 604, 3) := by decide +kernel
theorem dX12_isEdge_16 : decode cX12_isEdge 16 = .ok (.iload_n 2, 1) := by decide +kernel
theorem dX12_isEdge_17 : decode cX12_isEdge 17 = .ok (.ifCond .ne 7, 3) := by decide +kernel
theorem dX12_isEdge_20 : decode cX12_isEdge 20 = .ok (.iconst 0, 1) := by decide +kernel
theorem dX12_isEdge_21 : decode cX12_isEdge 21 = .ok (.goto 7, 3) := by decide +kernel
theorem dX12_isEdge_24 : decode cX12_isEdge 24 = .ok (.aload_n 0, 1) := by decide +kernel
theorem dX12_isEdge_25 : decode cX12_isEdge 25 = .ok (.getfield 595, 3) := by decide +kernel
theorem dX12_isEdge_28 : decode cX12_isEdge 28 = .ok (.if_icmp .ne 7, 3) := by decide +kernel
theorem dX12_isEdge_31 : decode cX12_isEdge 31 = .ok (.iconst 1, 1) := by decide +kernel
theorem dX12_isEdge_32 : decode cX12_isEdge 32 = .ok (.goto 4, 3) := by decide +kernel
theorem dX12_isEdge_35 : decode cX12_isEdge 35 = .ok (.iconst 0, 1) := by decide +kernel
theorem dX12_isEdge_36 : decode cX12_isEdge 36 = .ok (.ireturn, 1) := by decide +kernel
theorem dX12_isEdge_37 : decode cX12_isEdge 37 = .ok (.aload_n 0, 1) := by decide +kernel
theorem dX12_isEdge_38 : decode cX12_isEdge 38 = .ok (.aload_n 0, 1) := by decide +kernel
theorem dX12_isEdge_39 : decode cX12_isEdge 39 = .ok (.getfield 604, 3) := by decide +kernel
theorem dX12_isEdge_42 : decode cX12_isEdge 42 = .ok (.iconst 1, 1) := by decide +kernel
theorem dX12_isEdge_43 : decode cX12_isEdge 43 = .ok (.isub, 1) := by decide +kernel
theorem dX12_isEdge_44 : decode cX12_isEdge 44 = .ok (.invokevirtual 607, 3) := by decide +kernel
theorem dX12_isEdge_47 : decode cX12_isEdge 47 = .ok (.aload_n 0, 1) := by decide +kernel
theorem dX12_isEdge_48 : decode cX12_isEdge 48 = .ok (.aload_n 0, 1) := by decide +kernel
theorem dX12_isEdge_49 : decode cX12_isEdge 49 = .ok (.getfield 604, 3) := by decide +kernel
theorem dX12_isEdge_52 : decode cX12_isEdge 52 = .ok (.invokevirtual 607, 3) := by decide +kernel
theorem dX12_isEdge_55 : decode cX12_isEdge 55 = .ok (.if_icmp .eq 7, 3) := by decide +kernel
theorem dX12_isEdge_58 : decode cX12_isEdge 58 = .ok (.iconst 1, 1) := by decide +kernel
theorem dX12_isEdge_59 : decode cX12_isEdge 59 = .ok (.goto 4, 3) := by decide +kernel
theorem dX12_isEdge_62 : decode cX12_isEdge 62 = .ok (.iconst 0, 1) := by decide +kernel
theorem dX12_isEdge_63 : decode cX12_isEdge 63 = .ok (.iload_n 2, 1) := by decide +kernel
theorem dX12_isEdge_64 : decode cX12_isEdge 64 = .ok (.iconst 2, 1) := by decide +kernel
theorem dX12_isEdge_65 : decode cX12_isEdge 65 = .ok (.if_icmp .ne 7, 3) := by decide +kernel
theorem dX12_isEdge_68 : decode cX12_isEdge 68 = .ok (.iconst 1, 1) := by decide +kernel
theorem dX12_isEdge_69 : decode cX12_isEdge 69 = .ok (.goto 4, 3) := by decide +kernel
theorem dX12_isEdge_72 : decode cX12_isEdge 72 = .ok (.iconst 0, 1) := by decide +kernel
theorem dX12_isEdge_73 : decode cX12_isEdge 73 = .ok (.if_icmp .ne 7, 3) := by decide +kernel
theorem dX12_isEdge_76 : decode cX12_isEdge 76 = .ok (.iconst 1, 1) := by decide +kernel
theorem dX12_isEdge_77 : decode cX12_isEdge 77 = .ok (.goto 4, 3) := by decide +kernel
theorem dX12_isEdge_80 : decode cX12_isEdge 80 = .ok (.iconst 0, 1) := by decide +kernel
theorem dX12_isEdge_81 : decode cX12_isEdge 81 = .ok (.ireturn, 1) := by decide +kernel
theorem dX12_isEndless_0 : decode cX12_isEndless 0 = .ok (.aload_n 0, 1) := by decide +kernel
theorem dX12_isEndless_1 : decode cX12_isEndless 1 = .ok (.getfield 44, 3) := by decide +kernel
theorem dX12_isEndless_4 : decode cX12_isEndless 4 = .ok (.iload_n 1, 1) := by decide +kernel
theorem dX12_isEndless_5 : decode cX12_isEndless 5 = .ok (.iaload, 1) := by decide +kernel
theorem dX12_isEndless_6 : decode cX12_isEndless 6 = .ok (.bipush 7, 2) := by decide +kernel
theorem dX12_isEndless_8 : decode cX12_isEndless 8 = .ok (.if_icmp .ne 17, 3) := by decide +kernel
theorem dX12_isEndless_11 : decode cX12_isEndless 11 = .ok (.aload_n 0, 1) := by decide +kernel
theorem dX12_isEndless_12 : decode cX12_isEndless 12 = .ok (.getfield 53, 3) := by decide +kernel
theorem dX12_isEndless_15 : decode cX12_isEndless 15 = .ok (.iload_n 1, 1) := by decide +kernel
theorem dX12_isEndless_16 : decode cX12_isEndless 16 = .ok (.iaload, 1) := by decide +kernel
theorem dX12_isEndless_17 : decode cX12_isEndless 17 = .ok (.iconst (-1), 1) := by decide +kernel
theorem dX12_isEndless_18 : decode cX12_isEndless 18 = .ok (.if_icmp .ne 7, 3) := by decide +kernel
theorem dX12_isEndless_21 : decode cX12_isEndless 21 = .ok (.iconst 1, 1) := by decide +kernel
theorem dX12_isEndless_22 : decode cX12_isEndless 22 = .ok (.goto 4, 3) := by decide +kernel
theorem dX12_isEndless_25 : decode cX12_isEndless 25 = .ok (.iconst 0, 1) := by decide +kernel
theorem dX12_isEndless_26 : decode cX12_isEndless 26 = .ok (.ireturn, 1) := by decide +kernel
theorem dX12_isHex_0 : decode cX12_isHex 0 = .ok (.iload_n 0, 1) := by decide +kernel
theorem dX12_isHex_1 : decode cX12_isHex 1 = .ok (.invokestatic 15, 3) := by decide +kernel
theorem dX12_isHex_4 : decode cX12_isHex 4 = .ok (.ifCond .ne 14, 3) := by decide +kernel
theorem dX12_isHex_7 : decode cX12_isHex 7 = .ok (.iload_n 0, 1) := by decide +kernel
theorem dX12_isHex_8 : decode cX12_isHex 8 = .ok (.bipush 97, 2) := by decide +kernel
theorem dX12_isHex_10 : decode cX12_isHex 10 = .ok (.bipush 102, 2) := by decide +kernel
theorem dX12_isHex_12 : decode cX12_isHex 12 = .ok (.invokestatic 7, 3) := by decide +kernel
theorem dX12_isHex_15 : decode cX12_isHex 15 = .ok (.ifCond .eq 7, 3) := by decide +kernel
theorem dX12_isHex_18 : decode cX12_isHex 18 = .ok (.iconst 1, 1) := by decide +kernel
theorem dX12_isHex_19 : decode cX12_isHex 19 = .ok (.goto 4, 3) := by decide +kernel
theorem dX12_isHex_22 : decode cX12_isHex 22 = .ok (.iconst 0, 1) := by decide +kernel
theorem dX12_isHex_23 : decode cX12_isHex 23 = .ok (.ireturn, 1) := by decide +kernel
theorem dX12_isInParts_0 : decode cX12_isInParts 0 = .ok (.iconst 0, 1) := by decide +kernel
theorem dX12_isInParts_1 : decode cX12_isInParts 1 = .ok (.istore_n 3, 1) := by decide +kernel
theorem dX12_isInParts_2 : decode cX12_isInParts 2 = .ok (.aload_n 0, 1) := by decide +kernel
theorem dX12_isInParts_3 : decode cX12_isInParts 3 = .ok (.getfield 71, 3) := by decide +kernel
theorem dX12_isInParts_6 : decode cX12_isInParts 6 = .ok (.iload_n 1, 1) := by decide +kernel
theorem dX12_isInParts_7 : decode cX12_isInParts 7 = .ok (.iaload, 1) := by decide +kernel
theorem dX12_isInParts_8 : decode cX12_isInParts 8 = .ok (.istore 4, 2) := by decide +kernel
theorem dX12_isInParts_10 : decode cX12_isInParts 10 = .ok (.iload 4, 2) := by decide +kernel
theorem dX12_isInParts_12 : decode cX12_isInParts 12 = .ok (.aload_n 0, 1) := by decide +kernel
theorem dX12_isInParts_13 : decode cX12_isInParts 13 = .ok (.getfield 71, 3) := by decide +kernel
theorem dX12_isInParts_16 : decode cX12_isInParts 16 = .ok (.iload_n 1, 1) := by decide +kernel
theorem dX12_isInParts_17 : decode cX12_isInParts 17 = .ok (.iaload, 1) := by decide +kernel
theorem dX12_isInParts_18 : decode cX12_isInParts 18 = .ok (.aload_n 0, 1) := by decide +kernel
theorem dX12_isInParts_19 : decode cX12_isInParts 19 = .ok (.getfield 59, 3) := by decide +kernel
theorem dX12_isInParts_22 : decode cX12_isInParts 22 = .ok (.iload_n 1, 1) := by decide +kernel
theorem dX12_isInParts_23 : decode cX12_isInParts 23 = .ok (.iaload, 1) := by decide +kernel
theorem dX12_isInParts_24 : decode cX12_isInParts 24 = .ok (.iadd, 1) := by decide +kernel
theorem dX12_isInParts_25 : decode cX12_isInParts 25 = .ok (.if_icmp .ge 40, 3) := by decide +kernel
theorem dX12_isInParts_28 : decode cX12_isInParts 28 = .ok (.iload_n 3, 1) := by decide +kernel
theorem dX12_isInParts_29 : decode cX12_isInParts 29 = .ok (.ifCond .ne 24, 3) := by decide +kernel
theorem dX12_isInParts_32 : decode cX12_isInParts 32 = .ok (.iload_n 2, 1) := by decide +kernel
theorem dX12_isInParts_33 : decode cX12_isInParts 33 = .ok (.aload_n 0, 1) := by decide +kernel
theorem dX12_isInParts_34 : decode cX12_isInParts 34 = .ok (.getfield 80, 3) := by decide +kernel
theorem dX12_isInParts_37 : decode cX12_isInParts 37 = .ok (.iload 4, 2) := by decide +kernel
theorem dX12_isInParts_39 : decode cX12_isInParts 39 = .ok (.iaload, 1) := by decide +kernel
theorem dX12_isInParts_40 : decode cX12_isInParts 40 = .ok (.aload_n 0, 1) := by decide +kernel
theorem dX12_isInParts_41 : decode cX12_isInParts 41 = .ok (.getfield 83, 3) := by decide +kernel
theorem dX12_isInParts_44 : decode cX12_isInParts 44 = .ok (.iload 4, 2) := by decide +kernel
theorem dX12_isInParts_46 : decode cX12_isInParts 46 = .ok (.iaload, 1) := by decide +kernel
theorem dX12_isInParts_47 : decode cX12_isInParts 47 = .ok (.invokestatic 7, 3) := by decide +kernel
theorem dX12_isInParts_50 : decode cX12_isInParts 50 = .ok (.ifCond .eq 7, 3) := by decide +kernel
theorem dX12_isInParts_53 : decode cX12_isInParts 53 = .ok (.iconst 1, 1) := by decide +kernel
theorem dX12_isInParts_54 : decode cX12_isInParts 54 = .ok (.goto 4, 3) := by decide +kernel
theorem dX12_isInParts_57 : decode cX12_isInParts 57 = .ok (.iconst 0, 1) := by decide +kernel
theorem dX12_isInParts_58 : decode cX12_isInParts 58 = .ok (.istore_n 3, 1) := by decide +kernel
theorem dX12_isInParts_59 : decode cX12_isInParts 59 = .ok (.iinc 4 1, 3) := by decide +kernel
theorem dX12_isInParts_62 : decode cX12_isInParts 62 = .ok (.goto (-52), 3) := by decide +kernel
theorem dX12_isInParts_65 : decode cX12_isInParts 65 = .ok (.iload_n 3, 1) := by decide +kernel
theorem dX12_isInParts_66 : decode cX12_isInParts 66 = .ok (.ireturn, 1) := by decide +kernel
theorem dX12_isLetter_0 : decode cX12_isLetter 0 = .ok (.iload_n 0, 1) := by decide +kernel
theorem dX12_isLetter_1 : decode cX12_isLetter 1 = .ok (.bipush 65, 2) := by decide +kernel
theorem dX12_isLetter_3 : decode cX12_isLetter 3 = .ok (.bipush 90, 2) := by decide +kernel
theorem dX12_isLetter_5 : decode cX12_isLetter 5 = .ok (.invokestatic 7, 3) := by decide +kernel
theorem dX12_isLetter_8 : decode cX12_isLetter 8 = .ok (.ifCond .ne 14, 3) := by decide +kernel
theorem dX12_isLetter_11 : decode cX12_isLetter 11 = .ok (.iload_n 0, 1) := by decide +kernel
theorem dX12_isLetter_12 : decode cX12_isLetter 12 = .ok (.bipush 97, 2) := by decide +kernel
theorem dX12_isLetter_14 : decode cX12_isLetter 14 = .ok (.bipush 122, 2) := by decide +kernel
theorem dX12_isLetter_16 : decode cX12_isLetter 16 = .ok (.invokestatic 7, 3) := by decide +kernel
theorem dX12_isLetter_19 : decode cX12_isLetter 19 = .ok (.ifCond .eq 7, 3) := by decide +kernel
theorem dX12_isLetter_22 : decode cX12_isLetter 22 = .ok (.iconst 1, 1) := by decide +kernel
theorem dX12_isLetter_23 : decode cX12_isLetter 23 = .ok (.goto 4, 3) := by decide +kernel
theorem dX12_isLetter_26 : decode cX12_isLetter 26 = .ok (.iconst 0, 1) := by decide +kernel
theorem dX12_isLetter_27 : decode cX12_isLetter 27 = .ok (.ireturn, 1) := by decide +kernel
theorem dX12_isMark_0 : decode cX12_isMark 0 = .ok (.iload_n 0, 1) := by decide +kernel
theorem dX12_isMark_1 : decode cX12_isMark 1 = .ok (.bipush 58, 2) := by decide +kernel
theorem dX12_isMark_3 : decode cX12_isMark 3 = .ok (.if_icmp .eq 45, 3) := by decide +kernel
theorem dX12_isMark_6 : decode cX12_isMark 6 = .ok (.iload_n 0, 1) := by decide +kernel
theorem dX12_isMark_7 : decode cX12_isMark 7 = .ok (.bipush 61, 2) := by decide +kernel
theorem dX12_isMark_9 : decode cX12_isMark 9 = .ok (.if_icmp .eq 39, 3) := by decide +kernel
theorem dX12_isMark_12 : decode cX12_isMark 12 = .ok (.iload_n 0, 1) := by decide +kernel
theorem dX12_isMark_13 : decode cX12_isMark 13 = .ok (.bipush 33, 2) := by decide +kernel
theorem dX12_isMark_15 : decode cX12_isMark 15 = .ok (.if_icmp .eq 33, 3) := by decide +kernel
theorem dX12_isMark_18 : decode cX12_isMark 18 = .ok (.iload_n 0, 1) := by decide +kernel
theorem dX12_isMark_19 : decode cX12_isMark 19 = .ok (.bipush 60, 2) := by decide +kernel
theorem dX12_isMark_21 : decode cX12_isMark 21 = .ok (.if_icmp .eq 27, 3) := by decide +kernel
theorem dX12_isMark_24 : decode cX12_isMark 24 = .ok (.iload_n 0, 1) := by decide +kernel
theorem dX12_isMark_25 : decode cX12_isMark 25 = .ok (.bipush 126, 2) := by decide +kernel
theorem dX12_isMark_27 : decode cX12_isMark 27 = .ok (.if_icmp .eq 21, 3) := by decide +kernel
theorem dX12_isMark_30 : decode cX12_isMark 30 = .ok (.iload_n 0, 1) := by decide +kernel
theorem dX12_isMark_31 : decode cX12_isMark 31 = .ok (.bipush 37, 2) := by decide +kernel
theorem dX12_isMark_33 : decode cX12_isMark 33 = .ok (.if_icmp .eq 15, 3) := by decide +kernel
theorem dX12_isMark_36 : decode cX12_isMark 36 = .ok (.iload_n 0, 1) := by decide +kernel
theorem dX12_isMark_37 : decode cX12_isMark 37 = .ok (.bipush 64, 2) := by decide +kernel
theorem dX12_isMark_39 : decode cX12_isMark 39 = .ok (.if_icmp .eq 9, 3) := by decide +kernel
theorem dX12_isMark_42 : decode cX12_isMark 42 = .ok (.iload_n 0, 1) := by decide +kernel
theorem dX12_isMark_43 : decode cX12_isMark 43 = .ok (.bipush 35, 2) := by decide +kernel
theorem dX12_isMark_45 : decode cX12_isMark 45 = .ok (.if_icmp .ne 7, 3) := by decide +kernel
theorem dX12_isMark_48 : decode cX12_isMark 48 = .ok (.iconst 1, 1) := by decide +kernel
theorem dX12_isMark_49 : decode cX12_isMark 49 = .ok (.goto 4, 3) := by decide +kernel
theorem dX12_isMark_52 : decode cX12_isMark 52 = .ok (.iconst 0, 1) := by decide +kernel
theorem dX12_isMark_53 : decode cX12_isMark 53 = .ok (.ireturn, 1) := by decide +kernel
theorem dX12_isParted_0 : decode cX12_isParted 0 = .ok (.aload_n 0, 1) := by decide +kernel
theorem dX12_isParted_1 : decode cX12_isParted 1 = .ok (.getfield 268, 3) := by decide +kernel
theorem dX12_isParted_4 : decode cX12_isParted 4 = .ok (.aload_n 0, 1) := by decide +kernel
theorem dX12_isParted_5 : decode cX12_isParted 5 = .ok (.getfield 293, 3) := by decide +kernel
theorem dX12_isParted_8 : decode cX12_isParted 8 = .ok (.iload_n 1, 1) := by decide +kernel
theorem dX12_isParted_9 : decode cX12_isParted 9 = .ok (.iaload, 1) := by decide +kernel
theorem dX12_isParted_10 : decode cX12_isParted 10 = .ok (.baload, 1) := by decide +kernel
theorem dX12_isParted_11 : decode cX12_isParted 11 = .ok (.aload_n 0, 1) := by decide +kernel
theorem dX12_isParted_12 : decode cX12_isParted 12 = .ok (.getfield 268, 3) := by decide +kernel
theorem dX12_isParted_15 : decode cX12_isParted 15 = .ok (.bipush 61, 2) := by decide +kernel
theorem dX12_isParted_17 : decode cX12_isParted 17 = .ok (.aload_n 0, 1) := by decide +kernel
theorem dX12_isParted_18 : decode cX12_isParted 18 = .ok (.getfield 296, 3) := by decide +kernel
theorem dX12_isParted_21 : decode cX12_isParted 21 = .ok (.iload_n 1, 1) := by decide +kernel
theorem dX12_isParted_22 : decode cX12_isParted 22 = .ok (.iaload, 1) := by decide +kernel
theorem dX12_isParted_23 : decode cX12_isParted 23 = .ok (.iadd, 1) := by decide +kernel
theorem dX12_isParted_24 : decode cX12_isParted 24 = .ok (.baload, 1) := by decide +kernel
theorem dX12_isParted_25 : decode cX12_isParted 25 = .ok (.if_icmp .eq 7, 3) := by decide +kernel
theorem dX12_isParted_28 : decode cX12_isParted 28 = .ok (.iconst 1, 1) := by decide +kernel
theorem dX12_isParted_29 : decode cX12_isParted 29 = .ok (.goto 4, 3) := by decide +kernel
theorem dX12_isParted_32 : decode cX12_isParted 32 = .ok (.iconst 0, 1) := by decide +kernel
theorem dX12_isParted_33 : decode cX12_isParted 33 = .ok (.ireturn, 1) := by decide +kernel
theorem dX12_isPlain_0 : decode cX12_isPlain 0 = .ok (.iload_n 0, 1) := by decide +kernel
theorem dX12_isPlain_1 : decode cX12_isPlain 1 = .ok (.bipush 92, 2) := by decide +kernel
theorem dX12_isPlain_3 : decode cX12_isPlain 3 = .ok (.if_icmp .eq 85, 3) := by decide +kernel
theorem dX12_isPlain_6 : decode cX12_isPlain 6 = .ok (.iload_n 0, 1) := by decide +kernel
theorem dX12_isPlain_7 : decode cX12_isPlain 7 = .ok (.bipush 124, 2) := by decide +kernel
theorem dX12_isPlain_9 : decode cX12_isPlain 9 = .ok (.if_icmp .eq 79, 3) := by decide +kernel
theorem dX12_isPlain_12 : decode cX12_isPlain 12 = .ok (.iload_n 0, 1) := by decide +kernel
theorem dX12_isPlain_13 : decode cX12_isPlain 13 = .ok (.bipush 42, 2) := by decide +kernel
theorem dX12_isPlain_15 : decode cX12_isPlain 15 = .ok (.if_icmp .eq 73, 3) := by decide +kernel
theorem dX12_isPlain_18 : decode cX12_isPlain 18 = .ok (.iload_n 0, 1) := by decide +kernel
theorem dX12_isPlain_19 : decode cX12_isPlain 19 = .ok (.bipush 43, 2) := by decide +kernel
theorem dX12_isPlain_21 : decode cX12_isPlain 21 = .ok (.if_icmp .eq 67, 3) := by decide +kernel
theorem dX12_isPlain_24 : decode cX12_isPlain 24 = .ok (.iload_n 0, 1) := by decide +kernel
theorem dX12_isPlain_25 : decode cX12_isPlain 25 = .ok (.bipush 63, 2) := by decide +kernel
theorem dX12_isPlain_27 : decode cX12_isPlain 27 = .ok (.if_icmp .eq 61, 3) := by decide +kernel
theorem dX12_isPlain_30 : decode cX12_isPlain 30 = .ok (.iload_n 0, 1) := by decide +kernel
theorem dX12_isPlain_31 : decode cX12_isPlain 31 = .ok (.bipush 123, 2) := by decide +kernel
theorem dX12_isPlain_33 : decode cX12_isPlain 33 = .ok (.if_icmp .eq 55, 3) := by decide +kernel
theorem dX12_isPlain_36 : decode cX12_isPlain 36 = .ok (.iload_n 0, 1) := by decide +kernel
theorem dX12_isPlain_37 : decode cX12_isPlain 37 = .ok (.bipush 125, 2) := by decide +kernel
theorem dX12_isPlain_39 : decode cX12_isPlain 39 = .ok (.if_icmp .eq 49, 3) := by decide +kernel
theorem dX12_isPlain_42 : decode cX12_isPlain 42 = .ok (.iload_n 0, 1) := by decide +kernel
theorem dX12_isPlain_43 : decode cX12_isPlain 43 = .ok (.bipush 40, 2) := by decide +kernel
theorem dX12_isPlain_45 : decode cX12_isPlain 45 = .ok (.if_icmp .eq 43, 3) := by decide +kernel
theorem dX12_isPlain_48 : decode cX12_isPlain 48 = .ok (.iload_n 0, 1) := by decide +kernel
theorem dX12_isPlain_49 : decode cX12_isPlain 49 = .ok (.bipush 41, 2) := by decide +kernel
theorem dX12_isPlain_51 : decode cX12_isPlain 51 = .ok (.if_icmp .eq 37, 3) := by decide +kernel
theorem dX12_isPlain_54 : decode cX12_isPlain 54 = .ok (.iload_n 0, 1) := by decide +kernel
theorem dX12_isPlain_55 : decode cX12_isPlain 55 = .ok (.bipush 91, 2) := by decide +kernel
theorem dX12_isPlain_57 : decode cX12_isPlain 57 = .ok (.if_icmp .eq 31, 3) := by decide +kernel
theorem dX12_isPlain_60 : decode cX12_isPlain 60 = .ok (.iload_n 0, 1) := by decide +kernel
theorem dX12_isPlain_61 : decode cX12_isPlain 61 = .ok (.bipush 93, 2) := by decide +kernel
theorem dX12_isPlain_63 : decode cX12_isPlain 63 = .ok (.if_icmp .eq 25, 3) := by decide +kernel
theorem dX12_isPlain_66 : decode cX12_isPlain 66 = .ok (.iload_n 0, 1) := by decide +kernel
theorem dX12_isPlain_67 : decode cX12_isPlain 67 = .ok (.bipush 46, 2) := by decide +kernel
theorem dX12_isPlain_69 : decode cX12_isPlain 69 = .ok (.if_icmp .eq 19, 3) := by decide +kernel
theorem dX12_isPlain_72 : decode cX12_isPlain 72 = .ok (.iload_n 0, 1) := by decide +kernel
theorem dX12_isPlain_73 : decode cX12_isPlain 73 = .ok (.bipush 94, 2) := by decide +kernel
theorem dX12_isPlain_75 : decode cX12_isPlain 75 = .ok (.if_icmp .eq 13, 3) := by decide +kernel
theorem dX12_isPlain_78 : decode cX12_isPlain 78 = .ok (.iload_n 0, 1) := by decide +kernel
theorem dX12_isPlain_79 : decode cX12_isPlain 79 = .ok (.bipush 36, 2) := by decide +kernel
theorem dX12_isPlain_81 : decode cX12_isPlain 81 = .ok (.if_icmp .eq 7, 3) := by decide +kernel
theorem dX12_isPlain_84 : decode cX12_isPlain 84 = .ok (.iconst 1, 1) := by decide +kernel
theorem dX12_isPlain_85 : decode cX12_isPlain 85 = .ok (.goto 4, 3) := by decide +kernel
theorem dX12_isPlain_88 : decode cX12_isPlain 88 = .ok (.iconst 0, 1) := by decide +kernel
theorem dX12_isPlain_89 : decode cX12_isPlain 89 = .ok (.ireturn, 1) := by decide +kernel
theorem dX12_isReplacing_0 : decode cX12_isReplacing 0 = .ok (.iconst 1, 1) := by decide +kernel
theorem dX12_isReplacing_1 : decode cX12_isReplacing 1 = .ok (.istore_n 2, 1) := by decide +kernel
theorem dX12_isReplacing_2 : decode cX12_isReplacing 2 = .ok (.iconst 0, 1) := by decide +kernel
theorem dX12_isReplacing_3 : decode cX12_isReplacing 3 = .ok (.istore_n 3, 1) := by decide +kernel
theorem dX12_isReplacing_4 : decode cX12_isReplacing 4 = .ok (.iload_n 3, 1) := by decide +kernel
theorem dX12_isReplacing_5 : decode cX12_isReplacing 5 = .ok (.aload_n 0, 1) := by decide +kernel
theorem dX12_isReplacing_6 : decode cX12_isReplacing 6 = .ok (.getfield 317, 3) := by decide +kernel
theorem dX12_isReplacing_9 : decode cX12_isReplacing 9 = .ok (.if_icmp .ge 71, 3) := by decide +kernel
theorem dX12_isReplacing_12 : decode cX12_isReplacing 12 = .ok (.iload_n 2, 1) := by decide +kernel
theorem dX12_isReplacing_13 : decode cX12_isReplacing 13 = .ok (.ifCond .eq 67, 3) := by decide +kernel
theorem dX12_isReplacing_16 : decode cX12_isReplacing 16 = .ok (.aload_n 0, 1) := by decide +kernel
theorem dX12_isReplacing_17 : decode cX12_isReplacing 17 = .ok (.getfield 24, 3) := by decide +kernel
theorem dX12_isReplacing_20 : decode cX12_isReplacing 20 = .ok (.iload_n 3, 1) := by decide +kernel
theorem dX12_isReplacing_21 : decode cX12_isReplacing 21 = .ok (.iaload, 1) := by decide +kernel
theorem dX12_isReplacing_22 : decode cX12_isReplacing 22 = .ok (.bipush 36, 2) := by decide +kernel
theorem dX12_isReplacing_24 : decode cX12_isReplacing 24 = .ok (.if_icmp .ne 50, 3) := by decide +kernel
theorem dX12_isReplacing_27 : decode cX12_isReplacing 27 = .ok (.iinc 3 1, 3) := by decide +kernel
theorem dX12_isReplacing_30 : decode cX12_isReplacing 30 = .ok (.iload_n 3, 1) := by decide +kernel
theorem dX12_isReplacing_31 : decode cX12_isReplacing 31 = .ok (.aload_n 0, 1) := by decide +kernel
theorem dX12_isReplacing_32 : decode cX12_isReplacing 32 = .ok (.getfield 317, 3) := by decide +kernel
theorem dX12_isReplacing_35 : decode cX12_isReplacing 35 = .ok (.if_icmp .ge 37, 3) := by decide +kernel
theorem dX12_isReplacing_38 : decode cX12_isReplacing 38 = .ok (.aload_n 0, 1) := by decide +kernel
theorem dX12_isReplacing_39 : decode cX12_isReplacing 39 = .ok (.getfield 24, 3) := by decide +kernel
theorem dX12_isReplacing_42 : decode cX12_isReplacing 42 = .ok (.iload_n 3, 1) := by decide +kernel
theorem dX12_isReplacing_43 : decode cX12_isReplacing 43 = .ok (.iaload, 1) := by decide +kernel
theorem dX12_isReplacing_44 : decode cX12_isReplacing 44 = .ok (.invokestatic 15, 3) := by decide +kernel
theorem dX12_isReplacing_47 : decode cX12_isReplacing 47 = .ok (.ifCond .eq 21, 3) := by decide +kernel
theorem dX12_isReplacing_50 : decode cX12_isReplacing 50 = .ok (.aload_n 0, 1) := by decide +kernel
theorem dX12_isReplacing_51 : decode cX12_isReplacing 51 = .ok (.getfield 24, 3) := by decide +kernel
theorem dX12_isReplacing_54 : decode cX12_isReplacing 54 = .ok (.iload_n 3, 1) := by decide +kernel
theorem dX12_isReplacing_55 : decode cX12_isReplacing 55 = .ok (.iaload, 1) := by decide +kernel
theorem dX12_isReplacing_56 : decode cX12_isReplacing 56 = .ok (.bipush 48, 2) := by decide +kernel
theorem dX12_isReplacing_58 : decode cX12_isReplacing 58 = .ok (.isub, 1) := by decide +kernel
theorem dX12_isReplacing_59 : decode cX12_isReplacing 59 = .ok (.aload_n 0, 1) := by decide +kernel
theorem dX12_isReplacing_60 : decode cX12_isReplacing 60 = .ok (.getfield 38, 3) := by decide +kernel
theorem dX12_isReplacing_63 : decode cX12_isReplacing 63 = .ok (.iload_n 1, 1) := by decide +kernel
theorem dX12_isReplacing_64 : decode cX12_isReplacing 64 = .ok (.iaload, 1) := by decide +kernel
theorem dX12_isReplacing_65 : decode cX12_isReplacing 65 = .ok (.if_icmp .gt 7, 3) := by decide +kernel
theorem dX12_isReplacing_68 : decode cX12_isReplacing 68 = .ok (.iconst 1, 1) := by decide +kernel
theorem dX12_isReplacing_69 : decode cX12_isReplacing 69 = .ok (.goto 4, 3) := by decide +kernel
theorem dX12_isReplacing_72 : decode cX12_isReplacing 72 = .ok (.iconst 0, 1) := by decide +kernel
theorem dX12_isReplacing_73 : decode cX12_isReplacing 73 = .ok (.istore_n 2, 1) := by decide +kernel
theorem dX12_isReplacing_74 : decode cX12_isReplacing 74 = .ok (.iinc 3 1, 3) := by decide +kernel
theorem dX12_isReplacing_77 : decode cX12_isReplacing 77 = .ok (.goto (-73), 3) := by decide +kernel
theorem dX12_isReplacing_80 : decode cX12_isReplacing 80 = .ok (.iload_n 2, 1) := by decide +kernel
theorem dX12_isReplacing_81 : decode cX12_isReplacing 81 = .ok (.ireturn, 1) := by decide +kernel
theorem dX12_isSamePrint_0 : decode cX12_isSamePrint 0 = .ok (.aload_n 0, 1) := by decide +kernel
theorem dX12_isSamePrint_1 : decode cX12_isSamePrint 1 = .ok (.iload_n 1, 1) := by decide +kernel
theorem dX12_isSamePrint_2 : decode cX12_isSamePrint 2 = .ok (.iload_n 2, 1) := by decide +kernel
theorem dX12_isSamePrint_3 : decode cX12_isSamePrint 3 = .ok (.invokevirtual 499, 3) := by decide +kernel
theorem dX12_isSamePrint_6 : decode cX12_isSamePrint 6 = .ok (.aload_n 0, 1) := by decide +kernel
theorem dX12_isSamePrint_7 : decode cX12_isSamePrint 7 = .ok (.getfield 465, 3) := by decide +kernel
theorem dX12_isSamePrint_10 : decode cX12_isSamePrint 10 = .ok (.istore 4, 2) := by decide +kernel
theorem dX12_isSamePrint_12 : decode cX12_isSamePrint 12 = .ok (.iconst 0, 1) := by decide +kernel
theorem dX12_isSamePrint_13 : decode cX12_isSamePrint 13 = .ok (.istore 5, 2) := by decide +kernel
theorem dX12_isSamePrint_15 : decode cX12_isSamePrint 15 = .ok (.iload 5, 2) := by decide +kernel
theorem dX12_isSamePrint_17 : decode cX12_isSamePrint 17 = .ok (.iload 4, 2) := by decide +kernel
theorem dX12_isSamePrint_19 : decode cX12_isSamePrint 19 = .ok (.if_icmp .ge 23, 3) := by decide +kernel
theorem dX12_isSamePrint_22 : decode cX12_isSamePrint 22 = .ok (.aload_n 0, 1) := by decide +kernel
theorem dX12_isSamePrint_23 : decode cX12_isSamePrint 23 = .ok (.getfield 152, 3) := by decide +kernel
theorem dX12_isSamePrint_26 : decode cX12_isSamePrint 26 = .ok (.iload 5, 2) := by decide +kernel
theorem dX12_isSamePrint_28 : decode cX12_isSamePrint 28 = .ok (.aload_n 0, 1) := by decide +kernel
theorem dX12_isSamePrint_29 : decode cX12_isSamePrint 29 = .ok (.getfield 149, 3) := by decide +kernel
theorem dX12_isSamePrint_32 : decode cX12_isSamePrint 32 = .ok (.iload 5, 2) := by decide +kernel
theorem dX12_isSamePrint_34 : decode cX12_isSamePrint 34 = .ok (.iaload, 1) := by decide +kernel
theorem dX12_isSamePrint_35 : decode cX12_isSamePrint 35 = .ok (.iastore, 1) := by decide +kernel
theorem dX12_isSamePrint_36 : decode cX12_isSamePrint 36 = .ok (.iinc 5 1, 3) := by decide +kernel
theorem dX12_isSamePrint_39 : decode cX12_isSamePrint 39 = .ok (.goto (-24), 3) := by decide +kernel
theorem dX12_isSamePrint_42 : decode cX12_isSamePrint 42 = .ok (.aload_n 0, 1) := by decide +kernel
theorem dX12_isSamePrint_43 : decode cX12_isSamePrint 43 = .ok (.iload_n 1, 1) := by decide +kernel
theorem dX12_isSamePrint_44 : decode cX12_isSamePrint 44 = .ok (.iload_n 3, 1) := by decide +kernel
theorem dX12_isSamePrint_45 : decode cX12_isSamePrint 45 = .ok (.invokevirtual 499, 3) := by decide +kernel
theorem dX12_isSamePrint_48 : decode cX12_isSamePrint 48 = .ok (.iload 4, 2) := by decide +kernel
theorem dX12_isSamePrint_50 : decode cX12_isSamePrint 50 = .ok (.aload_n 0, 1) := by decide +kernel
theorem dX12_isSamePrint_51 : decode cX12_isSamePrint 51 = .ok (.getfield 465, 3) := by decide +kernel
theorem dX12_isSamePrint_54 : decode cX12_isSamePrint 54 = .ok (.if_icmp .ne 7, 3) := by decide +kernel
theorem dX12_isSamePrint_57 : decode cX12_isSamePrint 57 = .ok (.iconst 1, 1) := by decide +kernel
theorem dX12_isSamePrint_58 : decode cX12_isSamePrint 58 = .ok (.goto 4, 3) := by decide +kernel
theorem dX12_isSamePrint_61 : decode cX12_isSamePrint 61 = .ok (.iconst 0, 1) := by decide +kernel
theorem dX12_isSamePrint_62 : decode cX12_isSamePrint 62 = .ok (.istore 5, 2) := by decide +kernel
theorem dX12_isSamePrint_64 : decode cX12_isSamePrint 64 = .ok (.iconst 0, 1) := by decide +kernel
theorem dX12_isSamePrint_65 : decode cX12_isSamePrint 65 = .ok (.istore 6, 2) := by decide +kernel
theorem dX12_isSamePrint_67 : decode cX12_isSamePrint 67 = .ok (.iload 6, 2) := by decide +kernel
theorem dX12_isSamePrint_69 : decode cX12_isSamePrint 69 = .ok (.iload 4, 2) := by decide +kernel
theorem dX12_isSamePrint_71 : decode cX12_isSamePrint 71 = .ok (.if_icmp .ge 38, 3) := by decide +kernel
theorem dX12_isSamePrint_74 : decode cX12_isSamePrint 74 = .ok (.iload 5, 2) := by decide +kernel
theorem dX12_isSamePrint_76 : decode cX12_isSamePrint 76 = .ok (.ifCond .eq 33, 3) := by decide +kernel
theorem dX12_isSamePrint_79 : decode cX12_isSamePrint 79 = .ok (.aload_n 0, 1) := by decide +kernel
theorem dX12_isSamePrint_80 : decode cX12_isSamePrint 80 = .ok (.getfield 149, 3) := by decide +kernel
theorem dX12_isSamePrint_83 : decode cX12_isSamePrint 83 = .ok (.iload 6, 2) := by decide +kernel
theorem dX12_isSamePrint_85 : decode cX12_isSamePrint 85 = .ok (.iaload, 1) := by decide +kernel
theorem dX12_isSamePrint_86 : decode cX12_isSamePrint 86 = .ok (.aload_n 0, 1) := by decide +kernel
theorem dX12_isSamePrint_87 : decode cX12_isSamePrint 87 = .ok (.getfield 152, 3) := by decide +kernel
theorem dX12_isSamePrint_90 : decode cX12_isSamePrint 90 = .ok (.iload 6, 2) := by decide +kernel
theorem dX12_isSamePrint_92 : decode cX12_isSamePrint 92 = .ok (.iaload, 1) := by decide +kernel
theorem dX12_isSamePrint_93 : decode cX12_isSamePrint 93 = .ok (.if_icmp .ne 7, 3) := by decide +kernel
theorem dX12_isSamePrint_96 : decode cX12_isSamePrint 96 = .ok (.iconst 1, 1) := by decide +kernel
theorem dX12_isSamePrint_97 : decode cX12_isSamePrint 97 = .ok (.goto 4, 3) := by decide +kernel
theorem dX12_isSamePrint_100 : decode cX12_isSamePrint 100 = .ok (.iconst 0, 1) := by decide +kernel
theorem dX12_isSamePrint_101 : decode cX12_isSamePrint 101 = .ok (.istore 5, 2) := by decide +kernel
theorem dX12_isSamePrint_103 : decode cX12_isSamePrint 103 = .ok (.iinc 6 1, 3) := by decide +kernel
theorem dX12_isSamePrint_106 : decode cX12_isSamePrint 106 = .ok (.goto (-39), 3) := by decide +kernel
theorem dX12_isSamePrint_109 : decode cX12_isSamePrint 109 = .ok (.iload 5, 2) := by decide +kernel
theorem dX12_isSamePrint_111 : decode cX12_isSamePrint 111 = .ok (.ireturn, 1) := by decide +kernel
theorem dX12_isStep_0 : decode cX12_isStep 0 = .ok (.aload_n 0, 1) := by decide +kernel
theorem dX12_isStep_1 : decode cX12_isStep 1 = .ok (.aload_n 0, 1) := by decide +kernel
theorem dX12_isStep_2 : decode cX12_isStep 2 = .ok (.getfield 583, 3) := by decide +kernel
theorem dX12_isStep_5 : decode cX12_isStep 5 = .ok (.aload_n 0, 1) := by decide +kernel
theorem dX12_isStep_6 : decode cX12_isStep 6 = .ok (.getfield 586, 3) := by decide +kernel
theorem dX12_isStep_9 : decode cX12_isStep 9 = .ok (.if_icmp .ne 7, 3) := by decide +kernel
theorem dX12_isStep_12 : decode cX12_isStep 12 = .ok (.iconst 1, 1) := by decide +kernel
theorem dX12_isStep_13 : decode cX12_isStep 13 = .ok (.goto 4, 3) := by decide +kernel
theorem dX12_isStep_16 : decode cX12_isStep 16 = .ok (.iconst 0, 1) := by decide +kernel
theorem dX12_isStep_17 : decode cX12_isStep 17 = .ok (.putfield 589, 3) := by decide +kernel
theorem dX12_isStep_20 : decode cX12_isStep 20 = .ok (.aload_n 0, 1) := by decide +kernel
theorem dX12_isStep_21 : decode cX12_isStep 21 = .ok (.dup, 1) := by decide +kernel
theorem dX12_isStep_22 : decode cX12_isStep 22 = .ok (.getfield 583, 3) := by decide +kernel
theorem dX12_isStep_25 : decode cX12_isStep 25 = .ok (.aload_n 0, 1) := by decide +kernel
theorem dX12_isStep_26 : decode cX12_isStep 26 = .ok (.getfield 589, 3) := by decide +kernel
theorem dX12_isStep_29 : decode cX12_isStep 29 = .ok (.ifCond .eq 7, 3) := by decide +kernel
theorem dX12_isStep_32 : decode cX12_isStep 32 = .ok (.iconst 0, 1) := by decide +kernel
theorem dX12_isStep_33 : decode cX12_isStep 33 = .ok (.goto 4, 3) := by decide +kernel
theorem dX12_isStep_36 : decode cX12_isStep 36 = .ok (.iconst 1, 1) := by decide +kernel
theorem dX12_isStep_37 : decode cX12_isStep 37 = .ok (.iadd, 1) := by decide +kernel
theorem dX12_isStep_38 : decode cX12_isStep 38 = .ok (.putfield 583, 3) := by decide +kernel
theorem dX12_isStep_41 : decode cX12_isStep 41 = .ok (.aload_n 0, 1) := by decide +kernel
theorem dX12_isStep_42 : decode cX12_isStep 42 = .ok (.getfield 589, 3) := by decide +kernel
theorem dX12_isStep_45 : decode cX12_isStep 45 = .ok (.ifCond .ne 7, 3) := by decide +kernel
theorem dX12_isStep_48 : decode cX12_isStep 48 = .ok (.iconst 1, 1) := by decide +kernel
theorem dX12_isStep_49 : decode cX12_isStep 49 = .ok (.goto 4, 3) := by decide +kernel
theorem dX12_isStep_52 : decode cX12_isStep 52 = .ok (.iconst 0, 1) := by decide +kernel
theorem dX12_isStep_53 : decode cX12_isStep 53 = .ok (.ireturn, 1) := by decide +kernel
theorem dX12_isWord_0 : decode cX12_isWord 0 = .ok (.iload_n 0, 1) := by decide +kernel
theorem dX12_isWord_1 : decode cX12_isWord 1 = .ok (.invokestatic 11, 3) := by decide +kernel
theorem dX12_isWord_4 : decode cX12_isWord 4 = .ok (.ifCond .ne 16, 3) := by decide +kernel
theorem dX12_isWord_7 : decode cX12_isWord 7 = .ok (.iload_n 0, 1) := by decide +kernel
theorem dX12_isWord_8 : decode cX12_isWord 8 = .ok (.invokestatic 15, 3) := by decide +kernel
theorem dX12_isWord_11 : decode cX12_isWord 11 = .ok (.ifCond .ne 9, 3) := by decide +kernel
theorem dX12_isWord_14 : decode cX12_isWord 14 = .ok (.iload_n 0, 1) := by decide +kernel
theorem dX12_isWord_15 : decode cX12_isWord 15 = .ok (.bipush 95, 2) := by decide +kernel
theorem dX12_isWord_17 : decode cX12_isWord 17 = .ok (.if_icmp .ne 7, 3) := by decide +kernel
theorem dX12_isWord_20 : decode cX12_isWord 20 = .ok (.iconst 1, 1) := by decide +kernel
theorem dX12_isWord_21 : decode cX12_isWord 21 = .ok (.goto 4, 3) := by decide +kernel
theorem dX12_isWord_24 : decode cX12_isWord 24 = .ok (.iconst 0, 1) := by decide +kernel
theorem dX12_isWord_25 : decode cX12_isWord 25 = .ok (.ireturn, 1) := by decide +kernel
theorem dX12_isWordAt_0 : decode cX12_isWordAt 0 = .ok (.iload_n 1, 1) := by decide +kernel
theorem dX12_isWordAt_1 : decode cX12_isWordAt 1 = .ok (.iconst 0, 1) := by decide +kernel
theorem dX12_isWordAt_2 : decode cX12_isWordAt 2 = .ok (.aload_n 0, 1) := by decide +kernel
theorem dX12_isWordAt_3 : decode cX12_isWordAt 3 = .ok (.getfield 595, 3) := by decide +kernel
theorem dX12_isWordAt_6 : decode cX12_isWordAt 6 = .ok (.iconst 1, 1) := by decide +kernel
theorem dX12_isWordAt_7 : decode cX12_isWordAt 7 = .ok (.isub, 1) := by decide +kernel
theorem dX12_isWordAt_8 : decode cX12_isWordAt 8 = .ok (.invokestatic 7, 3) := by decide +kernel
theorem dX12_isWordAt_11 : decode cX12_isWordAt 11 = .ok (.ifCond .eq 18, 3) := by decide +kernel
theorem dX12_isWordAt_14 : decode cX12_isWordAt 14 = .ok (.aload_n 0, 1) := by decide +kernel
theorem dX12_isWordAt_15 : decode cX12_isWordAt 15 = .ok (.iload_n 1, 1) := by decide +kernel
theorem dX12_isWordAt_16 : decode cX12_isWordAt 16 = .ok (.invokevirtual 598, 3) := by decide +kernel
theorem dX12_isWordAt_19 : decode cX12_isWordAt 19 = .ok (.invokestatic 601, 3) := by decide +kernel
theorem dX12_isWordAt_22 : decode cX12_isWordAt 22 = .ok (.ifCond .eq 7, 3) := by decide +kernel
theorem dX12_isWordAt_25 : decode cX12_isWordAt 25 = .ok (.iconst 1, 1) := by decide +kernel
theorem dX12_isWordAt_26 : decode cX12_isWordAt 26 = .ok (.goto 4, 3) := by decide +kernel
theorem dX12_isWordAt_29 : decode cX12_isWordAt 29 = .ok (.iconst 0, 1) := by decide +kernel
theorem dX12_isWordAt_30 : decode cX12_isWordAt 30 = .ok (.ireturn, 1) := by decide +kernel
theorem dX12_isWrapped_0 : decode cX12_isWrapped 0 = .ok (.sipush 220, 3) := by decide +kernel
theorem dX12_isWrapped_3 : decode cX12_isWrapped 3 = .ok (.iload_n 1, 1) := by decide +kernel
theorem dX12_isWrapped_4 : decode cX12_isWrapped 4 = .ok (.imul, 1) := by decide +kernel
theorem dX12_isWrapped_5 : decode cX12_isWrapped 5 = .ok (.iload_n 2, 1) := by decide +kernel
theorem dX12_isWrapped_6 : decode cX12_isWrapped 6 = .ok (.iadd, 1) := by decide +kernel
theorem dX12_isWrapped_7 : decode cX12_isWrapped 7 = .ok (.istore_n 3, 1) := by decide +kernel
theorem dX12_isWrapped_8 : decode cX12_isWrapped 8 = .ok (.aload_n 0, 1) := by decide +kernel
theorem dX12_isWrapped_9 : decode cX12_isWrapped 9 = .ok (.getfield 44, 3) := by decide +kernel
theorem dX12_isWrapped_12 : decode cX12_isWrapped 12 = .ok (.iload_n 3, 1) := by decide +kernel
theorem dX12_isWrapped_13 : decode cX12_isWrapped 13 = .ok (.iaload, 1) := by decide +kernel
theorem dX12_isWrapped_14 : decode cX12_isWrapped 14 = .ok (.istore 4, 2) := by decide +kernel
theorem dX12_isWrapped_16 : decode cX12_isWrapped 16 = .ok (.aload_n 0, 1) := by decide +kernel
theorem dX12_isWrapped_17 : decode cX12_isWrapped 17 = .ok (.getfield 56, 3) := by decide +kernel
theorem dX12_isWrapped_20 : decode cX12_isWrapped 20 = .ok (.iload_n 3, 1) := by decide +kernel
theorem dX12_isWrapped_21 : decode cX12_isWrapped 21 = .ok (.iaload, 1) := by decide +kernel
theorem dX12_isWrapped_22 : decode cX12_isWrapped 22 = .ok (.ifCond .ge 7, 3) := by decide +kernel
theorem dX12_isWrapped_25 : decode cX12_isWrapped 25 = .ok (.iconst (-1), 1) := by decide +kernel
theorem dX12_isWrapped_26 : decode cX12_isWrapped 26 = .ok (.goto 20, 3) := by decide +kernel
theorem dX12_isWrapped_29 : decode cX12_isWrapped 29 = .ok (.aload_n 0, 1) := by decide +kernel
theorem dX12_isWrapped_30 : decode cX12_isWrapped 30 = .ok (.getfield 44, 3) := by decide +kernel
theorem dX12_isWrapped_33 : decode cX12_isWrapped 33 = .ok (.sipush 220, 3) := by decide +kernel
theorem dX12_isWrapped_36 : decode cX12_isWrapped 36 = .ok (.iload_n 1, 1) := by decide +kernel
theorem dX12_isWrapped_37 : decode cX12_isWrapped 37 = .ok (.imul, 1) := by decide +kernel
theorem dX12_isWrapped_38 : decode cX12_isWrapped 38 = .ok (.aload_n 0, 1) := by decide +kernel
theorem dX12_isWrapped_39 : decode cX12_isWrapped 39 = .ok (.getfield 56, 3) := by decide +kernel
theorem dX12_isWrapped_42 : decode cX12_isWrapped 42 = .ok (.iload_n 3, 1) := by decide +kernel
theorem dX12_isWrapped_43 : decode cX12_isWrapped 43 = .ok (.iaload, 1) := by decide +kernel
theorem dX12_isWrapped_44 : decode cX12_isWrapped 44 = .ok (.iadd, 1) := by decide +kernel
theorem dX12_isWrapped_45 : decode cX12_isWrapped 45 = .ok (.iaload, 1) := by decide +kernel
theorem dX12_isWrapped_46 : decode cX12_isWrapped 46 = .ok (.istore 5, 2) := by decide +kernel
theorem dX12_isWrapped_48 : decode cX12_isWrapped 48 = .ok (.iload 4, 2) := by decide +kernel
theorem dX12_isWrapped_50 : decode cX12_isWrapped 50 = .ok (.iconst 5, 1) := by decide +kernel
theorem dX12_isWrapped_51 : decode cX12_isWrapped 51 = .ok (.if_icmp .eq 10, 3) := by decide +kernel
theorem dX12_isWrapped_54 : decode cX12_isWrapped 54 = .ok (.iload 4, 2) := by decide +kernel
theorem dX12_isWrapped_56 : decode cX12_isWrapped 56 = .ok (.bipush 6, 2) := by decide +kernel
theorem dX12_isWrapped_58 : decode cX12_isWrapped 58 = .ok (.if_icmp .ne 16, 3) := by decide +kernel
theorem dX12_isWrapped_61 : decode cX12_isWrapped 61 = .ok (.iload 5, 2) := by decide +kernel
theorem dX12_isWrapped_63 : decode cX12_isWrapped 63 = .ok (.iconst 5, 1) := by decide +kernel
theorem dX12_isWrapped_64 : decode cX12_isWrapped 64 = .ok (.if_icmp .eq 38, 3) := by decide +kernel
theorem dX12_isWrapped_67 : decode cX12_isWrapped 67 = .ok (.iload 5, 2) := by decide +kernel
theorem dX12_isWrapped_69 : decode cX12_isWrapped 69 = .ok (.bipush 7, 2) := by decide +kernel
theorem dX12_isWrapped_71 : decode cX12_isWrapped 71 = .ok (.if_icmp .eq 31, 3) := by decide +kernel
theorem dX12_isWrapped_74 : decode cX12_isWrapped 74 = .ok (.iload 4, 2) := by decide +kernel
theorem dX12_isWrapped_76 : decode cX12_isWrapped 76 = .ok (.bipush 6, 2) := by decide +kernel
theorem dX12_isWrapped_78 : decode cX12_isWrapped 78 = .ok (.if_icmp .ne 10, 3) := by decide +kernel
theorem dX12_isWrapped_81 : decode cX12_isWrapped 81 = .ok (.iload 5, 2) := by decide +kernel
theorem dX12_isWrapped_83 : decode cX12_isWrapped 83 = .ok (.bipush 6, 2) := by decide +kernel
theorem dX12_isWrapped_85 : decode cX12_isWrapped 85 = .ok (.if_icmp .eq 17, 3) := by decide +kernel
theorem dX12_isWrapped_88 : decode cX12_isWrapped 88 = .ok (.iload 4, 2) := by decide +kernel
theorem dX12_isWrapped_90 : decode cX12_isWrapped 90 = .ok (.bipush 7, 2) := by decide +kernel
theorem dX12_isWrapped_92 : decode cX12_isWrapped 92 = .ok (.if_icmp .ne 14, 3) := by decide +kernel
theorem dX12_isWrapped_95 : decode cX12_isWrapped 95 = .ok (.iload 5, 2) := by decide +kernel
theorem dX12_isWrapped_97 : decode cX12_isWrapped 97 = .ok (.bipush 7, 2) := by decide +kernel
theorem dX12_isWrapped_99 : decode cX12_isWrapped 99 = .ok (.if_icmp .ne 7, 3) := by decide +kernel
theorem dX12_isWrapped_102 : decode cX12_isWrapped 102 = .ok (.iconst 1, 1) := by decide +kernel
theorem dX12_isWrapped_103 : decode cX12_isWrapped 103 = .ok (.goto 4, 3) := by decide +kernel
theorem dX12_isWrapped_106 : decode cX12_isWrapped 106 = .ok (.iconst 0, 1) := by decide +kernel
theorem dX12_isWrapped_107 : decode cX12_isWrapped 107 = .ok (.ireturn, 1) := by decide +kernel
theorem dX12_joinParts_0 : decode cX12_joinParts 0 = .ok (.iload_n 1, 1) := by decide +kernel
theorem dX12_joinParts_1 : decode cX12_joinParts 1 = .ok (.iconst 1, 1) := by decide +kernel
theorem dX12_joinParts_2 : decode cX12_joinParts 2 = .ok (.iadd, 1) := by decide +kernel
theorem dX12_joinParts_3 : decode cX12_joinParts 3 = .ok (.istore_n 2, 1) := by decide +kernel
theorem dX12_joinParts_4 : decode cX12_joinParts 4 = .ok (.iload_n 2, 1) := by decide +kernel
theorem dX12_joinParts_5 : decode cX12_joinParts 5 = .ok (.aload_n 0, 1) := by decide +kernel
theorem dX12_joinParts_6 : decode cX12_joinParts 6 = .ok (.getfield 396, 3) := by decide +kernel
theorem dX12_joinParts_9 : decode cX12_joinParts 9 = .ok (.if_icmp .ge 101, 3) := by decide +kernel
theorem dX12_joinParts_12 : decode cX12_joinParts 12 = .ok (.aload_n 0, 1) := by decide +kernel
theorem dX12_joinParts_13 : decode cX12_joinParts 13 = .ok (.getfield 110, 3) := by decide +kernel
theorem dX12_joinParts_16 : decode cX12_joinParts 16 = .ok (.iload_n 2, 1) := by decide +kernel
theorem dX12_joinParts_17 : decode cX12_joinParts 17 = .ok (.iaload, 1) := by decide +kernel
theorem dX12_joinParts_18 : decode cX12_joinParts 18 = .ok (.istore_n 3, 1) := by decide +kernel
theorem dX12_joinParts_19 : decode cX12_joinParts 19 = .ok (.aload_n 0, 1) := by decide +kernel
theorem dX12_joinParts_20 : decode cX12_joinParts 20 = .ok (.getfield 113, 3) := by decide +kernel
theorem dX12_joinParts_23 : decode cX12_joinParts 23 = .ok (.iload_n 2, 1) := by decide +kernel
theorem dX12_joinParts_24 : decode cX12_joinParts 24 = .ok (.iaload, 1) := by decide +kernel
theorem dX12_joinParts_25 : decode cX12_joinParts 25 = .ok (.istore 4, 2) := by decide +kernel
theorem dX12_joinParts_27 : decode cX12_joinParts 27 = .ok (.iload_n 2, 1) := by decide +kernel
theorem dX12_joinParts_28 : decode cX12_joinParts 28 = .ok (.istore 5, 2) := by decide +kernel
theorem dX12_joinParts_30 : decode cX12_joinParts 30 = .ok (.iload 5, 2) := by decide +kernel
theorem dX12_joinParts_32 : decode cX12_joinParts 32 = .ok (.iload_n 1, 1) := by decide +kernel
theorem dX12_joinParts_33 : decode cX12_joinParts 33 = .ok (.if_icmp .le 54, 3) := by decide +kernel
theorem dX12_joinParts_36 : decode cX12_joinParts 36 = .ok (.aload_n 0, 1) := by decide +kernel
theorem dX12_joinParts_37 : decode cX12_joinParts 37 = .ok (.getfield 110, 3) := by decide +kernel
theorem dX12_joinParts_40 : decode cX12_joinParts 40 = .ok (.iload 5, 2) := by decide +kernel
theorem dX12_joinParts_42 : decode cX12_joinParts 42 = .ok (.iconst 1, 1) := by decide +kernel
theorem dX12_joinParts_43 : decode cX12_joinParts 43 = .ok (.isub, 1) := by decide +kernel
theorem dX12_joinParts_44 : decode cX12_joinParts 44 = .ok (.iaload, 1) := by decide +kernel
theorem dX12_joinParts_45 : decode cX12_joinParts 45 = .ok (.iload_n 3, 1) := by decide +kernel
theorem dX12_joinParts_46 : decode cX12_joinParts 46 = .ok (.if_icmp .le 41, 3) := by decide +kernel
theorem dX12_joinParts_49 : decode cX12_joinParts 49 = .ok (.aload_n 0, 1) := by decide +kernel
theorem dX12_joinParts_50 : decode cX12_joinParts 50 = .ok (.getfield 110, 3) := by decide +kernel
theorem dX12_joinParts_53 : decode cX12_joinParts 53 = .ok (.iload 5, 2) := by decide +kernel
theorem dX12_joinParts_55 : decode cX12_joinParts 55 = .ok (.aload_n 0, 1) := by decide +kernel
theorem dX12_joinParts_56 : decode cX12_joinParts 56 = .ok (.getfield 110, 3) := by decide +kernel
theorem dX12_joinParts_59 : decode cX12_joinParts 59 = .ok (.iload 5, 2) := by decide +kernel
theorem dX12_joinParts_61 : decode cX12_joinParts 61 = .ok (.iconst 1, 1) := by decide +kernel
theorem dX12_joinParts_62 : decode cX12_joinParts 62 = .ok (.isub, 1) := by decide +kernel
theorem dX12_joinParts_63 : decode cX12_joinParts 63 = .ok (.iaload, 1) := by decide +kernel
theorem dX12_joinParts_64 : decode cX12_joinParts 64 = .ok (.iastore, 1) := by decide +kernel
theorem dX12_joinParts_65 : decode cX12_joinParts 65 = .ok (.aload_n 0, 1) := by decide +kernel
theorem dX12_joinParts_66 : decode cX12_joinParts 66 = .ok (.getfield 113, 3) := by decide +kernel
theorem dX12_joinParts_69 : decode cX12_joinParts 69 = .ok (.iload 5, 2) := by decide +kernel
theorem dX12_joinParts_71 : decode cX12_joinParts 71 = .ok (.aload_n 0, 1) := by decide +kernel
theorem dX12_joinParts_72 : decode cX12_joinParts 72 = .ok (.getfield 113, 3) := by decide +kernel
theorem dX12_joinParts_75 : decode cX12_joinParts 75 = .ok (.iload 5, 2) := by decide +kernel
theorem dX12_joinParts_77 : decode cX12_joinParts 77 = .ok (.iconst 1, 1) := by decide +kernel
theorem dX12_joinParts_78 : decode cX12_joinParts 78 = .ok (.isub, 1) := by decide +kernel
theorem dX12_joinParts_79 : decode cX12_joinParts 79 = .ok (.iaload, 1) := by decide +kernel
theorem dX12_joinParts_80 : decode cX12_joinParts 80 = .ok (.iastore, 1) := by decide +kernel
theorem dX12_joinParts_81 : decode cX12_joinParts 81 = .ok (.iinc 5 (-1), 3) := by decide +kernel
theorem dX12_joinParts_84 : decode cX12_joinParts 84 = .ok (.goto (-54), 3) := by decide +kernel
theorem dX12_joinParts_87 : decode cX12_joinParts 87 = .ok (.aload_n 0, 1) := by decide +kernel
theorem dX12_joinParts_88 : decode cX12_joinParts 88 = .ok (.getfield 110, 3) := by decide +kernel
theorem dX12_joinParts_91 : decode cX12_joinParts 91 = .ok (.iload 5, 2) := by decide +kernel
theorem dX12_joinParts_93 : decode cX12_joinParts 93 = .ok (.iload_n 3, 1) := by decide +kernel
theorem dX12_joinParts_94 : decode cX12_joinParts 94 = .ok (.iastore, 1) := by decide +kernel
theorem dX12_joinParts_95 : decode cX12_joinParts 95 = .ok (.aload_n 0, 1) := by decide +kernel
theorem dX12_joinParts_96 : decode cX12_joinParts 96 = .ok (.getfield 113, 3) := by decide +kernel
theorem dX12_joinParts_99 : decode cX12_joinParts 99 = .ok (.iload 5, 2) := by decide +kernel
theorem dX12_joinParts_101 : decode cX12_joinParts 101 = .ok (.iload 4, 2) := by decide +kernel
theorem dX12_joinParts_103 : decode cX12_joinParts 103 = .ok (.iastore, 1) := by decide +kernel
theorem dX12_joinParts_104 : decode cX12_joinParts 104 = .ok (.iinc 2 1, 3) := by decide +kernel
theorem dX12_joinParts_107 : decode cX12_joinParts 107 = .ok (.goto (-103), 3) := by decide +kernel
theorem dX12_joinParts_110 : decode cX12_joinParts 110 = .ok (.iload_n 1, 1) := by decide +kernel
theorem dX12_joinParts_111 : decode cX12_joinParts 111 = .ok (.istore_n 2, 1) := by decide +kernel
theorem dX12_joinParts_112 : decode cX12_joinParts 112 = .ok (.iload_n 1, 1) := by decide +kernel
theorem dX12_joinParts_113 : decode cX12_joinParts 113 = .ok (.istore_n 3, 1) := by decide +kernel
theorem dX12_joinParts_114 : decode cX12_joinParts 114 = .ok (.iload_n 3, 1) := by decide +kernel
theorem dX12_joinParts_115 : decode cX12_joinParts 115 = .ok (.aload_n 0, 1) := by decide +kernel
theorem dX12_joinParts_116 : decode cX12_joinParts 116 = .ok (.getfield 396, 3) := by decide +kernel
theorem dX12_joinParts_119 : decode cX12_joinParts 119 = .ok (.if_icmp .ge 105, 3) := by decide +kernel
theorem dX12_joinParts_122 : decode cX12_joinParts 122 = .ok (.iload_n 2, 1) := by decide +kernel
theorem dX12_joinParts_123 : decode cX12_joinParts 123 = .ok (.iload_n 1, 1) := by decide +kernel
theorem dX12_joinParts_124 : decode cX12_joinParts 124 = .ok (.if_icmp .le 67, 3) := by decide +kernel
theorem dX12_joinParts_127 : decode cX12_joinParts 127 = .ok (.aload_n 0, 1) := by decide +kernel
theorem dX12_joinParts_128 : decode cX12_joinParts 128 = .ok (.getfield 110, 3) := by decide +kernel
theorem dX12_joinParts_131 : decode cX12_joinParts 131 = .ok (.iload_n 3, 1) := by decide +kernel
theorem dX12_joinParts_132 : decode cX12_joinParts 132 = .ok (.iaload, 1) := by decide +kernel
theorem dX12_joinParts_133 : decode cX12_joinParts 133 = .ok (.aload_n 0, 1) := by decide +kernel
theorem dX12_joinParts_134 : decode cX12_joinParts 134 = .ok (.getfield 113, 3) := by decide +kernel
theorem dX12_joinParts_137 : decode cX12_joinParts 137 = .ok (.iload_n 2, 1) := by decide +kernel
theorem dX12_joinParts_138 : decode cX12_joinParts 138 = .ok (.iconst 1, 1) := by decide +kernel
theorem dX12_joinParts_139 : decode cX12_joinParts 139 = .ok (.isub, 1) := by decide +kernel
theorem dX12_joinParts_140 : decode cX12_joinParts 140 = .ok (.iaload, 1) := by decide +kernel
theorem dX12_joinParts_141 : decode cX12_joinParts 141 = .ok (.iconst 1, 1) := by decide +kernel
theorem dX12_joinParts_142 : decode cX12_joinParts 142 = .ok (.iadd, 1) := by decide +kernel
theorem dX12_joinParts_143 : decode cX12_joinParts 143 = .ok (.if_icmp .gt 48, 3) := by decide +kernel
theorem dX12_joinParts_146 : decode cX12_joinParts 146 = .ok (.aload_n 0, 1) := by decide +kernel
theorem dX12_joinParts_147 : decode cX12_joinParts 147 = .ok (.getfield 113, 3) := by decide +kernel
theorem dX12_joinParts_150 : decode cX12_joinParts 150 = .ok (.iload_n 2, 1) := by decide +kernel
theorem dX12_joinParts_151 : decode cX12_joinParts 151 = .ok (.iconst 1, 1) := by decide +kernel
theorem dX12_joinParts_152 : decode cX12_joinParts 152 = .ok (.isub, 1) := by decide +kernel
theorem dX12_joinParts_153 : decode cX12_joinParts 153 = .ok (.aload_n 0, 1) := by decide +kernel
theorem dX12_joinParts_154 : decode cX12_joinParts 154 = .ok (.getfield 113, 3) := by decide +kernel
theorem dX12_joinParts_157 : decode cX12_joinParts 157 = .ok (.iload_n 3, 1) := by decide +kernel
theorem dX12_joinParts_158 : decode cX12_joinParts 158 = .ok (.iaload, 1) := by decide +kernel
theorem dX12_joinParts_159 : decode cX12_joinParts 159 = .ok (.aload_n 0, 1) := by decide +kernel
theorem dX12_joinParts_160 : decode cX12_joinParts 160 = .ok (.getfield 113, 3) := by decide +kernel
theorem dX12_joinParts_163 : decode cX12_joinParts 163 = .ok (.iload_n 2, 1) := by decide +kernel
theorem dX12_joinParts_164 : decode cX12_joinParts 164 = .ok (.iconst 1, 1) := by decide +kernel
theorem dX12_joinParts_165 : decode cX12_joinParts 165 = .ok (.isub, 1) := by decide +kernel
theorem dX12_joinParts_166 : decode cX12_joinParts 166 = .ok (.iaload, 1) := by decide +kernel
theorem dX12_joinParts_167 : decode cX12_joinParts 167 = .ok (.if_icmp .le 12, 3) := by decide +kernel
theorem dX12_joinParts_170 : decode cX12_joinParts 170 = .ok (.aload_n 0, 1) := by decide +kernel
theorem dX12_joinParts_171 : decode cX12_joinParts 171 = .ok (.getfield 113, 3) := by decide +kernel
theorem dX12_joinParts_174 : decode cX12_joinParts 174 = .ok (.iload_n 3, 1) := by decide +kernel
theorem dX12_joinParts_175 : decode cX12_joinParts 175 = .ok (.iaload, 1) := by decide +kernel
theorem dX12_joinParts_176 : decode cX12_joinParts 176 = .ok (.goto 11, 3) := by decide +kernel
theorem dX12_joinParts_179 : decode cX12_joinParts 179 = .ok (.aload_n 0, 1) := by decide +kernel
theorem dX12_joinParts_180 : decode cX12_joinParts 180 = .ok (.getfield 113, 3) := by decide +kernel
theorem dX12_joinParts_183 : decode cX12_joinParts 183 = .ok (.iload_n 2, 1) := by decide +kernel
theorem dX12_joinParts_184 : decode cX12_joinParts 184 = .ok (.iconst 1, 1) := by decide +kernel
theorem dX12_joinParts_185 : decode cX12_joinParts 185 = .ok (.isub, 1) := by decide +kernel
theorem dX12_joinParts_186 : decode cX12_joinParts 186 = .ok (.iaload, 1) := by decide +kernel
theorem dX12_joinParts_187 : decode cX12_joinParts 187 = .ok (.iastore, 1) := by decide +kernel
theorem dX12_joinParts_188 : decode cX12_joinParts 188 = .ok (.goto 30, 3) := by decide +kernel
theorem dX12_joinParts_191 : decode cX12_joinParts 191 = .ok (.aload_n 0, 1) := by decide +kernel
theorem dX12_joinParts_192 : decode cX12_joinParts 192 = .ok (.getfield 110, 3) := by decide +kernel
theorem dX12_joinParts_195 : decode cX12_joinParts 195 = .ok (.iload_n 2, 1) := by decide +kernel
theorem dX12_joinParts_196 : decode cX12_joinParts 196 = .ok (.aload_n 0, 1) := by decide +kernel
theorem dX12_joinParts_197 : decode cX12_joinParts 197 = .ok (.getfield 110, 3) := by decide +kernel
theorem dX12_joinParts_200 : decode cX12_joinParts 200 = .ok (.iload_n 3, 1) := by decide +kernel
theorem dX12_joinParts_201 : decode cX12_joinParts 201 = .ok (.iaload, 1) := by decide +kernel
theorem dX12_joinParts_202 : decode cX12_joinParts 202 = .ok (.iastore, 1) := by decide +kernel
theorem dX12_joinParts_203 : decode cX12_joinParts 203 = .ok (.aload_n 0, 1) := by decide +kernel
theorem dX12_joinParts_204 : decode cX12_joinParts 204 = .ok (.getfield 113, 3) := by decide +kernel
theorem dX12_joinParts_207 : decode cX12_joinParts 207 = .ok (.iload_n 2, 1) := by decide +kernel
theorem dX12_joinParts_208 : decode cX12_joinParts 208 = .ok (.aload_n 0, 1) := by decide +kernel
theorem dX12_joinParts_209 : decode cX12_joinParts 209 = .ok (.getfield 113, 3) := by decide +kernel
theorem dX12_joinParts_212 : decode cX12_joinParts 212 = .ok (.iload_n 3, 1) := by decide +kernel
theorem dX12_joinParts_213 : decode cX12_joinParts 213 = .ok (.iaload, 1) := by decide +kernel
theorem dX12_joinParts_214 : decode cX12_joinParts 214 = .ok (.iastore, 1) := by decide +kernel
theorem dX12_joinParts_215 : decode cX12_joinParts 215 = .ok (.iinc 2 1, 3) := by decide +kernel
theorem dX12_joinParts_218 : decode cX12_joinParts 218 = .ok (.iinc 3 1, 3) := by decide +kernel
theorem dX12_joinParts_221 : decode cX12_joinParts 221 = .ok (.goto (-107), 3) := by decide +kernel
theorem dX12_joinParts_224 : decode cX12_joinParts 224 = .ok (.aload_n 0, 1) := by decide +kernel
theorem dX12_joinParts_225 : decode cX12_joinParts 225 = .ok (.iload_n 2, 1) := by decide +kernel
theorem dX12_joinParts_226 : decode cX12_joinParts 226 = .ok (.putfield 396, 3) := by decide +kernel
theorem dX12_joinParts_229 : decode cX12_joinParts 229 = .ok (.return_, 1) := by decide +kernel
theorem dX12_keepPattern_0 : decode cX12_keepPattern 0 = .ok (.sipush 220, 3) := by decide +kernel
theorem dX12_keepPattern_3 : decode cX12_keepPattern 3 = .ok (.iload_n 1, 1) := by decide +kernel
theorem dX12_keepPattern_4 : decode cX12_keepPattern 4 = .ok (.imul, 1) := by decide +kernel
theorem dX12_keepPattern_5 : decode cX12_keepPattern 5 = .ok (.istore_n 3, 1) := by decide +kernel
theorem dX12_keepPattern_6 : decode cX12_keepPattern 6 = .ok (.iconst 0, 1) := by decide +kernel
theorem dX12_keepPattern_7 : decode cX12_keepPattern 7 = .ok (.istore 4, 2) := by decide +kernel
theorem dX12_keepPattern_9 : decode cX12_keepPattern 9 = .ok (.iconst 1, 1) := by decide +kernel
theorem dX12_keepPattern_10 : decode cX12_keepPattern 10 = .ok (.istore 5, 2) := by decide +kernel
theorem dX12_keepPattern_12 : decode cX12_keepPattern 12 = .ok (.aload_n 0, 1) := by decide +kernel
theorem dX12_keepPattern_13 : decode cX12_keepPattern 13 = .ok (.getfield 143, 3) := by decide +kernel
theorem dX12_keepPattern_16 : decode cX12_keepPattern 16 = .ok (.iconst 0, 1) := by decide +kernel
theorem dX12_keepPattern_17 : decode cX12_keepPattern 17 = .ok (.iload_n 2, 1) := by decide +kernel
theorem dX12_keepPattern_18 : decode cX12_keepPattern 18 = .ok (.iastore, 1) := by decide +kernel
theorem dX12_keepPattern_19 : decode cX12_keepPattern 19 = .ok (.aload_n 0, 1) := by decide +kernel
theorem dX12_keepPattern_20 : decode cX12_keepPattern 20 = .ok (.getfield 146, 3) := by decide +kernel
theorem dX12_keepPattern_23 : decode cX12_keepPattern 23 = .ok (.iconst 0, 1) := by decide +kernel
theorem dX12_keepPattern_24 : decode cX12_keepPattern 24 = .ok (.iconst (-1), 1) := by decide +kernel
theorem dX12_keepPattern_25 : decode cX12_keepPattern 25 = .ok (.iastore, 1) := by decide +kernel
theorem dX12_keepPattern_26 : decode cX12_keepPattern 26 = .ok (.iload 5, 2) := by decide +kernel
theorem dX12_keepPattern_28 : decode cX12_keepPattern 28 = .ok (.ifCond .le 261, 3) := by decide +kernel
theorem dX12_keepPattern_31 : decode cX12_keepPattern 31 = .ok (.iinc 5 (-1), 3) := by decide +kernel
theorem dX12_keepPattern_34 : decode cX12_keepPattern 34 = .ok (.aload_n 0, 1) := by decide +kernel
theorem dX12_keepPattern_35 : decode cX12_keepPattern 35 = .ok (.getfield 143, 3) := by decide +kernel
theorem dX12_keepPattern_38 : decode cX12_keepPattern 38 = .ok (.iload 5, 2) := by decide +kernel
theorem dX12_keepPattern_40 : decode cX12_keepPattern 40 = .ok (.iaload, 1) := by decide +kernel
theorem dX12_keepPattern_41 : decode cX12_keepPattern 41 = .ok (.istore 6, 2) := by decide +kernel
theorem dX12_keepPattern_43 : decode cX12_keepPattern 43 = .ok (.aload_n 0, 1) := by decide +kernel
theorem dX12_keepPattern_44 : decode cX12_keepPattern 44 = .ok (.getfield 146, 3) := by decide +kernel
theorem dX12_keepPattern_47 : decode cX12_keepPattern 47 = .ok (.iload 5, 2) := by decide +kernel
theorem dX12_keepPattern_49 : decode cX12_keepPattern 49 = .ok (.iaload, 1) := by decide +kernel
theorem dX12_keepPattern_50 : decode cX12_keepPattern 50 = .ok (.istore 7, 2) := by decide +kernel
theorem dX12_keepPattern_52 : decode cX12_keepPattern 52 = .ok (.iload_n 3, 1) := by decide +kernel
theorem dX12_keepPattern_53 : decode cX12_keepPattern 53 = .ok (.iload 4, 2) := by decide +kernel
theorem dX12_keepPattern_55 : decode cX12_keepPattern 55 = .ok (.iadd, 1) := by decide +kernel
theorem dX12_keepPattern_56 : decode cX12_keepPattern 56 = .ok (.istore 8, 2) := by decide +kernel
theorem dX12_keepPattern_58 : decode cX12_keepPattern 58 = .ok (.aload_n 0, 1) := by decide +kernel
theorem dX12_keepPattern_59 : decode cX12_keepPattern 59 = .ok (.getfield 44, 3) := by decide +kernel
theorem dX12_keepPattern_62 : decode cX12_keepPattern 62 = .ok (.iload 8, 2) := by decide +kernel
theorem dX12_keepPattern_64 : decode cX12_keepPattern 64 = .ok (.aload_n 0, 1) := by decide +kernel
theorem dX12_keepPattern_65 : decode cX12_keepPattern 65 = .ok (.getfield 86, 3) := by decide +kernel
theorem dX12_keepPattern_68 : decode cX12_keepPattern 68 = .ok (.iload 6, 2) := by decide +kernel
theorem dX12_keepPattern_70 : decode cX12_keepPattern 70 = .ok (.iaload, 1) := by decide +kernel
theorem dX12_keepPattern_71 : decode cX12_keepPattern 71 = .ok (.iastore, 1) := by decide +kernel
theorem dX12_keepPattern_72 : decode cX12_keepPattern 72 = .ok (.aload_n 0, 1) := by decide +kernel
theorem dX12_keepPattern_73 : decode cX12_keepPattern 73 = .ok (.getfield 47, 3) := by decide +kernel
theorem dX12_keepPattern_76 : decode cX12_keepPattern 76 = .ok (.iload 8, 2) := by decide +kernel
theorem dX12_keepPattern_78 : decode cX12_keepPattern 78 = .ok (.aload_n 0, 1) := by decide +kernel
theorem dX12_keepPattern_79 : decode cX12_keepPattern 79 = .ok (.getfield 89, 3) := by decide +kernel
theorem dX12_keepPattern_82 : decode cX12_keepPattern 82 = .ok (.iload 6, 2) := by decide +kernel
theorem dX12_keepPattern_84 : decode cX12_keepPattern 84 = .ok (.iaload, 1) := by decide +kernel
theorem dX12_keepPattern_85 : decode cX12_keepPattern 85 = .ok (.iastore, 1) := by decide +kernel
theorem dX12_keepPattern_86 : decode cX12_keepPattern 86 = .ok (.aload_n 0, 1) := by decide +kernel
theorem dX12_keepPattern_87 : decode cX12_keepPattern 87 = .ok (.getfield 50, 3) := by decide +kernel
theorem dX12_keepPattern_90 : decode cX12_keepPattern 90 = .ok (.iload 8, 2) := by decide +kernel
theorem dX12_keepPattern_92 : decode cX12_keepPattern 92 = .ok (.aload_n 0, 1) := by decide +kernel
theorem dX12_keepPattern_93 : decode cX12_keepPattern 93 = .ok (.getfield 92, 3) := by decide +kernel
theorem dX12_keepPattern_96 : decode cX12_keepPattern 96 = .ok (.iload 6, 2) := by decide +kernel
theorem dX12_keepPattern_98 : decode cX12_keepPattern 98 = .ok (.iaload, 1) := by decide +kernel
theorem dX12_keepPattern_99 : decode cX12_keepPattern 99 = .ok (.iastore, 1) := by decide +kernel
theorem dX12_keepPattern_100 : decode cX12_keepPattern 100 = .ok (.aload_n 0, 1) := by decide +kernel
theorem dX12_keepPattern_101 : decode cX12_keepPattern 101 = .ok (.getfield 53, 3) := by decide +kernel
theorem dX12_keepPattern_104 : decode cX12_keepPattern 104 = .ok (.iload 8, 2) := by decide +kernel
theorem dX12_keepPattern_106 : decode cX12_keepPattern 106 = .ok (.aload_n 0, 1) := by decide +kernel
theorem dX12_keepPattern_107 : decode cX12_keepPattern 107 = .ok (.getfield 95, 3) := by decide +kernel
theorem dX12_keepPattern_110 : decode cX12_keepPattern 110 = .ok (.iload 6, 2) := by decide +kernel
theorem dX12_keepPattern_112 : decode cX12_keepPattern 112 = .ok (.iaload, 1) := by decide +kernel
theorem dX12_keepPattern_113 : decode cX12_keepPattern 113 = .ok (.iastore, 1) := by decide +kernel
theorem dX12_keepPattern_114 : decode cX12_keepPattern 114 = .ok (.aload_n 0, 1) := by decide +kernel
theorem dX12_keepPattern_115 : decode cX12_keepPattern 115 = .ok (.getfield 56, 3) := by decide +kernel
theorem dX12_keepPattern_118 : decode cX12_keepPattern 118 = .ok (.iload 8, 2) := by decide +kernel
theorem dX12_keepPattern_120 : decode cX12_keepPattern 120 = .ok (.iload 7, 2) := by decide +kernel
theorem dX12_keepPattern_122 : decode cX12_keepPattern 122 = .ok (.iastore, 1) := by decide +kernel
theorem dX12_keepPattern_123 : decode cX12_keepPattern 123 = .ok (.aload_n 0, 1) := by decide +kernel
theorem dX12_keepPattern_124 : decode cX12_keepPattern 124 = .ok (.getfield 59, 3) := by decide +kernel
theorem dX12_keepPattern_127 : decode cX12_keepPattern 127 = .ok (.iload 8, 2) := by decide +kernel
theorem dX12_keepPattern_129 : decode cX12_keepPattern 129 = .ok (.aload_n 0, 1) := by decide +kernel
theorem dX12_keepPattern_130 : decode cX12_keepPattern 130 = .ok (.getfield 104, 3) := by decide +kernel
theorem dX12_keepPattern_133 : decode cX12_keepPattern 133 = .ok (.iload 6, 2) := by decide +kernel
theorem dX12_keepPattern_135 : decode cX12_keepPattern 135 = .ok (.iaload, 1) := by decide +kernel
theorem dX12_keepPattern_136 : decode cX12_keepPattern 136 = .ok (.iastore, 1) := by decide +kernel
theorem dX12_keepPattern_137 : decode cX12_keepPattern 137 = .ok (.aload_n 0, 1) := by decide +kernel
theorem dX12_keepPattern_138 : decode cX12_keepPattern 138 = .ok (.getfield 71, 3) := by decide +kernel
theorem dX12_keepPattern_141 : decode cX12_keepPattern 141 = .ok (.iload 8, 2) := by decide +kernel
theorem dX12_keepPattern_143 : decode cX12_keepPattern 143 = .ok (.sipush 420, 3) := by decide +kernel
theorem dX12_keepPattern_146 : decode cX12_keepPattern 146 = .ok (.iload_n 1, 1) := by decide +kernel
theorem dX12_keepPattern_147 : decode cX12_keepPattern 147 = .ok (.imul, 1) := by decide +kernel
theorem dX12_keepPattern_148 : decode cX12_keepPattern 148 = .ok (.aload_n 0, 1) := by decide +kernel
theorem dX12_keepPattern_149 : decode cX12_keepPattern 149 = .ok (.getfield 107, 3) := by decide +kernel
theorem dX12_keepPattern_152 : decode cX12_keepPattern 152 = .ok (.iload 6, 2) := by decide +kernel
theorem dX12_keepPattern_154 : decode cX12_keepPattern 154 = .ok (.iaload, 1) := by decide +kernel
theorem dX12_keepPattern_155 : decode cX12_keepPattern 155 = .ok (.iadd, 1) := by decide +kernel
theorem dX12_keepPattern_156 : decode cX12_keepPattern 156 = .ok (.iastore, 1) := by decide +kernel
theorem dX12_keepPattern_157 : decode cX12_keepPattern 157 = .ok (.aload_n 0, 1) := by decide +kernel
theorem dX12_keepPattern_158 : decode cX12_keepPattern 158 = .ok (.getfield 62, 3) := by decide +kernel
theorem dX12_keepPattern_161 : decode cX12_keepPattern 161 = .ok (.iload 8, 2) := by decide +kernel
theorem dX12_keepPattern_163 : decode cX12_keepPattern 163 = .ok (.iload 4, 2) := by decide +kernel
theorem dX12_keepPattern_165 : decode cX12_keepPattern 165 = .ok (.iconst 1, 1) := by decide +kernel
theorem dX12_keepPattern_166 : decode cX12_keepPattern 166 = .ok (.iadd, 1) := by decide +kernel
theorem dX12_keepPattern_167 : decode cX12_keepPattern 167 = .ok (.iastore, 1) := by decide +kernel
theorem dX12_keepPattern_168 : decode cX12_keepPattern 168 = .ok (.aload_n 0, 1) := by decide +kernel
theorem dX12_keepPattern_169 : decode cX12_keepPattern 169 = .ok (.getfield 77, 3) := by decide +kernel
theorem dX12_keepPattern_172 : decode cX12_keepPattern 172 = .ok (.iload 8, 2) := by decide +kernel
theorem dX12_keepPattern_174 : decode cX12_keepPattern 174 = .ok (.iload 7, 2) := by decide +kernel
theorem dX12_keepPattern_176 : decode cX12_keepPattern 176 = .ok (.ifCond .lt 33, 3) := by decide +kernel
theorem dX12_keepPattern_179 : decode cX12_keepPattern 179 = .ok (.aload_n 0, 1) := by decide +kernel
theorem dX12_keepPattern_180 : decode cX12_keepPattern 180 = .ok (.getfield 77, 3) := by decide +kernel
theorem dX12_keepPattern_183 : decode cX12_keepPattern 183 = .ok (.iload_n 3, 1) := by decide +kernel
theorem dX12_keepPattern_184 : decode cX12_keepPattern 184 = .ok (.iload 7, 2) := by decide +kernel
theorem dX12_keepPattern_186 : decode cX12_keepPattern 186 = .ok (.iadd, 1) := by decide +kernel
theorem dX12_keepPattern_187 : decode cX12_keepPattern 187 = .ok (.baload, 1) := by decide +kernel
theorem dX12_keepPattern_188 : decode cX12_keepPattern 188 = .ok (.ifCond .ne 17, 3) := by decide +kernel
theorem dX12_keepPattern_191 : decode cX12_keepPattern 191 = .ok (.aload_n 0, 1) := by decide +kernel
theorem dX12_keepPattern_192 : decode cX12_keepPattern 192 = .ok (.getfield 44, 3) := by decide +kernel
theorem dX12_keepPattern_195 : decode cX12_keepPattern 195 = .ok (.iload_n 3, 1) := by decide +kernel
theorem dX12_keepPattern_196 : decode cX12_keepPattern 196 = .ok (.iload 7, 2) := by decide +kernel
theorem dX12_keepPattern_198 : decode cX12_keepPattern 198 = .ok (.iadd, 1) := by decide +kernel
theorem dX12_keepPattern_199 : decode cX12_keepPattern 199 = .ok (.iaload, 1) := by decide +kernel
theorem dX12_keepPattern_200 : decode cX12_keepPattern 200 = .ok (.bipush 11, 2) := by decide +kernel
theorem dX12_keepPattern_202 : decode cX12_keepPattern 202 = .ok (.if_icmp .ne 7, 3) := by decide +kernel
theorem dX12_keepPattern_205 : decode cX12_keepPattern 205 = .ok (.iconst 1, 1) := by decide +kernel
theorem dX12_keepPattern_206 : decode cX12_keepPattern 206 = .ok (.goto 4, 3) := by decide +kernel
theorem dX12_keepPattern_209 : decode cX12_keepPattern 209 = .ok (.iconst 0, 1) := by decide +kernel
theorem dX12_keepPattern_210 : decode cX12_keepPattern 210 = .ok (.bastore, 1) := by decide +kernel
theorem dX12_keepPattern_211 : decode cX12_keepPattern 211 = .ok (.aload_n 0, 1) := by decide +kernel
theorem dX12_keepPattern_212 : decode cX12_keepPattern 212 = .ok (.getfield 101, 3) := by decide +kernel
theorem dX12_keepPattern_215 : decode cX12_keepPattern 215 = .ok (.iload 6, 2) := by decide +kernel
theorem dX12_keepPattern_217 : decode cX12_keepPattern 217 = .ok (.iaload, 1) := by decide +kernel
theorem dX12_keepPattern_218 : decode cX12_keepPattern 218 = .ok (.ifCond .lt 29, 3) := by decide +kernel
theorem dX12_keepPattern_221 : decode cX12_keepPattern 221 = .ok (.aload_n 0, 1) := by decide +kernel
theorem dX12_keepPattern_222 : decode cX12_keepPattern 222 = .ok (.getfield 143, 3) := by decide +kernel
theorem dX12_keepPattern_225 : decode cX12_keepPattern 225 = .ok (.iload 5, 2) := by decide +kernel
theorem dX12_keepPattern_227 : decode cX12_keepPattern 227 = .ok (.aload_n 0, 1) := by decide +kernel
theorem dX12_keepPattern_228 : decode cX12_keepPattern 228 = .ok (.getfield 101, 3) := by decide +kernel
theorem dX12_keepPattern_231 : decode cX12_keepPattern 231 = .ok (.iload 6, 2) := by decide +kernel
theorem dX12_keepPattern_233 : decode cX12_keepPattern 233 = .ok (.iaload, 1) := by decide +kernel
theorem dX12_keepPattern_234 : decode cX12_keepPattern 234 = .ok (.iastore, 1) := by decide +kernel
theorem dX12_keepPattern_235 : decode cX12_keepPattern 235 = .ok (.aload_n 0, 1) := by decide +kernel
theorem dX12_keepPattern_236 : decode cX12_keepPattern 236 = .ok (.getfield 146, 3) := by decide +kernel
theorem dX12_keepPattern_239 : decode cX12_keepPattern 239 = .ok (.iload 5, 2) := by decide +kernel
theorem dX12_keepPattern_241 : decode cX12_keepPattern 241 = .ok (.iload 7, 2) := by decide +kernel
theorem dX12_keepPattern_243 : decode cX12_keepPattern 243 = .ok (.iastore, 1) := by decide +kernel
theorem dX12_keepPattern_244 : decode cX12_keepPattern 244 = .ok (.iinc 5 1, 3) := by decide +kernel
theorem dX12_keepPattern_247 : decode cX12_keepPattern 247 = .ok (.aload_n 0, 1) := by decide +kernel
theorem dX12_keepPattern_248 : decode cX12_keepPattern 248 = .ok (.getfield 98, 3) := by decide +kernel
theorem dX12_keepPattern_251 : decode cX12_keepPattern 251 = .ok (.iload 6, 2) := by decide +kernel
theorem dX12_keepPattern_253 : decode cX12_keepPattern 253 = .ok (.iaload, 1) := by decide +kernel
theorem dX12_keepPattern_254 : decode cX12_keepPattern 254 = .ok (.ifCond .lt 29, 3) := by decide +kernel
theorem dX12_keepPattern_257 : decode cX12_keepPattern 257 = .ok (.aload_n 0, 1) := by decide +kernel
theorem dX12_keepPattern_258 : decode cX12_keepPattern 258 = .ok (.getfield 143, 3) := by decide +kernel
theorem dX12_keepPattern_261 : decode cX12_keepPattern 261 = .ok (.iload 5, 2) := by decide +kernel
theorem dX12_keepPattern_263 : decode cX12_keepPattern 263 = .ok (.aload_n 0, 1) := by decide +kernel
theorem dX12_keepPattern_264 : decode cX12_keepPattern 264 = .ok (.getfield 98, 3) := by decide +kernel
theorem dX12_keepPattern_267 : decode cX12_keepPattern 267 = .ok (.iload 6, 2) := by decide +kernel
theorem dX12_keepPattern_269 : decode cX12_keepPattern 269 = .ok (.iaload, 1) := by decide +kernel
theorem dX12_keepPattern_270 : decode cX12_keepPattern 270 = .ok (.iastore, 1) := by decide +kernel
theorem dX12_keepPattern_271 : decode cX12_keepPattern 271 = .ok (.aload_n 0, 1) := by decide +kernel
theorem dX12_keepPattern_272 : decode cX12_keepPattern 272 = .ok (.getfield 146, 3) := by decide +kernel
theorem dX12_keepPattern_275 : decode cX12_keepPattern 275 = .ok (.iload 5, 2) := by decide +kernel
theorem dX12_keepPattern_277 : decode cX12_keepPattern 277 = .ok (.iload 4, 2) := by decide +kernel
theorem dX12_keepPattern_279 : decode cX12_keepPattern 279 = .ok (.iastore, 1) := by decide +kernel
theorem dX12_keepPattern_280 : decode cX12_keepPattern 280 = .ok (.iinc 5 1, 3) := by decide +kernel
theorem dX12_keepPattern_283 : decode cX12_keepPattern 283 = .ok (.iinc 4 1, 3) := by decide +kernel
theorem dX12_keepPattern_286 : decode cX12_keepPattern 286 = .ok (.goto (-260), 3) := by decide +kernel
theorem dX12_keepPattern_289 : decode cX12_keepPattern 289 = .ok (.iconst 0, 1) := by decide +kernel
theorem dX12_keepPattern_290 : decode cX12_keepPattern 290 = .ok (.istore 6, 2) := by decide +kernel
theorem dX12_keepPattern_292 : decode cX12_keepPattern 292 = .ok (.iload 6, 2) := by decide +kernel
theorem dX12_keepPattern_294 : decode cX12_keepPattern 294 = .ok (.aload_n 0, 1) := by decide +kernel
theorem dX12_keepPattern_295 : decode cX12_keepPattern 295 = .ok (.getfield 396, 3) := by decide +kernel
theorem dX12_keepPattern_298 : decode cX12_keepPattern 298 = .ok (.if_icmp .ge 49, 3) := by decide +kernel
theorem dX12_keepPattern_301 : decode cX12_keepPattern 301 = .ok (.aload_n 0, 1) := by decide +kernel
theorem dX12_keepPattern_302 : decode cX12_keepPattern 302 = .ok (.getfield 80, 3) := by decide +kernel
theorem dX12_keepPattern_305 : decode cX12_keepPattern 305 = .ok (.sipush 420, 3) := by decide +kernel
theorem dX12_keepPattern_308 : decode cX12_keepPattern 308 = .ok (.iload_n 1, 1) := by decide +kernel
theorem dX12_keepPattern_309 : decode cX12_keepPattern 309 = .ok (.imul, 1) := by decide +kernel
theorem dX12_keepPattern_310 : decode cX12_keepPattern 310 = .ok (.iload 6, 2) := by decide +kernel
theorem dX12_keepPattern_312 : decode cX12_keepPattern 312 = .ok (.iadd, 1) := by decide +kernel
theorem dX12_keepPattern_313 : decode cX12_keepPattern 313 = .ok (.aload_n 0, 1) := by decide +kernel
theorem dX12_keepPattern_314 : decode cX12_keepPattern 314 = .ok (.getfield 110, 3) := by decide +kernel
theorem dX12_keepPattern_317 : decode cX12_keepPattern 317 = .ok (.iload 6, 2) := by decide +kernel
theorem dX12_keepPattern_319 : decode cX12_keepPattern 319 = .ok (.iaload, 1) := by decide +kernel
theorem dX12_keepPattern_320 : decode cX12_keepPattern 320 = .ok (.iastore, 1) := by decide +kernel
theorem dX12_keepPattern_321 : decode cX12_keepPattern 321 = .ok (.aload_n 0, 1) := by decide +kernel
theorem dX12_keepPattern_322 : decode cX12_keepPattern 322 = .ok (.getfield 83, 3) := by decide +kernel
theorem dX12_keepPattern_325 : decode cX12_keepPattern 325 = .ok (.sipush 420, 3) := by decide +kernel
theorem dX12_keepPattern_328 : decode cX12_keepPattern 328 = .ok (.iload_n 1, 1) := by decide +kernel
theorem dX12_keepPattern_329 : decode cX12_keepPattern 329 = .ok (.imul, 1) := by decide +kernel
theorem dX12_keepPattern_330 : decode cX12_keepPattern 330 = .ok (.iload 6, 2) := by decide +kernel
theorem dX12_keepPattern_332 : decode cX12_keepPattern 332 = .ok (.iadd, 1) := by decide +kernel
theorem dX12_keepPattern_333 : decode cX12_keepPattern 333 = .ok (.aload_n 0, 1) := by decide +kernel
theorem dX12_keepPattern_334 : decode cX12_keepPattern 334 = .ok (.getfield 113, 3) := by decide +kernel
theorem dX12_keepPattern_337 : decode cX12_keepPattern 337 = .ok (.iload 6, 2) := by decide +kernel
theorem dX12_keepPattern_339 : decode cX12_keepPattern 339 = .ok (.iaload, 1) := by decide +kernel
theorem dX12_keepPattern_340 : decode cX12_keepPattern 340 = .ok (.iastore, 1) := by decide +kernel
theorem dX12_keepPattern_341 : decode cX12_keepPattern 341 = .ok (.iinc 6 1, 3) := by decide +kernel
theorem dX12_keepPattern_344 : decode cX12_keepPattern 344 = .ok (.goto (-52), 3) := by decide +kernel
theorem dX12_keepPattern_347 : decode cX12_keepPattern 347 = .ok (.aload_n 0, 1) := by decide +kernel
theorem dX12_keepPattern_348 : decode cX12_keepPattern 348 = .ok (.getfield 35, 3) := by decide +kernel
theorem dX12_keepPattern_351 : decode cX12_keepPattern 351 = .ok (.iload_n 1, 1) := by decide +kernel
theorem dX12_keepPattern_352 : decode cX12_keepPattern 352 = .ok (.iload 4, 2) := by decide +kernel
theorem dX12_keepPattern_354 : decode cX12_keepPattern 354 = .ok (.iastore, 1) := by decide +kernel
theorem dX12_keepPattern_355 : decode cX12_keepPattern 355 = .ok (.aload_n 0, 1) := by decide +kernel
theorem dX12_keepPattern_356 : decode cX12_keepPattern 356 = .ok (.getfield 38, 3) := by decide +kernel
theorem dX12_keepPattern_359 : decode cX12_keepPattern 359 = .ok (.iload_n 1, 1) := by decide +kernel
theorem dX12_keepPattern_360 : decode cX12_keepPattern 360 = .ok (.aload_n 0, 1) := by decide +kernel
theorem dX12_keepPattern_361 : decode cX12_keepPattern 361 = .ok (.getfield 377, 3) := by decide +kernel
theorem dX12_keepPattern_364 : decode cX12_keepPattern 364 = .ok (.iastore, 1) := by decide +kernel
theorem dX12_keepPattern_365 : decode cX12_keepPattern 365 = .ok (.iconst 1, 1) := by decide +kernel
theorem dX12_keepPattern_366 : decode cX12_keepPattern 366 = .ok (.istore 6, 2) := by decide +kernel
theorem dX12_keepPattern_368 : decode cX12_keepPattern 368 = .ok (.iload 6, 2) := by decide +kernel
theorem dX12_keepPattern_370 : decode cX12_keepPattern 370 = .ok (.bipush 10, 2) := by decide +kernel
theorem dX12_keepPattern_372 : decode cX12_keepPattern 372 = .ok (.if_icmp .ge 41, 3) := by decide +kernel
theorem dX12_keepPattern_375 : decode cX12_keepPattern 375 = .ok (.aload_n 0, 1) := by decide +kernel
theorem dX12_keepPattern_376 : decode cX12_keepPattern 376 = .ok (.getfield 41, 3) := by decide +kernel
theorem dX12_keepPattern_379 : decode cX12_keepPattern 379 = .ok (.bipush 10, 2) := by decide +kernel
theorem dX12_keepPattern_381 : decode cX12_keepPattern 381 = .ok (.iload_n 1, 1) := by decide +kernel
theorem dX12_keepPattern_382 : decode cX12_keepPattern 382 = .ok (.imul, 1) := by decide +kernel
theorem dX12_keepPattern_383 : decode cX12_keepPattern 383 = .ok (.iload 6, 2) := by decide +kernel
theorem dX12_keepPattern_385 : decode cX12_keepPattern 385 = .ok (.iadd, 1) := by decide +kernel
theorem dX12_keepPattern_386 : decode cX12_keepPattern 386 = .ok (.iload 6, 2) := by decide +kernel
theorem dX12_keepPattern_388 : decode cX12_keepPattern 388 = .ok (.aload_n 0, 1) := by decide +kernel
theorem dX12_keepPattern_389 : decode cX12_keepPattern 389 = .ok (.getfield 377, 3) := by decide +kernel
theorem dX12_keepPattern_392 : decode cX12_keepPattern 392 = .ok (.if_icmp .gt 13, 3) := by decide +kernel
theorem dX12_keepPattern_395 : decode cX12_keepPattern 395 = .ok (.aload_n 0, 1) := by decide +kernel
theorem dX12_keepPattern_396 : decode cX12_keepPattern 396 = .ok (.getfield 116, 3) := by decide +kernel
theorem dX12_keepPattern_399 : decode cX12_keepPattern 399 = .ok (.iload 6, 2) := by decide +kernel
theorem dX12_keepPattern_401 : decode cX12_keepPattern 401 = .ok (.iaload, 1) := by decide +kernel
theorem dX12_keepPattern_402 : decode cX12_keepPattern 402 = .ok (.goto 4, 3) := by decide +kernel
theorem dX12_keepPattern_405 : decode cX12_keepPattern 405 = .ok (.iconst 0, 1) := by decide +kernel
theorem dX12_keepPattern_406 : decode cX12_keepPattern 406 = .ok (.iastore, 1) := by decide +kernel
theorem dX12_keepPattern_407 : decode cX12_keepPattern 407 = .ok (.iinc 6 1, 3) := by decide +kernel
theorem dX12_keepPattern_410 : decode cX12_keepPattern 410 = .ok (.goto (-42), 3) := by decide +kernel
theorem dX12_keepPattern_413 : decode cX12_keepPattern 413 = .ok (.iload 4, 2) := by decide +kernel
theorem dX12_keepPattern_415 : decode cX12_keepPattern 415 = .ok (.iconst 1, 1) := by decide +kernel
theorem dX12_keepPattern_416 : decode cX12_keepPattern 416 = .ok (.isub, 1) := by decide +kernel
theorem dX12_keepPattern_417 : decode cX12_keepPattern 417 = .ok (.istore 6, 2) := by decide +kernel
theorem dX12_keepPattern_419 : decode cX12_keepPattern 419 = .ok (.iload 6, 2) := by decide +kernel
theorem dX12_keepPattern_421 : decode cX12_keepPattern 421 = .ok (.ifCond .le 67, 3) := by decide +kernel
theorem dX12_keepPattern_424 : decode cX12_keepPattern 424 = .ok (.iload_n 3, 1) := by decide +kernel
theorem dX12_keepPattern_425 : decode cX12_keepPattern 425 = .ok (.aload_n 0, 1) := by decide +kernel
theorem dX12_keepPattern_426 : decode cX12_keepPattern 426 = .ok (.getfield 56, 3) := by decide +kernel
theorem dX12_keepPattern_429 : decode cX12_keepPattern 429 = .ok (.iload_n 3, 1) := by decide +kernel
theorem dX12_keepPattern_430 : decode cX12_keepPattern 430 = .ok (.iload 6, 2) := by decide +kernel
theorem dX12_keepPattern_432 : decode cX12_keepPattern 432 = .ok (.iadd, 1) := by decide +kernel
theorem dX12_keepPattern_433 : decode cX12_keepPattern 433 = .ok (.iaload, 1) := by decide +kernel
theorem dX12_keepPattern_434 : decode cX12_keepPattern 434 = .ok (.iadd, 1) := by decide +kernel
theorem dX12_keepPattern_435 : decode cX12_keepPattern 435 = .ok (.istore 7, 2) := by decide +kernel
theorem dX12_keepPattern_437 : decode cX12_keepPattern 437 = .ok (.aload_n 0, 1) := by decide +kernel
theorem dX12_keepPattern_438 : decode cX12_keepPattern 438 = .ok (.getfield 62, 3) := by decide +kernel
theorem dX12_keepPattern_441 : decode cX12_keepPattern 441 = .ok (.iload 7, 2) := by decide +kernel
theorem dX12_keepPattern_443 : decode cX12_keepPattern 443 = .ok (.aload_n 0, 1) := by decide +kernel
theorem dX12_keepPattern_444 : decode cX12_keepPattern 444 = .ok (.getfield 62, 3) := by decide +kernel
theorem dX12_keepPattern_447 : decode cX12_keepPattern 447 = .ok (.iload 7, 2) := by decide +kernel
theorem dX12_keepPattern_449 : decode cX12_keepPattern 449 = .ok (.iaload, 1) := by decide +kernel
theorem dX12_keepPattern_450 : decode cX12_keepPattern 450 = .ok (.aload_n 0, 1) := by decide +kernel
theorem dX12_keepPattern_451 : decode cX12_keepPattern 451 = .ok (.getfield 62, 3) := by decide +kernel
theorem dX12_keepPattern_454 : decode cX12_keepPattern 454 = .ok (.iload_n 3, 1) := by decide +kernel
theorem dX12_keepPattern_455 : decode cX12_keepPattern 455 = .ok (.iload 6, 2) := by decide +kernel
theorem dX12_keepPattern_457 : decode cX12_keepPattern 457 = .ok (.iadd, 1) := by decide +kernel
theorem dX12_keepPattern_458 : decode cX12_keepPattern 458 = .ok (.iaload, 1) := by decide +kernel
theorem dX12_keepPattern_459 : decode cX12_keepPattern 459 = .ok (.if_icmp .le 13, 3) := by decide +kernel
theorem dX12_keepPattern_462 : decode cX12_keepPattern 462 = .ok (.aload_n 0, 1) := by decide +kernel
theorem dX12_keepPattern_463 : decode cX12_keepPattern 463 = .ok (.getfield 62, 3) := by decide +kernel
theorem dX12_keepPattern_466 : decode cX12_keepPattern 466 = .ok (.iload 7, 2) := by decide +kernel
theorem dX12_keepPattern_468 : decode cX12_keepPattern 468 = .ok (.iaload, 1) := by decide +kernel
theorem dX12_keepPattern_469 : decode cX12_keepPattern 469 = .ok (.goto 12, 3) := by decide +kernel
theorem dX12_keepPattern_472 : decode cX12_keepPattern 472 = .ok (.aload_n 0, 1) := by decide +kernel
theorem dX12_keepPattern_473 : decode cX12_keepPattern 473 = .ok (.getfield 62, 3) := by decide +kernel
theorem dX12_keepPattern_476 : decode cX12_keepPattern 476 = .ok (.iload_n 3, 1) := by decide +kernel
theorem dX12_keepPattern_477 : decode cX12_keepPattern 477 = .ok (.iload 6, 2) := by decide +kernel
theorem dX12_keepPattern_479 : decode cX12_keepPattern 479 = .ok (.iadd, 1) := by decide +kernel
theorem dX12_keepPattern_480 : decode cX12_keepPattern 480 = .ok (.iaload, 1) := by decide +kernel
theorem dX12_keepPattern_481 : decode cX12_keepPattern 481 = .ok (.iastore, 1) := by decide +kernel
theorem dX12_keepPattern_482 : decode cX12_keepPattern 482 = .ok (.iinc 6 (-1), 3) := by decide +kernel
theorem dX12_keepPattern_485 : decode cX12_keepPattern 485 = .ok (.goto (-66), 3) := by decide +kernel
theorem dX12_keepPattern_488 : decode cX12_keepPattern 488 = .ok (.iload 4, 2) := by decide +kernel
theorem dX12_keepPattern_490 : decode cX12_keepPattern 490 = .ok (.iconst 1, 1) := by decide +kernel
theorem dX12_keepPattern_491 : decode cX12_keepPattern 491 = .ok (.isub, 1) := by decide +kernel
theorem dX12_keepPattern_492 : decode cX12_keepPattern 492 = .ok (.istore 6, 2) := by decide +kernel
theorem dX12_keepPattern_494 : decode cX12_keepPattern 494 = .ok (.iload 6, 2) := by decide +kernel
theorem dX12_keepPattern_496 : decode cX12_keepPattern 496 = .ok (.ifCond .lt 16, 3) := by decide +kernel
theorem dX12_keepPattern_499 : decode cX12_keepPattern 499 = .ok (.aload_n 0, 1) := by decide +kernel
theorem dX12_keepPattern_500 : decode cX12_keepPattern 500 = .ok (.iload_n 1, 1) := by decide +kernel
theorem dX12_keepPattern_501 : decode cX12_keepPattern 501 = .ok (.iload 6, 2) := by decide +kernel
theorem dX12_keepPattern_503 : decode cX12_keepPattern 503 = .ok (.invokevirtual 435, 3) := by decide +kernel
theorem dX12_keepPattern_506 : decode cX12_keepPattern 506 = .ok (.iinc 6 (-1), 3) := by decide +kernel
theorem dX12_keepPattern_509 : decode cX12_keepPattern 509 = .ok (.goto (-15), 3) := by decide +kernel
theorem dX12_keepPattern_512 : decode cX12_keepPattern 512 = .ok (.aload_n 0, 1) := by decide +kernel
theorem dX12_keepPattern_513 : decode cX12_keepPattern 513 = .ok (.getfield 31, 3) := by decide +kernel
theorem dX12_keepPattern_516 : decode cX12_keepPattern 516 = .ok (.iload_n 1, 1) := by decide +kernel
theorem dX12_keepPattern_517 : decode cX12_keepPattern 517 = .ok (.iconst 1, 1) := by decide +kernel
theorem dX12_keepPattern_518 : decode cX12_keepPattern 518 = .ok (.bastore, 1) := by decide +kernel
theorem dX12_keepPattern_519 : decode cX12_keepPattern 519 = .ok (.return_, 1) := by decide +kernel
theorem dX12_keepSpan_0 : decode cX12_keepSpan 0 = .ok (.aload_n 0, 1) := by decide +kernel
theorem dX12_keepSpan_1 : decode cX12_keepSpan 1 = .ok (.iload_n 2, 1) := by decide +kernel
theorem dX12_keepSpan_2 : decode cX12_keepSpan 2 = .ok (.putfield 664, 3) := by decide +kernel
theorem dX12_keepSpan_5 : decode cX12_keepSpan 5 = .ok (.aload_n 0, 1) := by decide +kernel
theorem dX12_keepSpan_6 : decode cX12_keepSpan 6 = .ok (.aload_n 0, 1) := by decide +kernel
theorem dX12_keepSpan_7 : decode cX12_keepSpan 7 = .ok (.getfield 38, 3) := by decide +kernel
theorem dX12_keepSpan_10 : decode cX12_keepSpan 10 = .ok (.iload_n 1, 1) := by decide +kernel
theorem dX12_keepSpan_11 : decode cX12_keepSpan 11 = .ok (.iaload, 1) := by decide +kernel
theorem dX12_keepSpan_12 : decode cX12_keepSpan 12 = .ok (.putfield 667, 3) := by decide +kernel
theorem dX12_keepSpan_15 : decode cX12_keepSpan 15 = .ok (.iconst 0, 1) := by decide +kernel
theorem dX12_keepSpan_16 : decode cX12_keepSpan 16 = .ok (.istore_n 3, 1) := by decide +kernel
theorem dX12_keepSpan_17 : decode cX12_keepSpan 17 = .ok (.iload_n 3, 1) := by decide +kernel
theorem dX12_keepSpan_18 : decode cX12_keepSpan 18 = .ok (.bipush 20, 2) := by decide +kernel
theorem dX12_keepSpan_20 : decode cX12_keepSpan 20 = .ok (.if_icmp .ge 21, 3) := by decide +kernel
theorem dX12_keepSpan_23 : decode cX12_keepSpan 23 = .ok (.aload_n 0, 1) := by decide +kernel
theorem dX12_keepSpan_24 : decode cX12_keepSpan 24 = .ok (.getfield 234, 3) := by decide +kernel
theorem dX12_keepSpan_27 : decode cX12_keepSpan 27 = .ok (.iload_n 3, 1) := by decide +kernel
theorem dX12_keepSpan_28 : decode cX12_keepSpan 28 = .ok (.aload_n 0, 1) := by decide +kernel
theorem dX12_keepSpan_29 : decode cX12_keepSpan 29 = .ok (.getfield 231, 3) := by decide +kernel
theorem dX12_keepSpan_32 : decode cX12_keepSpan 32 = .ok (.iload_n 3, 1) := by decide +kernel
theorem dX12_keepSpan_33 : decode cX12_keepSpan 33 = .ok (.iaload, 1) := by decide +kernel
theorem dX12_keepSpan_34 : decode cX12_keepSpan 34 = .ok (.iastore, 1) := by decide +kernel
theorem dX12_keepSpan_35 : decode cX12_keepSpan 35 = .ok (.iinc 3 1, 3) := by decide +kernel
theorem dX12_keepSpan_38 : decode cX12_keepSpan 38 = .ok (.goto (-21), 3) := by decide +kernel
theorem dX12_keepSpan_41 : decode cX12_keepSpan 41 = .ok (.return_, 1) := by decide +kernel
theorem dX12_kindBars_0 : decode cX12_kindBars 0 = .ok (.sipush 220, 3) := by decide +kernel
theorem dX12_kindBars_3 : decode cX12_kindBars 3 = .ok (.iload_n 1, 1) := by decide +kernel
theorem dX12_kindBars_4 : decode cX12_kindBars 4 = .ok (.imul, 1) := by decide +kernel
theorem dX12_kindBars_5 : decode cX12_kindBars 5 = .ok (.istore_n 3, 1) := by decide +kernel
theorem dX12_kindBars_6 : decode cX12_kindBars 6 = .ok (.iconst 0, 1) := by decide +kernel
theorem dX12_kindBars_7 : decode cX12_kindBars 7 = .ok (.istore 4, 2) := by decide +kernel
theorem dX12_kindBars_9 : decode cX12_kindBars 9 = .ok (.iconst 0, 1) := by decide +kernel
theorem dX12_kindBars_10 : decode cX12_kindBars 10 = .ok (.istore 5, 2) := by decide +kernel
theorem dX12_kindBars_12 : decode cX12_kindBars 12 = .ok (.iload 5, 2) := by decide +kernel
theorem dX12_kindBars_14 : decode cX12_kindBars 14 = .ok (.aload_n 0, 1) := by decide +kernel
theorem dX12_kindBars_15 : decode cX12_kindBars 15 = .ok (.getfield 35, 3) := by decide +kernel
theorem dX12_kindBars_18 : decode cX12_kindBars 18 = .ok (.iload_n 1, 1) := by decide +kernel
theorem dX12_kindBars_19 : decode cX12_kindBars 19 = .ok (.iaload, 1) := by decide +kernel
theorem dX12_kindBars_20 : decode cX12_kindBars 20 = .ok (.if_icmp .ge 130, 3) := by decide +kernel
theorem dX12_kindBars_23 : decode cX12_kindBars 23 = .ok (.iload_n 2, 1) := by decide +kernel
theorem dX12_kindBars_24 : decode cX12_kindBars 24 = .ok (.ifCond .le 126, 3) := by decide +kernel
theorem dX12_kindBars_27 : decode cX12_kindBars 27 = .ok (.iload_n 3, 1) := by decide +kernel
theorem dX12_kindBars_28 : decode cX12_kindBars 28 = .ok (.iload 5, 2) := by decide +kernel
theorem dX12_kindBars_30 : decode cX12_kindBars 30 = .ok (.iadd, 1) := by decide +kernel
theorem dX12_kindBars_31 : decode cX12_kindBars 31 = .ok (.istore 6, 2) := by decide +kernel
theorem dX12_kindBars_33 : decode cX12_kindBars 33 = .ok (.aload_n 0, 1) := by decide +kernel
theorem dX12_kindBars_34 : decode cX12_kindBars 34 = .ok (.getfield 44, 3) := by decide +kernel
theorem dX12_kindBars_37 : decode cX12_kindBars 37 = .ok (.iload 6, 2) := by decide +kernel
theorem dX12_kindBars_39 : decode cX12_kindBars 39 = .ok (.iaload, 1) := by decide +kernel
theorem dX12_kindBars_40 : decode cX12_kindBars 40 = .ok (.istore 7, 2) := by decide +kernel
theorem dX12_kindBars_42 : decode cX12_kindBars 42 = .ok (.iload 4, 2) := by decide +kernel
theorem dX12_kindBars_44 : decode cX12_kindBars 44 = .ok (.ifCond .ne 34, 3) := by decide +kernel
theorem dX12_kindBars_47 : decode cX12_kindBars 47 = .ok (.iload 7, 2) := by decide +kernel
theorem dX12_kindBars_49 : decode cX12_kindBars 49 = .ok (.iconst 4, 1) := by decide +kernel
theorem dX12_kindBars_50 : decode cX12_kindBars 50 = .ok (.if_icmp .eq 28, 3) := by decide +kernel
theorem dX12_kindBars_53 : decode cX12_kindBars 53 = .ok (.iload 7, 2) := by decide +kernel
theorem dX12_kindBars_55 : decode cX12_kindBars 55 = .ok (.bipush 9, 2) := by decide +kernel
theorem dX12_kindBars_57 : decode cX12_kindBars 57 = .ok (.if_icmp .eq 21, 3) := by decide +kernel
theorem dX12_kindBars_60 : decode cX12_kindBars 60 = .ok (.iload 7, 2) := by decide +kernel
theorem dX12_kindBars_62 : decode cX12_kindBars 62 = .ok (.bipush 10, 2) := by decide +kernel
theorem dX12_kindBars_64 : decode cX12_kindBars 64 = .ok (.if_icmp .eq 14, 3) := by decide +kernel
theorem dX12_kindBars_67 : decode cX12_kindBars 67 = .ok (.iload 7, 2) := by decide +kernel
theorem dX12_kindBars_69 : decode cX12_kindBars 69 = .ok (.iconst 3, 1) := by decide +kernel
theorem dX12_kindBars_70 : decode cX12_kindBars 70 = .ok (.if_icmp .ne 12, 3) := by decide +kernel
theorem dX12_kindBars_73 : decode cX12_kindBars 73 = .ok (.iload_n 2, 1) := by decide +kernel
theorem dX12_kindBars_74 : decode cX12_kindBars 74 = .ok (.iconst 2, 1) := by decide +kernel
theorem dX12_kindBars_75 : decode cX12_kindBars 75 = .ok (.if_icmp .ne 7, 3) := by decide +kernel
theorem dX12_kindBars_78 : decode cX12_kindBars 78 = .ok (.iconst 1, 1) := by decide +kernel
theorem dX12_kindBars_79 : decode cX12_kindBars 79 = .ok (.goto 4, 3) := by decide +kernel
theorem dX12_kindBars_82 : decode cX12_kindBars 82 = .ok (.iconst 0, 1) := by decide +kernel
theorem dX12_kindBars_83 : decode cX12_kindBars 83 = .ok (.istore 4, 2) := by decide +kernel
theorem dX12_kindBars_85 : decode cX12_kindBars 85 = .ok (.iload 4, 2) := by decide +kernel
theorem dX12_kindBars_87 : decode cX12_kindBars 87 = .ok (.ifCond .ne 50, 3) := by decide +kernel
theorem dX12_kindBars_90 : decode cX12_kindBars 90 = .ok (.iload 7, 2) := by decide +kernel
theorem dX12_kindBars_92 : decode cX12_kindBars 92 = .ok (.bipush 7, 2) := by decide +kernel
theorem dX12_kindBars_94 : decode cX12_kindBars 94 = .ok (.if_icmp .ne 47, 3) := by decide +kernel
theorem dX12_kindBars_97 : decode cX12_kindBars 97 = .ok (.aload_n 0, 1) := by decide +kernel
theorem dX12_kindBars_98 : decode cX12_kindBars 98 = .ok (.getfield 47, 3) := by decide +kernel
theorem dX12_kindBars_101 : decode cX12_kindBars 101 = .ok (.iload 6, 2) := by decide +kernel
theorem dX12_kindBars_103 : decode cX12_kindBars 103 = .ok (.iaload, 1) := by decide +kernel
theorem dX12_kindBars_104 : decode cX12_kindBars 104 = .ok (.iconst 2, 1) := by decide +kernel
theorem dX12_kindBars_105 : decode cX12_kindBars 105 = .ok (.if_icmp .eq 32, 3) := by decide +kernel
theorem dX12_kindBars_108 : decode cX12_kindBars 108 = .ok (.aload_n 0, 1) := by decide +kernel
theorem dX12_kindBars_109 : decode cX12_kindBars 109 = .ok (.getfield 53, 3) := by decide +kernel
theorem dX12_kindBars_112 : decode cX12_kindBars 112 = .ok (.iload 6, 2) := by decide +kernel
theorem dX12_kindBars_114 : decode cX12_kindBars 114 = .ok (.iaload, 1) := by decide +kernel
theorem dX12_kindBars_115 : decode cX12_kindBars 115 = .ok (.aload_n 0, 1) := by decide +kernel
theorem dX12_kindBars_116 : decode cX12_kindBars 116 = .ok (.getfield 50, 3) := by decide +kernel
theorem dX12_kindBars_119 : decode cX12_kindBars 119 = .ok (.iload 6, 2) := by decide +kernel
theorem dX12_kindBars_121 : decode cX12_kindBars 121 = .ok (.iaload, 1) := by decide +kernel
theorem dX12_kindBars_122 : decode cX12_kindBars 122 = .ok (.if_icmp .le 19, 3) := by decide +kernel
theorem dX12_kindBars_125 : decode cX12_kindBars 125 = .ok (.aload_n 0, 1) := by decide +kernel
theorem dX12_kindBars_126 : decode cX12_kindBars 126 = .ok (.getfield 74, 3) := by decide +kernel
theorem dX12_kindBars_129 : decode cX12_kindBars 129 = .ok (.iload 6, 2) := by decide +kernel
theorem dX12_kindBars_131 : decode cX12_kindBars 131 = .ok (.iconst 1, 1) := by decide +kernel
theorem dX12_kindBars_132 : decode cX12_kindBars 132 = .ok (.iadd, 1) := by decide +kernel
theorem dX12_kindBars_133 : decode cX12_kindBars 133 = .ok (.baload, 1) := by decide +kernel
theorem dX12_kindBars_134 : decode cX12_kindBars 134 = .ok (.ifCond .eq 7, 3) := by decide +kernel
theorem dX12_kindBars_137 : decode cX12_kindBars 137 = .ok (.iconst 1, 1) := by decide +kernel
theorem dX12_kindBars_138 : decode cX12_kindBars 138 = .ok (.goto 4, 3) := by decide +kernel
theorem dX12_kindBars_141 : decode cX12_kindBars 141 = .ok (.iconst 0, 1) := by decide +kernel
theorem dX12_kindBars_142 : decode cX12_kindBars 142 = .ok (.istore 4, 2) := by decide +kernel
theorem dX12_kindBars_144 : decode cX12_kindBars 144 = .ok (.iinc 5 1, 3) := by decide +kernel
theorem dX12_kindBars_147 : decode cX12_kindBars 147 = .ok (.goto (-135), 3) := by decide +kernel
theorem dX12_kindBars_150 : decode cX12_kindBars 150 = .ok (.iload 4, 2) := by decide +kernel
theorem dX12_kindBars_152 : decode cX12_kindBars 152 = .ok (.ifCond .eq 8, 3) := by decide +kernel
theorem dX12_kindBars_155 : decode cX12_kindBars 155 = .ok (.bipush (-6), 2) := by decide +kernel
theorem dX12_kindBars_157 : decode cX12_kindBars 157 = .ok (.goto 4, 3) := by decide +kernel
theorem dX12_kindBars_160 : decode cX12_kindBars 160 = .ok (.iconst 0, 1) := by decide +kernel
theorem dX12_kindBars_161 : decode cX12_kindBars 161 = .ok (.ireturn, 1) := by decide +kernel
theorem dX12_later_0 : decode cX12_later 0 = .ok (.aload_n 0, 1) := by decide +kernel
theorem dX12_later_1 : decode cX12_later 1 = .ok (.getfield 192, 3) := by decide +kernel
theorem dX12_later_4 : decode cX12_later 4 = .ok (.aload_n 0, 1) := by decide +kernel
theorem dX12_later_5 : decode cX12_later 5 = .ok (.getfield 545, 3) := by decide +kernel
theorem dX12_later_8 : decode cX12_later 8 = .ok (.iload_n 1, 1) := by decide +kernel
theorem dX12_later_9 : decode cX12_later 9 = .ok (.iastore, 1) := by decide +kernel
theorem dX12_later_10 : decode cX12_later 10 = .ok (.aload_n 0, 1) := by decide +kernel
theorem dX12_later_11 : decode cX12_later 11 = .ok (.getfield 195, 3) := by decide +kernel
theorem dX12_later_14 : decode cX12_later 14 = .ok (.aload_n 0, 1) := by decide +kernel
theorem dX12_later_15 : decode cX12_later 15 = .ok (.getfield 545, 3) := by decide +kernel
theorem dX12_later_18 : decode cX12_later 18 = .ok (.iload_n 2, 1) := by decide +kernel
theorem dX12_later_19 : decode cX12_later 19 = .ok (.iastore, 1) := by decide +kernel
theorem dX12_later_20 : decode cX12_later 20 = .ok (.aload_n 0, 1) := by decide +kernel
theorem dX12_later_21 : decode cX12_later 21 = .ok (.getfield 198, 3) := by decide +kernel
theorem dX12_later_24 : decode cX12_later 24 = .ok (.aload_n 0, 1) := by decide +kernel
theorem dX12_later_25 : decode cX12_later 25 = .ok (.getfield 545, 3) := by decide +kernel
theorem dX12_later_28 : decode cX12_later 28 = .ok (.iload_n 3, 1) := by decide +kernel
theorem dX12_later_29 : decode cX12_later 29 = .ok (.iastore, 1) := by decide +kernel
theorem dX12_later_30 : decode cX12_later 30 = .ok (.aload_n 0, 1) := by decide +kernel
theorem dX12_later_31 : decode cX12_later 31 = .ok (.dup, 1) := by decide +kernel
theorem dX12_later_32 : decode cX12_later 32 = .ok (.getfield 545, 3) := by decide +kernel
theorem dX12_later_35 : decode cX12_later 35 = .ok (.iconst 1, 1) := by decide +kernel
theorem dX12_later_36 : decode cX12_later 36 = .ok (.iadd, 1) := by decide +kernel
theorem dX12_later_37 : decode cX12_later 37 = .ok (.putfield 545, 3) := by decide +kernel
theorem dX12_later_40 : decode cX12_later 40 = .ok (.return_, 1) := by decide +kernel
theorem dX12_least_0 : decode cX12_least 0 = .ok (.aload_n 0, 1) := by decide +kernel
theorem dX12_least_1 : decode cX12_least 1 = .ok (.iconst 0, 1) := by decide +kernel
theorem dX12_least_2 : decode cX12_least 2 = .ok (.putfield 1, 3) := by decide +kernel
theorem dX12_least_5 : decode cX12_least 5 = .ok (.aload_n 0, 1) := by decide +kernel
theorem dX12_least_6 : decode cX12_least 6 = .ok (.iload_n 1, 1) := by decide +kernel
theorem dX12_least_7 : decode cX12_least 7 = .ok (.invokevirtual 459, 3) := by decide +kernel
theorem dX12_least_10 : decode cX12_least 10 = .ok (.ifCond .eq 6, 3) := by decide +kernel
theorem dX12_least_13 : decode cX12_least 13 = .ok (.bipush (-2), 2) := by decide +kernel
theorem dX12_least_15 : decode cX12_least 15 = .ok (.ireturn, 1) := by decide +kernel
theorem dX12_least_16 : decode cX12_least 16 = .ok (.aload_n 0, 1) := by decide +kernel
theorem dX12_least_17 : decode cX12_least 17 = .ok (.iload_n 1, 1) := by decide +kernel
theorem dX12_least_18 : decode cX12_least 18 = .ok (.invokevirtual 730, 3) := by decide +kernel
theorem dX12_least_21 : decode cX12_least 21 = .ok (.istore_n 2, 1) := by decide +kernel
theorem dX12_least_22 : decode cX12_least 22 = .ok (.iload_n 2, 1) := by decide +kernel
theorem dX12_least_23 : decode cX12_least 23 = .ok (.ifCond .eq 5, 3) := by decide +kernel
theorem dX12_least_26 : decode cX12_least 26 = .ok (.iload_n 2, 1) := by decide +kernel
theorem dX12_least_27 : decode cX12_least 27 = .ok (.ireturn, 1) := by decide +kernel
theorem dX12_least_28 : decode cX12_least 28 = .ok (.iconst 0, 1) := by decide +kernel
theorem dX12_least_29 : decode cX12_least 29 = .ok (.istore_n 3, 1) := by decide +kernel
theorem dX12_least_30 : decode cX12_least 30 = .ok (.iconst 1, 1) := by decide +kernel
theorem dX12_least_31 : decode cX12_least 31 = .ok (.istore 4, 2) := by decide +kernel
theorem dX12_least_33 : decode cX12_least 33 = .ok (.iconst 0, 1) := by decide +kernel
theorem dX12_least_34 : decode cX12_least 34 = .ok (.istore 5, 2) := by decide +kernel
theorem dX12_least_36 : decode cX12_least 36 = .ok (.iload 5, 2) := by decide +kernel
theorem dX12_least_38 : decode cX12_least 38 = .ok (.aload_n 0, 1) := by decide +kernel
theorem dX12_least_39 : decode cX12_least 39 = .ok (.getfield 262, 3) := by decide +kernel
theorem dX12_least_42 : decode cX12_least 42 = .ok (.iconst 0, 1) := by decide +kernel
theorem dX12_least_43 : decode cX12_least 43 = .ok (.iaload, 1) := by decide +kernel
theorem dX12_least_44 : decode cX12_least 44 = .ok (.if_icmp .ge 31, 3) := by decide +kernel
theorem dX12_least_47 : decode cX12_least 47 = .ok (.aload_n 0, 1) := by decide +kernel
theorem dX12_least_48 : decode cX12_least 48 = .ok (.getfield 287, 3) := by decide +kernel
theorem dX12_least_51 : decode cX12_least 51 = .ok (.iload 5, 2) := by decide +kernel
theorem dX12_least_53 : decode cX12_least 53 = .ok (.aload_n 0, 1) := by decide +kernel
theorem dX12_least_54 : decode cX12_least 54 = .ok (.getfield 268, 3) := by decide +kernel
theorem dX12_least_57 : decode cX12_least 57 = .ok (.iload 5, 2) := by decide +kernel
theorem dX12_least_59 : decode cX12_least 59 = .ok (.baload, 1) := by decide +kernel
theorem dX12_least_60 : decode cX12_least 60 = .ok (.ifCond .eq 7, 3) := by decide +kernel
theorem dX12_least_63 : decode cX12_least 63 = .ok (.iconst 1, 1) := by decide +kernel
theorem dX12_least_64 : decode cX12_least 64 = .ok (.goto 4, 3) := by decide +kernel
theorem dX12_least_67 : decode cX12_least 67 = .ok (.iconst 0, 1) := by decide +kernel
theorem dX12_least_68 : decode cX12_least 68 = .ok (.iastore, 1) := by decide +kernel
theorem dX12_least_69 : decode cX12_least 69 = .ok (.iinc 5 1, 3) := by decide +kernel
theorem dX12_least_72 : decode cX12_least 72 = .ok (.goto (-36), 3) := by decide +kernel
theorem dX12_least_75 : decode cX12_least 75 = .ok (.iload_n 3, 1) := by decide +kernel
theorem dX12_least_76 : decode cX12_least 76 = .ok (.iload 4, 2) := by decide +kernel
theorem dX12_least_78 : decode cX12_least 78 = .ok (.if_icmp .eq 136, 3) := by decide +kernel
theorem dX12_least_81 : decode cX12_least 81 = .ok (.iload 4, 2) := by decide +kernel
theorem dX12_least_83 : decode cX12_least 83 = .ok (.istore_n 3, 1) := by decide +kernel
theorem dX12_least_84 : decode cX12_least 84 = .ok (.iconst 0, 1) := by decide +kernel
theorem dX12_least_85 : decode cX12_least 85 = .ok (.istore 4, 2) := by decide +kernel
theorem dX12_least_87 : decode cX12_least 87 = .ok (.iconst 0, 1) := by decide +kernel
theorem dX12_least_88 : decode cX12_least 88 = .ok (.istore 5, 2) := by decide +kernel
theorem dX12_least_90 : decode cX12_least 90 = .ok (.iload 5, 2) := by decide +kernel
theorem dX12_least_92 : decode cX12_least 92 = .ok (.aload_n 0, 1) := by decide +kernel
theorem dX12_least_93 : decode cX12_least 93 = .ok (.getfield 262, 3) := by decide +kernel
theorem dX12_least_96 : decode cX12_least 96 = .ok (.iconst 0, 1) := by decide +kernel
theorem dX12_least_97 : decode cX12_least 97 = .ok (.iaload, 1) := by decide +kernel
theorem dX12_least_98 : decode cX12_least 98 = .ok (.if_icmp .ge 79, 3) := by decide +kernel
theorem dX12_least_101 : decode cX12_least 101 = .ok (.iconst 0, 1) := by decide +kernel
theorem dX12_least_102 : decode cX12_least 102 = .ok (.istore 6, 2) := by decide +kernel
theorem dX12_least_104 : decode cX12_least 104 = .ok (.iload 6, 2) := by decide +kernel
theorem dX12_least_106 : decode cX12_least 106 = .ok (.iload 5, 2) := by decide +kernel
theorem dX12_least_108 : decode cX12_least 108 = .ok (.if_icmp .ge 20, 3) := by decide +kernel
theorem dX12_least_111 : decode cX12_least 111 = .ok (.aload_n 0, 1) := by decide +kernel
theorem dX12_least_112 : decode cX12_least 112 = .ok (.iload 6, 2) := by decide +kernel
theorem dX12_least_114 : decode cX12_least 114 = .ok (.iload 5, 2) := by decide +kernel
theorem dX12_least_116 : decode cX12_least 116 = .ok (.invokevirtual 733, 3) := by decide +kernel
theorem dX12_least_119 : decode cX12_least 119 = .ok (.ifCond .ne 9, 3) := by decide +kernel
theorem dX12_least_122 : decode cX12_least 122 = .ok (.iinc 6 1, 3) := by decide +kernel
theorem dX12_least_125 : decode cX12_least 125 = .ok (.goto (-21), 3) := by decide +kernel
theorem dX12_least_128 : decode cX12_least 128 = .ok (.aload_n 0, 1) := by decide +kernel
theorem dX12_least_129 : decode cX12_least 129 = .ok (.getfield 290, 3) := by decide +kernel
theorem dX12_least_132 : decode cX12_least 132 = .ok (.iload 5, 2) := by decide +kernel
theorem dX12_least_134 : decode cX12_least 134 = .ok (.iload 6, 2) := by decide +kernel
theorem dX12_least_136 : decode cX12_least 136 = .ok (.iload 5, 2) := by decide +kernel
theorem dX12_least_138 : decode cX12_least 138 = .ok (.if_icmp .ne 8, 3) := by decide +kernel
theorem dX12_least_141 : decode cX12_least 141 = .ok (.iload 4, 2) := by decide +kernel
theorem dX12_least_143 : decode cX12_least 143 = .ok (.goto 10, 3) := by decide +kernel
theorem dX12_least_146 : decode cX12_least 146 = .ok (.aload_n 0, 1) := by decide +kernel
theorem dX12_least_147 : decode cX12_least 147 = .ok (.getfield 290, 3) := by decide +kernel
theorem dX12_least_150 : decode cX12_least 150 = .ok (.iload 6, 2) := by decide +kernel
theorem dX12_least_152 : decode cX12_least 152 = .ok (.iaload, 1) := by decide +kernel
theorem dX12_least_153 : decode cX12_least 153 = .ok (.iastore, 1) := by decide +kernel
theorem dX12_least_154 : decode cX12_least 154 = .ok (.iload 4, 2) := by decide +kernel
theorem dX12_least_156 : decode cX12_least 156 = .ok (.iload 6, 2) := by decide +kernel
theorem dX12_least_158 : decode cX12_least 158 = .ok (.iload 5, 2) := by decide +kernel
theorem dX12_least_160 : decode cX12_least 160 = .ok (.if_icmp .ne 7, 3) := by decide +kernel
theorem dX12_least_163 : decode cX12_least 163 = .ok (.iconst 1, 1) := by decide +kernel
theorem dX12_least_164 : decode cX12_least 164 = .ok (.goto 4, 3) := by decide +kernel
theorem dX12_least_167 : decode cX12_least 167 = .ok (.iconst 0, 1) := by decide +kernel
theorem dX12_least_168 : decode cX12_least 168 = .ok (.iadd, 1) := by decide +kernel
theorem dX12_least_169 : decode cX12_least 169 = .ok (.istore 4, 2) := by decide +kernel
theorem dX12_least_171 : decode cX12_least 171 = .ok (.iinc 5 1, 3) := by decide +kernel
theorem dX12_least_174 : decode cX12_least 174 = .ok (.goto (-84), 3) := by decide +kernel
theorem dX12_least_177 : decode cX12_least 177 = .ok (.iconst 0, 1) := by decide +kernel
theorem dX12_least_178 : decode cX12_least 178 = .ok (.istore 5, 2) := by decide +kernel
theorem dX12_least_180 : decode cX12_least 180 = .ok (.iload 5, 2) := by decide +kernel
theorem dX12_least_182 : decode cX12_least 182 = .ok (.aload_n 0, 1) := by decide +kernel
theorem dX12_least_183 : decode cX12_least 183 = .ok (.getfield 262, 3) := by decide +kernel
theorem dX12_least_186 : decode cX12_least 186 = .ok (.iconst 0, 1) := by decide +kernel
theorem dX12_least_187 : decode cX12_least 187 = .ok (.iaload, 1) := by decide +kernel
theorem dX12_least_188 : decode cX12_least 188 = .ok (.if_icmp .ge 23, 3) := by decide +kernel
theorem dX12_least_191 : decode cX12_least 191 = .ok (.aload_n 0, 1) := by decide +kernel
theorem dX12_least_192 : decode cX12_least 192 = .ok (.getfield 287, 3) := by decide +kernel
theorem dX12_least_195 : decode cX12_least 195 = .ok (.iload 5, 2) := by decide +kernel
theorem dX12_least_197 : decode cX12_least 197 = .ok (.aload_n 0, 1) := by decide +kernel
theorem dX12_least_198 : decode cX12_least 198 = .ok (.getfield 290, 3) := by decide +kernel
theorem dX12_least_201 : decode cX12_least 201 = .ok (.iload 5, 2) := by decide +kernel
theorem dX12_least_203 : decode cX12_least 203 = .ok (.iaload, 1) := by decide +kernel
theorem dX12_least_204 : decode cX12_least 204 = .ok (.iastore, 1) := by decide +kernel
theorem dX12_least_205 : decode cX12_least 205 = .ok (.iinc 5 1, 3) := by decide +kernel
theorem dX12_least_208 : decode cX12_least 208 = .ok (.goto (-28), 3) := by decide +kernel
theorem dX12_least_211 : decode cX12_least 211 = .ok (.goto (-136), 3) := by decide +kernel
theorem dX12_least_214 : decode cX12_least 214 = .ok (.iload 4, 2) := by decide +kernel
theorem dX12_least_216 : decode cX12_least 216 = .ok (.ireturn, 1) := by decide +kernel
theorem dX12_looped_0 : decode cX12_looped 0 = .ok (.aload_n 0, 1) := by decide +kernel
theorem dX12_looped_1 : decode cX12_looped 1 = .ok (.aload_n 0, 1) := by decide +kernel
theorem dX12_looped_2 : decode cX12_looped 2 = .ok (.getfield 362, 3) := by decide +kernel
theorem dX12_looped_5 : decode cX12_looped 5 = .ok (.invokevirtual 349, 3) := by decide +kernel
theorem dX12_looped_8 : decode cX12_looped 8 = .ok (.istore_n 2, 1) := by decide +kernel
theorem dX12_looped_9 : decode cX12_looped 9 = .ok (.aload_n 0, 1) := by decide +kernel
theorem dX12_looped_10 : decode cX12_looped 10 = .ok (.getfield 320, 3) := by decide +kernel
theorem dX12_looped_13 : decode cX12_looped 13 = .ok (.ifCond .gt 27, 3) := by decide +kernel
theorem dX12_looped_16 : decode cX12_looped 16 = .ok (.iload_n 2, 1) := by decide +kernel
theorem dX12_looped_17 : decode cX12_looped 17 = .ok (.bipush 42, 2) := by decide +kernel
theorem dX12_looped_19 : decode cX12_looped 19 = .ok (.if_icmp .eq 23, 3) := by decide +kernel
theorem dX12_looped_22 : decode cX12_looped 22 = .ok (.iload_n 2, 1) := by decide +kernel
theorem dX12_looped_23 : decode cX12_looped 23 = .ok (.bipush 43, 2) := by decide +kernel
theorem dX12_looped_25 : decode cX12_looped 25 = .ok (.if_icmp .eq 17, 3) := by decide +kernel
theorem dX12_looped_28 : decode cX12_looped 28 = .ok (.iload_n 2, 1) := by decide +kernel
theorem dX12_looped_29 : decode cX12_looped 29 = .ok (.bipush 63, 2) := by decide +kernel
theorem dX12_looped_31 : decode cX12_looped 31 = .ok (.if_icmp .eq 11, 3) := by decide +kernel
theorem dX12_looped_34 : decode cX12_looped 34 = .ok (.iload_n 2, 1) := by decide +kernel
theorem dX12_looped_35 : decode cX12_looped 35 = .ok (.bipush 123, 2) := by decide +kernel
theorem dX12_looped_37 : decode cX12_looped 37 = .ok (.if_icmp .eq 5, 3) := by decide +kernel
theorem dX12_looped_40 : decode cX12_looped 40 = .ok (.iload_n 1, 1) := by decide +kernel
theorem dX12_looped_41 : decode cX12_looped 41 = .ok (.ireturn, 1) := by decide +kernel
theorem dX12_looped_42 : decode cX12_looped 42 = .ok (.aload_n 0, 1) := by decide +kernel
theorem dX12_looped_43 : decode cX12_looped 43 = .ok (.aload_n 0, 1) := by decide +kernel
theorem dX12_looped_44 : decode cX12_looped 44 = .ok (.getfield 362, 3) := by decide +kernel
theorem dX12_looped_47 : decode cX12_looped 47 = .ok (.invokevirtual 365, 3) := by decide +kernel
theorem dX12_looped_50 : decode cX12_looped 50 = .ok (.aload_n 0, 1) := by decide +kernel
theorem dX12_looped_51 : decode cX12_looped 51 = .ok (.iload_n 2, 1) := by decide +kernel
theorem dX12_looped_52 : decode cX12_looped 52 = .ok (.bipush 43, 2) := by decide +kernel
theorem dX12_looped_54 : decode cX12_looped 54 = .ok (.if_icmp .ne 7, 3) := by decide +kernel
theorem dX12_looped_57 : decode cX12_looped 57 = .ok (.iconst 1, 1) := by decide +kernel
theorem dX12_looped_58 : decode cX12_looped 58 = .ok (.goto 4, 3) := by decide +kernel
theorem dX12_looped_61 : decode cX12_looped 61 = .ok (.iconst 0, 1) := by decide +kernel
theorem dX12_looped_62 : decode cX12_looped 62 = .ok (.putfield 356, 3) := by decide +kernel
theorem dX12_looped_65 : decode cX12_looped 65 = .ok (.aload_n 0, 1) := by decide +kernel
theorem dX12_looped_66 : decode cX12_looped 66 = .ok (.iload_n 2, 1) := by decide +kernel
theorem dX12_looped_67 : decode cX12_looped 67 = .ok (.bipush 63, 2) := by decide +kernel
theorem dX12_looped_69 : decode cX12_looped 69 = .ok (.if_icmp .ne 7, 3) := by decide +kernel
theorem dX12_looped_72 : decode cX12_looped 72 = .ok (.iconst 1, 1) := by decide +kernel
theorem dX12_looped_73 : decode cX12_looped 73 = .ok (.goto 4, 3) := by decide +kernel
theorem dX12_looped_76 : decode cX12_looped 76 = .ok (.iconst (-1), 1) := by decide +kernel
theorem dX12_looped_77 : decode cX12_looped 77 = .ok (.putfield 359, 3) := by decide +kernel
theorem dX12_looped_80 : decode cX12_looped 80 = .ok (.iload_n 2, 1) := by decide +kernel
theorem dX12_looped_81 : decode cX12_looped 81 = .ok (.bipush 123, 2) := by decide +kernel
theorem dX12_looped_83 : decode cX12_looped 83 = .ok (.if_icmp .ne 82, 3) := by decide +kernel
theorem dX12_looped_86 : decode cX12_looped 86 = .ok (.aload_n 0, 1) := by decide +kernel
theorem dX12_looped_87 : decode cX12_looped 87 = .ok (.aload_n 0, 1) := by decide +kernel
theorem dX12_looped_88 : decode cX12_looped 88 = .ok (.getfield 362, 3) := by decide +kernel
theorem dX12_looped_91 : decode cX12_looped 91 = .ok (.iconst 1, 1) := by decide +kernel
theorem dX12_looped_92 : decode cX12_looped 92 = .ok (.iadd, 1) := by decide +kernel
theorem dX12_looped_93 : decode cX12_looped 93 = .ok (.iconst 0, 1) := by decide +kernel
theorem dX12_looped_94 : decode cX12_looped 94 = .ok (.invokevirtual 369, 3) := by decide +kernel
theorem dX12_looped_97 : decode cX12_looped 97 = .ok (.istore_n 3, 1) := by decide +kernel
theorem dX12_looped_98 : decode cX12_looped 98 = .ok (.aload_n 0, 1) := by decide +kernel
theorem dX12_looped_99 : decode cX12_looped 99 = .ok (.getfield 320, 3) := by decide +kernel
theorem dX12_looped_102 : decode cX12_looped 102 = .ok (.ifCond .ne 42, 3) := by decide +kernel
theorem dX12_looped_105 : decode cX12_looped 105 = .ok (.aload_n 0, 1) := by decide +kernel
theorem dX12_looped_106 : decode cX12_looped 106 = .ok (.iload_n 3, 1) := by decide +kernel
theorem dX12_looped_107 : decode cX12_looped 107 = .ok (.invokevirtual 349, 3) := by decide +kernel
theorem dX12_looped_110 : decode cX12_looped 110 = .ok (.bipush 44, 2) := by decide +kernel
theorem dX12_looped_112 : decode cX12_looped 112 = .ok (.if_icmp .ne 32, 3) := by decide +kernel
theorem dX12_looped_115 : decode cX12_looped 115 = .ok (.iinc 3 1, 3) := by decide +kernel
theorem dX12_looped_118 : decode cX12_looped 118 = .ok (.aload_n 0, 1) := by decide +kernel
theorem dX12_looped_119 : decode cX12_looped 119 = .ok (.iload_n 3, 1) := by decide +kernel
theorem dX12_looped_120 : decode cX12_looped 120 = .ok (.invokevirtual 349, 3) := by decide +kernel
theorem dX12_looped_123 : decode cX12_looped 123 = .ok (.invokestatic 15, 3) := by decide +kernel
theorem dX12_looped_126 : decode cX12_looped 126 = .ok (.ifCond .eq 13, 3) := by decide +kernel
theorem dX12_looped_129 : decode cX12_looped 129 = .ok (.aload_n 0, 1) := by decide +kernel
theorem dX12_looped_130 : decode cX12_looped 130 = .ok (.iload_n 3, 1) := by decide +kernel
theorem dX12_looped_131 : decode cX12_looped 131 = .ok (.iconst 1, 1) := by decide +kernel
theorem dX12_looped_132 : decode cX12_looped 132 = .ok (.invokevirtual 369, 3) := by decide +kernel
theorem dX12_looped_135 : decode cX12_looped 135 = .ok (.istore_n 3, 1) := by decide +kernel
theorem dX12_looped_136 : decode cX12_looped 136 = .ok (.goto 8, 3) := by decide +kernel
theorem dX12_looped_139 : decode cX12_looped 139 = .ok (.aload_n 0, 1) := by decide +kernel
theorem dX12_looped_140 : decode cX12_looped 140 = .ok (.iconst (-1), 1) := by decide +kernel
theorem dX12_looped_141 : decode cX12_looped 141 = .ok (.putfield 359, 3) := by decide +kernel
theorem dX12_looped_144 : decode cX12_looped 144 = .ok (.aload_n 0, 1) := by decide +kernel
theorem dX12_looped_145 : decode cX12_looped 145 = .ok (.iload_n 3, 1) := by decide +kernel
theorem dX12_looped_146 : decode cX12_looped 146 = .ok (.invokevirtual 349, 3) := by decide +kernel
theorem dX12_looped_149 : decode cX12_looped 149 = .ok (.bipush 125, 2) := by decide +kernel
theorem dX12_looped_151 : decode cX12_looped 151 = .ok (.if_icmp .eq 9, 3) := by decide +kernel
theorem dX12_looped_154 : decode cX12_looped 154 = .ok (.aload_n 0, 1) := by decide +kernel
theorem dX12_looped_155 : decode cX12_looped 155 = .ok (.iconst 1, 1) := by decide +kernel
theorem dX12_looped_156 : decode cX12_looped 156 = .ok (.iload_n 3, 1) := by decide +kernel
theorem dX12_looped_157 : decode cX12_looped 157 = .ok (.invokevirtual 345, 3) := by decide +kernel
theorem dX12_looped_160 : decode cX12_looped 160 = .ok (.aload_n 0, 1) := by decide +kernel
theorem dX12_looped_161 : decode cX12_looped 161 = .ok (.iload_n 3, 1) := by decide +kernel
theorem dX12_looped_162 : decode cX12_looped 162 = .ok (.putfield 362, 3) := by decide +kernel
theorem dX12_looped_165 : decode cX12_looped 165 = .ok (.aload_n 0, 1) := by decide +kernel
theorem dX12_looped_166 : decode cX12_looped 166 = .ok (.dup, 1) := by decide +kernel
theorem dX12_looped_167 : decode cX12_looped 167 = .ok (.getfield 362, 3) := by decide +kernel
theorem dX12_looped_170 : decode cX12_looped 170 = .ok (.iconst 1, 1) := by decide +kernel
theorem dX12_looped_171 : decode cX12_looped 171 = .ok (.iadd, 1) := by decide +kernel
theorem dX12_looped_172 : decode cX12_looped 172 = .ok (.putfield 362, 3) := by decide +kernel
theorem dX12_looped_175 : decode cX12_looped 175 = .ok (.aload_n 0, 1) := by decide +kernel
theorem dX12_looped_176 : decode cX12_looped 176 = .ok (.aload_n 0, 1) := by decide +kernel
theorem dX12_looped_177 : decode cX12_looped 177 = .ok (.getfield 362, 3) := by decide +kernel
theorem dX12_looped_180 : decode cX12_looped 180 = .ok (.invokevirtual 349, 3) := by decide +kernel
theorem dX12_looped_183 : decode cX12_looped 183 = .ok (.bipush 63, 2) := by decide +kernel
theorem dX12_looped_185 : decode cX12_looped 185 = .ok (.if_icmp .ne 7, 3) := by decide +kernel
theorem dX12_looped_188 : decode cX12_looped 188 = .ok (.iconst 1, 1) := by decide +kernel
theorem dX12_looped_189 : decode cX12_looped 189 = .ok (.goto 21, 3) := by decide +kernel
theorem dX12_looped_192 : decode cX12_looped 192 = .ok (.aload_n 0, 1) := by decide +kernel
theorem dX12_looped_193 : decode cX12_looped 193 = .ok (.aload_n 0, 1) := by decide +kernel
theorem dX12_looped_194 : decode cX12_looped 194 = .ok (.getfield 362, 3) := by decide +kernel
theorem dX12_looped_197 : decode cX12_looped 197 = .ok (.invokevirtual 349, 3) := by decide +kernel
theorem dX12_looped_200 : decode cX12_looped 200 = .ok (.bipush 43, 2) := by decide +kernel
theorem dX12_looped_202 : decode cX12_looped 202 = .ok (.if_icmp .ne 7, 3) := by decide +kernel
theorem dX12_looped_205 : decode cX12_looped 205 = .ok (.iconst 2, 1) := by decide +kernel
theorem dX12_looped_206 : decode cX12_looped 206 = .ok (.goto 4, 3) := by decide +kernel
theorem dX12_looped_209 : decode cX12_looped 209 = .ok (.iconst 0, 1) := by decide +kernel
theorem dX12_looped_210 : decode cX12_looped 210 = .ok (.istore_n 3, 1) := by decide +kernel
theorem dX12_looped_211 : decode cX12_looped 211 = .ok (.aload_n 0, 1) := by decide +kernel
theorem dX12_looped_212 : decode cX12_looped 212 = .ok (.dup, 1) := by decide +kernel
theorem dX12_looped_213 : decode cX12_looped 213 = .ok (.getfield 362, 3) := by decide +kernel
theorem dX12_looped_216 : decode cX12_looped 216 = .ok (.iload_n 3, 1) := by decide +kernel
theorem dX12_looped_217 : decode cX12_looped 217 = .ok (.ifCond .le 7, 3) := by decide +kernel
theorem dX12_looped_220 : decode cX12_looped 220 = .ok (.iconst 1, 1) := by decide +kernel
theorem dX12_looped_221 : decode cX12_looped 221 = .ok (.goto 4, 3) := by decide +kernel
theorem dX12_looped_224 : decode cX12_looped 224 = .ok (.iconst 0, 1) := by decide +kernel
theorem dX12_looped_225 : decode cX12_looped 225 = .ok (.iadd, 1) := by decide +kernel
theorem dX12_looped_226 : decode cX12_looped 226 = .ok (.putfield 362, 3) := by decide +kernel
theorem dX12_looped_229 : decode cX12_looped 229 = .ok (.aload_n 0, 1) := by decide +kernel
theorem dX12_looped_230 : decode cX12_looped 230 = .ok (.bipush 7, 2) := by decide +kernel
theorem dX12_looped_232 : decode cX12_looped 232 = .ok (.iload_n 3, 1) := by decide +kernel
theorem dX12_looped_233 : decode cX12_looped 233 = .ok (.iload_n 1, 1) := by decide +kernel
theorem dX12_looped_234 : decode cX12_looped 234 = .ok (.invokevirtual 373, 3) := by decide +kernel
theorem dX12_looped_237 : decode cX12_looped 237 = .ok (.istore 4, 2) := by decide +kernel
theorem dX12_looped_239 : decode cX12_looped 239 = .ok (.aload_n 0, 1) := by decide +kernel
theorem dX12_looped_240 : decode cX12_looped 240 = .ok (.getfield 92, 3) := by decide +kernel
theorem dX12_looped_243 : decode cX12_looped 243 = .ok (.iload 4, 2) := by decide +kernel
theorem dX12_looped_245 : decode cX12_looped 245 = .ok (.aload_n 0, 1) := by decide +kernel
theorem dX12_looped_246 : decode cX12_looped 246 = .ok (.getfield 356, 3) := by decide +kernel
theorem dX12_looped_249 : decode cX12_looped 249 = .ok (.iastore, 1) := by decide +kernel
theorem dX12_looped_250 : decode cX12_looped 250 = .ok (.aload_n 0, 1) := by decide +kernel
theorem dX12_looped_251 : decode cX12_looped 251 = .ok (.getfield 95, 3) := by decide +kernel
theorem dX12_looped_254 : decode cX12_looped 254 = .ok (.iload 4, 2) := by decide +kernel
theorem dX12_looped_256 : decode cX12_looped 256 = .ok (.aload_n 0, 1) := by decide +kernel
theorem dX12_looped_257 : decode cX12_looped 257 = .ok (.getfield 359, 3) := by decide +kernel
theorem dX12_looped_260 : decode cX12_looped 260 = .ok (.iastore, 1) := by decide +kernel
theorem dX12_looped_261 : decode cX12_looped 261 = .ok (.iload 4, 2) := by decide +kernel
theorem dX12_looped_263 : decode cX12_looped 263 = .ok (.ireturn, 1) := by decide +kernel
theorem dX12_made_0 : decode cX12_made 0 = .ok (.aload_n 0, 1) := by decide +kernel
theorem dX12_made_1 : decode cX12_made 1 = .ok (.getfield 326, 3) := by decide +kernel
theorem dX12_made_4 : decode cX12_made 4 = .ok (.istore_n 3, 1) := by decide +kernel
theorem dX12_made_5 : decode cX12_made 5 = .ok (.aload_n 0, 1) := by decide +kernel
theorem dX12_made_6 : decode cX12_made 6 = .ok (.dup, 1) := by decide +kernel
theorem dX12_made_7 : decode cX12_made 7 = .ok (.getfield 326, 3) := by decide +kernel
theorem dX12_made_10 : decode cX12_made 10 = .ok (.iconst 1, 1) := by decide +kernel
theorem dX12_made_11 : decode cX12_made 11 = .ok (.iadd, 1) := by decide +kernel
theorem dX12_made_12 : decode cX12_made 12 = .ok (.putfield 326, 3) := by decide +kernel
theorem dX12_made_15 : decode cX12_made 15 = .ok (.aload_n 0, 1) := by decide +kernel
theorem dX12_made_16 : decode cX12_made 16 = .ok (.getfield 86, 3) := by decide +kernel
theorem dX12_made_19 : decode cX12_made 19 = .ok (.iload_n 3, 1) := by decide +kernel
theorem dX12_made_20 : decode cX12_made 20 = .ok (.iload_n 1, 1) := by decide +kernel
theorem dX12_made_21 : decode cX12_made 21 = .ok (.iastore, 1) := by decide +kernel
theorem dX12_made_22 : decode cX12_made 22 = .ok (.aload_n 0, 1) := by decide +kernel
theorem dX12_made_23 : decode cX12_made 23 = .ok (.getfield 89, 3) := by decide +kernel
theorem dX12_made_26 : decode cX12_made 26 = .ok (.iload_n 3, 1) := by decide +kernel
theorem dX12_made_27 : decode cX12_made 27 = .ok (.iload_n 2, 1) := by decide +kernel
theorem dX12_made_28 : decode cX12_made 28 = .ok (.iastore, 1) := by decide +kernel
theorem dX12_made_29 : decode cX12_made 29 = .ok (.aload_n 0, 1) := by decide +kernel
theorem dX12_made_30 : decode cX12_made 30 = .ok (.getfield 92, 3) := by decide +kernel
theorem dX12_made_33 : decode cX12_made 33 = .ok (.iload_n 3, 1) := by decide +kernel
theorem dX12_made_34 : decode cX12_made 34 = .ok (.iconst 0, 1) := by decide +kernel
theorem dX12_made_35 : decode cX12_made 35 = .ok (.iastore, 1) := by decide +kernel
theorem dX12_made_36 : decode cX12_made 36 = .ok (.aload_n 0, 1) := by decide +kernel
theorem dX12_made_37 : decode cX12_made 37 = .ok (.getfield 95, 3) := by decide +kernel
theorem dX12_made_40 : decode cX12_made 40 = .ok (.iload_n 3, 1) := by decide +kernel
theorem dX12_made_41 : decode cX12_made 41 = .ok (.iconst 0, 1) := by decide +kernel
theorem dX12_made_42 : decode cX12_made 42 = .ok (.iastore, 1) := by decide +kernel
theorem dX12_made_43 : decode cX12_made 43 = .ok (.aload_n 0, 1) := by decide +kernel
theorem dX12_made_44 : decode cX12_made 44 = .ok (.getfield 98, 3) := by decide +kernel
theorem dX12_made_47 : decode cX12_made 47 = .ok (.iload_n 3, 1) := by decide +kernel
theorem dX12_made_48 : decode cX12_made 48 = .ok (.iconst (-1), 1) := by decide +kernel
theorem dX12_made_49 : decode cX12_made 49 = .ok (.iastore, 1) := by decide +kernel
theorem dX12_made_50 : decode cX12_made 50 = .ok (.aload_n 0, 1) := by decide +kernel
theorem dX12_made_51 : decode cX12_made 51 = .ok (.getfield 101, 3) := by decide +kernel
theorem dX12_made_54 : decode cX12_made 54 = .ok (.iload_n 3, 1) := by decide +kernel
theorem dX12_made_55 : decode cX12_made 55 = .ok (.iconst (-1), 1) := by decide +kernel
theorem dX12_made_56 : decode cX12_made 56 = .ok (.iastore, 1) := by decide +kernel
theorem dX12_made_57 : decode cX12_made 57 = .ok (.aload_n 0, 1) := by decide +kernel
theorem dX12_made_58 : decode cX12_made 58 = .ok (.getfield 104, 3) := by decide +kernel
theorem dX12_made_61 : decode cX12_made 61 = .ok (.iload_n 3, 1) := by decide +kernel
theorem dX12_made_62 : decode cX12_made 62 = .ok (.iconst 0, 1) := by decide +kernel
theorem dX12_made_63 : decode cX12_made 63 = .ok (.iastore, 1) := by decide +kernel
theorem dX12_made_64 : decode cX12_made 64 = .ok (.aload_n 0, 1) := by decide +kernel
theorem dX12_made_65 : decode cX12_made 65 = .ok (.getfield 107, 3) := by decide +kernel
theorem dX12_made_68 : decode cX12_made 68 = .ok (.iload_n 3, 1) := by decide +kernel
theorem dX12_made_69 : decode cX12_made 69 = .ok (.iconst 0, 1) := by decide +kernel
theorem dX12_made_70 : decode cX12_made 70 = .ok (.iastore, 1) := by decide +kernel
theorem dX12_made_71 : decode cX12_made 71 = .ok (.iload_n 3, 1) := by decide +kernel
theorem dX12_made_72 : decode cX12_made 72 = .ok (.ireturn, 1) := by decide +kernel
theorem dX12_makePart_0 : decode cX12_makePart 0 = .ok (.iload_n 2, 1) := by decide +kernel
theorem dX12_makePart_1 : decode cX12_makePart 1 = .ok (.istore 4, 2) := by decide +kernel
theorem dX12_makePart_3 : decode cX12_makePart 3 = .ok (.iload 4, 2) := by decide +kernel
theorem dX12_makePart_5 : decode cX12_makePart 5 = .ok (.iload_n 3, 1) := by decide +kernel
theorem dX12_makePart_6 : decode cX12_makePart 6 = .ok (.if_icmp .ge 29, 3) := by decide +kernel
theorem dX12_makePart_9 : decode cX12_makePart 9 = .ok (.iload_n 2, 1) := by decide +kernel
theorem dX12_makePart_10 : decode cX12_makePart 10 = .ok (.ifCond .lt 25, 3) := by decide +kernel
theorem dX12_makePart_13 : decode cX12_makePart 13 = .ok (.aload_n 0, 1) := by decide +kernel
theorem dX12_makePart_14 : decode cX12_makePart 14 = .ok (.aload_n 0, 1) := by decide +kernel
theorem dX12_makePart_15 : decode cX12_makePart 15 = .ok (.getfield 177, 3) := by decide +kernel
theorem dX12_makePart_18 : decode cX12_makePart 18 = .ok (.bipush 100, 2) := by decide +kernel
theorem dX12_makePart_20 : decode cX12_makePart 20 = .ok (.iload_n 1, 1) := by decide +kernel
theorem dX12_makePart_21 : decode cX12_makePart 21 = .ok (.imul, 1) := by decide +kernel
theorem dX12_makePart_22 : decode cX12_makePart 22 = .ok (.iload 4, 2) := by decide +kernel
theorem dX12_makePart_24 : decode cX12_makePart 24 = .ok (.iadd, 1) := by decide +kernel
theorem dX12_makePart_25 : decode cX12_makePart 25 = .ok (.iaload, 1) := by decide +kernel
theorem dX12_makePart_26 : decode cX12_makePart 26 = .ok (.invokevirtual 705, 3) := by decide +kernel
theorem dX12_makePart_29 : decode cX12_makePart 29 = .ok (.iinc 4 1, 3) := by decide +kernel
theorem dX12_makePart_32 : decode cX12_makePart 32 = .ok (.goto (-29), 3) := by decide +kernel
theorem dX12_makePart_35 : decode cX12_makePart 35 = .ok (.return_, 1) := by decide +kernel
theorem dX12_makeSign_0 : decode cX12_makeSign 0 = .ok (.aload_n 0, 1) := by decide +kernel
theorem dX12_makeSign_1 : decode cX12_makeSign 1 = .ok (.getfield 702, 3) := by decide +kernel
theorem dX12_makeSign_4 : decode cX12_makeSign 4 = .ok (.sipush 400, 3) := by decide +kernel
theorem dX12_makeSign_7 : decode cX12_makeSign 7 = .ok (.if_icmp .gt 13, 3) := by decide +kernel
theorem dX12_makeSign_10 : decode cX12_makeSign 10 = .ok (.aload_n 0, 1) := by decide +kernel
theorem dX12_makeSign_11 : decode cX12_makeSign 11 = .ok (.getfield 240, 3) := by decide +kernel
theorem dX12_makeSign_14 : decode cX12_makeSign 14 = .ok (.aload_n 0, 1) := by decide +kernel
theorem dX12_makeSign_15 : decode cX12_makeSign 15 = .ok (.getfield 702, 3) := by decide +kernel
theorem dX12_makeSign_18 : decode cX12_makeSign 18 = .ok (.iload_n 1, 1) := by decide +kernel
theorem dX12_makeSign_19 : decode cX12_makeSign 19 = .ok (.iastore, 1) := by decide +kernel
theorem dX12_makeSign_20 : decode cX12_makeSign 20 = .ok (.aload_n 0, 1) := by decide +kernel
theorem dX12_makeSign_21 : decode cX12_makeSign 21 = .ok (.dup, 1) := by decide +kernel
theorem dX12_makeSign_22 : decode cX12_makeSign 22 = .ok (.getfield 702, 3) := by decide +kernel
theorem dX12_makeSign_25 : decode cX12_makeSign 25 = .ok (.iconst 1, 1) := by decide +kernel
theorem dX12_makeSign_26 : decode cX12_makeSign 26 = .ok (.iadd, 1) := by decide +kernel
theorem dX12_makeSign_27 : decode cX12_makeSign 27 = .ok (.putfield 702, 3) := by decide +kernel
theorem dX12_makeSign_30 : decode cX12_makeSign 30 = .ok (.return_, 1) := by decide +kernel
theorem dX12_makeTable_0 : decode cX12_makeTable 0 = .ok (.aload_n 0, 1) := by decide +kernel
theorem dX12_makeTable_1 : decode cX12_makeTable 1 = .ok (.iload_n 2, 1) := by decide +kernel
theorem dX12_makeTable_2 : decode cX12_makeTable 2 = .ok (.iconst 1, 1) := by decide +kernel
theorem dX12_makeTable_3 : decode cX12_makeTable 3 = .ok (.invokevirtual 673, 3) := by decide +kernel
theorem dX12_makeTable_6 : decode cX12_makeTable 6 = .ok (.aload_n 0, 1) := by decide +kernel
theorem dX12_makeTable_7 : decode cX12_makeTable 7 = .ok (.iconst 0, 1) := by decide +kernel
theorem dX12_makeTable_8 : decode cX12_makeTable 8 = .ok (.putfield 721, 3) := by decide +kernel
theorem dX12_makeTable_11 : decode cX12_makeTable 11 = .ok (.iconst 0, 1) := by decide +kernel
theorem dX12_makeTable_12 : decode cX12_makeTable 12 = .ok (.istore_n 3, 1) := by decide +kernel
theorem dX12_makeTable_13 : decode cX12_makeTable 13 = .ok (.iload_n 3, 1) := by decide +kernel
theorem dX12_makeTable_14 : decode cX12_makeTable 14 = .ok (.aload_n 0, 1) := by decide +kernel
theorem dX12_makeTable_15 : decode cX12_makeTable 15 = .ok (.getfield 551, 3) := by decide +kernel
theorem dX12_makeTable_18 : decode cX12_makeTable 18 = .ok (.if_icmp .ge 59, 3) := by decide +kernel
theorem dX12_makeTable_21 : decode cX12_makeTable 21 = .ok (.aload_n 0, 1) := by decide +kernel
theorem dX12_makeTable_22 : decode cX12_makeTable 22 = .ok (.getfield 180, 3) := by decide +kernel
theorem dX12_makeTable_25 : decode cX12_makeTable 25 = .ok (.iload_n 3, 1) := by decide +kernel
theorem dX12_makeTable_26 : decode cX12_makeTable 26 = .ok (.iaload, 1) := by decide +kernel
theorem dX12_makeTable_27 : decode cX12_makeTable 27 = .ok (.ifCond .ne 44, 3) := by decide +kernel
theorem dX12_makeTable_30 : decode cX12_makeTable 30 = .ok (.aload_n 0, 1) := by decide +kernel
theorem dX12_makeTable_31 : decode cX12_makeTable 31 = .ok (.getfield 250, 3) := by decide +kernel
theorem dX12_makeTable_34 : decode cX12_makeTable 34 = .ok (.iload_n 3, 1) := by decide +kernel
theorem dX12_makeTable_35 : decode cX12_makeTable 35 = .ok (.aload_n 0, 1) := by decide +kernel
theorem dX12_makeTable_36 : decode cX12_makeTable 36 = .ok (.getfield 721, 3) := by decide +kernel
theorem dX12_makeTable_39 : decode cX12_makeTable 39 = .ok (.iastore, 1) := by decide +kernel
theorem dX12_makeTable_40 : decode cX12_makeTable 40 = .ok (.aload_n 0, 1) := by decide +kernel
theorem dX12_makeTable_41 : decode cX12_makeTable 41 = .ok (.getfield 253, 3) := by decide +kernel
theorem dX12_makeTable_44 : decode cX12_makeTable 44 = .ok (.aload_n 0, 1) := by decide +kernel
theorem dX12_makeTable_45 : decode cX12_makeTable 45 = .ok (.getfield 721, 3) := by decide +kernel
theorem dX12_makeTable_48 : decode cX12_makeTable 48 = .ok (.sipush 220, 3) := by decide +kernel
theorem dX12_makeTable_51 : decode cX12_makeTable 51 = .ok (.iload_n 2, 1) := by decide +kernel
theorem dX12_makeTable_52 : decode cX12_makeTable 52 = .ok (.imul, 1) := by decide +kernel
theorem dX12_makeTable_53 : decode cX12_makeTable 53 = .ok (.aload_n 0, 1) := by decide +kernel
theorem dX12_makeTable_54 : decode cX12_makeTable 54 = .ok (.getfield 183, 3) := by decide +kernel
theorem dX12_makeTable_57 : decode cX12_makeTable 57 = .ok (.iload_n 3, 1) := by decide +kernel
theorem dX12_makeTable_58 : decode cX12_makeTable 58 = .ok (.iaload, 1) := by decide +kernel
theorem dX12_makeTable_59 : decode cX12_makeTable 59 = .ok (.iadd, 1) := by decide +kernel
theorem dX12_makeTable_60 : decode cX12_makeTable 60 = .ok (.iastore, 1) := by decide +kernel
theorem dX12_makeTable_61 : decode cX12_makeTable 61 = .ok (.aload_n 0, 1) := by decide +kernel
theorem dX12_makeTable_62 : decode cX12_makeTable 62 = .ok (.dup, 1) := by decide +kernel
theorem dX12_makeTable_63 : decode cX12_makeTable 63 = .ok (.getfield 721, 3) := by decide +kernel
theorem dX12_makeTable_66 : decode cX12_makeTable 66 = .ok (.iconst 1, 1) := by decide +kernel
theorem dX12_makeTable_67 : decode cX12_makeTable 67 = .ok (.iadd, 1) := by decide +kernel
theorem dX12_makeTable_68 : decode cX12_makeTable 68 = .ok (.putfield 721, 3) := by decide +kernel
theorem dX12_makeTable_71 : decode cX12_makeTable 71 = .ok (.iinc 3 1, 3) := by decide +kernel
theorem dX12_makeTable_74 : decode cX12_makeTable 74 = .ok (.goto (-61), 3) := by decide +kernel
theorem dX12_makeTable_77 : decode cX12_makeTable 77 = .ok (.aload_n 0, 1) := by decide +kernel
theorem dX12_makeTable_78 : decode cX12_makeTable 78 = .ok (.iconst 0, 1) := by decide +kernel
theorem dX12_makeTable_79 : decode cX12_makeTable 79 = .ok (.invokevirtual 724, 3) := by decide +kernel
theorem dX12_makeTable_82 : decode cX12_makeTable 82 = .ok (.aload_n 0, 1) := by decide +kernel
theorem dX12_makeTable_83 : decode cX12_makeTable 83 = .ok (.getfield 714, 3) := by decide +kernel
theorem dX12_makeTable_86 : decode cX12_makeTable 86 = .ok (.lstore_n 3, 1) := by decide +kernel
theorem dX12_makeTable_87 : decode cX12_makeTable 87 = .ok (.aload_n 0, 1) := by decide +kernel
theorem dX12_makeTable_88 : decode cX12_makeTable 88 = .ok (.getfield 718, 3) := by decide +kernel
theorem dX12_makeTable_91 : decode cX12_makeTable 91 = .ok (.istore 5, 2) := by decide +kernel
theorem dX12_makeTable_93 : decode cX12_makeTable 93 = .ok (.iconst 0, 1) := by decide +kernel
theorem dX12_makeTable_94 : decode cX12_makeTable 94 = .ok (.istore 6, 2) := by decide +kernel
theorem dX12_makeTable_96 : decode cX12_makeTable 96 = .ok (.iload 6, 2) := by decide +kernel
theorem dX12_makeTable_98 : decode cX12_makeTable 98 = .ok (.aload_n 0, 1) := by decide +kernel
theorem dX12_makeTable_99 : decode cX12_makeTable 99 = .ok (.getfield 551, 3) := by decide +kernel
theorem dX12_makeTable_102 : decode cX12_makeTable 102 = .ok (.if_icmp .ge 59, 3) := by decide +kernel
theorem dX12_makeTable_105 : decode cX12_makeTable 105 = .ok (.aload_n 0, 1) := by decide +kernel
theorem dX12_makeTable_106 : decode cX12_makeTable 106 = .ok (.getfield 180, 3) := by decide +kernel
theorem dX12_makeTable_109 : decode cX12_makeTable 109 = .ok (.iload 6, 2) := by decide +kernel
theorem dX12_makeTable_111 : decode cX12_makeTable 111 = .ok (.iaload, 1) := by decide +kernel
theorem dX12_makeTable_112 : decode cX12_makeTable 112 = .ok (.ifCond .ne 43, 3) := by decide +kernel
theorem dX12_makeTable_115 : decode cX12_makeTable 115 = .ok (.aload_n 0, 1) := by decide +kernel
theorem dX12_makeTable_116 : decode cX12_makeTable 116 = .ok (.iload 6, 2) := by decide +kernel
theorem dX12_makeTable_118 : decode cX12_makeTable 118 = .ok (.iconst 1, 1) := by decide +kernel
theorem dX12_makeTable_119 : decode cX12_makeTable 119 = .ok (.iadd, 1) := by decide +kernel
theorem dX12_makeTable_120 : decode cX12_makeTable 120 = .ok (.invokevirtual 724, 3) := by decide +kernel
theorem dX12_makeTable_123 : decode cX12_makeTable 123 = .ok (.aload_n 0, 1) := by decide +kernel
theorem dX12_makeTable_124 : decode cX12_makeTable 124 = .ok (.getfield 243, 3) := by decide +kernel
theorem dX12_makeTable_127 : decode cX12_makeTable 127 = .ok (.aload_n 0, 1) := by decide +kernel
theorem dX12_makeTable_128 : decode cX12_makeTable 128 = .ok (.getfield 250, 3) := by decide +kernel
theorem dX12_makeTable_131 : decode cX12_makeTable 131 = .ok (.iload 6, 2) := by decide +kernel
theorem dX12_makeTable_133 : decode cX12_makeTable 133 = .ok (.iaload, 1) := by decide +kernel
theorem dX12_makeTable_134 : decode cX12_makeTable 134 = .ok (.aload_n 0, 1) := by decide +kernel
theorem dX12_makeTable_135 : decode cX12_makeTable 135 = .ok (.getfield 714, 3) := by decide +kernel
theorem dX12_makeTable_138 : decode cX12_makeTable 138 = .ok (.lastore, 1) := by decide +kernel
theorem dX12_makeTable_139 : decode cX12_makeTable 139 = .ok (.aload_n 0, 1) := by decide +kernel
theorem dX12_makeTable_140 : decode cX12_makeTable 140 = .ok (.getfield 247, 3) := by decide +kernel
theorem dX12_makeTable_143 : decode cX12_makeTable 143 = .ok (.aload_n 0, 1) := by decide +kernel
theorem dX12_makeTable_144 : decode cX12_makeTable 144 = .ok (.getfield 250, 3) := by decide +kernel
theorem dX12_makeTable_147 : decode cX12_makeTable 147 = .ok (.iload 6, 2) := by decide +kernel
theorem dX12_makeTable_149 : decode cX12_makeTable 149 = .ok (.iaload, 1) := by decide +kernel
theorem dX12_makeTable_150 : decode cX12_makeTable 150 = .ok (.aload_n 0, 1) := by decide +kernel
theorem dX12_makeTable_151 : decode cX12_makeTable 151 = .ok (.getfield 718, 3) := by decide +kernel
theorem dX12_makeTable_154 : decode cX12_makeTable 154 = .ok (.bastore, 1) := by decide +kernel
theorem dX12_makeTable_155 : decode cX12_makeTable 155 = .ok (.iinc 6 1, 3) := by decide +kernel
theorem dX12_makeTable_158 : decode cX12_makeTable 158 = .ok (.goto (-62), 3) := by decide +kernel
theorem dX12_makeTable_161 : decode cX12_makeTable 161 = .ok (.aload_n 0, 1) := by decide +kernel
theorem dX12_makeTable_162 : decode cX12_makeTable 162 = .ok (.getfield 274, 3) := by decide +kernel
theorem dX12_makeTable_165 : decode cX12_makeTable 165 = .ok (.iload_n 1, 1) := by decide +kernel
theorem dX12_makeTable_166 : decode cX12_makeTable 166 = .ok (.iconst 0, 1) := by decide +kernel
theorem dX12_makeTable_167 : decode cX12_makeTable 167 = .ok (.iastore, 1) := by decide +kernel
theorem dX12_makeTable_168 : decode cX12_makeTable 168 = .ok (.iconst 0, 1) := by decide +kernel
theorem dX12_makeTable_169 : decode cX12_makeTable 169 = .ok (.istore 6, 2) := by decide +kernel
theorem dX12_makeTable_171 : decode cX12_makeTable 171 = .ok (.iload 6, 2) := by decide +kernel
theorem dX12_makeTable_173 : decode cX12_makeTable 173 = .ok (.aload_n 0, 1) := by decide +kernel
theorem dX12_makeTable_174 : decode cX12_makeTable 174 = .ok (.getfield 524, 3) := by decide +kernel
theorem dX12_makeTable_177 : decode cX12_makeTable 177 = .ok (.if_icmp .ge 164, 3) := by decide +kernel
theorem dX12_makeTable_180 : decode cX12_makeTable 180 = .ok (.lconst 0, 1) := by decide +kernel
theorem dX12_makeTable_181 : decode cX12_makeTable 181 = .ok (.lstore 7, 2) := by decide +kernel
theorem dX12_makeTable_183 : decode cX12_makeTable 183 = .ok (.iconst 0, 1) := by decide +kernel
theorem dX12_makeTable_184 : decode cX12_makeTable 184 = .ok (.istore 9, 2) := by decide +kernel
theorem dX12_makeTable_186 : decode cX12_makeTable 186 = .ok (.iload 9, 2) := by decide +kernel
theorem dX12_makeTable_188 : decode cX12_makeTable 188 = .ok (.aload_n 0, 1) := by decide +kernel
theorem dX12_makeTable_189 : decode cX12_makeTable 189 = .ok (.getfield 721, 3) := by decide +kernel
theorem dX12_makeTable_192 : decode cX12_makeTable 192 = .ok (.if_icmp .ge 44, 3) := by decide +kernel
theorem dX12_makeTable_195 : decode cX12_makeTable 195 = .ok (.aload_n 0, 1) := by decide +kernel
theorem dX12_makeTable_196 : decode cX12_makeTable 196 = .ok (.aload_n 0, 1) := by decide +kernel
theorem dX12_makeTable_197 : decode cX12_makeTable 197 = .ok (.getfield 253, 3) := by decide +kernel
theorem dX12_makeTable_200 : decode cX12_makeTable 200 = .ok (.iload 9, 2) := by decide +kernel
theorem dX12_makeTable_202 : decode cX12_makeTable 202 = .ok (.iaload, 1) := by decide +kernel
theorem dX12_makeTable_203 : decode cX12_makeTable 203 = .ok (.aload_n 0, 1) := by decide +kernel
theorem dX12_makeTable_204 : decode cX12_makeTable 204 = .ok (.getfield 165, 3) := by decide +kernel
theorem dX12_makeTable_207 : decode cX12_makeTable 207 = .ok (.iload 6, 2) := by decide +kernel
theorem dX12_makeTable_209 : decode cX12_makeTable 209 = .ok (.iaload, 1) := by decide +kernel
theorem dX12_makeTable_210 : decode cX12_makeTable 210 = .ok (.invokevirtual 517, 3) := by decide +kernel
theorem dX12_makeTable_213 : decode cX12_makeTable 213 = .ok (.ifCond .eq 13, 3) := by decide +kernel
theorem dX12_makeTable_216 : decode cX12_makeTable 216 = .ok (.lload 7, 2) := by decide +kernel
theorem dX12_makeTable_218 : decode cX12_makeTable 218 = .ok (.lconst 1, 1) := by decide +kernel
theorem dX12_makeTable_219 : decode cX12_makeTable 219 = .ok (.iload 9, 2) := by decide +kernel
theorem dX12_makeTable_221 : decode cX12_makeTable 221 = .ok (.lshl, 1) := by decide +kernel
theorem dX12_makeTable_222 : decode cX12_makeTable 222 = .ok (.lor, 1) := by decide +kernel
theorem dX12_makeTable_223 : decode cX12_makeTable 223 = .ok (.goto 5, 3) := by decide +kernel
theorem dX12_makeTable_226 : decode cX12_makeTable 226 = .ok (.lload 7, 2) := by decide +kernel
theorem dX12_makeTable_228 : decode cX12_makeTable 228 = .ok (.lstore 7, 2) := by decide +kernel
theorem dX12_makeTable_230 : decode cX12_makeTable 230 = .ok (.iinc 9 1, 3) := by decide +kernel
theorem dX12_makeTable_233 : decode cX12_makeTable 233 = .ok (.goto (-47), 3) := by decide +kernel
theorem dX12_makeTable_236 : decode cX12_makeTable 236 = .ok (.iconst 0, 1) := by decide +kernel
theorem dX12_makeTable_237 : decode cX12_makeTable 237 = .ok (.istore 9, 2) := by decide +kernel
theorem dX12_makeTable_239 : decode cX12_makeTable 239 = .ok (.iload 9, 2) := by decide +kernel
theorem dX12_makeTable_241 : decode cX12_makeTable 241 = .ok (.aload_n 0, 1) := by decide +kernel
theorem dX12_makeTable_242 : decode cX12_makeTable 242 = .ok (.getfield 274, 3) := by decide +kernel
theorem dX12_makeTable_245 : decode cX12_makeTable 245 = .ok (.iload_n 1, 1) := by decide +kernel
theorem dX12_makeTable_246 : decode cX12_makeTable 246 = .ok (.iaload, 1) := by decide +kernel
theorem dX12_makeTable_247 : decode cX12_makeTable 247 = .ok (.if_icmp .ge 28, 3) := by decide +kernel
theorem dX12_makeTable_250 : decode cX12_makeTable 250 = .ok (.aload_n 0, 1) := by decide +kernel
theorem dX12_makeTable_251 : decode cX12_makeTable 251 = .ok (.getfield 277, 3) := by decide +kernel
theorem dX12_makeTable_254 : decode cX12_makeTable 254 = .ok (.sipush 500, 3) := by decide +kernel
theorem dX12_makeTable_257 : decode cX12_makeTable 257 = .ok (.iload_n 1, 1) := by decide +kernel
theorem dX12_makeTable_258 : decode cX12_makeTable 258 = .ok (.imul, 1) := by decide +kernel
theorem dX12_makeTable_259 : decode cX12_makeTable 259 = .ok (.iload 9, 2) := by decide +kernel
theorem dX12_makeTable_261 : decode cX12_makeTable 261 = .ok (.iadd, 1) := by decide +kernel
theorem dX12_makeTable_262 : decode cX12_makeTable 262 = .ok (.laload, 1) := by decide +kernel
theorem dX12_makeTable_263 : decode cX12_makeTable 263 = .ok (.lload 7, 2) := by decide +kernel
theorem dX12_makeTable_265 : decode cX12_makeTable 265 = .ok (.lcmp, 1) := by decide +kernel
theorem dX12_makeTable_266 : decode cX12_makeTable 266 = .ok (.ifCond .eq 9, 3) := by decide +kernel
theorem dX12_makeTable_269 : decode cX12_makeTable 269 = .ok (.iinc 9 1, 3) := by decide +kernel
theorem dX12_makeTable_272 : decode cX12_makeTable 272 = .ok (.goto (-33), 3) := by decide +kernel
theorem dX12_makeTable_275 : decode cX12_makeTable 275 = .ok (.aload_n 0, 1) := by decide +kernel
theorem dX12_makeTable_276 : decode cX12_makeTable 276 = .ok (.getfield 277, 3) := by decide +kernel
theorem dX12_makeTable_279 : decode cX12_makeTable 279 = .ok (.sipush 500, 3) := by decide +kernel
theorem dX12_makeTable_282 : decode cX12_makeTable 282 = .ok (.iload_n 1, 1) := by decide +kernel
theorem dX12_makeTable_283 : decode cX12_makeTable 283 = .ok (.imul, 1) := by decide +kernel
theorem dX12_makeTable_284 : decode cX12_makeTable 284 = .ok (.iload 9, 2) := by decide +kernel
theorem dX12_makeTable_286 : decode cX12_makeTable 286 = .ok (.iadd, 1) := by decide +kernel
theorem dX12_makeTable_287 : decode cX12_makeTable 287 = .ok (.lload 7, 2) := by decide +kernel
theorem dX12_makeTable_289 : decode cX12_makeTable 289 = .ok (.lastore, 1) := by decide +kernel
theorem dX12_makeTable_290 : decode cX12_makeTable 290 = .ok (.aload_n 0, 1) := by decide +kernel
theorem dX12_makeTable_291 : decode cX12_makeTable 291 = .ok (.getfield 274, 3) := by decide +kernel
theorem dX12_makeTable_294 : decode cX12_makeTable 294 = .ok (.iload_n 1, 1) := by decide +kernel
theorem dX12_makeTable_295 : decode cX12_makeTable 295 = .ok (.iload 9, 2) := by decide +kernel
theorem dX12_makeTable_297 : decode cX12_makeTable 297 = .ok (.aload_n 0, 1) := by decide +kernel
theorem dX12_makeTable_298 : decode cX12_makeTable 298 = .ok (.getfield 274, 3) := by decide +kernel
theorem dX12_makeTable_301 : decode cX12_makeTable 301 = .ok (.iload_n 1, 1) := by decide +kernel
theorem dX12_makeTable_302 : decode cX12_makeTable 302 = .ok (.iaload, 1) := by decide +kernel
theorem dX12_makeTable_303 : decode cX12_makeTable 303 = .ok (.if_icmp .ne 10, 3) := by decide +kernel
theorem dX12_makeTable_306 : decode cX12_makeTable 306 = .ok (.iload 9, 2) := by decide +kernel
theorem dX12_makeTable_308 : decode cX12_makeTable 308 = .ok (.iconst 1, 1) := by decide +kernel
theorem dX12_makeTable_309 : decode cX12_makeTable 309 = .ok (.iadd, 1) := by decide +kernel
theorem dX12_makeTable_310 : decode cX12_makeTable 310 = .ok (.goto 9, 3) := by decide +kernel
theorem dX12_makeTable_313 : decode cX12_makeTable 313 = .ok (.aload_n 0, 1) := by decide +kernel
theorem dX12_makeTable_314 : decode cX12_makeTable 314 = .ok (.getfield 274, 3) := by decide +kernel
theorem dX12_makeTable_317 : decode cX12_makeTable 317 = .ok (.iload_n 1, 1) := by decide +kernel
theorem dX12_makeTable_318 : decode cX12_makeTable 318 = .ok (.iaload, 1) := by decide +kernel
theorem dX12_makeTable_319 : decode cX12_makeTable 319 = .ok (.iastore, 1) := by decide +kernel
theorem dX12_makeTable_320 : decode cX12_makeTable 320 = .ok (.aload_n 0, 1) := by decide +kernel
theorem dX12_makeTable_321 : decode cX12_makeTable 321 = .ok (.getfield 280, 3) := by decide +kernel
theorem dX12_makeTable_324 : decode cX12_makeTable 324 = .ok (.sipush 3000, 3) := by decide +kernel
theorem dX12_makeTable_327 : decode cX12_makeTable 327 = .ok (.iload_n 1, 1) := by decide +kernel
theorem dX12_makeTable_328 : decode cX12_makeTable 328 = .ok (.imul, 1) := by decide +kernel
theorem dX12_makeTable_329 : decode cX12_makeTable 329 = .ok (.iload 6, 2) := by decide +kernel
theorem dX12_makeTable_331 : decode cX12_makeTable 331 = .ok (.iadd, 1) := by decide +kernel
theorem dX12_makeTable_332 : decode cX12_makeTable 332 = .ok (.iload 9, 2) := by decide +kernel
theorem dX12_makeTable_334 : decode cX12_makeTable 334 = .ok (.iastore, 1) := by decide +kernel
theorem dX12_makeTable_335 : decode cX12_makeTable 335 = .ok (.iinc 6 1, 3) := by decide +kernel
theorem dX12_makeTable_338 : decode cX12_makeTable 338 = .ok (.goto (-167), 3) := by decide +kernel
theorem dX12_makeTable_341 : decode cX12_makeTable 341 = .ok (.aload_n 0, 1) := by decide +kernel
theorem dX12_makeTable_342 : decode cX12_makeTable 342 = .ok (.getfield 262, 3) := by decide +kernel
theorem dX12_makeTable_345 : decode cX12_makeTable 345 = .ok (.iload_n 1, 1) := by decide +kernel
theorem dX12_makeTable_346 : decode cX12_makeTable 346 = .ok (.iconst 1, 1) := by decide +kernel
theorem dX12_makeTable_347 : decode cX12_makeTable 347 = .ok (.iastore, 1) := by decide +kernel
theorem dX12_makeTable_348 : decode cX12_makeTable 348 = .ok (.aload_n 0, 1) := by decide +kernel
theorem dX12_makeTable_349 : decode cX12_makeTable 349 = .ok (.getfield 265, 3) := by decide +kernel
theorem dX12_makeTable_352 : decode cX12_makeTable 352 = .ok (.bipush 61, 2) := by decide +kernel
theorem dX12_makeTable_354 : decode cX12_makeTable 354 = .ok (.iload_n 1, 1) := by decide +kernel
theorem dX12_makeTable_355 : decode cX12_makeTable 355 = .ok (.imul, 1) := by decide +kernel
theorem dX12_makeTable_356 : decode cX12_makeTable 356 = .ok (.lconst 0, 1) := by decide +kernel
theorem dX12_makeTable_357 : decode cX12_makeTable 357 = .ok (.lastore, 1) := by decide +kernel
theorem dX12_makeTable_358 : decode cX12_makeTable 358 = .ok (.aload_n 0, 1) := by decide +kernel
theorem dX12_makeTable_359 : decode cX12_makeTable 359 = .ok (.getfield 268, 3) := by decide +kernel
theorem dX12_makeTable_362 : decode cX12_makeTable 362 = .ok (.bipush 61, 2) := by decide +kernel
theorem dX12_makeTable_364 : decode cX12_makeTable 364 = .ok (.iload_n 1, 1) := by decide +kernel
theorem dX12_makeTable_365 : decode cX12_makeTable 365 = .ok (.imul, 1) := by decide +kernel
theorem dX12_makeTable_366 : decode cX12_makeTable 366 = .ok (.iload 5, 2) := by decide +kernel
theorem dX12_makeTable_368 : decode cX12_makeTable 368 = .ok (.bastore, 1) := by decide +kernel
theorem dX12_makeTable_369 : decode cX12_makeTable 369 = .ok (.iconst 0, 1) := by decide +kernel
theorem dX12_makeTable_370 : decode cX12_makeTable 370 = .ok (.istore 6, 2) := by decide +kernel
theorem dX12_makeTable_372 : decode cX12_makeTable 372 = .ok (.iload 6, 2) := by decide +kernel
theorem dX12_makeTable_374 : decode cX12_makeTable 374 = .ok (.aload_n 0, 1) := by decide +kernel
theorem dX12_makeTable_375 : decode cX12_makeTable 375 = .ok (.getfield 262, 3) := by decide +kernel
theorem dX12_makeTable_378 : decode cX12_makeTable 378 = .ok (.iload_n 1, 1) := by decide +kernel
theorem dX12_makeTable_379 : decode cX12_makeTable 379 = .ok (.iaload, 1) := by decide +kernel
theorem dX12_makeTable_380 : decode cX12_makeTable 380 = .ok (.if_icmp .ge 295, 3) := by decide +kernel
theorem dX12_makeTable_383 : decode cX12_makeTable 383 = .ok (.iload 6, 2) := by decide +kernel
theorem dX12_makeTable_385 : decode cX12_makeTable 385 = .ok (.ifCond .ne 7, 3) := by decide +kernel
theorem dX12_makeTable_388 : decode cX12_makeTable 388 = .ok (.lload_n 3, 1) := by decide +kernel
theorem dX12_makeTable_389 : decode cX12_makeTable 389 = .ok (.goto 4, 3) := by decide +kernel
theorem dX12_makeTable_392 : decode cX12_makeTable 392 = .ok (.lconst 0, 1) := by decide +kernel
theorem dX12_makeTable_393 : decode cX12_makeTable 393 = .ok (.lstore 7, 2) := by decide +kernel
theorem dX12_makeTable_395 : decode cX12_makeTable 395 = .ok (.iconst 0, 1) := by decide +kernel
theorem dX12_makeTable_396 : decode cX12_makeTable 396 = .ok (.istore 9, 2) := by decide +kernel
theorem dX12_makeTable_398 : decode cX12_makeTable 398 = .ok (.iload 9, 2) := by decide +kernel
theorem dX12_makeTable_400 : decode cX12_makeTable 400 = .ok (.aload_n 0, 1) := by decide +kernel
theorem dX12_makeTable_401 : decode cX12_makeTable 401 = .ok (.getfield 721, 3) := by decide +kernel
theorem dX12_makeTable_404 : decode cX12_makeTable 404 = .ok (.if_icmp .ge 53, 3) := by decide +kernel
theorem dX12_makeTable_407 : decode cX12_makeTable 407 = .ok (.iload 6, 2) := by decide +kernel
theorem dX12_makeTable_409 : decode cX12_makeTable 409 = .ok (.ifCond .le 48, 3) := by decide +kernel
theorem dX12_makeTable_412 : decode cX12_makeTable 412 = .ok (.aload_n 0, 1) := by decide +kernel
theorem dX12_makeTable_413 : decode cX12_makeTable 413 = .ok (.getfield 265, 3) := by decide +kernel
theorem dX12_makeTable_416 : decode cX12_makeTable 416 = .ok (.bipush 61, 2) := by decide +kernel
theorem dX12_makeTable_418 : decode cX12_makeTable 418 = .ok (.iload_n 1, 1) := by decide +kernel
theorem dX12_makeTable_419 : decode cX12_makeTable 419 = .ok (.imul, 1) := by decide +kernel
theorem dX12_makeTable_420 : decode cX12_makeTable 420 = .ok (.iload 6, 2) := by decide +kernel
theorem dX12_makeTable_422 : decode cX12_makeTable 422 = .ok (.iadd, 1) := by decide +kernel
theorem dX12_makeTable_423 : decode cX12_makeTable 423 = .ok (.laload, 1) := by decide +kernel
theorem dX12_makeTable_424 : decode cX12_makeTable 424 = .ok (.iload 9, 2) := by decide +kernel
theorem dX12_makeTable_426 : decode cX12_makeTable 426 = .ok (.lshr, 1) := by decide +kernel
theorem dX12_makeTable_427 : decode cX12_makeTable 427 = .ok (.lconst 1, 1) := by decide +kernel
theorem dX12_makeTable_428 : decode cX12_makeTable 428 = .ok (.land, 1) := by decide +kernel
theorem dX12_makeTable_429 : decode cX12_makeTable 429 = .ok (.lconst 1, 1) := by decide +kernel
theorem dX12_makeTable_430 : decode cX12_makeTable 430 = .ok (.lcmp, 1) := by decide +kernel
theorem dX12_makeTable_431 : decode cX12_makeTable 431 = .ok (.ifCond .ne 16, 3) := by decide +kernel
theorem dX12_makeTable_434 : decode cX12_makeTable 434 = .ok (.lload 7, 2) := by decide +kernel
theorem dX12_makeTable_436 : decode cX12_makeTable 436 = .ok (.aload_n 0, 1) := by decide +kernel
theorem dX12_makeTable_437 : decode cX12_makeTable 437 = .ok (.getfield 243, 3) := by decide +kernel
theorem dX12_makeTable_440 : decode cX12_makeTable 440 = .ok (.iload 9, 2) := by decide +kernel
theorem dX12_makeTable_442 : decode cX12_makeTable 442 = .ok (.laload, 1) := by decide +kernel
theorem dX12_makeTable_443 : decode cX12_makeTable 443 = .ok (.lor, 1) := by decide +kernel
theorem dX12_makeTable_444 : decode cX12_makeTable 444 = .ok (.goto 5, 3) := by decide +kernel
theorem dX12_makeTable_447 : decode cX12_makeTable 447 = .ok (.lload 7, 2) := by decide +kernel
theorem dX12_makeTable_449 : decode cX12_makeTable 449 = .ok (.lstore 7, 2) := by decide +kernel
theorem dX12_makeTable_451 : decode cX12_makeTable 451 = .ok (.iinc 9 1, 3) := by decide +kernel
theorem dX12_makeTable_454 : decode cX12_makeTable 454 = .ok (.goto (-56), 3) := by decide +kernel
theorem dX12_makeTable_457 : decode cX12_makeTable 457 = .ok (.iconst 0, 1) := by decide +kernel
theorem dX12_makeTable_458 : decode cX12_makeTable 458 = .ok (.istore 9, 2) := by decide +kernel
theorem dX12_makeTable_460 : decode cX12_makeTable 460 = .ok (.iload 9, 2) := by decide +kernel
theorem dX12_makeTable_462 : decode cX12_makeTable 462 = .ok (.aload_n 0, 1) := by decide +kernel
theorem dX12_makeTable_463 : decode cX12_makeTable 463 = .ok (.getfield 274, 3) := by decide +kernel
theorem dX12_makeTable_466 : decode cX12_makeTable 466 = .ok (.iload_n 1, 1) := by decide +kernel
theorem dX12_makeTable_467 : decode cX12_makeTable 467 = .ok (.iaload, 1) := by decide +kernel
theorem dX12_makeTable_468 : decode cX12_makeTable 468 = .ok (.if_icmp .ge 201, 3) := by decide +kernel
theorem dX12_makeTable_471 : decode cX12_makeTable 471 = .ok (.lload 7, 2) := by decide +kernel
theorem dX12_makeTable_473 : decode cX12_makeTable 473 = .ok (.aload_n 0, 1) := by decide +kernel
theorem dX12_makeTable_474 : decode cX12_makeTable 474 = .ok (.getfield 277, 3) := by decide +kernel
theorem dX12_makeTable_477 : decode cX12_makeTable 477 = .ok (.sipush 500, 3) := by decide +kernel
theorem dX12_makeTable_480 : decode cX12_makeTable 480 = .ok (.iload_n 1, 1) := by decide +kernel
theorem dX12_makeTable_481 : decode cX12_makeTable 481 = .ok (.imul, 1) := by decide +kernel
theorem dX12_makeTable_482 : decode cX12_makeTable 482 = .ok (.iload 9, 2) := by decide +kernel
theorem dX12_makeTable_484 : decode cX12_makeTable 484 = .ok (.iadd, 1) := by decide +kernel
theorem dX12_makeTable_485 : decode cX12_makeTable 485 = .ok (.laload, 1) := by decide +kernel
theorem dX12_makeTable_486 : decode cX12_makeTable 486 = .ok (.land, 1) := by decide +kernel
theorem dX12_makeTable_487 : decode cX12_makeTable 487 = .ok (.lstore 10, 2) := by decide +kernel
theorem dX12_makeTable_489 : decode cX12_makeTable 489 = .ok (.iconst 1, 1) := by decide +kernel
theorem dX12_makeTable_490 : decode cX12_makeTable 490 = .ok (.istore 12, 2) := by decide +kernel
theorem dX12_makeTable_492 : decode cX12_makeTable 492 = .ok (.iload 12, 2) := by decide +kernel
theorem dX12_makeTable_494 : decode cX12_makeTable 494 = .ok (.aload_n 0, 1) := by decide +kernel
theorem dX12_makeTable_495 : decode cX12_makeTable 495 = .ok (.getfield 262, 3) := by decide +kernel
theorem dX12_makeTable_498 : decode cX12_makeTable 498 = .ok (.iload_n 1, 1) := by decide +kernel
theorem dX12_makeTable_499 : decode cX12_makeTable 499 = .ok (.iaload, 1) := by decide +kernel
theorem dX12_makeTable_500 : decode cX12_makeTable 500 = .ok (.if_icmp .ge 27, 3) := by decide +kernel
theorem dX12_makeTable_503 : decode cX12_makeTable 503 = .ok (.aload_n 0, 1) := by decide +kernel
theorem dX12_makeTable_504 : decode cX12_makeTable 504 = .ok (.getfield 265, 3) := by decide +kernel
theorem dX12_makeTable_507 : decode cX12_makeTable 507 = .ok (.bipush 61, 2) := by decide +kernel
theorem dX12_makeTable_509 : decode cX12_makeTable 509 = .ok (.iload_n 1, 1) := by decide +kernel
theorem dX12_makeTable_510 : decode cX12_makeTable 510 = .ok (.imul, 1) := by decide +kernel
theorem dX12_makeTable_511 : decode cX12_makeTable 511 = .ok (.iload 12, 2) := by decide +kernel
theorem dX12_makeTable_513 : decode cX12_makeTable 513 = .ok (.iadd, 1) := by decide +kernel
theorem dX12_makeTable_514 : decode cX12_makeTable 514 = .ok (.laload, 1) := by decide +kernel
theorem dX12_makeTable_515 : decode cX12_makeTable 515 = .ok (.lload 10, 2) := by decide +kernel
theorem dX12_makeTable_517 : decode cX12_makeTable 517 = .ok (.lcmp, 1) := by decide +kernel
theorem dX12_makeTable_518 : decode cX12_makeTable 518 = .ok (.ifCond .eq 9, 3) := by decide +kernel
theorem dX12_makeTable_521 : decode cX12_makeTable 521 = .ok (.iinc 12 1, 3) := by decide +kernel
theorem dX12_makeTable_524 : decode cX12_makeTable 524 = .ok (.goto (-32), 3) := by decide +kernel
theorem dX12_makeTable_527 : decode cX12_makeTable 527 = .ok (.iload 12, 2) := by decide +kernel
theorem dX12_makeTable_529 : decode cX12_makeTable 529 = .ok (.aload_n 0, 1) := by decide +kernel
theorem dX12_makeTable_530 : decode cX12_makeTable 530 = .ok (.getfield 262, 3) := by decide +kernel
theorem dX12_makeTable_533 : decode cX12_makeTable 533 = .ok (.iload_n 1, 1) := by decide +kernel
theorem dX12_makeTable_534 : decode cX12_makeTable 534 = .ok (.iaload, 1) := by decide +kernel
theorem dX12_makeTable_535 : decode cX12_makeTable 535 = .ok (.if_icmp .ne 106, 3) := by decide +kernel
theorem dX12_makeTable_538 : decode cX12_makeTable 538 = .ok (.iload 12, 2) := by decide +kernel
theorem dX12_makeTable_540 : decode cX12_makeTable 540 = .ok (.bipush 60, 2) := by decide +kernel
theorem dX12_makeTable_542 : decode cX12_makeTable 542 = .ok (.if_icmp .ne 6, 3) := by decide +kernel
theorem dX12_makeTable_545 : decode cX12_makeTable 545 = .ok (.bipush (-7), 2) := by decide +kernel
theorem dX12_makeTable_547 : decode cX12_makeTable 547 = .ok (.ireturn, 1) := by decide +kernel
theorem dX12_makeTable_548 : decode cX12_makeTable 548 = .ok (.aload_n 0, 1) := by decide +kernel
theorem dX12_makeTable_549 : decode cX12_makeTable 549 = .ok (.getfield 265, 3) := by decide +kernel
theorem dX12_makeTable_552 : decode cX12_makeTable 552 = .ok (.bipush 61, 2) := by decide +kernel
theorem dX12_makeTable_554 : decode cX12_makeTable 554 = .ok (.iload_n 1, 1) := by decide +kernel
theorem dX12_makeTable_555 : decode cX12_makeTable 555 = .ok (.imul, 1) := by decide +kernel
theorem dX12_makeTable_556 : decode cX12_makeTable 556 = .ok (.iload 12, 2) := by decide +kernel
theorem dX12_makeTable_558 : decode cX12_makeTable 558 = .ok (.iadd, 1) := by decide +kernel
theorem dX12_makeTable_559 : decode cX12_makeTable 559 = .ok (.lload 10, 2) := by decide +kernel
theorem dX12_makeTable_561 : decode cX12_makeTable 561 = .ok (.lastore, 1) := by decide +kernel
theorem dX12_makeTable_562 : decode cX12_makeTable 562 = .ok (.iconst 0, 1) := by decide +kernel
theorem dX12_makeTable_563 : decode cX12_makeTable 563 = .ok (.istore 13, 2) := by decide +kernel
theorem dX12_makeTable_565 : decode cX12_makeTable 565 = .ok (.iconst 0, 1) := by decide +kernel
theorem dX12_makeTable_566 : decode cX12_makeTable 566 = .ok (.istore 14, 2) := by decide +kernel
theorem dX12_makeTable_568 : decode cX12_makeTable 568 = .ok (.iload 14, 2) := by decide +kernel
theorem dX12_makeTable_570 : decode cX12_makeTable 570 = .ok (.aload_n 0, 1) := by decide +kernel
theorem dX12_makeTable_571 : decode cX12_makeTable 571 = .ok (.getfield 721, 3) := by decide +kernel
theorem dX12_makeTable_574 : decode cX12_makeTable 574 = .ok (.if_icmp .ge 43, 3) := by decide +kernel
theorem dX12_makeTable_577 : decode cX12_makeTable 577 = .ok (.iload 13, 2) := by decide +kernel
theorem dX12_makeTable_579 : decode cX12_makeTable 579 = .ok (.ifCond .ne 25, 3) := by decide +kernel
theorem dX12_makeTable_582 : decode cX12_makeTable 582 = .ok (.lload 10, 2) := by decide +kernel
theorem dX12_makeTable_584 : decode cX12_makeTable 584 = .ok (.iload 14, 2) := by decide +kernel
theorem dX12_makeTable_586 : decode cX12_makeTable 586 = .ok (.lshr, 1) := by decide +kernel
theorem dX12_makeTable_587 : decode cX12_makeTable 587 = .ok (.lconst 1, 1) := by decide +kernel
theorem dX12_makeTable_588 : decode cX12_makeTable 588 = .ok (.land, 1) := by decide +kernel
theorem dX12_makeTable_589 : decode cX12_makeTable 589 = .ok (.lconst 1, 1) := by decide +kernel
theorem dX12_makeTable_590 : decode cX12_makeTable 590 = .ok (.lcmp, 1) := by decide +kernel
theorem dX12_makeTable_591 : decode cX12_makeTable 591 = .ok (.ifCond .ne 17, 3) := by decide +kernel
theorem dX12_makeTable_594 : decode cX12_makeTable 594 = .ok (.aload_n 0, 1) := by decide +kernel
theorem dX12_makeTable_595 : decode cX12_makeTable 595 = .ok (.getfield 247, 3) := by decide +kernel
theorem dX12_makeTable_598 : decode cX12_makeTable 598 = .ok (.iload 14, 2) := by decide +kernel
theorem dX12_makeTable_600 : decode cX12_makeTable 600 = .ok (.baload, 1) := by decide +kernel
theorem dX12_makeTable_601 : decode cX12_makeTable 601 = .ok (.ifCond .eq 7, 3) := by decide +kernel
theorem dX12_makeTable_604 : decode cX12_makeTable 604 = .ok (.iconst 1, 1) := by decide +kernel
theorem dX12_makeTable_605 : decode cX12_makeTable 605 = .ok (.goto 4, 3) := by decide +kernel
theorem dX12_makeTable_608 : decode cX12_makeTable 608 = .ok (.iconst 0, 1) := by decide +kernel
theorem dX12_makeTable_609 : decode cX12_makeTable 609 = .ok (.istore 13, 2) := by decide +kernel
theorem dX12_makeTable_611 : decode cX12_makeTable 611 = .ok (.iinc 14 1, 3) := by decide +kernel
theorem dX12_makeTable_614 : decode cX12_makeTable 614 = .ok (.goto (-46), 3) := by decide +kernel
theorem dX12_makeTable_617 : decode cX12_makeTable 617 = .ok (.aload_n 0, 1) := by decide +kernel
theorem dX12_makeTable_618 : decode cX12_makeTable 618 = .ok (.getfield 268, 3) := by decide +kernel
theorem dX12_makeTable_621 : decode cX12_makeTable 621 = .ok (.bipush 61, 2) := by decide +kernel
theorem dX12_makeTable_623 : decode cX12_makeTable 623 = .ok (.iload_n 1, 1) := by decide +kernel
theorem dX12_makeTable_624 : decode cX12_makeTable 624 = .ok (.imul, 1) := by decide +kernel
theorem dX12_makeTable_625 : decode cX12_makeTable 625 = .ok (.iload 12, 2) := by decide +kernel
theorem dX12_makeTable_627 : decode cX12_makeTable 627 = .ok (.iadd, 1) := by decide +kernel
theorem dX12_makeTable_628 : decode cX12_makeTable 628 = .ok (.iload 13, 2) := by decide +kernel
theorem dX12_makeTable_630 : decode cX12_makeTable 630 = .ok (.bastore, 1) := by decide +kernel
theorem dX12_makeTable_631 : decode cX12_makeTable 631 = .ok (.aload_n 0, 1) := by decide +kernel
theorem dX12_makeTable_632 : decode cX12_makeTable 632 = .ok (.getfield 262, 3) := by decide +kernel
theorem dX12_makeTable_635 : decode cX12_makeTable 635 = .ok (.iload_n 1, 1) := by decide +kernel
theorem dX12_makeTable_636 : decode cX12_makeTable 636 = .ok (.dup2, 1) := by decide +kernel
theorem dX12_makeTable_637 : decode cX12_makeTable 637 = .ok (.iaload, 1) := by decide +kernel
theorem dX12_makeTable_638 : decode cX12_makeTable 638 = .ok (.iconst 1, 1) := by decide +kernel
theorem dX12_makeTable_639 : decode cX12_makeTable 639 = .ok (.iadd, 1) := by decide +kernel
theorem dX12_makeTable_640 : decode cX12_makeTable 640 = .ok (.iastore, 1) := by decide +kernel
theorem dX12_makeTable_641 : decode cX12_makeTable 641 = .ok (.aload_n 0, 1) := by decide +kernel
theorem dX12_makeTable_642 : decode cX12_makeTable 642 = .ok (.getfield 284, 3) := by decide +kernel
theorem dX12_makeTable_645 : decode cX12_makeTable 645 = .ok (.sipush 30500, 3) := by decide +kernel
theorem dX12_makeTable_648 : decode cX12_makeTable 648 = .ok (.iload_n 1, 1) := by decide +kernel
theorem dX12_makeTable_649 : decode cX12_makeTable 649 = .ok (.imul, 1) := by decide +kernel
theorem dX12_makeTable_650 : decode cX12_makeTable 650 = .ok (.sipush 500, 3) := by decide +kernel
theorem dX12_makeTable_653 : decode cX12_makeTable 653 = .ok (.iload 6, 2) := by decide +kernel
theorem dX12_makeTable_655 : decode cX12_makeTable 655 = .ok (.imul, 1) := by decide +kernel
theorem dX12_makeTable_656 : decode cX12_makeTable 656 = .ok (.iadd, 1) := by decide +kernel
theorem dX12_makeTable_657 : decode cX12_makeTable 657 = .ok (.iload 9, 2) := by decide +kernel
theorem dX12_makeTable_659 : decode cX12_makeTable 659 = .ok (.iadd, 1) := by decide +kernel
theorem dX12_makeTable_660 : decode cX12_makeTable 660 = .ok (.iload 12, 2) := by decide +kernel
theorem dX12_makeTable_662 : decode cX12_makeTable 662 = .ok (.iastore, 1) := by decide +kernel
theorem dX12_makeTable_663 : decode cX12_makeTable 663 = .ok (.iinc 9 1, 3) := by decide +kernel
theorem dX12_makeTable_666 : decode cX12_makeTable 666 = .ok (.goto (-206), 3) := by decide +kernel
theorem dX12_makeTable_669 : decode cX12_makeTable 669 = .ok (.iinc 6 1, 3) := by decide +kernel
theorem dX12_makeTable_672 : decode cX12_makeTable 672 = .ok (.goto (-300), 3) := by decide +kernel
theorem dX12_makeTable_675 : decode cX12_makeTable 675 = .ok (.iconst 0, 1) := by decide +kernel
theorem dX12_makeTable_676 : decode cX12_makeTable 676 = .ok (.ireturn, 1) := by decide +kernel
theorem dX12_markBounds_0 : decode cX12_markBounds 0 = .ok (.iconst 0, 1) := by decide +kernel
theorem dX12_markBounds_1 : decode cX12_markBounds 1 = .ok (.istore_n 2, 1) := by decide +kernel
theorem dX12_markBounds_2 : decode cX12_markBounds 2 = .ok (.iload_n 2, 1) := by decide +kernel
theorem dX12_markBounds_3 : decode cX12_markBounds 3 = .ok (.aload_n 0, 1) := by decide +kernel
theorem dX12_markBounds_4 : decode cX12_markBounds 4 = .ok (.getfield 35, 3) := by decide +kernel
theorem dX12_markBounds_7 : decode cX12_markBounds 7 = .ok (.iload_n 1, 1) := by decide +kernel
theorem dX12_markBounds_8 : decode cX12_markBounds 8 = .ok (.iaload, 1) := by decide +kernel
theorem dX12_markBounds_9 : decode cX12_markBounds 9 = .ok (.if_icmp .ge 216, 3) := by decide +kernel
theorem dX12_markBounds_12 : decode cX12_markBounds 12 = .ok (.sipush 220, 3) := by decide +kernel
theorem dX12_markBounds_15 : decode cX12_markBounds 15 = .ok (.iload_n 1, 1) := by decide +kernel
theorem dX12_markBounds_16 : decode cX12_markBounds 16 = .ok (.imul, 1) := by decide +kernel
theorem dX12_markBounds_17 : decode cX12_markBounds 17 = .ok (.iload_n 2, 1) := by decide +kernel
theorem dX12_markBounds_18 : decode cX12_markBounds 18 = .ok (.iadd, 1) := by decide +kernel
theorem dX12_markBounds_19 : decode cX12_markBounds 19 = .ok (.istore_n 3, 1) := by decide +kernel
theorem dX12_markBounds_20 : decode cX12_markBounds 20 = .ok (.aload_n 0, 1) := by decide +kernel
theorem dX12_markBounds_21 : decode cX12_markBounds 21 = .ok (.getfield 44, 3) := by decide +kernel
theorem dX12_markBounds_24 : decode cX12_markBounds 24 = .ok (.iload_n 3, 1) := by decide +kernel
theorem dX12_markBounds_25 : decode cX12_markBounds 25 = .ok (.iaload, 1) := by decide +kernel
theorem dX12_markBounds_26 : decode cX12_markBounds 26 = .ok (.istore 4, 2) := by decide +kernel
theorem dX12_markBounds_28 : decode cX12_markBounds 28 = .ok (.iload 4, 2) := by decide +kernel
theorem dX12_markBounds_30 : decode cX12_markBounds 30 = .ok (.ifCond .ne 61, 3) := by decide +kernel
theorem dX12_markBounds_33 : decode cX12_markBounds 33 = .ok (.aload_n 0, 1) := by decide +kernel
theorem dX12_markBounds_34 : decode cX12_markBounds 34 = .ok (.getfield 162, 3) := by decide +kernel
theorem dX12_markBounds_37 : decode cX12_markBounds 37 = .ok (.aload_n 0, 1) := by decide +kernel
theorem dX12_markBounds_38 : decode cX12_markBounds 38 = .ok (.getfield 47, 3) := by decide +kernel
theorem dX12_markBounds_41 : decode cX12_markBounds 41 = .ok (.iload_n 3, 1) := by decide +kernel
theorem dX12_markBounds_42 : decode cX12_markBounds 42 = .ok (.iaload, 1) := by decide +kernel
theorem dX12_markBounds_43 : decode cX12_markBounds 43 = .ok (.iconst 1, 1) := by decide +kernel
theorem dX12_markBounds_44 : decode cX12_markBounds 44 = .ok (.bastore, 1) := by decide +kernel
theorem dX12_markBounds_45 : decode cX12_markBounds 45 = .ok (.aload_n 0, 1) := by decide +kernel
theorem dX12_markBounds_46 : decode cX12_markBounds 46 = .ok (.getfield 162, 3) := by decide +kernel
theorem dX12_markBounds_49 : decode cX12_markBounds 49 = .ok (.aload_n 0, 1) := by decide +kernel
theorem dX12_markBounds_50 : decode cX12_markBounds 50 = .ok (.getfield 47, 3) := by decide +kernel
theorem dX12_markBounds_53 : decode cX12_markBounds 53 = .ok (.iload_n 3, 1) := by decide +kernel
theorem dX12_markBounds_54 : decode cX12_markBounds 54 = .ok (.iaload, 1) := by decide +kernel
theorem dX12_markBounds_55 : decode cX12_markBounds 55 = .ok (.iconst 1, 1) := by decide +kernel
theorem dX12_markBounds_56 : decode cX12_markBounds 56 = .ok (.iadd, 1) := by decide +kernel
theorem dX12_markBounds_57 : decode cX12_markBounds 57 = .ok (.iconst 1, 1) := by decide +kernel
theorem dX12_markBounds_58 : decode cX12_markBounds 58 = .ok (.bastore, 1) := by decide +kernel
theorem dX12_markBounds_59 : decode cX12_markBounds 59 = .ok (.aload_n 0, 1) := by decide +kernel
theorem dX12_markBounds_60 : decode cX12_markBounds 60 = .ok (.getfield 162, 3) := by decide +kernel
theorem dX12_markBounds_63 : decode cX12_markBounds 63 = .ok (.aload_n 0, 1) := by decide +kernel
theorem dX12_markBounds_64 : decode cX12_markBounds 64 = .ok (.getfield 47, 3) := by decide +kernel
theorem dX12_markBounds_67 : decode cX12_markBounds 67 = .ok (.iload_n 3, 1) := by decide +kernel
theorem dX12_markBounds_68 : decode cX12_markBounds 68 = .ok (.iaload, 1) := by decide +kernel
theorem dX12_markBounds_69 : decode cX12_markBounds 69 = .ok (.invokestatic 511, 3) := by decide +kernel
theorem dX12_markBounds_72 : decode cX12_markBounds 72 = .ok (.iconst 1, 1) := by decide +kernel
theorem dX12_markBounds_73 : decode cX12_markBounds 73 = .ok (.bastore, 1) := by decide +kernel
theorem dX12_markBounds_74 : decode cX12_markBounds 74 = .ok (.aload_n 0, 1) := by decide +kernel
theorem dX12_markBounds_75 : decode cX12_markBounds 75 = .ok (.getfield 162, 3) := by decide +kernel
theorem dX12_markBounds_78 : decode cX12_markBounds 78 = .ok (.aload_n 0, 1) := by decide +kernel
theorem dX12_markBounds_79 : decode cX12_markBounds 79 = .ok (.getfield 47, 3) := by decide +kernel
theorem dX12_markBounds_82 : decode cX12_markBounds 82 = .ok (.iload_n 3, 1) := by decide +kernel
theorem dX12_markBounds_83 : decode cX12_markBounds 83 = .ok (.iaload, 1) := by decide +kernel
theorem dX12_markBounds_84 : decode cX12_markBounds 84 = .ok (.invokestatic 511, 3) := by decide +kernel
theorem dX12_markBounds_87 : decode cX12_markBounds 87 = .ok (.iconst 1, 1) := by decide +kernel
theorem dX12_markBounds_88 : decode cX12_markBounds 88 = .ok (.iadd, 1) := by decide +kernel
theorem dX12_markBounds_89 : decode cX12_markBounds 89 = .ok (.iconst 1, 1) := by decide +kernel
theorem dX12_markBounds_90 : decode cX12_markBounds 90 = .ok (.bastore, 1) := by decide +kernel
theorem dX12_markBounds_91 : decode cX12_markBounds 91 = .ok (.iload 4, 2) := by decide +kernel
theorem dX12_markBounds_93 : decode cX12_markBounds 93 = .ok (.iconst 1, 1) := by decide +kernel
theorem dX12_markBounds_94 : decode cX12_markBounds 94 = .ok (.if_icmp .ne 19, 3) := by decide +kernel
theorem dX12_markBounds_97 : decode cX12_markBounds 97 = .ok (.aload_n 0, 1) := by decide +kernel
theorem dX12_markBounds_98 : decode cX12_markBounds 98 = .ok (.getfield 162, 3) := by decide +kernel
theorem dX12_markBounds_101 : decode cX12_markBounds 101 = .ok (.bipush 10, 2) := by decide +kernel
theorem dX12_markBounds_103 : decode cX12_markBounds 103 = .ok (.iconst 1, 1) := by decide +kernel
theorem dX12_markBounds_104 : decode cX12_markBounds 104 = .ok (.bastore, 1) := by decide +kernel
theorem dX12_markBounds_105 : decode cX12_markBounds 105 = .ok (.aload_n 0, 1) := by decide +kernel
theorem dX12_markBounds_106 : decode cX12_markBounds 106 = .ok (.getfield 162, 3) := by decide +kernel
theorem dX12_markBounds_109 : decode cX12_markBounds 109 = .ok (.bipush 11, 2) := by decide +kernel
theorem dX12_markBounds_111 : decode cX12_markBounds 111 = .ok (.iconst 1, 1) := by decide +kernel
theorem dX12_markBounds_112 : decode cX12_markBounds 112 = .ok (.bastore, 1) := by decide +kernel
theorem dX12_markBounds_113 : decode cX12_markBounds 113 = .ok (.aload_n 0, 1) := by decide +kernel
theorem dX12_markBounds_114 : decode cX12_markBounds 114 = .ok (.getfield 71, 3) := by decide +kernel
theorem dX12_markBounds_117 : decode cX12_markBounds 117 = .ok (.iload_n 3, 1) := by decide +kernel
theorem dX12_markBounds_118 : decode cX12_markBounds 118 = .ok (.iaload, 1) := by decide +kernel
theorem dX12_markBounds_119 : decode cX12_markBounds 119 = .ok (.istore 5, 2) := by decide +kernel
theorem dX12_markBounds_121 : decode cX12_markBounds 121 = .ok (.iload 4, 2) := by decide +kernel
theorem dX12_markBounds_123 : decode cX12_markBounds 123 = .ok (.iconst 2, 1) := by decide +kernel
theorem dX12_markBounds_124 : decode cX12_markBounds 124 = .ok (.if_icmp .ne 55, 3) := by decide +kernel
theorem dX12_markBounds_127 : decode cX12_markBounds 127 = .ok (.iload 5, 2) := by decide +kernel
theorem dX12_markBounds_129 : decode cX12_markBounds 129 = .ok (.aload_n 0, 1) := by decide +kernel
theorem dX12_markBounds_130 : decode cX12_markBounds 130 = .ok (.getfield 71, 3) := by decide +kernel
theorem dX12_markBounds_133 : decode cX12_markBounds 133 = .ok (.iload_n 3, 1) := by decide +kernel
theorem dX12_markBounds_134 : decode cX12_markBounds 134 = .ok (.iaload, 1) := by decide +kernel
theorem dX12_markBounds_135 : decode cX12_markBounds 135 = .ok (.aload_n 0, 1) := by decide +kernel
theorem dX12_markBounds_136 : decode cX12_markBounds 136 = .ok (.getfield 59, 3) := by decide +kernel
theorem dX12_markBounds_139 : decode cX12_markBounds 139 = .ok (.iload_n 3, 1) := by decide +kernel
theorem dX12_markBounds_140 : decode cX12_markBounds 140 = .ok (.iaload, 1) := by decide +kernel
theorem dX12_markBounds_141 : decode cX12_markBounds 141 = .ok (.iadd, 1) := by decide +kernel
theorem dX12_markBounds_142 : decode cX12_markBounds 142 = .ok (.if_icmp .ge 37, 3) := by decide +kernel
theorem dX12_markBounds_145 : decode cX12_markBounds 145 = .ok (.aload_n 0, 1) := by decide +kernel
theorem dX12_markBounds_146 : decode cX12_markBounds 146 = .ok (.getfield 162, 3) := by decide +kernel
theorem dX12_markBounds_149 : decode cX12_markBounds 149 = .ok (.aload_n 0, 1) := by decide +kernel
theorem dX12_markBounds_150 : decode cX12_markBounds 150 = .ok (.getfield 80, 3) := by decide +kernel
theorem dX12_markBounds_153 : decode cX12_markBounds 153 = .ok (.iload 5, 2) := by decide +kernel
theorem dX12_markBounds_155 : decode cX12_markBounds 155 = .ok (.iaload, 1) := by decide +kernel
theorem dX12_markBounds_156 : decode cX12_markBounds 156 = .ok (.iconst 1, 1) := by decide +kernel
theorem dX12_markBounds_157 : decode cX12_markBounds 157 = .ok (.bastore, 1) := by decide +kernel
theorem dX12_markBounds_158 : decode cX12_markBounds 158 = .ok (.aload_n 0, 1) := by decide +kernel
theorem dX12_markBounds_159 : decode cX12_markBounds 159 = .ok (.getfield 162, 3) := by decide +kernel
theorem dX12_markBounds_162 : decode cX12_markBounds 162 = .ok (.aload_n 0, 1) := by decide +kernel
theorem dX12_markBounds_163 : decode cX12_markBounds 163 = .ok (.getfield 83, 3) := by decide +kernel
theorem dX12_markBounds_166 : decode cX12_markBounds 166 = .ok (.iload 5, 2) := by decide +kernel
theorem dX12_markBounds_168 : decode cX12_markBounds 168 = .ok (.iaload, 1) := by decide +kernel
theorem dX12_markBounds_169 : decode cX12_markBounds 169 = .ok (.iconst 1, 1) := by decide +kernel
theorem dX12_markBounds_170 : decode cX12_markBounds 170 = .ok (.iadd, 1) := by decide +kernel
theorem dX12_markBounds_171 : decode cX12_markBounds 171 = .ok (.iconst 1, 1) := by decide +kernel
theorem dX12_markBounds_172 : decode cX12_markBounds 172 = .ok (.bastore, 1) := by decide +kernel
theorem dX12_markBounds_173 : decode cX12_markBounds 173 = .ok (.iinc 5 1, 3) := by decide +kernel
theorem dX12_markBounds_176 : decode cX12_markBounds 176 = .ok (.goto (-55), 3) := by decide +kernel
theorem dX12_markBounds_179 : decode cX12_markBounds 179 = .ok (.bipush 65, 2) := by decide +kernel
theorem dX12_markBounds_181 : decode cX12_markBounds 181 = .ok (.istore 5, 2) := by decide +kernel
theorem dX12_markBounds_183 : decode cX12_markBounds 183 = .ok (.iload 4, 2) := by decide +kernel
theorem dX12_markBounds_185 : decode cX12_markBounds 185 = .ok (.iconst 2, 1) := by decide +kernel
theorem dX12_markBounds_186 : decode cX12_markBounds 186 = .ok (.if_icmp .ne 33, 3) := by decide +kernel
theorem dX12_markBounds_189 : decode cX12_markBounds 189 = .ok (.aload_n 0, 1) := by decide +kernel
theorem dX12_markBounds_190 : decode cX12_markBounds 190 = .ok (.getfield 77, 3) := by decide +kernel
theorem dX12_markBounds_193 : decode cX12_markBounds 193 = .ok (.iload_n 3, 1) := by decide +kernel
theorem dX12_markBounds_194 : decode cX12_markBounds 194 = .ok (.baload, 1) := by decide +kernel
theorem dX12_markBounds_195 : decode cX12_markBounds 195 = .ok (.ifCond .eq 24, 3) := by decide +kernel
theorem dX12_markBounds_198 : decode cX12_markBounds 198 = .ok (.iload 5, 2) := by decide +kernel
theorem dX12_markBounds_200 : decode cX12_markBounds 200 = .ok (.bipush 124, 2) := by decide +kernel
theorem dX12_markBounds_202 : decode cX12_markBounds 202 = .ok (.if_icmp .ge 17, 3) := by decide +kernel
theorem dX12_markBounds_205 : decode cX12_markBounds 205 = .ok (.aload_n 0, 1) := by decide +kernel
theorem dX12_markBounds_206 : decode cX12_markBounds 206 = .ok (.getfield 162, 3) := by decide +kernel
theorem dX12_markBounds_209 : decode cX12_markBounds 209 = .ok (.iload 5, 2) := by decide +kernel
theorem dX12_markBounds_211 : decode cX12_markBounds 211 = .ok (.iconst 1, 1) := by decide +kernel
theorem dX12_markBounds_212 : decode cX12_markBounds 212 = .ok (.bastore, 1) := by decide +kernel
theorem dX12_markBounds_213 : decode cX12_markBounds 213 = .ok (.iinc 5 1, 3) := by decide +kernel
theorem dX12_markBounds_216 : decode cX12_markBounds 216 = .ok (.goto (-33), 3) := by decide +kernel
theorem dX12_markBounds_219 : decode cX12_markBounds 219 = .ok (.iinc 2 1, 3) := by decide +kernel
theorem dX12_markBounds_222 : decode cX12_markBounds 222 = .ok (.goto (-220), 3) := by decide +kernel
theorem dX12_markBounds_225 : decode cX12_markBounds 225 = .ok (.return_, 1) := by decide +kernel
theorem dX12_measure_0 : decode cX12_measure 0 = .ok (.sipush 220, 3) := by decide +kernel
theorem dX12_measure_3 : decode cX12_measure 3 = .ok (.iload_n 1, 1) := by decide +kernel
theorem dX12_measure_4 : decode cX12_measure 4 = .ok (.imul, 1) := by decide +kernel
theorem dX12_measure_5 : decode cX12_measure 5 = .ok (.istore_n 3, 1) := by decide +kernel
theorem dX12_measure_6 : decode cX12_measure 6 = .ok (.iload_n 3, 1) := by decide +kernel
theorem dX12_measure_7 : decode cX12_measure 7 = .ok (.iload_n 2, 1) := by decide +kernel
theorem dX12_measure_8 : decode cX12_measure 8 = .ok (.iadd, 1) := by decide +kernel
theorem dX12_measure_9 : decode cX12_measure 9 = .ok (.istore 4, 2) := by decide +kernel
theorem dX12_measure_11 : decode cX12_measure 11 = .ok (.iconst 0, 1) := by decide +kernel
theorem dX12_measure_12 : decode cX12_measure 12 = .ok (.istore 5, 2) := by decide +kernel
theorem dX12_measure_14 : decode cX12_measure 14 = .ok (.iconst 0, 1) := by decide +kernel
theorem dX12_measure_15 : decode cX12_measure 15 = .ok (.istore 6, 2) := by decide +kernel
theorem dX12_measure_17 : decode cX12_measure 17 = .ok (.iconst 1, 1) := by decide +kernel
theorem dX12_measure_18 : decode cX12_measure 18 = .ok (.istore 7, 2) := by decide +kernel
theorem dX12_measure_20 : decode cX12_measure 20 = .ok (.iconst 0, 1) := by decide +kernel
theorem dX12_measure_21 : decode cX12_measure 21 = .ok (.istore 8, 2) := by decide +kernel
theorem dX12_measure_23 : decode cX12_measure 23 = .ok (.iload_n 2, 1) := by decide +kernel
theorem dX12_measure_24 : decode cX12_measure 24 = .ok (.iconst 1, 1) := by decide +kernel
theorem dX12_measure_25 : decode cX12_measure 25 = .ok (.iadd, 1) := by decide +kernel
theorem dX12_measure_26 : decode cX12_measure 26 = .ok (.istore 9, 2) := by decide +kernel
theorem dX12_measure_28 : decode cX12_measure 28 = .ok (.iload 9, 2) := by decide +kernel
theorem dX12_measure_30 : decode cX12_measure 30 = .ok (.aload_n 0, 1) := by decide +kernel
theorem dX12_measure_31 : decode cX12_measure 31 = .ok (.getfield 62, 3) := by decide +kernel
theorem dX12_measure_34 : decode cX12_measure 34 = .ok (.iload 4, 2) := by decide +kernel
theorem dX12_measure_36 : decode cX12_measure 36 = .ok (.iaload, 1) := by decide +kernel
theorem dX12_measure_37 : decode cX12_measure 37 = .ok (.if_icmp .ge 99, 3) := by decide +kernel
theorem dX12_measure_40 : decode cX12_measure 40 = .ok (.iload 5, 2) := by decide +kernel
theorem dX12_measure_42 : decode cX12_measure 42 = .ok (.aload_n 0, 1) := by decide +kernel
theorem dX12_measure_43 : decode cX12_measure 43 = .ok (.getfield 65, 3) := by decide +kernel
theorem dX12_measure_46 : decode cX12_measure 46 = .ok (.iload_n 3, 1) := by decide +kernel
theorem dX12_measure_47 : decode cX12_measure 47 = .ok (.iload 9, 2) := by decide +kernel
theorem dX12_measure_49 : decode cX12_measure 49 = .ok (.iadd, 1) := by decide +kernel
theorem dX12_measure_50 : decode cX12_measure 50 = .ok (.iaload, 1) := by decide +kernel
theorem dX12_measure_51 : decode cX12_measure 51 = .ok (.iadd, 1) := by decide +kernel
theorem dX12_measure_52 : decode cX12_measure 52 = .ok (.invokestatic 438, 3) := by decide +kernel
theorem dX12_measure_55 : decode cX12_measure 55 = .ok (.istore 5, 2) := by decide +kernel
theorem dX12_measure_57 : decode cX12_measure 57 = .ok (.iload 6, 2) := by decide +kernel
theorem dX12_measure_59 : decode cX12_measure 59 = .ok (.aload_n 0, 1) := by decide +kernel
theorem dX12_measure_60 : decode cX12_measure 60 = .ok (.getfield 68, 3) := by decide +kernel
theorem dX12_measure_63 : decode cX12_measure 63 = .ok (.iload_n 3, 1) := by decide +kernel
theorem dX12_measure_64 : decode cX12_measure 64 = .ok (.iload 9, 2) := by decide +kernel
theorem dX12_measure_66 : decode cX12_measure 66 = .ok (.iadd, 1) := by decide +kernel
theorem dX12_measure_67 : decode cX12_measure 67 = .ok (.iaload, 1) := by decide +kernel
theorem dX12_measure_68 : decode cX12_measure 68 = .ok (.iadd, 1) := by decide +kernel
theorem dX12_measure_69 : decode cX12_measure 69 = .ok (.invokestatic 438, 3) := by decide +kernel
theorem dX12_measure_72 : decode cX12_measure 72 = .ok (.istore 6, 2) := by decide +kernel
theorem dX12_measure_74 : decode cX12_measure 74 = .ok (.iload 7, 2) := by decide +kernel
theorem dX12_measure_76 : decode cX12_measure 76 = .ok (.ifCond .eq 19, 3) := by decide +kernel
theorem dX12_measure_79 : decode cX12_measure 79 = .ok (.aload_n 0, 1) := by decide +kernel
theorem dX12_measure_80 : decode cX12_measure 80 = .ok (.getfield 74, 3) := by decide +kernel
theorem dX12_measure_83 : decode cX12_measure 83 = .ok (.iload_n 3, 1) := by decide +kernel
theorem dX12_measure_84 : decode cX12_measure 84 = .ok (.iload 9, 2) := by decide +kernel
theorem dX12_measure_86 : decode cX12_measure 86 = .ok (.iadd, 1) := by decide +kernel
theorem dX12_measure_87 : decode cX12_measure 87 = .ok (.baload, 1) := by decide +kernel
theorem dX12_measure_88 : decode cX12_measure 88 = .ok (.ifCond .eq 7, 3) := by decide +kernel
theorem dX12_measure_91 : decode cX12_measure 91 = .ok (.iconst 1, 1) := by decide +kernel
theorem dX12_measure_92 : decode cX12_measure 92 = .ok (.goto 4, 3) := by decide +kernel
theorem dX12_measure_95 : decode cX12_measure 95 = .ok (.iconst 0, 1) := by decide +kernel
theorem dX12_measure_96 : decode cX12_measure 96 = .ok (.istore 7, 2) := by decide +kernel
theorem dX12_measure_98 : decode cX12_measure 98 = .ok (.iload 8, 2) := by decide +kernel
theorem dX12_measure_100 : decode cX12_measure 100 = .ok (.ifCond .ne 15, 3) := by decide +kernel
theorem dX12_measure_103 : decode cX12_measure 103 = .ok (.aload_n 0, 1) := by decide +kernel
theorem dX12_measure_104 : decode cX12_measure 104 = .ok (.getfield 74, 3) := by decide +kernel
theorem dX12_measure_107 : decode cX12_measure 107 = .ok (.iload_n 3, 1) := by decide +kernel
theorem dX12_measure_108 : decode cX12_measure 108 = .ok (.iload 9, 2) := by decide +kernel
theorem dX12_measure_110 : decode cX12_measure 110 = .ok (.iadd, 1) := by decide +kernel
theorem dX12_measure_111 : decode cX12_measure 111 = .ok (.baload, 1) := by decide +kernel
theorem dX12_measure_112 : decode cX12_measure 112 = .ok (.ifCond .eq 7, 3) := by decide +kernel
theorem dX12_measure_115 : decode cX12_measure 115 = .ok (.iconst 1, 1) := by decide +kernel
theorem dX12_measure_116 : decode cX12_measure 116 = .ok (.goto 4, 3) := by decide +kernel
theorem dX12_measure_119 : decode cX12_measure 119 = .ok (.iconst 0, 1) := by decide +kernel
theorem dX12_measure_120 : decode cX12_measure 120 = .ok (.istore 8, 2) := by decide +kernel
theorem dX12_measure_122 : decode cX12_measure 122 = .ok (.aload_n 0, 1) := by decide +kernel
theorem dX12_measure_123 : decode cX12_measure 123 = .ok (.getfield 62, 3) := by decide +kernel
theorem dX12_measure_126 : decode cX12_measure 126 = .ok (.iload_n 3, 1) := by decide +kernel
theorem dX12_measure_127 : decode cX12_measure 127 = .ok (.iload 9, 2) := by decide +kernel
theorem dX12_measure_129 : decode cX12_measure 129 = .ok (.iadd, 1) := by decide +kernel
theorem dX12_measure_130 : decode cX12_measure 130 = .ok (.iaload, 1) := by decide +kernel
theorem dX12_measure_131 : decode cX12_measure 131 = .ok (.istore 9, 2) := by decide +kernel
theorem dX12_measure_133 : decode cX12_measure 133 = .ok (.goto (-105), 3) := by decide +kernel
theorem dX12_measure_136 : decode cX12_measure 136 = .ok (.aload_n 0, 1) := by decide +kernel
theorem dX12_measure_137 : decode cX12_measure 137 = .ok (.getfield 44, 3) := by decide +kernel
theorem dX12_measure_140 : decode cX12_measure 140 = .ok (.iload 4, 2) := by decide +kernel
theorem dX12_measure_142 : decode cX12_measure 142 = .ok (.iaload, 1) := by decide +kernel
theorem dX12_measure_143 : decode cX12_measure 143 = .ok (.istore 9, 2) := by decide +kernel
theorem dX12_measure_145 : decode cX12_measure 145 = .ok (.iconst 1, 1) := by decide +kernel
theorem dX12_measure_146 : decode cX12_measure 146 = .ok (.istore 10, 2) := by decide +kernel
theorem dX12_measure_148 : decode cX12_measure 148 = .ok (.iload 9, 2) := by decide +kernel
theorem dX12_measure_150 : decode cX12_measure 150 = .ok (.bipush 7, 2) := by decide +kernel
theorem dX12_measure_152 : decode cX12_measure 152 = .ok (.if_icmp .ne 50, 3) := by decide +kernel
theorem dX12_measure_155 : decode cX12_measure 155 = .ok (.aload_n 0, 1) := by decide +kernel
theorem dX12_measure_156 : decode cX12_measure 156 = .ok (.getfield 53, 3) := by decide +kernel
theorem dX12_measure_159 : decode cX12_measure 159 = .ok (.iload 4, 2) := by decide +kernel
theorem dX12_measure_161 : decode cX12_measure 161 = .ok (.iaload, 1) := by decide +kernel
theorem dX12_measure_162 : decode cX12_measure 162 = .ok (.iconst (-1), 1) := by decide +kernel
theorem dX12_measure_163 : decode cX12_measure 163 = .ok (.if_icmp .ne 15, 3) := by decide +kernel
theorem dX12_measure_166 : decode cX12_measure 166 = .ok (.aload_n 0, 1) := by decide +kernel
theorem dX12_measure_167 : decode cX12_measure 167 = .ok (.getfield 50, 3) := by decide +kernel
theorem dX12_measure_170 : decode cX12_measure 170 = .ok (.iload 4, 2) := by decide +kernel
theorem dX12_measure_172 : decode cX12_measure 172 = .ok (.iaload, 1) := by decide +kernel
theorem dX12_measure_173 : decode cX12_measure 173 = .ok (.iconst 1, 1) := by decide +kernel
theorem dX12_measure_174 : decode cX12_measure 174 = .ok (.iadd, 1) := by decide +kernel
theorem dX12_measure_175 : decode cX12_measure 175 = .ok (.goto 25, 3) := by decide +kernel
theorem dX12_measure_178 : decode cX12_measure 178 = .ok (.aload_n 0, 1) := by decide +kernel
theorem dX12_measure_179 : decode cX12_measure 179 = .ok (.getfield 53, 3) := by decide +kernel
theorem dX12_measure_182 : decode cX12_measure 182 = .ok (.iload 4, 2) := by decide +kernel
theorem dX12_measure_184 : decode cX12_measure 184 = .ok (.iaload, 1) := by decide +kernel
theorem dX12_measure_185 : decode cX12_measure 185 = .ok (.iconst 1, 1) := by decide +kernel
theorem dX12_measure_186 : decode cX12_measure 186 = .ok (.if_icmp .ge 7, 3) := by decide +kernel
theorem dX12_measure_189 : decode cX12_measure 189 = .ok (.iconst 1, 1) := by decide +kernel
theorem dX12_measure_190 : decode cX12_measure 190 = .ok (.goto 10, 3) := by decide +kernel
theorem dX12_measure_193 : decode cX12_measure 193 = .ok (.aload_n 0, 1) := by decide +kernel
theorem dX12_measure_194 : decode cX12_measure 194 = .ok (.getfield 53, 3) := by decide +kernel
theorem dX12_measure_197 : decode cX12_measure 197 = .ok (.iload 4, 2) := by decide +kernel
theorem dX12_measure_199 : decode cX12_measure 199 = .ok (.iaload, 1) := by decide +kernel
theorem dX12_measure_200 : decode cX12_measure 200 = .ok (.istore 10, 2) := by decide +kernel
theorem dX12_measure_202 : decode cX12_measure 202 = .ok (.aload_n 0, 1) := by decide +kernel
theorem dX12_measure_203 : decode cX12_measure 203 = .ok (.getfield 65, 3) := by decide +kernel
theorem dX12_measure_206 : decode cX12_measure 206 = .ok (.iload 4, 2) := by decide +kernel
theorem dX12_measure_208 : decode cX12_measure 208 = .ok (.iconst 1, 1) := by decide +kernel
theorem dX12_measure_209 : decode cX12_measure 209 = .ok (.iload 10, 2) := by decide +kernel
theorem dX12_measure_211 : decode cX12_measure 211 = .ok (.iload 5, 2) := by decide +kernel
theorem dX12_measure_213 : decode cX12_measure 213 = .ok (.imul, 1) := by decide +kernel
theorem dX12_measure_214 : decode cX12_measure 214 = .ok (.iadd, 1) := by decide +kernel
theorem dX12_measure_215 : decode cX12_measure 215 = .ok (.invokestatic 438, 3) := by decide +kernel
theorem dX12_measure_218 : decode cX12_measure 218 = .ok (.iastore, 1) := by decide +kernel
theorem dX12_measure_219 : decode cX12_measure 219 = .ok (.aload_n 0, 1) := by decide +kernel
theorem dX12_measure_220 : decode cX12_measure 220 = .ok (.getfield 68, 3) := by decide +kernel
theorem dX12_measure_223 : decode cX12_measure 223 = .ok (.iload 4, 2) := by decide +kernel
theorem dX12_measure_225 : decode cX12_measure 225 = .ok (.iload 9, 2) := by decide +kernel
theorem dX12_measure_227 : decode cX12_measure 227 = .ok (.iconst 2, 1) := by decide +kernel
theorem dX12_measure_228 : decode cX12_measure 228 = .ok (.if_icmp .gt 7, 3) := by decide +kernel
theorem dX12_measure_231 : decode cX12_measure 231 = .ok (.iconst 1, 1) := by decide +kernel
theorem dX12_measure_232 : decode cX12_measure 232 = .ok (.goto 11, 3) := by decide +kernel
theorem dX12_measure_235 : decode cX12_measure 235 = .ok (.iload 10, 2) := by decide +kernel
theorem dX12_measure_237 : decode cX12_measure 237 = .ok (.iload 6, 2) := by decide +kernel
theorem dX12_measure_239 : decode cX12_measure 239 = .ok (.imul, 1) := by decide +kernel
theorem dX12_measure_240 : decode cX12_measure 240 = .ok (.invokestatic 438, 3) := by decide +kernel
theorem dX12_measure_243 : decode cX12_measure 243 = .ok (.iastore, 1) := by decide +kernel
theorem dX12_measure_244 : decode cX12_measure 244 = .ok (.aload_n 0, 1) := by decide +kernel
theorem dX12_measure_245 : decode cX12_measure 245 = .ok (.getfield 74, 3) := by decide +kernel
theorem dX12_measure_248 : decode cX12_measure 248 = .ok (.iload 4, 2) := by decide +kernel
theorem dX12_measure_250 : decode cX12_measure 250 = .ok (.iload 9, 2) := by decide +kernel
theorem dX12_measure_252 : decode cX12_measure 252 = .ok (.iconst 3, 1) := by decide +kernel
theorem dX12_measure_253 : decode cX12_measure 253 = .ok (.if_icmp .eq 63, 3) := by decide +kernel
theorem dX12_measure_256 : decode cX12_measure 256 = .ok (.iload 9, 2) := by decide +kernel
theorem dX12_measure_258 : decode cX12_measure 258 = .ok (.iconst 4, 1) := by decide +kernel
theorem dX12_measure_259 : decode cX12_measure 259 = .ok (.if_icmp .eq 57, 3) := by decide +kernel
theorem dX12_measure_262 : decode cX12_measure 262 = .ok (.iload 9, 2) := by decide +kernel
theorem dX12_measure_264 : decode cX12_measure 264 = .ok (.bipush 9, 2) := by decide +kernel
theorem dX12_measure_266 : decode cX12_measure 266 = .ok (.if_icmp .eq 50, 3) := by decide +kernel
theorem dX12_measure_269 : decode cX12_measure 269 = .ok (.iload 9, 2) := by decide +kernel
theorem dX12_measure_271 : decode cX12_measure 271 = .ok (.bipush 7, 2) := by decide +kernel
theorem dX12_measure_273 : decode cX12_measure 273 = .ok (.if_icmp .ne 13, 3) := by decide +kernel
theorem dX12_measure_276 : decode cX12_measure 276 = .ok (.aload_n 0, 1) := by decide +kernel
theorem dX12_measure_277 : decode cX12_measure 277 = .ok (.getfield 50, 3) := by decide +kernel
theorem dX12_measure_280 : decode cX12_measure 280 = .ok (.iload 4, 2) := by decide +kernel
theorem dX12_measure_282 : decode cX12_measure 282 = .ok (.iaload, 1) := by decide +kernel
theorem dX12_measure_283 : decode cX12_measure 283 = .ok (.ifCond .eq 33, 3) := by decide +kernel
theorem dX12_measure_286 : decode cX12_measure 286 = .ok (.iload 9, 2) := by decide +kernel
theorem dX12_measure_288 : decode cX12_measure 288 = .ok (.bipush 6, 2) := by decide +kernel
theorem dX12_measure_290 : decode cX12_measure 290 = .ok (.if_icmp .ne 8, 3) := by decide +kernel
theorem dX12_measure_293 : decode cX12_measure 293 = .ok (.iload 8, 2) := by decide +kernel
theorem dX12_measure_295 : decode cX12_measure 295 = .ok (.ifCond .ne 21, 3) := by decide +kernel
theorem dX12_measure_298 : decode cX12_measure 298 = .ok (.iload 9, 2) := by decide +kernel
theorem dX12_measure_300 : decode cX12_measure 300 = .ok (.bipush 6, 2) := by decide +kernel
theorem dX12_measure_302 : decode cX12_measure 302 = .ok (.if_icmp .eq 18, 3) := by decide +kernel
theorem dX12_measure_305 : decode cX12_measure 305 = .ok (.iload 9, 2) := by decide +kernel
theorem dX12_measure_307 : decode cX12_measure 307 = .ok (.iconst 2, 1) := by decide +kernel
theorem dX12_measure_308 : decode cX12_measure 308 = .ok (.if_icmp .le 12, 3) := by decide +kernel
theorem dX12_measure_311 : decode cX12_measure 311 = .ok (.iload 7, 2) := by decide +kernel
theorem dX12_measure_313 : decode cX12_measure 313 = .ok (.ifCond .eq 7, 3) := by decide +kernel
theorem dX12_measure_316 : decode cX12_measure 316 = .ok (.iconst 1, 1) := by decide +kernel
theorem dX12_measure_317 : decode cX12_measure 317 = .ok (.goto 4, 3) := by decide +kernel
theorem dX12_measure_320 : decode cX12_measure 320 = .ok (.iconst 0, 1) := by decide +kernel
theorem dX12_measure_321 : decode cX12_measure 321 = .ok (.bastore, 1) := by decide +kernel
theorem dX12_measure_322 : decode cX12_measure 322 = .ok (.return_, 1) := by decide +kernel
theorem dX12_meet_0 : decode cX12_meet 0 = .ok (.aload_n 0, 1) := by decide +kernel
theorem dX12_meet_1 : decode cX12_meet 1 = .ok (.getfield 305, 3) := by decide +kernel
theorem dX12_meet_4 : decode cX12_meet 4 = .ok (.bipush 61, 2) := by decide +kernel
theorem dX12_meet_6 : decode cX12_meet 6 = .ok (.iload_n 1, 1) := by decide +kernel
theorem dX12_meet_7 : decode cX12_meet 7 = .ok (.imul, 1) := by decide +kernel
theorem dX12_meet_8 : decode cX12_meet 8 = .ok (.iload_n 2, 1) := by decide +kernel
theorem dX12_meet_9 : decode cX12_meet 9 = .ok (.iadd, 1) := by decide +kernel
theorem dX12_meet_10 : decode cX12_meet 10 = .ok (.baload, 1) := by decide +kernel
theorem dX12_meet_11 : decode cX12_meet 11 = .ok (.ifCond .ne 66, 3) := by decide +kernel
theorem dX12_meet_14 : decode cX12_meet 14 = .ok (.aload_n 0, 1) := by decide +kernel
theorem dX12_meet_15 : decode cX12_meet 15 = .ok (.getfield 305, 3) := by decide +kernel
theorem dX12_meet_18 : decode cX12_meet 18 = .ok (.bipush 61, 2) := by decide +kernel
theorem dX12_meet_20 : decode cX12_meet 20 = .ok (.iload_n 1, 1) := by decide +kernel
theorem dX12_meet_21 : decode cX12_meet 21 = .ok (.imul, 1) := by decide +kernel
theorem dX12_meet_22 : decode cX12_meet 22 = .ok (.iload_n 2, 1) := by decide +kernel
theorem dX12_meet_23 : decode cX12_meet 23 = .ok (.iadd, 1) := by decide +kernel
theorem dX12_meet_24 : decode cX12_meet 24 = .ok (.iconst 1, 1) := by decide +kernel
theorem dX12_meet_25 : decode cX12_meet 25 = .ok (.bastore, 1) := by decide +kernel
theorem dX12_meet_26 : decode cX12_meet 26 = .ok (.aload_n 0, 1) := by decide +kernel
theorem dX12_meet_27 : decode cX12_meet 27 = .ok (.getfield 293, 3) := by decide +kernel
theorem dX12_meet_30 : decode cX12_meet 30 = .ok (.aload_n 0, 1) := by decide +kernel
theorem dX12_meet_31 : decode cX12_meet 31 = .ok (.getfield 745, 3) := by decide +kernel
theorem dX12_meet_34 : decode cX12_meet 34 = .ok (.iload_n 1, 1) := by decide +kernel
theorem dX12_meet_35 : decode cX12_meet 35 = .ok (.iastore, 1) := by decide +kernel
theorem dX12_meet_36 : decode cX12_meet 36 = .ok (.aload_n 0, 1) := by decide +kernel
theorem dX12_meet_37 : decode cX12_meet 37 = .ok (.getfield 296, 3) := by decide +kernel
theorem dX12_meet_40 : decode cX12_meet 40 = .ok (.aload_n 0, 1) := by decide +kernel
theorem dX12_meet_41 : decode cX12_meet 41 = .ok (.getfield 745, 3) := by decide +kernel
theorem dX12_meet_44 : decode cX12_meet 44 = .ok (.iload_n 2, 1) := by decide +kernel
theorem dX12_meet_45 : decode cX12_meet 45 = .ok (.iastore, 1) := by decide +kernel
theorem dX12_meet_46 : decode cX12_meet 46 = .ok (.aload_n 0, 1) := by decide +kernel
theorem dX12_meet_47 : decode cX12_meet 47 = .ok (.getfield 299, 3) := by decide +kernel
theorem dX12_meet_50 : decode cX12_meet 50 = .ok (.aload_n 0, 1) := by decide +kernel
theorem dX12_meet_51 : decode cX12_meet 51 = .ok (.getfield 745, 3) := by decide +kernel
theorem dX12_meet_54 : decode cX12_meet 54 = .ok (.iload_n 3, 1) := by decide +kernel
theorem dX12_meet_55 : decode cX12_meet 55 = .ok (.iastore, 1) := by decide +kernel
theorem dX12_meet_56 : decode cX12_meet 56 = .ok (.aload_n 0, 1) := by decide +kernel
theorem dX12_meet_57 : decode cX12_meet 57 = .ok (.getfield 302, 3) := by decide +kernel
theorem dX12_meet_60 : decode cX12_meet 60 = .ok (.aload_n 0, 1) := by decide +kernel
theorem dX12_meet_61 : decode cX12_meet 61 = .ok (.getfield 745, 3) := by decide +kernel
theorem dX12_meet_64 : decode cX12_meet 64 = .ok (.iload 4, 2) := by decide +kernel
theorem dX12_meet_66 : decode cX12_meet 66 = .ok (.iastore, 1) := by decide +kernel
theorem dX12_meet_67 : decode cX12_meet 67 = .ok (.aload_n 0, 1) := by decide +kernel
theorem dX12_meet_68 : decode cX12_meet 68 = .ok (.dup, 1) := by decide +kernel
theorem dX12_meet_69 : decode cX12_meet 69 = .ok (.getfield 745, 3) := by decide +kernel
theorem dX12_meet_72 : decode cX12_meet 72 = .ok (.iconst 1, 1) := by decide +kernel
theorem dX12_meet_73 : decode cX12_meet 73 = .ok (.iadd, 1) := by decide +kernel
theorem dX12_meet_74 : decode cX12_meet 74 = .ok (.putfield 745, 3) := by decide +kernel
theorem dX12_meet_77 : decode cX12_meet 77 = .ok (.return_, 1) := by decide +kernel
theorem dX12_member_0 : decode cX12_member 0 = .ok (.aload_n 0, 1) := by decide +kernel
theorem dX12_member_1 : decode cX12_member 1 = .ok (.iload_n 1, 1) := by decide +kernel
theorem dX12_member_2 : decode cX12_member 2 = .ok (.invokevirtual 349, 3) := by decide +kernel
theorem dX12_member_5 : decode cX12_member 5 = .ok (.istore_n 2, 1) := by decide +kernel
theorem dX12_member_6 : decode cX12_member 6 = .ok (.aload_n 0, 1) := by decide +kernel
theorem dX12_member_7 : decode cX12_member 7 = .ok (.iload_n 2, 1) := by decide +kernel
theorem dX12_member_8 : decode cX12_member 8 = .ok (.putfield 402, 3) := by decide +kernel
theorem dX12_member_11 : decode cX12_member 11 = .ok (.aload_n 0, 1) := by decide +kernel
theorem dX12_member_12 : decode cX12_member 12 = .ok (.iload_n 1, 1) := by decide +kernel
theorem dX12_member_13 : decode cX12_member 13 = .ok (.iconst 1, 1) := by decide +kernel
theorem dX12_member_14 : decode cX12_member 14 = .ok (.iadd, 1) := by decide +kernel
theorem dX12_member_15 : decode cX12_member 15 = .ok (.putfield 405, 3) := by decide +kernel
theorem dX12_member_18 : decode cX12_member 18 = .ok (.iload_n 2, 1) := by decide +kernel
theorem dX12_member_19 : decode cX12_member 19 = .ok (.iconst (-1), 1) := by decide +kernel
theorem dX12_member_20 : decode cX12_member 20 = .ok (.if_icmp .eq 27, 3) := by decide +kernel
theorem dX12_member_23 : decode cX12_member 23 = .ok (.iload_n 2, 1) := by decide +kernel
theorem dX12_member_24 : decode cX12_member 24 = .ok (.bipush 91, 2) := by decide +kernel
theorem dX12_member_26 : decode cX12_member 26 = .ok (.if_icmp .eq 21, 3) := by decide +kernel
theorem dX12_member_29 : decode cX12_member 29 = .ok (.iload_n 2, 1) := by decide +kernel
theorem dX12_member_30 : decode cX12_member 30 = .ok (.bipush 93, 2) := by decide +kernel
theorem dX12_member_32 : decode cX12_member 32 = .ok (.if_icmp .eq 15, 3) := by decide +kernel
theorem dX12_member_35 : decode cX12_member 35 = .ok (.iload_n 2, 1) := by decide +kernel
theorem dX12_member_36 : decode cX12_member 36 = .ok (.bipush 94, 2) := by decide +kernel
theorem dX12_member_38 : decode cX12_member 38 = .ok (.if_icmp .eq 9, 3) := by decide +kernel
theorem dX12_member_41 : decode cX12_member 41 = .ok (.iload_n 2, 1) := by decide +kernel
theorem dX12_member_42 : decode cX12_member 42 = .ok (.bipush 45, 2) := by decide +kernel
theorem dX12_member_44 : decode cX12_member 44 = .ok (.if_icmp .ne 12, 3) := by decide +kernel
theorem dX12_member_47 : decode cX12_member 47 = .ok (.aload_n 0, 1) := by decide +kernel
theorem dX12_member_48 : decode cX12_member 48 = .ok (.iconst 1, 1) := by decide +kernel
theorem dX12_member_49 : decode cX12_member 49 = .ok (.iload_n 1, 1) := by decide +kernel
theorem dX12_member_50 : decode cX12_member 50 = .ok (.invokevirtual 345, 3) := by decide +kernel
theorem dX12_member_53 : decode cX12_member 53 = .ok (.goto 84, 3) := by decide +kernel
theorem dX12_member_56 : decode cX12_member 56 = .ok (.iload_n 2, 1) := by decide +kernel
theorem dX12_member_57 : decode cX12_member 57 = .ok (.bipush 92, 2) := by decide +kernel
theorem dX12_member_59 : decode cX12_member 59 = .ok (.if_icmp .ne 78, 3) := by decide +kernel
theorem dX12_member_62 : decode cX12_member 62 = .ok (.aload_n 0, 1) := by decide +kernel
theorem dX12_member_63 : decode cX12_member 63 = .ok (.iload_n 1, 1) := by decide +kernel
theorem dX12_member_64 : decode cX12_member 64 = .ok (.iconst 1, 1) := by decide +kernel
theorem dX12_member_65 : decode cX12_member 65 = .ok (.iadd, 1) := by decide +kernel
theorem dX12_member_66 : decode cX12_member 66 = .ok (.invokevirtual 349, 3) := by decide +kernel
theorem dX12_member_69 : decode cX12_member 69 = .ok (.istore_n 3, 1) := by decide +kernel
theorem dX12_member_70 : decode cX12_member 70 = .ok (.aload_n 0, 1) := by decide +kernel
theorem dX12_member_71 : decode cX12_member 71 = .ok (.iload_n 1, 1) := by decide +kernel
theorem dX12_member_72 : decode cX12_member 72 = .ok (.iconst 2, 1) := by decide +kernel
theorem dX12_member_73 : decode cX12_member 73 = .ok (.iadd, 1) := by decide +kernel
theorem dX12_member_74 : decode cX12_member 74 = .ok (.putfield 405, 3) := by decide +kernel
theorem dX12_member_77 : decode cX12_member 77 = .ok (.aload_n 0, 1) := by decide +kernel
theorem dX12_member_78 : decode cX12_member 78 = .ok (.iload_n 3, 1) := by decide +kernel
theorem dX12_member_79 : decode cX12_member 79 = .ok (.putfield 402, 3) := by decide +kernel
theorem dX12_member_82 : decode cX12_member 82 = .ok (.iload_n 3, 1) := by decide +kernel
theorem dX12_member_83 : decode cX12_member 83 = .ok (.bipush 120, 2) := by decide +kernel
theorem dX12_member_85 : decode cX12_member 85 = .ok (.if_icmp .ne 25, 3) := by decide +kernel
theorem dX12_member_88 : decode cX12_member 88 = .ok (.aload_n 0, 1) := by decide +kernel
theorem dX12_member_89 : decode cX12_member 89 = .ok (.aload_n 0, 1) := by decide +kernel
theorem dX12_member_90 : decode cX12_member 90 = .ok (.iload_n 1, 1) := by decide +kernel
theorem dX12_member_91 : decode cX12_member 91 = .ok (.iconst 2, 1) := by decide +kernel
theorem dX12_member_92 : decode cX12_member 92 = .ok (.iadd, 1) := by decide +kernel
theorem dX12_member_93 : decode cX12_member 93 = .ok (.invokevirtual 408, 3) := by decide +kernel
theorem dX12_member_96 : decode cX12_member 96 = .ok (.putfield 402, 3) := by decide +kernel
theorem dX12_member_99 : decode cX12_member 99 = .ok (.aload_n 0, 1) := by decide +kernel
theorem dX12_member_100 : decode cX12_member 100 = .ok (.iload_n 1, 1) := by decide +kernel
theorem dX12_member_101 : decode cX12_member 101 = .ok (.bipush 6, 2) := by decide +kernel
theorem dX12_member_103 : decode cX12_member 103 = .ok (.iadd, 1) := by decide +kernel
theorem dX12_member_104 : decode cX12_member 104 = .ok (.putfield 405, 3) := by decide +kernel
theorem dX12_member_107 : decode cX12_member 107 = .ok (.goto 30, 3) := by decide +kernel
theorem dX12_member_110 : decode cX12_member 110 = .ok (.iload_n 3, 1) := by decide +kernel
theorem dX12_member_111 : decode cX12_member 111 = .ok (.iconst (-1), 1) := by decide +kernel
theorem dX12_member_112 : decode cX12_member 112 = .ok (.if_icmp .eq 17, 3) := by decide +kernel
theorem dX12_member_115 : decode cX12_member 115 = .ok (.iload_n 3, 1) := by decide +kernel
theorem dX12_member_116 : decode cX12_member 116 = .ok (.invokestatic 11, 3) := by decide +kernel
theorem dX12_member_119 : decode cX12_member 119 = .ok (.ifCond .ne 10, 3) := by decide +kernel
theorem dX12_member_122 : decode cX12_member 122 = .ok (.iload_n 3, 1) := by decide +kernel
theorem dX12_member_123 : decode cX12_member 123 = .ok (.invokestatic 15, 3) := by decide +kernel
theorem dX12_member_126 : decode cX12_member 126 = .ok (.ifCond .eq 11, 3) := by decide +kernel
theorem dX12_member_129 : decode cX12_member 129 = .ok (.aload_n 0, 1) := by decide +kernel
theorem dX12_member_130 : decode cX12_member 130 = .ok (.iconst 1, 1) := by decide +kernel
theorem dX12_member_131 : decode cX12_member 131 = .ok (.iload_n 1, 1) := by decide +kernel
theorem dX12_member_132 : decode cX12_member 132 = .ok (.iconst 1, 1) := by decide +kernel
theorem dX12_member_133 : decode cX12_member 133 = .ok (.iadd, 1) := by decide +kernel
theorem dX12_member_134 : decode cX12_member 134 = .ok (.invokevirtual 345, 3) := by decide +kernel
theorem dX12_member_137 : decode cX12_member 137 = .ok (.return_, 1) := by decide +kernel
theorem dX12_named_0 : decode cX12_named 0 = .ok (.aload_n 0, 1) := by decide +kernel
theorem dX12_named_1 : decode cX12_named 1 = .ok (.iconst 0, 1) := by decide +kernel
theorem dX12_named_2 : decode cX12_named 2 = .ok (.putfield 1, 3) := by decide +kernel
theorem dX12_named_5 : decode cX12_named 5 = .ok (.aload_n 0, 1) := by decide +kernel
theorem dX12_named_6 : decode cX12_named 6 = .ok (.iload_n 1, 1) := by decide +kernel
theorem dX12_named_7 : decode cX12_named 7 = .ok (.invokevirtual 459, 3) := by decide +kernel
theorem dX12_named_10 : decode cX12_named 10 = .ok (.ifCond .eq 6, 3) := by decide +kernel
theorem dX12_named_13 : decode cX12_named 13 = .ok (.bipush (-2), 2) := by decide +kernel
theorem dX12_named_15 : decode cX12_named 15 = .ok (.ireturn, 1) := by decide +kernel
theorem dX12_named_16 : decode cX12_named 16 = .ok (.iload_n 2, 1) := by decide +kernel
theorem dX12_named_17 : decode cX12_named 17 = .ok (.bipush 97, 2) := by decide +kernel
theorem dX12_named_19 : decode cX12_named 19 = .ok (.bipush 122, 2) := by decide +kernel
theorem dX12_named_21 : decode cX12_named 21 = .ok (.invokestatic 7, 3) := by decide +kernel
theorem dX12_named_24 : decode cX12_named 24 = .ok (.ifCond .ne 6, 3) := by decide +kernel
theorem dX12_named_27 : decode cX12_named 27 = .ok (.bipush (-4), 2) := by decide +kernel
theorem dX12_named_29 : decode cX12_named 29 = .ok (.ireturn, 1) := by decide +kernel
theorem dX12_named_30 : decode cX12_named 30 = .ok (.iconst 1, 1) := by decide +kernel
theorem dX12_named_31 : decode cX12_named 31 = .ok (.istore_n 3, 1) := by decide +kernel
theorem dX12_named_32 : decode cX12_named 32 = .ok (.iload_n 3, 1) := by decide +kernel
theorem dX12_named_33 : decode cX12_named 33 = .ok (.aload_n 0, 1) := by decide +kernel
theorem dX12_named_34 : decode cX12_named 34 = .ok (.getfield 38, 3) := by decide +kernel
theorem dX12_named_37 : decode cX12_named 37 = .ok (.iload_n 1, 1) := by decide +kernel
theorem dX12_named_38 : decode cX12_named 38 = .ok (.iaload, 1) := by decide +kernel
theorem dX12_named_39 : decode cX12_named 39 = .ok (.if_icmp .gt 26, 3) := by decide +kernel
theorem dX12_named_42 : decode cX12_named 42 = .ok (.aload_n 0, 1) := by decide +kernel
theorem dX12_named_43 : decode cX12_named 43 = .ok (.getfield 41, 3) := by decide +kernel
theorem dX12_named_46 : decode cX12_named 46 = .ok (.bipush 10, 2) := by decide +kernel
theorem dX12_named_48 : decode cX12_named 48 = .ok (.iload_n 1, 1) := by decide +kernel
theorem dX12_named_49 : decode cX12_named 49 = .ok (.imul, 1) := by decide +kernel
theorem dX12_named_50 : decode cX12_named 50 = .ok (.iload_n 3, 1) := by decide +kernel
theorem dX12_named_51 : decode cX12_named 51 = .ok (.iadd, 1) := by decide +kernel
theorem dX12_named_52 : decode cX12_named 52 = .ok (.iaload, 1) := by decide +kernel
theorem dX12_named_53 : decode cX12_named 53 = .ok (.iload_n 2, 1) := by decide +kernel
theorem dX12_named_54 : decode cX12_named 54 = .ok (.if_icmp .ne 5, 3) := by decide +kernel
theorem dX12_named_57 : decode cX12_named 57 = .ok (.iload_n 3, 1) := by decide +kernel
theorem dX12_named_58 : decode cX12_named 58 = .ok (.ireturn, 1) := by decide +kernel
theorem dX12_named_59 : decode cX12_named 59 = .ok (.iinc 3 1, 3) := by decide +kernel
theorem dX12_named_62 : decode cX12_named 62 = .ok (.goto (-30), 3) := by decide +kernel
theorem dX12_named_65 : decode cX12_named 65 = .ok (.iconst (-1), 1) := by decide +kernel
theorem dX12_named_66 : decode cX12_named 66 = .ok (.ireturn, 1) := by decide +kernel
theorem dX12_newLabel_0 : decode cX12_newLabel 0 = .ok (.aload_n 0, 1) := by decide +kernel
theorem dX12_newLabel_1 : decode cX12_newLabel 1 = .ok (.dup, 1) := by decide +kernel
theorem dX12_newLabel_2 : decode cX12_newLabel 2 = .ok (.getfield 548, 3) := by decide +kernel
theorem dX12_newLabel_5 : decode cX12_newLabel 5 = .ok (.iconst 1, 1) := by decide +kernel
theorem dX12_newLabel_6 : decode cX12_newLabel 6 = .ok (.iadd, 1) := by decide +kernel
theorem dX12_newLabel_7 : decode cX12_newLabel 7 = .ok (.putfield 548, 3) := by decide +kernel
theorem dX12_newLabel_10 : decode cX12_newLabel 10 = .ok (.aload_n 0, 1) := by decide +kernel
theorem dX12_newLabel_11 : decode cX12_newLabel 11 = .ok (.getfield 548, 3) := by decide +kernel
theorem dX12_newLabel_14 : decode cX12_newLabel 14 = .ok (.iconst 1, 1) := by decide +kernel
theorem dX12_newLabel_15 : decode cX12_newLabel 15 = .ok (.isub, 1) := by decide +kernel
theorem dX12_newLabel_16 : decode cX12_newLabel 16 = .ok (.ireturn, 1) := by decide +kernel
theorem dX12_node_0 : decode cX12_node 0 = .ok (.aload_n 0, 1) := by decide +kernel
theorem dX12_node_1 : decode cX12_node 1 = .ok (.iconst 0, 1) := by decide +kernel
theorem dX12_node_2 : decode cX12_node 2 = .ok (.putfield 1, 3) := by decide +kernel
theorem dX12_node_5 : decode cX12_node 5 = .ok (.aload_n 0, 1) := by decide +kernel
theorem dX12_node_6 : decode cX12_node 6 = .ok (.iload_n 1, 1) := by decide +kernel
theorem dX12_node_7 : decode cX12_node 7 = .ok (.invokevirtual 459, 3) := by decide +kernel
theorem dX12_node_10 : decode cX12_node 10 = .ok (.ifCond .eq 6, 3) := by decide +kernel
theorem dX12_node_13 : decode cX12_node 13 = .ok (.bipush (-2), 2) := by decide +kernel
theorem dX12_node_15 : decode cX12_node 15 = .ok (.ireturn, 1) := by decide +kernel
theorem dX12_node_16 : decode cX12_node 16 = .ok (.iload_n 2, 1) := by decide +kernel
theorem dX12_node_17 : decode cX12_node 17 = .ok (.iconst 0, 1) := by decide +kernel
theorem dX12_node_18 : decode cX12_node 18 = .ok (.aload_n 0, 1) := by decide +kernel
theorem dX12_node_19 : decode cX12_node 19 = .ok (.getfield 35, 3) := by decide +kernel
theorem dX12_node_22 : decode cX12_node 22 = .ok (.iload_n 1, 1) := by decide +kernel
theorem dX12_node_23 : decode cX12_node 23 = .ok (.iaload, 1) := by decide +kernel
theorem dX12_node_24 : decode cX12_node 24 = .ok (.iconst 1, 1) := by decide +kernel
theorem dX12_node_25 : decode cX12_node 25 = .ok (.isub, 1) := by decide +kernel
theorem dX12_node_26 : decode cX12_node 26 = .ok (.invokestatic 7, 3) := by decide +kernel
