theorem dX12_makeSign_18 : decode cX12_makeSign 18 = .ok (.iload_n 1, 1) := by decide +kernel
theorem dX12_makeSign_19 : decode cX12_makeSign 19 = .ok (.iastore, 1) := by decide +kernel
theorem dX12_makeSign_20 : decode cX12_makeSign 20 = .ok (.aload_n 0, 1) := by decide +kernel
theorem dX12_makeSign_21 : decode cX12_makeSign 21 = .ok (.dup, 1) := by decide +kernel
theorem dX12_makeSign_22 : decode cX12_makeSign 22 = .ok (.getfield 702, 3) := by decide +kernel
theorem dX12_makeSign_25 : decode cX12_makeSign 25 = .ok (.iconst 1, 1) := by decide +kernel
theorem dX12_makeSign_26 : decode cX12_makeSign 26 = .ok (.iadd, 1) := by decide +kernel
theorem dX12_makeSign_27 : decode cX12_makeSign 27 = .ok (.putfield 702, 3) := by decide +kernel
theorem dX12_makeSign_30 : decode cX12_makeSign 30 = .ok (.return_, 1) := by decide +kernel
theorem dX12_makeTable_0 : decode cX12_makeTable 0 = .ok (.aload_n 0, 1) := by decide +kernel
theorem dX12_makeTable_1 : decode cX12_makeTable 1 = .ok (.iload_n 2, 1) := by decide +kernel
theorem dX12_makeTable_2 : decode cX12_makeTable 2 = .ok (.iconst 1, 1) := by decide +kernel
theorem dX12_makeTable_3 : decode cX12_makeTable 3 = .ok (.invokevirtual 673, 3) := by decide +kernel
theorem dX12_makeTable_6 : decode cX12_makeTable 6 = .ok (.aload_n 0, 1) := by decide +kernel
theorem dX12_makeTable_7 : decode cX12_makeTable 7 = .ok (.iconst 0, 1) := by decide +kernel
theorem dX12_makeTable_8 : decode cX12_makeTable 8 = .ok (.putfield 721, 3) := by decide +kernel
theorem dX12_makeTable_11 : decode cX12_makeTable 11 = .ok (.iconst 0, 1) := by decide +kernel
theorem dX12_makeTable_12 : decode cX12_makeTable 12 = .ok (.istore_n 3, 1) := by decide +kernel
theorem dX12_makeTable_13 : decode cX12_makeTable 13 = .ok (.iload_n 3, 1) := by decide +kernel
theorem dX12_makeTable_14 : decode cX12_makeTable 14 = .ok (.aload_n 0, 1) := by decide +kernel
theorem dX12_makeTable_15 : decode cX12_makeTable 15 = .ok (.getfield 551, 3) := by decide +kernel
theorem dX12_makeTable_18 : decode cX12_makeTable 18 = .ok (.if_icmp .ge 59, 3) := by decide +kernel
theorem dX12_makeTable_21 : decode cX12_makeTable 21 = .ok (.aload_n 0, 1) := by decide +kernel
theorem dX12_makeTable_22 : decode cX12_makeTable 22 = .ok (.getfield 180, 3) := by decide +kernel
theorem dX12_makeTable_25 : decode cX12_makeTable 25 = .ok (.iload_n 3, 1) := by decide +kernel
theorem dX12_makeTable_26 : decode cX12_makeTable 26 = .ok (.iaload, 1) := by decide +kernel
theorem dX12_makeTable_27 : decode cX12_makeTable 27 = .ok (.ifCond .ne 44, 3) := by decide +kernel
theorem dX12_makeTable_30 : decode cX12_makeTable 30 = .ok (.aload_n 0, 1) := by decide +kernel
theorem dX12_makeTable_31 : decode cX12_makeTable 31 = .ok (.getfield 250, 3) := by decide +kernel
theorem dX12_makeTable_34 : decode cX12_makeTable 34 = .ok (.iload_n 3, 1) := by decide +kernel
theorem dX12_makeTable_35 : decode cX12_makeTable 35 = .ok (.aload_n 0, 1) := by decide +kernel
theorem dX12_makeTable_36 : decode cX12_makeTable 36 = .ok (.getfield 721, 3) := by decide +kernel
theorem dX12_makeTable_39 : decode cX12_makeTable 39 = .ok (.iastore, 1) := by decide +kernel
theorem dX12_makeTable_40 : decode cX12_makeTable 40 = .ok (.aload_n 0, 1) := by decide +kernel
theorem dX12_makeTable_41 : decode cX12_makeTable 41 = .ok (.getfield 253, 3) := by decide +kernel
theorem dX12_makeTable_44 : decode cX12_makeTable 44 = .ok (.aload_n 0, 1) := by decide +kernel
theorem dX12_makeTable_45 : decode cX12_makeTable 45 = .ok (.getfield 721, 3) := by decide +kernel
theorem dX12_makeTable_48 : decode cX12_makeTable 48 = .ok (.sipush 220, 3) := by decide +kernel
theorem dX12_makeTable_51 : decode cX12_makeTable 51 = .ok (.iload_n 2, 1) := by decide +kernel
theorem dX12_makeTable_52 : decode cX12_makeTable 52 = .ok (.imul, 1) := by decide +kernel
theorem dX12_makeTable_53 : decode cX12_makeTable 53 = .ok (.aload_n 0, 1) := by decide +kernel
theorem dX12_makeTable_54 : decode cX12_makeTable 54 = .ok (.getfield 183, 3) := by decide +kernel
theorem dX12_makeTable_57 : decode cX12_makeTable 57 = .ok (.iload_n 3, 1) := by decide +kernel
theorem dX12_makeTable_58 : decode cX12_makeTable 58 = .ok (.iaload, 1) := by decide +kernel
theorem dX12_makeTable_59 : decode cX12_makeTable 59 = .ok (.iadd, 1) := by decide +kernel
theorem dX12_makeTable_60 : decode cX12_makeTable 60 = .ok (.iastore, 1) := by decide +kernel
theorem dX12_makeTable_61 : decode cX12_makeTable 61 = .ok (.aload_n 0, 1) := by decide +kernel
theorem dX12_makeTable_62 : decode cX12_makeTable 62 = .ok (.dup, 1) := by decide +kernel
theorem dX12_makeTable_63 : decode cX12_makeTable 63 = .ok (.getfield 721, 3) := by decide +kernel
theorem dX12_makeTable_66 : decode cX12_makeTable 66 = .ok (.iconst 1, 1) := by decide +kernel
theorem dX12_makeTable_67 : decode cX12_makeTable 67 = .ok (.iadd, 1) := by decide +kernel
theorem dX12_makeTable_68 : decode cX12_makeTable 68 = .ok (.putfield 721, 3) := by decide +kernel
theorem dX12_makeTable_71 : decode cX12_makeTable 71 = .ok (.iinc 3 1, 3) := by decide +kernel
theorem dX12_makeTable_74 : decode cX12_makeTable 74 = .ok (.goto (-61), 3) := by decide +kernel
theorem dX12_makeTable_77 : decode cX12_makeTable 77 = .ok (.aload_n 0, 1) := by decide +kernel
theorem dX12_makeTable_78 : decode cX12_makeTable 78 = .ok (.iconst 0, 1) := by decide +kernel
theorem dX12_makeTable_79 : decode cX12_makeTable 79 = .ok (.invokevirtual 724, 3) := by decide +kernel
theorem dX12_makeTable_82 : decode cX12_makeTable 82 = .ok (.aload_n 0, 1) := by decide +kernel
theorem dX12_makeTable_83 : decode cX12_makeTable 83 = .ok (.getfield 714, 3) := by decide +kernel
theorem dX12_makeTable_86 : decode cX12_makeTable 86 = .ok (.lstore_n 3, 1) := by decide +kernel
theorem dX12_makeTable_87 : decode cX12_makeTable 87 = .ok (.aload_n 0, 1) := by decide +kernel
theorem dX12_makeTable_88 : decode cX12_makeTable 88 = .ok (.getfield 718, 3) := by decide +kernel
theorem dX12_makeTable_91 : decode cX12_makeTable 91 = .ok (.istore 5, 2) := by decide +kernel
theorem dX12_makeTable_93 : decode cX12_makeTable 93 = .ok (.iconst 0, 1) := by decide +kernel
theorem dX12_makeTable_94 : decode cX12_makeTable 94 = .ok (.istore 6, 2) := by decide +kernel
theorem dX12_makeTable_96 : decode cX12_makeTable 96 = .ok (.iload 6, 2) := by decide +kernel
theorem dX12_makeTable_98 : decode cX12_makeTable 98 = .ok (.aload_n 0, 1) := by decide +kernel
theorem dX12_makeTable_99 : decode cX12_makeTable 99 = .ok (.getfield 551, 3) := by decide +kernel
theorem dX12_makeTable_102 : decode cX12_makeTable 102 = .ok (.if_icmp .ge 59, 3) := by decide +kernel
theorem dX12_makeTable_105 : decode cX12_makeTable 105 = .ok (.aload_n 0, 1) := by decide +kernel
theorem dX12_makeTable_106 : decode cX12_makeTable 106 = .ok (.getfield 180, 3) := by decide +kernel
theorem dX12_makeTable_109 : decode cX12_makeTable 109 = .ok (.iload 6, 2) := by decide +kernel
theorem dX12_makeTable_111 : decode cX12_makeTable 111 = .ok (.iaload, 1) := by decide +kernel
theorem dX12_makeTable_112 : decode cX12_makeTable 112 = .ok (.ifCond .ne 43, 3) := by decide +kernel
theorem dX12_makeTable_115 : decode cX12_makeTable 115 = .ok (.aload_n 0, 1) := by decide +kernel
theorem dX12_makeTable_116 : decode cX12_makeTable 116 = .ok (.iload 6, 2) := by decide +kernel
theorem dX12_makeTable_118 : decode cX12_makeTable 118 = .ok (.iconst 1, 1) := by decide +kernel
theorem dX12_makeTable_119 : decode cX12_makeTable 119 = .ok (.iadd, 1) := by decide +kernel
theorem dX12_makeTable_120 : decode cX12_makeTable 120 = .ok (.invokevirtual 724, 3) := by decide +kernel
theorem dX12_makeTable_123 : decode cX12_makeTable 123 = .ok (.aload_n 0, 1) := by decide +kernel
theorem dX12_makeTable_124 : decode cX12_makeTable 124 = .ok (.getfield 243, 3) := by decide +kernel
theorem dX12_makeTable_127 : decode cX12_makeTable 127 = .ok (.aload_n 0, 1) := by decide +kernel
theorem dX12_makeTable_128 : decode cX12_makeTable 128 = .ok (.getfield 250, 3) := by decide +kernel
theorem dX12_makeTable_131 : decode cX12_makeTable 131 = .ok (.iload 6, 2) := by decide +kernel
theorem dX12_makeTable_133 : decode cX12_makeTable 133 = .ok (.iaload, 1) := by decide +kernel
theorem dX12_makeTable_134 : decode cX12_makeTable 134 = .ok (.aload_n 0, 1) := by decide +kernel
theorem dX12_makeTable_135 : decode cX12_makeTable 135 = .ok (.getfield 714, 3) := by decide +kernel
theorem dX12_makeTable_138 : decode cX12_makeTable 138 = .ok (.lastore, 1) := by decide +kernel
theorem dX12_makeTable_139 : decode cX12_makeTable 139 = .ok (.aload_n 0, 1) := by decide +kernel
theorem dX12_makeTable_140 : decode cX12_makeTable 140 = .ok (.getfield 247, 3) := by decide +kernel
theorem dX12_makeTable_143 : decode cX12_makeTable 143 = .ok (.aload_n 0, 1) := by decide +kernel
theorem dX12_makeTable_144 : decode cX12_makeTable 144 = .ok (.getfield 250, 3) := by decide +kernel
theorem dX12_makeTable_147 : decode cX12_makeTable 147 = .ok (.iload 6, 2) := by decide +kernel
theorem dX12_makeTable_149 : decode cX12_makeTable 149 = .ok (.iaload, 1) := by decide +kernel
theorem dX12_makeTable_150 : decode cX12_makeTable 150 = .ok (.aload_n 0, 1) := by decide +kernel
theorem dX12_makeTable_151 : decode cX12_makeTable 151 = .ok (.getfield 718, 3) := by decide +kernel
theorem dX12_makeTable_154 : decode cX12_makeTable 154 = .ok (.bastore, 1) := by decide +kernel
theorem dX12_makeTable_155 : decode cX12_makeTable 155 = .ok (.iinc 6 1, 3) := by decide +kernel
theorem dX12_makeTable_158 : decode cX12_makeTable 158 = .ok (.goto (-62), 3) := by decide +kernel
theorem dX12_makeTable_161 : decode cX12_makeTable 161 = .ok (.aload_n 0, 1) := by decide +kernel
theorem dX12_makeTable_162 : decode cX12_makeTable 162 = .ok (.getfield 274, 3) := by decide +kernel
theorem dX12_makeTable_165 : decode cX12_makeTable 165 = .ok (.iload_n 1, 1) := by decide +kernel
theorem dX12_makeTable_166 : decode cX12_makeTable 166 = .ok (.iconst 0, 1) := by decide +kernel
theorem dX12_makeTable_167 : decode cX12_makeTable 167 = .ok (.iastore, 1) := by decide +kernel
theorem dX12_makeTable_168 : decode cX12_makeTable 168 = .ok (.iconst 0, 1) := by decide +kernel
theorem dX12_makeTable_169 : decode cX12_makeTable 169 = .ok (.istore 6, 2) := by decide +kernel
theorem dX12_makeTable_171 : decode cX12_makeTable 171 = .ok (.iload 6, 2) := by decide +kernel
theorem dX12_makeTable_173 : decode cX12_makeTable 173 = .ok (.aload_n 0, 1) := by decide +kernel
theorem dX12_makeTable_174 : decode cX12_makeTable 174 = .ok (.getfield 524, 3) := by decide +kernel
theorem dX12_makeTable_177 : decode cX12_makeTable 177 = .ok (.if_icmp .ge 164, 3) := by decide +kernel
theorem dX12_makeTable_180 : decode cX12_makeTable 180 = .ok (.lconst 0, 1) := by decide +kernel
theorem dX12_makeTable_181 : decode cX12_makeTable 181 = .ok (.lstore 7, 2) := by decide +kernel
theorem dX12_makeTable_183 : decode cX12_makeTable 183 = .ok (.iconst 0, 1) := by decide +kernel
theorem dX12_makeTable_184 : decode cX12_makeTable 184 = .ok (.istore 9, 2) := by decide +kernel
theorem dX12_makeTable_186 : decode cX12_makeTable 186 = .ok (.iload 9, 2) := by decide +kernel
theorem dX12_makeTable_188 : decode cX12_makeTable 188 = .ok (.aload_n 0, 1) := by decide +kernel
theorem dX12_makeTable_189 : decode cX12_makeTable 189 = .ok (.getfield 721, 3) := by decide +kernel
theorem dX12_makeTable_192 : decode cX12_makeTable 192 = .ok (.if_icmp .ge 44, 3) := by decide +kernel
theorem dX12_makeTable_195 : decode cX12_makeTable 195 = .ok (.aload_n 0, 1) := by decide +kernel
theorem dX12_makeTable_196 : decode cX12_makeTable 196 = .ok (.aload_n 0, 1) := by decide +kernel
theorem dX12_makeTable_197 : decode cX12_makeTable 197 = .ok (.getfield 253, 3) := by decide +kernel
theorem dX12_makeTable_200 : decode cX12_makeTable 200 = .ok (.iload 9, 2) := by decide +kernel
theorem dX12_makeTable_202 : decode cX12_makeTable 202 = .ok (.iaload, 1) := by decide +kernel
theorem dX12_makeTable_203 : decode cX12_makeTable 203 = .ok (.aload_n 0, 1) := by decide +kernel
theorem dX12_makeTable_204 : decode cX12_makeTable 204 = .ok (.getfield 165, 3) := by decide +kernel
theorem dX12_makeTable_207 : decode cX12_makeTable 207 = .ok (.iload 6, 2) := by decide +kernel
theorem dX12_makeTable_209 : decode cX12_makeTable 209 = .ok (.iaload, 1) := by decide +kernel
theorem dX12_makeTable_210 : decode cX12_makeTable 210 = .ok (.invokevirtual 517, 3) := by decide +kernel
theorem dX12_makeTable_213 : decode cX12_makeTable 213 = .ok (.ifCond .eq 13, 3) := by decide +kernel
theorem dX12_makeTable_216 : decode cX12_makeTable 216 = .ok (.lload 7, 2) := by decide +kernel
theorem dX12_makeTable_218 : decode cX12_makeTable 218 = .ok (.lconst 1, 1) := by decide +kernel
theorem dX12_makeTable_219 : decode cX12_makeTable 219 = .ok (.iload 9, 2) := by decide +kernel
theorem dX12_makeTable_221 : decode cX12_makeTable 221 = .ok (.lshl, 1) := by decide +kernel
theorem dX12_makeTable_222 : decode cX12_makeTable 222 = .ok (.lor, 1) := by decide +kernel
theorem dX12_makeTable_223 : decode cX12_makeTable 223 = .ok (.goto 5, 3) := by decide +kernel
theorem dX12_makeTable_226 : decode cX12_makeTable 226 = .ok (.lload 7, 2) := by decide +kernel
theorem dX12_makeTable_228 : decode cX12_makeTable 228 = .ok (.lstore 7, 2) := by decide +kernel
theorem dX12_makeTable_230 : decode cX12_makeTable 230 = .ok (.iinc 9 1, 3) := by decide +kernel
theorem dX12_makeTable_233 : decode cX12_makeTable 233 = .ok (.goto (-47), 3) := by decide +kernel
theorem dX12_makeTable_236 : decode cX12_makeTable 236 = .ok (.iconst 0, 1) := by decide +kernel
theorem dX12_makeTable_237 : decode cX12_makeTable 237 = .ok (.istore 9, 2) := by decide +kernel
theorem dX12_makeTable_239 : decode cX12_makeTable 239 = .ok (.iload 9, 2) := by decide +kernel
theorem dX12_makeTable_241 : decode cX12_makeTable 241 = .ok (.aload_n 0, 1) := by decide +kernel
theorem dX12_makeTable_242 : decode cX12_makeTable 242 = .ok (.getfield 274, 3) := by decide +kernel
theorem dX12_makeTable_245 : decode cX12_makeTable 245 = .ok (.iload_n 1, 1) := by decide +kernel
theorem dX12_makeTable_246 : decode cX12_makeTable 246 = .ok (.iaload, 1) := by decide +kernel
theorem dX12_makeTable_247 : decode cX12_makeTable 247 = .ok (.if_icmp .ge 28, 3) := by decide +kernel
theorem dX12_makeTable_250 : decode cX12_makeTable 250 = .ok (.aload_n 0, 1) := by decide +kernel
theorem dX12_makeTable_251 : decode cX12_makeTable 251 = .ok (.getfield 277, 3) := by decide +kernel
theorem dX12_makeTable_254 : decode cX12_makeTable 254 = .ok (.sipush 500, 3) := by decide +kernel
theorem dX12_makeTable_257 : decode cX12_makeTable 257 = .ok (.iload_n 1, 1) := by decide +kernel
theorem dX12_makeTable_258 : decode cX12_makeTable 258 = .ok (.imul, 1) := by decide +kernel
theorem dX12_makeTable_259 : decode cX12_makeTable 259 = .ok (.iload 9, 2) := by decide +kernel
theorem dX12_makeTable_261 : decode cX12_makeTable 261 = .ok (.iadd, 1) := by decide +kernel
theorem dX12_makeTable_262 : decode cX12_makeTable 262 = .ok (.laload, 1) := by decide +kernel
theorem dX12_makeTable_263 : decode cX12_makeTable 263 = .ok (.lload 7, 2) := by decide +kernel
theorem dX12_makeTable_265 : decode cX12_makeTable 265 = .ok (.lcmp, 1) := by decide +kernel
theorem dX12_makeTable_266 : decode cX12_makeTable 266 = .ok (.ifCond .eq 9, 3) := by decide +kernel
theorem dX12_makeTable_269 : decode cX12_makeTable 269 = .ok (.iinc 9 1, 3) := by decide +kernel
theorem dX12_makeTable_272 : decode cX12_makeTable 272 = .ok (.goto (-33), 3) := by decide +kernel
theorem dX12_makeTable_275 : decode cX12_makeTable 275 = .ok (.aload_n 0, 1) := by decide +kernel
theorem dX12_makeTable_276 : decode cX12_makeTable 276 = .ok (.getfield 277, 3) := by decide +kernel
theorem dX12_makeTable_279 : decode cX12_makeTable 279 = .ok (.sipush 500, 3) := by decide +kernel
theorem dX12_makeTable_282 : decode cX12_makeTable 282 = .ok (.iload_n 1, 1) := by decide +kernel
theorem dX12_makeTable_283 : decode cX12_makeTable 283 = .ok (.imul, 1) := by decide +kernel
theorem dX12_makeTable_284 : decode cX12_makeTable 284 = .ok (.iload 9, 2) := by decide +kernel
theorem dX12_makeTable_286 : decode cX12_makeTable 286 = .ok (.iadd, 1) := by decide +kernel
theorem dX12_makeTable_287 : decode cX12_makeTable 287 = .ok (.lload 7, 2) := by decide +kernel
theorem dX12_makeTable_289 : decode cX12_makeTable 289 = .ok (.lastore, 1) := by decide +kernel
theorem dX12_makeTable_290 : decode cX12_makeTable 290 = .ok (.aload_n 0, 1) := by decide +kernel
theorem dX12_makeTable_291 : decode cX12_makeTable 291 = .ok (.getfield 274, 3) := by decide +kernel
theorem dX12_makeTable_294 : decode cX12_makeTable 294 = .ok (.iload_n 1, 1) := by decide +kernel
theorem dX12_makeTable_295 : decode cX12_makeTable 295 = .ok (.iload 9, 2) := by decide +kernel
theorem dX12_makeTable_297 : decode cX12_makeTable 297 = .ok (.aload_n 0, 1) := by decide +kernel
theorem dX12_makeTable_298 : decode cX12_makeTable 298 = .ok (.getfield 274, 3) := by decide +kernel
theorem dX12_makeTable_301 : decode cX12_makeTable 301 = .ok (.iload_n 1, 1) := by decide +kernel
theorem dX12_makeTable_302 : decode cX12_makeTable 302 = .ok (.iaload, 1) := by decide +kernel
theorem dX12_makeTable_303 : decode cX12_makeTable 303 = .ok (.if_icmp .ne 10, 3) := by decide +kernel
theorem dX12_makeTable_306 : decode cX12_makeTable 306 = .ok (.iload 9, 2) := by decide +kernel
theorem dX12_makeTable_308 : decode cX12_makeTable 308 = .ok (.iconst 1, 1) := by decide +kernel
theorem dX12_makeTable_309 : decode cX12_makeTable 309 = .ok (.iadd, 1) := by decide +kernel
theorem dX12_makeTable_310 : decode cX12_makeTable 310 = .ok (.goto 9, 3) := by decide +kernel
theorem dX12_makeTable_313 : decode cX12_makeTable 313 = .ok (.aload_n 0, 1) := by decide +kernel
theorem dX12_makeTable_314 : decode cX12_makeTable 314 = .ok (.getfield 274, 3) := by decide +kernel
theorem dX12_makeTable_317 : decode cX12_makeTable 317 = .ok (.iload_n 1, 1) := by decide +kernel
theorem dX12_makeTable_318 : decode cX12_makeTable 318 = .ok (.iaload, 1) := by decide +kernel
theorem dX12_makeTable_319 : decode cX12_makeTable 319 = .ok (.iastore, 1) := by decide +kernel
theorem dX12_makeTable_320 : decode cX12_makeTable 320 = .ok (.aload_n 0, 1) := by decide +kernel
theorem dX12_makeTable_321 : decode cX12_makeTable 321 = .ok (.getfield 280, 3) := by decide +kernel
theorem dX12_makeTable_324 : decode cX12_makeTable 324 = .ok (.sipush 3000, 3) := by decide +kernel
theorem dX12_makeTable_327 : decode cX12_makeTable 327 = .ok (.iload_n 1, 1) := by decide +kernel
theorem dX12_makeTable_328 : decode cX12_makeTable 328 = .ok (.imul, 1) := by decide +kernel
theorem dX12_makeTable_329 : decode cX12_makeTable 329 = .ok (.iload 6, 2) := by decide +kernel
theorem dX12_makeTable_331 : decode cX12_makeTable 331 = .ok (.iadd, 1) := by decide +kernel
theorem dX12_makeTable_332 : decode cX12_makeTable 332 = .ok (.iload 9, 2) := by decide +kernel
theorem dX12_makeTable_334 : decode cX12_makeTable 334 = .ok (.iastore, 1) := by decide +kernel
theorem dX12_makeTable_335 : decode cX12_makeTable 335 = .ok (.iinc 6 1, 3) := by decide +kernel
theorem dX12_makeTable_338 : decode cX12_makeTable 338 = .ok (.goto (-167), 3) := by decide +kernel
theorem dX12_makeTable_341 : decode cX12_makeTable 341 = .ok (.aload_n 0, 1) := by decide +kernel
theorem dX12_makeTable_342 : decode cX12_makeTable 342 = .ok (.getfield 262, 3) := by decide +kernel
theorem dX12_makeTable_345 : decode cX12_makeTable 345 = .ok (.iload_n 1, 1) := by decide +kernel
theorem dX12_makeTable_346 : decode cX12_makeTable 346 = .ok (.iconst 1, 1) := by decide +kernel
theorem dX12_makeTable_347 : decode cX12_makeTable 347 = .ok (.iastore, 1) := by decide +kernel
theorem dX12_makeTable_348 : decode cX12_makeTable 348 = .ok (.aload_n 0, 1) := by decide +kernel
theorem dX12_makeTable_349 : decode cX12_makeTable 349 = .ok (.getfield 265, 3) := by decide +kernel
theorem dX12_makeTable_352 : decode cX12_makeTable 352 = .ok (.bipush 61, 2) := by decide +kernel
theorem dX12_makeTable_354 : decode cX12_makeTable 354 = .ok (.iload_n 1, 1) := by decide +kernel
theorem dX12_makeTable_355 : decode cX12_makeTable 355 = .ok (.imul, 1) := by decide +kernel
theorem dX12_makeTable_356 : decode cX12_makeTable 356 = .ok (.lconst 0, 1) := by decide +kernel
theorem dX12_makeTable_357 : decode cX12_makeTable 357 = .ok (.lastore, 1) := by decide +kernel
theorem dX12_makeTable_358 : decode cX12_makeTable 358 = .ok (.aload_n 0, 1) := by decide +kernel
theorem dX12_makeTable_359 : decode cX12_makeTable 359 = .ok (.getfield 268, 3) := by decide +kernel
theorem dX12_makeTable_362 : decode cX12_makeTable 362 = .ok (.bipush 61, 2) := by decide +kernel
theorem dX12_makeTable_364 : decode cX12_makeTable 364 = .ok (.iload_n 1, 1) := by decide +kernel
theorem dX12_makeTable_365 : decode cX12_makeTable 365 = .ok (.imul, 1) := by decide +kernel
theorem dX12_makeTable_366 : decode cX12_makeTable 366 = .ok (.iload 5, 2) := by decide +kernel
theorem dX12_makeTable_368 : decode cX12_makeTable 368 = .ok (.bastore, 1) := by decide +kernel
theorem dX12_makeTable_369 : decode cX12_makeTable 369 = .ok (.iconst 0, 1) := by decide +kernel
theorem dX12_makeTable_370 : decode cX12_makeTable 370 = .ok (.istore 6, 2) := by decide +kernel
theorem dX12_makeTable_372 : decode cX12_makeTable 372 = .ok (.iload 6, 2) := by decide +kernel
theorem dX12_makeTable_374 : decode cX12_makeTable 374 = .ok (.aload_n 0, 1) := by decide +kernel
theorem dX12_makeTable_375 : decode cX12_makeTable 375 = .ok (.getfield 262, 3) := by decide +kernel
theorem dX12_makeTable_378 : decode cX12_makeTable 378 = .ok (.iload_n 1, 1) := by decide +kernel
theorem dX12_makeTable_379 : decode cX12_makeTable 379 = .ok (.iaload, 1) := by decide +kernel
theorem dX12_makeTable_380 : decode cX12_makeTable 380 = .ok (.if_icmp .ge 295, 3) := by decide +kernel
theorem dX12_makeTable_383 : decode cX12_makeTable 383 = .ok (.iload 6, 2) := by decide +kernel
theorem dX12_makeTable_385 : decode cX12_makeTable 385 = .ok (.ifCond .ne 7, 3) := by decide +kernel
theorem dX12_makeTable_388 : decode cX12_makeTable 388 = .ok (.lload_n 3, 1) := by decide +kernel
theorem dX12_makeTable_389 : decode cX12_makeTable 389 = .ok (.goto 4, 3) := by decide +kernel
theorem dX12_makeTable_392 : decode cX12_makeTable 392 = .ok (.lconst 0, 1) := by decide +kernel
theorem dX12_makeTable_393 : decode cX12_makeTable 393 = .ok (.lstore 7, 2) := by decide +kernel
theorem dX12_makeTable_395 : decode cX12_makeTable 395 = .ok (.iconst 0, 1) := by decide +kernel
theorem dX12_makeTable_396 : decode cX12_makeTable 396 = .ok (.istore 9, 2) := by decide +kernel
theorem dX12_makeTable_398 : decode cX12_makeTable 398 = .ok (.iload 9, 2) := by decide +kernel
theorem dX12_makeTable_400 : decode cX12_makeTable 400 = .ok (.aload_n 0, 1) := by decide +kernel
theorem dX12_makeTable_401 : decode cX12_makeTable 401 = .ok (.getfield 721, 3) := by decide +kernel
theorem dX12_makeTable_404 : decode cX12_makeTable 404 = .ok (.if_icmp .ge 53, 3) := by decide +kernel
theorem dX12_makeTable_407 : decode cX12_makeTable 407 = .ok (.iload 6, 2) := by decide +kernel
theorem dX12_makeTable_409 : decode cX12_makeTable 409 = .ok (.ifCond .le 48, 3) := by decide +kernel
theorem dX12_makeTable_412 : decode cX12_makeTable 412 = .ok (.aload_n 0, 1) := by decide +kernel
theorem dX12_makeTable_413 : decode cX12_makeTable 413 = .ok (.getfield 265, 3) := by decide +kernel
theorem dX12_makeTable_416 : decode cX12_makeTable 416 = .ok (.bipush 61, 2) := by decide +kernel
theorem dX12_makeTable_418 : decode cX12_makeTable 418 = .ok (.iload_n 1, 1) := by decide +kernel
theorem dX12_makeTable_419 : decode cX12_makeTable 419 = .ok (.imul, 1) := by decide +kernel
theorem dX12_makeTable_420 : decode cX12_makeTable 420 = .ok (.iload 6, 2) := by decide +kernel
theorem dX12_makeTable_422 : decode cX12_makeTable 422 = .ok (.iadd, 1) := by decide +kernel
theorem dX12_makeTable_423 : decode cX12_makeTable 423 = .ok (.laload, 1) := by decide +kernel
theorem dX12_makeTable_424 : decode cX12_makeTable 424 = .ok (.iload 9, 2) := by decide +kernel
theorem dX12_makeTable_426 : decode cX12_makeTable 426 = .ok (.lshr, 1) := by decide +kernel
theorem dX12_makeTable_427 : decode cX12_makeTable 427 = .ok (.lconst 1, 1) := by decide +kernel
theorem dX12_makeTable_428 : decode cX12_makeTable 428 = .ok (.land, 1) := by decide +kernel
theorem dX12_makeTable_429 : decode cX12_makeTable 429 = .ok (.lconst 1, 1) := by decide +kernel
theorem dX12_makeTable_430 : decode cX12_makeTable 430 = .ok (.lcmp, 1) := by decide +kernel
theorem dX12_makeTable_431 : decode cX12_makeTable 431 = .ok (.ifCond .ne 16, 3) := by decide +kernel
theorem dX12_makeTable_434 : decode cX12_makeTable 434 = .ok (.lload 7, 2) := by decide +kernel
theorem dX12_makeTable_436 : decode cX12_makeTable 436 = .ok (.aload_n 0, 1) := by decide +kernel
theorem dX12_makeTable_437 : decode cX12_makeTable 437 = .ok (.getfield 243, 3) := by decide +kernel
theorem dX12_makeTable_440 : decode cX12_makeTable 440 = .ok (.iload 9, 2) := by decide +kernel
theorem dX12_makeTable_442 : decode cX12_makeTable 442 = .ok (.laload, 1) := by decide +kernel
theorem dX12_makeTable_443 : decode cX12_makeTable 443 = .ok (.lor, 1) := by decide +kernel
theorem dX12_makeTable_444 : decode cX12_makeTable 444 = .ok (.goto 5, 3) := by decide +kernel
theorem dX12_makeTable_447 : decode cX12_makeTable 447 = .ok (.lload 7, 2) := by decide +kernel
theorem dX12_makeTable_449 : decode cX12_makeTable 449 = .ok (.lstore 7, 2) := by decide +kernel
theorem dX12_makeTable_451 : decode cX12_makeTable 451 = .ok (.iinc 9 1, 3) := by decide +kernel
theorem dX12_makeTable_454 : decode cX12_makeTable 454 = .ok (.goto (-56), 3) := by decide +kernel
theorem dX12_makeTable_457 : decode cX12_makeTable 457 = .ok (.iconst 0, 1) := by decide +kernel
theorem dX12_makeTable_458 : decode cX12_makeTable 458 = .ok (.istore 9, 2) := by decide +kernel
theorem dX12_makeTable_460 : decode cX12_makeTable 460 = .ok (.iload 9, 2) := by decide +kernel
theorem dX12_makeTable_462 : decode cX12_makeTable 462 = .ok (.aload_n 0, 1) := by decide +kernel
theorem dX12_makeTable_463 : decode cX12_makeTable 463 = .ok (.getfield 274, 3) := by decide +kernel
theorem dX12_makeTable_466 : decode cX12_makeTable 466 = .ok (.iload_n 1, 1) := by decide +kernel
theorem dX12_makeTable_467 : decode cX12_makeTable 467 = .ok (.iaload, 1) := by decide +kernel
theorem dX12_makeTable_468 : decode cX12_makeTable 468 = .ok (.if_icmp .ge 201, 3) := by decide +kernel
theorem dX12_makeTable_471 : decode cX12_makeTable 471 = .ok (.lload 7, 2) := by decide +kernel
theorem dX12_makeTable_473 : decode cX12_makeTable 473 = .ok (.aload_n 0, 1) := by decide +kernel
theorem dX12_makeTable_474 : decode cX12_makeTable 474 = .ok (.getfield 277, 3) := by decide +kernel
theorem dX12_makeTable_477 : decode cX12_makeTable 477 = .ok (.sipush 500, 3) := by decide +kernel
theorem dX12_makeTable_480 : decode cX12_makeTable 480 = .ok (.iload_n 1, 1) := by decide +kernel
theorem dX12_makeTable_481 : decode cX12_makeTable 481 = .ok (.imul, 1) := by decide +kernel
theorem dX12_makeTable_482 : decode cX12_makeTable 482 = .ok (.iload 9, 2) := by decide +kernel
theorem dX12_makeTable_484 : decode cX12_makeTable 484 = .ok (.iadd, 1) := by decide +kernel
theorem dX12_makeTable_485 : decode cX12_makeTable 485 = .ok (.laload, 1) := by decide +kernel
theorem dX12_makeTable_486 : decode cX12_makeTable 486 = .ok (.land, 1) := by decide +kernel
theorem dX12_makeTable_487 : decode cX12_makeTable 487 = .ok (.lstore 10, 2) := by decide +kernel
theorem dX12_makeTable_489 : decode cX12_makeTable 489 = .ok (.iconst 1, 1) := by decide +kernel
theorem dX12_makeTable_490 : decode cX12_makeTable 490 = .ok (.istore 12, 2) := by decide +kernel
theorem dX12_makeTable_492 : decode cX12_makeTable 492 = .ok (.iload 12, 2) := by decide +kernel
theorem dX12_makeTable_494 : decode cX12_makeTable 494 = .ok (.aload_n 0, 1) := by decide +kernel
theorem dX12_makeTable_495 : decode cX12_makeTable 495 = .ok (.getfield 262, 3) := by decide +kernel
theorem dX12_makeTable_498 : decode cX12_makeTable 498 = .ok (.iload_n 1, 1) := by decide +kernel
theorem dX12_makeTable_499 : decode cX12_makeTable 499 = .ok (.iaload, 1) := by decide +kernel
theorem dX12_makeTable_500 : decode cX12_makeTable 500 = .ok (.if_icmp .ge 27, 3) := by decide +kernel
theorem dX12_makeTable_503 : decode cX12_makeTable 503 = .ok (.aload_n 0, 1) := by decide +kernel
theorem dX12_makeTable_504 : decode cX12_makeTable 504 = .ok (.getfield 265, 3) := by decide +kernel
theorem dX12_makeTable_507 : decode cX12_makeTable 507 = .ok (.bipush 61, 2) := by decide +kernel
theorem dX12_makeTable_509 : decode cX12_makeTable 509 = .ok (.iload_n 1, 1) := by decide +kernel
theorem dX12_makeTable_510 : decode cX12_makeTable 510 = .ok (.imul, 1) := by decide +kernel
theorem dX12_makeTable_511 : decode cX12_makeTable 511 = .ok (.iload 12, 2) := by decide +kernel
theorem dX12_makeTable_513 : decode cX12_makeTable 513 = .ok (.iadd, 1) := by decide +kernel
theorem dX12_makeTable_514 : decode cX12_makeTable 514 = .ok (.laload, 1) := by decide +kernel
theorem dX12_makeTable_515 : decode cX12_makeTable 515 = .ok (.lload 10, 2) := by decide +kernel
theorem dX12_makeTable_517 : decode cX12_makeTable 517 = .ok (.lcmp, 1) := by decide +kernel
theorem dX12_makeTable_518 : decode cX12_makeTable 518 = .ok (.ifCond .eq 9, 3) := by decide +kernel
theorem dX12_makeTable_521 : decode cX12_makeTable 521 = .ok (.iinc 12 1, 3) := by decide +kernel
theorem dX12_makeTable_524 : decode cX12_makeTable 524 = .ok (.goto (-32), 3) := by decide +kernel
theorem dX12_makeTable_527 : decode cX12_makeTable 527 = .ok (.iload 12, 2) := by decide +kernel
theorem dX12_makeTable_529 : decode cX12_makeTable 529 = .ok (.aload_n 0, 1) := by decide +kernel
theorem dX12_makeTable_530 : decode cX12_makeTable 530 = .ok (.getfield 262, 3) := by decide +kernel
theorem dX12_makeTable_533 : decode cX12_makeTable 533 = .ok (.iload_n 1, 1) := by decide +kernel
theorem dX12_makeTable_534 : decode cX12_makeTable 534 = .ok (.iaload, 1) := by decide +kernel
theorem dX12_makeTable_535 : decode cX12_makeTable 535 = .ok (.if_icmp .ne 106, 3) := by decide +kernel
theorem dX12_makeTable_538 : decode cX12_makeTable 538 = .ok (.iload 12, 2) := by decide +kernel
theorem dX12_makeTable_540 : decode cX12_makeTable 540 = .ok (.bipush 60, 2) := by decide +kernel
theorem dX12_makeTable_542 : decode cX12_makeTable 542 = .ok (.if_icmp .ne 6, 3) := by decide +kernel
theorem dX12_makeTable_545 : decode cX12_makeTable 545 = .ok (.bipush (-7), 2) := by decide +kernel
theorem dX12_makeTable_547 : decode cX12_makeTable 547 = .ok (.ireturn, 1) := by decide +kernel
theorem dX12_makeTable_548 : decode cX12_makeTable 548 = .ok (.aload_n 0, 1) := by decide +kernel
theorem dX12_makeTable_549 : decode cX12_makeTable 549 = .ok (.getfield 265, 3) := by decide +kernel
theorem dX12_makeTable_552 : decode cX12_makeTable 552 = .ok (.bipush 61, 2) := by decide +kernel
theorem dX12_makeTable_554 : decode cX12_makeTable 554 = .ok (.iload_n 1, 1) := by decide +kernel
theorem dX12_makeTable_555 : decode cX12_makeTable 555 = .ok (.imul, 1) := by decide +kernel
theorem dX12_makeTable_556 : decode cX12_makeTable 556 = .ok (.iload 12, 2) := by decide +kernel
theorem dX12_makeTable_558 : decode cX12_makeTable 558 = .ok (.iadd, 1) := by decide +kernel
theorem dX12_makeTable_559 : decode cX12_makeTable 559 = .ok (.lload 10, 2) := by decide +kernel
theorem dX12_makeTable_561 : decode cX12_makeTable 561 = .ok (.lastore, 1) := by decide +kernel
theorem dX12_makeTable_562 : decode cX12_makeTable 562 = .ok (.iconst 0, 1) := by decide +kernel
theorem dX12_makeTable_563 : decode cX12_makeTable 563 = .ok (.istore 13, 2) := by decide +kernel
theorem dX12_makeTable_565 : decode cX12_makeTable 565 = .ok (.iconst 0, 1) := by decide +kernel
theorem dX12_makeTable_566 : decode cX12_makeTable 566 = .ok (.istore 14, 2) := by decide +kernel
theorem dX12_makeTable_568 : decode cX12_makeTable 568 = .ok (.iload 14, 2) := by decide +kernel
theorem dX12_makeTable_570 : decode cX12_makeTable 570 = .ok (.aload_n 0, 1) := by decide +kernel
theorem dX12_makeTable_571 : decode cX12_makeTable 571 = .ok (.getfield 721, 3) := by decide +kernel
theorem dX12_makeTable_574 : decode cX12_makeTable 574 = .ok (.if_icmp .ge 43, 3) := by decide +kernel
theorem dX12_makeTable_577 : decode cX12_makeTable 577 = .ok (.iload 13, 2) := by decide +kernel
theorem dX12_makeTable_579 : decode cX12_makeTable 579 = .ok (.ifCond .ne 25, 3) := by decide +kernel
theorem dX12_makeTable_582 : decode cX12_makeTable 582 = .ok (.lload 10, 2) := by decide +kernel
theorem dX12_makeTable_584 : decode cX12_makeTable 584 = .ok (.iload 14, 2) := by decide +kernel
theorem dX12_makeTable_586 : decode cX12_makeTable 586 = .ok (.lshr, 1) := by decide +kernel
theorem dX12_makeTable_587 : decode cX12_makeTable 587 = .ok (.lconst 1, 1) := by decide +kernel
theorem dX12_makeTable_588 : decode cX12_makeTable 588 = .ok (.land, 1) := by decide +kernel
theorem dX12_makeTable_589 : decode cX12_makeTable 589 = .ok (.lconst 1, 1) := by decide +kernel
theorem dX12_makeTable_590 : decode cX12_makeTable 590 = .ok (.lcmp, 1) := by decide +kernel
theorem dX12_makeTable_591 : decode cX12_makeTable 591 = .ok (.ifCond .ne 17, 3) := by decide +kernel
theorem dX12_makeTable_594 : decode cX12_makeTable 594 = .ok (.aload_n 0, 1) := by decide +kernel
theorem dX12_makeTable_595 : decode cX12_makeTable 595 = .ok (.getfield 247, 3) := by decide +kernel
theorem dX12_makeTable_598 : decode cX12_makeTable 598 = .ok (.iload 14, 2) := by decide +kernel
theorem dX12_makeTable_600 : decode cX12_makeTable 600 = .ok (.baload, 1) := by decide +kernel
theorem dX12_makeTable_601 : decode cX12_makeTable 601 = .ok (.ifCond .eq 7, 3) := by decide +kernel
theorem dX12_makeTable_604 : decode cX12_makeTable 604 = .ok (.iconst 1, 1) := by decide +kernel
theorem dX12_makeTable_605 : decode cX12_makeTable 605 = .ok (.goto 4, 3) := by decide +kernel
theorem dX12_makeTable_608 : decode cX12_makeTable 608 = .ok (.iconst 0, 1) := by decide +kernel
theorem dX12_makeTable_609 : decode cX12_makeTable 609 = .ok (.istore 13, 2) := by decide +kernel
theorem dX12_makeTable_611 : decode cX12_makeTable 611 = .ok (.iinc 14 1, 3) := by decide +kernel
theorem dX12_makeTable_614 : decode cX12_makeTable 614 = .ok (.goto (-46), 3) := by decide +kernel
theorem dX12_makeTable_617 : decode cX12_makeTable 617 = .ok (.aload_n 0, 1) := by decide +kernel
theorem dX12_makeTable_618 : decode cX12_makeTable 618 = .ok (.getfield 268, 3) := by decide +kernel
theorem dX12_makeTable_621 : decode cX12_makeTable 621 = .ok (.bipush 61, 2) := by decide +kernel
theorem dX12_makeTable_623 : decode cX12_makeTable 623 = .ok (.iload_n 1, 1) := by decide +kernel
theorem dX12_makeTable_624 : decode cX12_makeTable 624 = .ok (.imul, 1) := by decide +kernel
theorem dX12_makeTable_625 : decode cX12_makeTable 625 = .ok (.iload 12, 2) := by decide +kernel
theorem dX12_makeTable_627 : decode cX12_makeTable 627 = .ok (.iadd, 1) := by decide +kernel
theorem dX12_makeTable_628 : decode cX12_makeTable 628 = .ok (.iload 13, 2) := by decide +kernel
theorem dX12_makeTable_630 : decode cX12_makeTable 630 = .ok (.bastore, 1) := by decide +kernel
theorem dX12_makeTable_631 : decode cX12_makeTable 631 = .ok (.aload_n 0, 1) := by decide +kernel
theorem dX12_makeTable_632 : decode cX12_makeTable 632 = .ok (.getfield 262, 3) := by decide +kernel
theorem dX12_makeTable_635 : decode cX12_makeTable 635 = .ok (.iload_n 1, 1) := by decide +kernel
theorem dX12_makeTable_636 : decode cX12_makeTable 636 = .ok (.dup2, 1) := by decide +kernel
theorem dX12_makeTable_637 : decode cX12_makeTable 637 = .ok (.iaload, 1) := by decide +kernel
theorem dX12_makeTable_638 : decode cX12_makeTable 638 = .ok (.iconst 1, 1) := by decide +kernel
theorem dX12_makeTable_639 : decode cX12_makeTable 639 = .ok (.iadd, 1) := by decide +kernel
theorem dX12_makeTable_640 : decode cX12_makeTable 640 = .ok (.iastore, 1) := by decide +kernel
theorem dX12_makeTable_641 : decode cX12_makeTable 641 = .ok (.aload_n 0, 1) := by decide +kernel
theorem dX12_makeTable_642 : decode cX12_makeTable 642 = .ok (.getfield 284, 3) := by decide +kernel
theorem dX12_makeTable_645 : decode cX12_makeTable 645 = .ok (.sipush 30500, 3) := by decide +kernel
theorem dX12_makeTable_648 : decode cX12_makeTable 648 = .ok (.iload_n 1, 1) := by decide +kernel
theorem dX12_makeTable_649 : decode cX12_makeTable 649 = .ok (.imul, 1) := by decide +kernel
theorem dX12_makeTable_650 : decode cX12_makeTable 650 = .ok (.sipush 500, 3) := by decide +kernel
theorem dX12_makeTable_653 : decode cX12_makeTable 653 = .ok (.iload 6, 2) := by decide +kernel
theorem dX12_makeTable_655 : decode cX12_makeTable 655 = .ok (.imul, 1) := by decide +kernel
theorem dX12_makeTable_656 : decode cX12_makeTable 656 = .ok (.iadd, 1) := by decide +kernel
theorem dX12_makeTable_657 : decode cX12_makeTable 657 = .ok (.iload 9, 2) := by decide +kernel
theorem dX12_makeTable_659 : decode cX12_makeTable 659 = .ok (.iadd, 1) := by decide +kernel
theorem dX12_makeTable_660 : decode cX12_makeTable 660 = .ok (.iload 12, 2) := by decide +kernel
theorem dX12_makeTable_662 : decode cX12_makeTable 662 = .ok (.iastore, 1) := by decide +kernel
theorem dX12_makeTable_663 : decode cX12_makeTable 663 = .ok (.iinc 9 1, 3) := by decide +kernel
theorem dX12_makeTable_666 : decode cX12_makeTable 666 = .ok (.goto (-206), 3) := by decide +kernel
theorem dX12_makeTable_669 : decode cX12_makeTable 669 = .ok (.iinc 6 1, 3) := by decide +kernel
theorem dX12_makeTable_672 : decode cX12_makeTable 672 = .ok (.goto (-300), 3) := by decide +kernel
theorem dX12_makeTable_675 : decode cX12_makeTable 675 = .ok (.iconst 0, 1) := by decide +kernel
theorem dX12_makeTable_676 : decode cX12_makeTable 676 = .ok (.ireturn, 1) := by decide +kernel
theorem dX12_markBounds_0 : decode cX12_markBounds 0 = .ok (.iconst 0, 1) := by decide +kernel
theorem dX12_markBounds_1 : decode cX12_markBounds 1 = .ok (.istore_n 2, 1) := by decide +kernel
theorem dX12_markBounds_2 : decode cX12_markBounds 2 = .ok (.iload_n 2, 1) := by decide +kernel
theorem dX12_markBounds_3 : decode cX12_markBounds 3 = .ok (.aload_n 0, 1) := by decide +kernel
theorem dX12_markBounds_4 : decode cX12_markBounds 4 = .ok (.getfield 35, 3) := by decide +kernel
theorem dX12_markBounds_7 : decode cX12_markBounds 7 = .ok (.iload_n 1, 1) := by decide +kernel
theorem dX12_markBounds_8 : decode cX12_markBounds 8 = .ok (.iaload, 1) := by decide +kernel
theorem dX12_markBounds_9 : decode cX12_markBounds 9 = .ok (.if_icmp .ge 216, 3) := by decide +kernel
theorem dX12_markBounds_12 : decode cX12_markBounds 12 = .ok (.sipush 220, 3) := by decide +kernel
theorem dX12_markBounds_15 : decode cX12_markBounds 15 = .ok (.iload_n 1, 1) := by decide +kernel
theorem dX12_markBounds_16 : decode cX12_markBounds 16 = .ok (.imul, 1) := by decide +kernel
theorem dX12_markBounds_17 : decode cX12_markBounds 17 = .ok (.iload_n 2, 1) := by decide +kernel
theorem dX12_markBounds_18 : decode cX12_markBounds 18 = .ok (.iadd, 1) := by decide +kernel
theorem dX12_markBounds_19 : decode cX12_markBounds 19 = .ok (.istore_n 3, 1) := by decide +kernel
theorem dX12_markBounds_20 : decode cX12_markBounds 20 = .ok (.aload_n 0, 1) := by decide +kernel
theorem dX12_markBounds_21 : decode cX12_markBounds 21 = .ok (.getfield 44, 3) := by decide +kernel
theorem dX12_markBounds_24 : decode cX12_markBounds 24 = .ok (.iload_n 3, 1) := by decide +kernel
theorem dX12_markBounds_25 : decode cX12_markBounds 25 = .ok (.iaload, 1) := by decide +kernel
theorem dX12_markBounds_26 : decode cX12_markBounds 26 = .ok (.istore 4, 2) := by decide +kernel
theorem dX12_markBounds_28 : decode cX12_markBounds 28 = .ok (.iload 4, 2) := by decide +kernel
theorem dX12_markBounds_30 : decode cX12_markBounds 30 = .ok (.ifCond .ne 61, 3) := by decide +kernel
theorem dX12_markBounds_33 : decode cX12_markBounds 33 = .ok (.aload_n 0, 1) := by decide +kernel
theorem dX12_markBounds_34 : decode cX12_markBounds 34 = .ok (.getfield 162, 3) := by decide +kernel
theorem dX12_markBounds_37 : decode cX12_markBounds 37 = .ok (.aload_n 0, 1) := by decide +kernel
theorem dX12_markBounds_38 : decode cX12_markBounds 38 = .ok (.getfield 47, 3) := by decide +kernel
theorem dX12_markBounds_41 : decode cX12_markBounds 41 = .ok (.iload_n 3, 1) := by decide +kernel
theorem dX12_markBounds_42 : decode cX12_markBounds 42 = .ok (.iaload, 1) := by decide +kernel
theorem dX12_markBounds_43 : decode cX12_markBounds 43 = .ok (.iconst 1, 1) := by decide +kernel
theorem dX12_markBounds_44 : decode cX12_markBounds 44 = .ok (.bastore, 1) := by decide +kernel
theorem dX12_markBounds_45 : decode cX12_markBounds 45 = .ok (.aload_n 0, 1) := by decide +kernel
theorem dX12_markBounds_46 : decode cX12_markBounds 46 = .ok (.getfield 162, 3) := by decide +kernel
theorem dX12_markBounds_49 : decode cX12_markBounds 49 = .ok (.aload_n 0, 1) := by decide +kernel
theorem dX12_markBounds_50 : decode cX12_markBounds 50 = .ok (.getfield 47, 3) := by decide +kernel
theorem dX12_markBounds_53 : decode cX12_markBounds 53 = .ok (.iload_n 3, 1) := by decide +kernel
theorem dX12_markBounds_54 : decode cX12_markBounds 54 = .ok (.iaload, 1) := by decide +kernel
theorem dX12_markBounds_55 : decode cX12_markBounds 55 = .ok (.iconst 1, 1) := by decide +kernel
theorem dX12_markBounds_56 : decode cX12_markBounds 56 = .ok (.iadd, 1) := by decide +kernel
theorem dX12_markBounds_57 : decode cX12_markBounds 57 = .ok (.iconst 1, 1) := by decide +kernel
theorem dX12_markBounds_58 : decode cX12_markBounds 58 = .ok (.bastore, 1) := by decide +kernel
theorem dX12_markBounds_59 : decode cX12_markBounds 59 = .ok (.aload_n 0, 1) := by decide +kernel
theorem dX12_markBounds_60 : decode cX12_markBounds 60 = .ok (.getfield 162, 3) := by decide +kernel
theorem dX12_markBounds_63 : decode cX12_markBounds 63 = .ok (.aload_n 0, 1) := by decide +kernel
theorem dX12_markBounds_64 : decode cX12_markBounds 64 = .ok (.getfield 47, 3) := by decide +kernel
theorem dX12_markBounds_67 : decode cX12_markBounds 67 = .ok (.iload_n 3, 1) := by decide +kernel
theorem dX12_markBounds_68 : decode cX12_markBounds 68 = .ok (.iaload, 1) := by decide +kernel
theorem dX12_markBounds_69 : decode cX12_markBounds 69 = .ok (.invokestatic 511, 3) := by decide +kernel
theorem dX12_markBounds_72 : decode cX12_markBounds 72 = .ok (.iconst 1, 1) := by decide +kernel
theorem dX12_markBounds_73 : decode cX12_markBounds 73 = .ok (.bastore, 1) := by decide +kernel
theorem dX12_markBounds_74 : decode cX12_markBounds 74 = .ok (.aload_n 0, 1) := by decide +kernel
theorem dX12_markBounds_75 : decode cX12_markBounds 75 = .ok (.getfield 162, 3) := by decide +kernel
theorem dX12_markBounds_78 : decode cX12_markBounds 78 = .ok (.aload_n 0, 1) := by decide +kernel
theorem dX12_markBounds_79 : decode cX12_markBounds 79 = .ok (.getfield 47, 3) := by decide +kernel
theorem dX12_markBounds_82 : decode cX12_markBounds 82 = .ok (.iload_n 3, 1) := by decide +kernel
theorem dX12_markBounds_83 : decode cX12_markBounds 83 = .ok (.iaload, 1) := by decide +kernel
theorem dX12_markBounds_84 : decode cX12_markBounds 84 = .ok (.invokestatic 511, 3) := by decide +kernel
theorem dX12_markBounds_87 : decode cX12_markBounds 87 = .ok (.iconst 1, 1) := by decide +kernel
theorem dX12_markBounds_88 : decode cX12_markBounds 88 = .ok (.iadd, 1) := by decide +kernel
theorem dX12_markBounds_89 : decode cX12_markBounds 89 = .ok (.iconst 1, 1) := by decide +kernel
theorem dX12_markBounds_90 : decode cX12_markBounds 90 = .ok (.bastore, 1) := by decide +kernel
theorem dX12_markBounds_91 : decode cX12_markBounds 91 = .ok (.iload 4, 2) := by decide +kernel
