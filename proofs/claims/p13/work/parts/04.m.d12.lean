theorem dX12_node_29 : decode cX12_node 29 = .ok (.ifCond .eq 24, 3) := by decide +kernel
theorem dX12_node_32 : decode cX12_node 32 = .ok (.iload_n 3, 1) := by decide +kernel
theorem dX12_node_33 : decode cX12_node 33 = .ok (.iconst 0, 1) := by decide +kernel
theorem dX12_node_34 : decode cX12_node 34 = .ok (.bipush 6, 2) := by decide +kernel
theorem dX12_node_36 : decode cX12_node 36 = .ok (.invokestatic 7, 3) := by decide +kernel
theorem dX12_node_39 : decode cX12_node 39 = .ok (.ifCond .ne 17, 3) := by decide +kernel
theorem dX12_node_42 : decode cX12_node 42 = .ok (.iload_n 3, 1) := by decide +kernel
theorem dX12_node_43 : decode cX12_node 43 = .ok (.bipush 10, 2) := by decide +kernel
theorem dX12_node_45 : decode cX12_node 45 = .ok (.bipush 18, 2) := by decide +kernel
theorem dX12_node_47 : decode cX12_node 47 = .ok (.invokestatic 7, 3) := by decide +kernel
theorem dX12_node_50 : decode cX12_node 50 = .ok (.ifCond .ne 6, 3) := by decide +kernel
theorem dX12_node_53 : decode cX12_node 53 = .ok (.bipush (-4), 2) := by decide +kernel
theorem dX12_node_55 : decode cX12_node 55 = .ok (.ireturn, 1) := by decide +kernel
theorem dX12_node_56 : decode cX12_node 56 = .ok (.sipush 220, 3) := by decide +kernel
theorem dX12_node_59 : decode cX12_node 59 = .ok (.iload_n 1, 1) := by decide +kernel
theorem dX12_node_60 : decode cX12_node 60 = .ok (.imul, 1) := by decide +kernel
theorem dX12_node_61 : decode cX12_node 61 = .ok (.iload_n 2, 1) := by decide +kernel
theorem dX12_node_62 : decode cX12_node 62 = .ok (.iadd, 1) := by decide +kernel
theorem dX12_node_63 : decode cX12_node 63 = .ok (.istore 4, 2) := by decide +kernel
theorem dX12_node_65 : decode cX12_node 65 = .ok (.aload_n 0, 1) := by decide +kernel
theorem dX12_node_66 : decode cX12_node 66 = .ok (.getfield 44, 3) := by decide +kernel
theorem dX12_node_69 : decode cX12_node 69 = .ok (.iload 4, 2) := by decide +kernel
theorem dX12_node_71 : decode cX12_node 71 = .ok (.iaload, 1) := by decide +kernel
theorem dX12_node_72 : decode cX12_node 72 = .ok (.istore 5, 2) := by decide +kernel
theorem dX12_node_74 : decode cX12_node 74 = .ok (.iload_n 3, 1) := by decide +kernel
theorem dX12_node_75 : decode cX12_node 75 = .ok (.tableswitch 323 0 17 #[85, 88, 96, 104, 112, 120, 136, 323, 323, 323, 152, 172, 193, 214, 235, 257, 279, 301], 85) := by decide +kernel
theorem dX12_node_160 : decode cX12_node 160 = .ok (.iload 5, 2) := by decide +kernel
theorem dX12_node_162 : decode cX12_node 162 = .ok (.ireturn, 1) := by decide +kernel
theorem dX12_node_163 : decode cX12_node 163 = .ok (.aload_n 0, 1) := by decide +kernel
theorem dX12_node_164 : decode cX12_node 164 = .ok (.getfield 59, 3) := by decide +kernel
theorem dX12_node_167 : decode cX12_node 167 = .ok (.iload 4, 2) := by decide +kernel
theorem dX12_node_169 : decode cX12_node 169 = .ok (.iaload, 1) := by decide +kernel
theorem dX12_node_170 : decode cX12_node 170 = .ok (.ireturn, 1) := by decide +kernel
theorem dX12_node_171 : decode cX12_node 171 = .ok (.aload_n 0, 1) := by decide +kernel
theorem dX12_node_172 : decode cX12_node 172 = .ok (.getfield 56, 3) := by decide +kernel
theorem dX12_node_175 : decode cX12_node 175 = .ok (.iload 4, 2) := by decide +kernel
theorem dX12_node_177 : decode cX12_node 177 = .ok (.iaload, 1) := by decide +kernel
theorem dX12_node_178 : decode cX12_node 178 = .ok (.ireturn, 1) := by decide +kernel
theorem dX12_node_179 : decode cX12_node 179 = .ok (.aload_n 0, 1) := by decide +kernel
theorem dX12_node_180 : decode cX12_node 180 = .ok (.getfield 65, 3) := by decide +kernel
theorem dX12_node_183 : decode cX12_node 183 = .ok (.iload 4, 2) := by decide +kernel
theorem dX12_node_185 : decode cX12_node 185 = .ok (.iaload, 1) := by decide +kernel
theorem dX12_node_186 : decode cX12_node 186 = .ok (.ireturn, 1) := by decide +kernel
theorem dX12_node_187 : decode cX12_node 187 = .ok (.aload_n 0, 1) := by decide +kernel
theorem dX12_node_188 : decode cX12_node 188 = .ok (.getfield 68, 3) := by decide +kernel
theorem dX12_node_191 : decode cX12_node 191 = .ok (.iload 4, 2) := by decide +kernel
theorem dX12_node_193 : decode cX12_node 193 = .ok (.iaload, 1) := by decide +kernel
theorem dX12_node_194 : decode cX12_node 194 = .ok (.ireturn, 1) := by decide +kernel
theorem dX12_node_195 : decode cX12_node 195 = .ok (.aload_n 0, 1) := by decide +kernel
theorem dX12_node_196 : decode cX12_node 196 = .ok (.getfield 74, 3) := by decide +kernel
theorem dX12_node_199 : decode cX12_node 199 = .ok (.iload 4, 2) := by decide +kernel
theorem dX12_node_201 : decode cX12_node 201 = .ok (.baload, 1) := by decide +kernel
theorem dX12_node_202 : decode cX12_node 202 = .ok (.ifCond .eq 7, 3) := by decide +kernel
theorem dX12_node_205 : decode cX12_node 205 = .ok (.iconst 1, 1) := by decide +kernel
theorem dX12_node_206 : decode cX12_node 206 = .ok (.goto 4, 3) := by decide +kernel
theorem dX12_node_209 : decode cX12_node 209 = .ok (.iconst 0, 1) := by decide +kernel
theorem dX12_node_210 : decode cX12_node 210 = .ok (.ireturn, 1) := by decide +kernel
theorem dX12_node_211 : decode cX12_node 211 = .ok (.aload_n 0, 1) := by decide +kernel
theorem dX12_node_212 : decode cX12_node 212 = .ok (.getfield 77, 3) := by decide +kernel
theorem dX12_node_215 : decode cX12_node 215 = .ok (.iload 4, 2) := by decide +kernel
theorem dX12_node_217 : decode cX12_node 217 = .ok (.baload, 1) := by decide +kernel
theorem dX12_node_218 : decode cX12_node 218 = .ok (.ifCond .eq 7, 3) := by decide +kernel
theorem dX12_node_221 : decode cX12_node 221 = .ok (.iconst 1, 1) := by decide +kernel
theorem dX12_node_222 : decode cX12_node 222 = .ok (.goto 4, 3) := by decide +kernel
theorem dX12_node_225 : decode cX12_node 225 = .ok (.iconst 0, 1) := by decide +kernel
theorem dX12_node_226 : decode cX12_node 226 = .ok (.ireturn, 1) := by decide +kernel
theorem dX12_node_227 : decode cX12_node 227 = .ok (.iload 5, 2) := by decide +kernel
theorem dX12_node_229 : decode cX12_node 229 = .ok (.ifCond .ne 13, 3) := by decide +kernel
theorem dX12_node_232 : decode cX12_node 232 = .ok (.aload_n 0, 1) := by decide +kernel
theorem dX12_node_233 : decode cX12_node 233 = .ok (.getfield 47, 3) := by decide +kernel
theorem dX12_node_236 : decode cX12_node 236 = .ok (.iload 4, 2) := by decide +kernel
theorem dX12_node_238 : decode cX12_node 238 = .ok (.iaload, 1) := by decide +kernel
theorem dX12_node_239 : decode cX12_node 239 = .ok (.goto 7, 3) := by decide +kernel
theorem dX12_node_242 : decode cX12_node 242 = .ok (.aload_n 0, 1) := by decide +kernel
theorem dX12_node_243 : decode cX12_node 243 = .ok (.invokevirtual 462, 3) := by decide +kernel
theorem dX12_node_246 : decode cX12_node 246 = .ok (.ireturn, 1) := by decide +kernel
theorem dX12_node_247 : decode cX12_node 247 = .ok (.iload 5, 2) := by decide +kernel
theorem dX12_node_249 : decode cX12_node 249 = .ok (.iconst 2, 1) := by decide +kernel
theorem dX12_node_250 : decode cX12_node 250 = .ok (.if_icmp .ne 13, 3) := by decide +kernel
theorem dX12_node_253 : decode cX12_node 253 = .ok (.aload_n 0, 1) := by decide +kernel
theorem dX12_node_254 : decode cX12_node 254 = .ok (.getfield 47, 3) := by decide +kernel
theorem dX12_node_257 : decode cX12_node 257 = .ok (.iload 4, 2) := by decide +kernel
theorem dX12_node_259 : decode cX12_node 259 = .ok (.iaload, 1) := by decide +kernel
theorem dX12_node_260 : decode cX12_node 260 = .ok (.goto 7, 3) := by decide +kernel
theorem dX12_node_263 : decode cX12_node 263 = .ok (.aload_n 0, 1) := by decide +kernel
theorem dX12_node_264 : decode cX12_node 264 = .ok (.invokevirtual 462, 3) := by decide +kernel
theorem dX12_node_267 : decode cX12_node 267 = .ok (.ireturn, 1) := by decide +kernel
theorem dX12_node_268 : decode cX12_node 268 = .ok (.iload 5, 2) := by decide +kernel
theorem dX12_node_270 : decode cX12_node 270 = .ok (.iconst 3, 1) := by decide +kernel
theorem dX12_node_271 : decode cX12_node 271 = .ok (.if_icmp .ne 13, 3) := by decide +kernel
theorem dX12_node_274 : decode cX12_node 274 = .ok (.aload_n 0, 1) := by decide +kernel
theorem dX12_node_275 : decode cX12_node 275 = .ok (.getfield 47, 3) := by decide +kernel
theorem dX12_node_278 : decode cX12_node 278 = .ok (.iload 4, 2) := by decide +kernel
theorem dX12_node_280 : decode cX12_node 280 = .ok (.iaload, 1) := by decide +kernel
theorem dX12_node_281 : decode cX12_node 281 = .ok (.goto 7, 3) := by decide +kernel
theorem dX12_node_284 : decode cX12_node 284 = .ok (.aload_n 0, 1) := by decide +kernel
theorem dX12_node_285 : decode cX12_node 285 = .ok (.invokevirtual 462, 3) := by decide +kernel
theorem dX12_node_288 : decode cX12_node 288 = .ok (.ireturn, 1) := by decide +kernel
theorem dX12_node_289 : decode cX12_node 289 = .ok (.iload 5, 2) := by decide +kernel
theorem dX12_node_291 : decode cX12_node 291 = .ok (.iconst 4, 1) := by decide +kernel
theorem dX12_node_292 : decode cX12_node 292 = .ok (.if_icmp .ne 13, 3) := by decide +kernel
theorem dX12_node_295 : decode cX12_node 295 = .ok (.aload_n 0, 1) := by decide +kernel
theorem dX12_node_296 : decode cX12_node 296 = .ok (.getfield 47, 3) := by decide +kernel
theorem dX12_node_299 : decode cX12_node 299 = .ok (.iload 4, 2) := by decide +kernel
theorem dX12_node_301 : decode cX12_node 301 = .ok (.iaload, 1) := by decide +kernel
theorem dX12_node_302 : decode cX12_node 302 = .ok (.goto 7, 3) := by decide +kernel
theorem dX12_node_305 : decode cX12_node 305 = .ok (.aload_n 0, 1) := by decide +kernel
theorem dX12_node_306 : decode cX12_node 306 = .ok (.invokevirtual 462, 3) := by decide +kernel
theorem dX12_node_309 : decode cX12_node 309 = .ok (.ireturn, 1) := by decide +kernel
theorem dX12_node_310 : decode cX12_node 310 = .ok (.iload 5, 2) := by decide +kernel
theorem dX12_node_312 : decode cX12_node 312 = .ok (.bipush 8, 2) := by decide +kernel
theorem dX12_node_314 : decode cX12_node 314 = .ok (.if_icmp .ne 13, 3) := by decide +kernel
theorem dX12_node_317 : decode cX12_node 317 = .ok (.aload_n 0, 1) := by decide +kernel
theorem dX12_node_318 : decode cX12_node 318 = .ok (.getfield 47, 3) := by decide +kernel
theorem dX12_node_321 : decode cX12_node 321 = .ok (.iload 4, 2) := by decide +kernel
theorem dX12_node_323 : decode cX12_node 323 = .ok (.iaload, 1) := by decide +kernel
theorem dX12_node_324 : decode cX12_node 324 = .ok (.goto 7, 3) := by decide +kernel
theorem dX12_node_327 : decode cX12_node 327 = .ok (.aload_n 0, 1) := by decide +kernel
theorem dX12_node_328 : decode cX12_node 328 = .ok (.invokevirtual 462, 3) := by decide +kernel
theorem dX12_node_331 : decode cX12_node 331 = .ok (.ireturn, 1) := by decide +kernel
theorem dX12_node_332 : decode cX12_node 332 = .ok (.iload 5, 2) := by decide +kernel
theorem dX12_node_334 : decode cX12_node 334 = .ok (.bipush 9, 2) := by decide +kernel
theorem dX12_node_336 : decode cX12_node 336 = .ok (.if_icmp .ne 13, 3) := by decide +kernel
theorem dX12_node_339 : decode cX12_node 339 = .ok (.aload_n 0, 1) := by decide +kernel
theorem dX12_node_340 : decode cX12_node 340 = .ok (.getfield 47, 3) := by decide +kernel
theorem dX12_node_343 : decode cX12_node 343 = .ok (.iload 4, 2) := by decide +kernel
theorem dX12_node_345 : decode cX12_node 345 = .ok (.iaload, 1) := by decide +kernel
theorem dX12_node_346 : decode cX12_node 346 = .ok (.goto 7, 3) := by decide +kernel
theorem dX12_node_349 : decode cX12_node 349 = .ok (.aload_n 0, 1) := by decide +kernel
theorem dX12_node_350 : decode cX12_node 350 = .ok (.invokevirtual 462, 3) := by decide +kernel
theorem dX12_node_353 : decode cX12_node 353 = .ok (.ireturn, 1) := by decide +kernel
theorem dX12_node_354 : decode cX12_node 354 = .ok (.iload 5, 2) := by decide +kernel
theorem dX12_node_356 : decode cX12_node 356 = .ok (.bipush 7, 2) := by decide +kernel
theorem dX12_node_358 : decode cX12_node 358 = .ok (.if_icmp .ne 13, 3) := by decide +kernel
theorem dX12_node_361 : decode cX12_node 361 = .ok (.aload_n 0, 1) := by decide +kernel
theorem dX12_node_362 : decode cX12_node 362 = .ok (.getfield 50, 3) := by decide +kernel
theorem dX12_node_365 : decode cX12_node 365 = .ok (.iload 4, 2) := by decide +kernel
theorem dX12_node_367 : decode cX12_node 367 = .ok (.iaload, 1) := by decide +kernel
theorem dX12_node_368 : decode cX12_node 368 = .ok (.goto 7, 3) := by decide +kernel
theorem dX12_node_371 : decode cX12_node 371 = .ok (.aload_n 0, 1) := by decide +kernel
theorem dX12_node_372 : decode cX12_node 372 = .ok (.invokevirtual 462, 3) := by decide +kernel
theorem dX12_node_375 : decode cX12_node 375 = .ok (.ireturn, 1) := by decide +kernel
theorem dX12_node_376 : decode cX12_node 376 = .ok (.iload 5, 2) := by decide +kernel
theorem dX12_node_378 : decode cX12_node 378 = .ok (.bipush 7, 2) := by decide +kernel
theorem dX12_node_380 : decode cX12_node 380 = .ok (.if_icmp .ne 13, 3) := by decide +kernel
theorem dX12_node_383 : decode cX12_node 383 = .ok (.aload_n 0, 1) := by decide +kernel
theorem dX12_node_384 : decode cX12_node 384 = .ok (.getfield 53, 3) := by decide +kernel
theorem dX12_node_387 : decode cX12_node 387 = .ok (.iload 4, 2) := by decide +kernel
theorem dX12_node_389 : decode cX12_node 389 = .ok (.iaload, 1) := by decide +kernel
theorem dX12_node_390 : decode cX12_node 390 = .ok (.goto 7, 3) := by decide +kernel
theorem dX12_node_393 : decode cX12_node 393 = .ok (.aload_n 0, 1) := by decide +kernel
theorem dX12_node_394 : decode cX12_node 394 = .ok (.invokevirtual 462, 3) := by decide +kernel
theorem dX12_node_397 : decode cX12_node 397 = .ok (.ireturn, 1) := by decide +kernel
theorem dX12_node_398 : decode cX12_node 398 = .ok (.iload 5, 2) := by decide +kernel
theorem dX12_node_400 : decode cX12_node 400 = .ok (.bipush 7, 2) := by decide +kernel
theorem dX12_node_402 : decode cX12_node 402 = .ok (.if_icmp .ne 13, 3) := by decide +kernel
theorem dX12_node_405 : decode cX12_node 405 = .ok (.aload_n 0, 1) := by decide +kernel
theorem dX12_node_406 : decode cX12_node 406 = .ok (.getfield 47, 3) := by decide +kernel
theorem dX12_node_409 : decode cX12_node 409 = .ok (.iload 4, 2) := by decide +kernel
theorem dX12_node_411 : decode cX12_node 411 = .ok (.iaload, 1) := by decide +kernel
theorem dX12_node_412 : decode cX12_node 412 = .ok (.goto 7, 3) := by decide +kernel
theorem dX12_node_415 : decode cX12_node 415 = .ok (.aload_n 0, 1) := by decide +kernel
theorem dX12_node_416 : decode cX12_node 416 = .ok (.invokevirtual 462, 3) := by decide +kernel
theorem dX12_node_419 : decode cX12_node 419 = .ok (.ireturn, 1) := by decide +kernel
theorem dX12_numberFrom_0 : decode cX12_numberFrom 0 = .ok (.aload_n 0, 1) := by decide +kernel
theorem dX12_numberFrom_1 : decode cX12_numberFrom 1 = .ok (.iload_n 1, 1) := by decide +kernel
theorem dX12_numberFrom_2 : decode cX12_numberFrom 2 = .ok (.invokevirtual 349, 3) := by decide +kernel
theorem dX12_numberFrom_5 : decode cX12_numberFrom 5 = .ok (.invokestatic 15, 3) := by decide +kernel
theorem dX12_numberFrom_8 : decode cX12_numberFrom 8 = .ok (.ifCond .ne 11, 3) := by decide +kernel
theorem dX12_numberFrom_11 : decode cX12_numberFrom 11 = .ok (.aload_n 0, 1) := by decide +kernel
theorem dX12_numberFrom_12 : decode cX12_numberFrom 12 = .ok (.iconst 1, 1) := by decide +kernel
theorem dX12_numberFrom_13 : decode cX12_numberFrom 13 = .ok (.iload_n 1, 1) := by decide +kernel
theorem dX12_numberFrom_14 : decode cX12_numberFrom 14 = .ok (.invokevirtual 345, 3) := by decide +kernel
theorem dX12_numberFrom_17 : decode cX12_numberFrom 17 = .ok (.iload_n 1, 1) := by decide +kernel
theorem dX12_numberFrom_18 : decode cX12_numberFrom 18 = .ok (.ireturn, 1) := by decide +kernel
theorem dX12_numberFrom_19 : decode cX12_numberFrom 19 = .ok (.aload_n 0, 1) := by decide +kernel
theorem dX12_numberFrom_20 : decode cX12_numberFrom 20 = .ok (.iload_n 1, 1) := by decide +kernel
theorem dX12_numberFrom_21 : decode cX12_numberFrom 21 = .ok (.invokevirtual 349, 3) := by decide +kernel
theorem dX12_numberFrom_24 : decode cX12_numberFrom 24 = .ok (.bipush 48, 2) := by decide +kernel
theorem dX12_numberFrom_26 : decode cX12_numberFrom 26 = .ok (.isub, 1) := by decide +kernel
theorem dX12_numberFrom_27 : decode cX12_numberFrom 27 = .ok (.istore_n 3, 1) := by decide +kernel
theorem dX12_numberFrom_28 : decode cX12_numberFrom 28 = .ok (.iload_n 1, 1) := by decide +kernel
theorem dX12_numberFrom_29 : decode cX12_numberFrom 29 = .ok (.iconst 1, 1) := by decide +kernel
theorem dX12_numberFrom_30 : decode cX12_numberFrom 30 = .ok (.iadd, 1) := by decide +kernel
theorem dX12_numberFrom_31 : decode cX12_numberFrom 31 = .ok (.istore 4, 2) := by decide +kernel
theorem dX12_numberFrom_33 : decode cX12_numberFrom 33 = .ok (.aload_n 0, 1) := by decide +kernel
theorem dX12_numberFrom_34 : decode cX12_numberFrom 34 = .ok (.iload 4, 2) := by decide +kernel
theorem dX12_numberFrom_36 : decode cX12_numberFrom 36 = .ok (.invokevirtual 349, 3) := by decide +kernel
theorem dX12_numberFrom_39 : decode cX12_numberFrom 39 = .ok (.invokestatic 15, 3) := by decide +kernel
theorem dX12_numberFrom_42 : decode cX12_numberFrom 42 = .ok (.ifCond .eq 21, 3) := by decide +kernel
theorem dX12_numberFrom_45 : decode cX12_numberFrom 45 = .ok (.bipush 10, 2) := by decide +kernel
theorem dX12_numberFrom_47 : decode cX12_numberFrom 47 = .ok (.iload_n 3, 1) := by decide +kernel
theorem dX12_numberFrom_48 : decode cX12_numberFrom 48 = .ok (.imul, 1) := by decide +kernel
theorem dX12_numberFrom_49 : decode cX12_numberFrom 49 = .ok (.aload_n 0, 1) := by decide +kernel
theorem dX12_numberFrom_50 : decode cX12_numberFrom 50 = .ok (.iload 4, 2) := by decide +kernel
theorem dX12_numberFrom_52 : decode cX12_numberFrom 52 = .ok (.invokevirtual 349, 3) := by decide +kernel
theorem dX12_numberFrom_55 : decode cX12_numberFrom 55 = .ok (.iadd, 1) := by decide +kernel
theorem dX12_numberFrom_56 : decode cX12_numberFrom 56 = .ok (.bipush 48, 2) := by decide +kernel
theorem dX12_numberFrom_58 : decode cX12_numberFrom 58 = .ok (.isub, 1) := by decide +kernel
theorem dX12_numberFrom_59 : decode cX12_numberFrom 59 = .ok (.istore_n 3, 1) := by decide +kernel
theorem dX12_numberFrom_60 : decode cX12_numberFrom 60 = .ok (.iinc 4 1, 3) := by decide +kernel
theorem dX12_numberFrom_63 : decode cX12_numberFrom 63 = .ok (.iload_n 3, 1) := by decide +kernel
theorem dX12_numberFrom_64 : decode cX12_numberFrom 64 = .ok (.bipush 20, 2) := by decide +kernel
theorem dX12_numberFrom_66 : decode cX12_numberFrom 66 = .ok (.if_icmp .gt 15, 3) := by decide +kernel
theorem dX12_numberFrom_69 : decode cX12_numberFrom 69 = .ok (.iload_n 2, 1) := by decide +kernel
theorem dX12_numberFrom_70 : decode cX12_numberFrom 70 = .ok (.ifCond .eq 17, 3) := by decide +kernel
theorem dX12_numberFrom_73 : decode cX12_numberFrom 73 = .ok (.iload_n 3, 1) := by decide +kernel
theorem dX12_numberFrom_74 : decode cX12_numberFrom 74 = .ok (.aload_n 0, 1) := by decide +kernel
theorem dX12_numberFrom_75 : decode cX12_numberFrom 75 = .ok (.getfield 356, 3) := by decide +kernel
theorem dX12_numberFrom_78 : decode cX12_numberFrom 78 = .ok (.if_icmp .ge 9, 3) := by decide +kernel
theorem dX12_numberFrom_81 : decode cX12_numberFrom 81 = .ok (.aload_n 0, 1) := by decide +kernel
theorem dX12_numberFrom_82 : decode cX12_numberFrom 82 = .ok (.iconst 3, 1) := by decide +kernel
theorem dX12_numberFrom_83 : decode cX12_numberFrom 83 = .ok (.iload_n 1, 1) := by decide +kernel
theorem dX12_numberFrom_84 : decode cX12_numberFrom 84 = .ok (.invokevirtual 345, 3) := by decide +kernel
theorem dX12_numberFrom_87 : decode cX12_numberFrom 87 = .ok (.aload_n 0, 1) := by decide +kernel
theorem dX12_numberFrom_88 : decode cX12_numberFrom 88 = .ok (.iload_n 3, 1) := by decide +kernel
theorem dX12_numberFrom_89 : decode cX12_numberFrom 89 = .ok (.putfield 359, 3) := by decide +kernel
theorem dX12_numberFrom_92 : decode cX12_numberFrom 92 = .ok (.aload_n 0, 1) := by decide +kernel
theorem dX12_numberFrom_93 : decode cX12_numberFrom 93 = .ok (.iload_n 2, 1) := by decide +kernel
theorem dX12_numberFrom_94 : decode cX12_numberFrom 94 = .ok (.ifCond .eq 10, 3) := by decide +kernel
theorem dX12_numberFrom_97 : decode cX12_numberFrom 97 = .ok (.aload_n 0, 1) := by decide +kernel
theorem dX12_numberFrom_98 : decode cX12_numberFrom 98 = .ok (.getfield 356, 3) := by decide +kernel
theorem dX12_numberFrom_101 : decode cX12_numberFrom 101 = .ok (.goto 4, 3) := by decide +kernel
theorem dX12_numberFrom_104 : decode cX12_numberFrom 104 = .ok (.iload_n 3, 1) := by decide +kernel
theorem dX12_numberFrom_105 : decode cX12_numberFrom 105 = .ok (.putfield 356, 3) := by decide +kernel
theorem dX12_numberFrom_108 : decode cX12_numberFrom 108 = .ok (.iload 4, 2) := by decide +kernel
theorem dX12_numberFrom_110 : decode cX12_numberFrom 110 = .ok (.ireturn, 1) := by decide +kernel
theorem dX12_openGroup_0 : decode cX12_openGroup 0 = .ok (.aload_n 0, 1) := by decide +kernel
theorem dX12_openGroup_1 : decode cX12_openGroup 1 = .ok (.aload_n 0, 1) := by decide +kernel
theorem dX12_openGroup_2 : decode cX12_openGroup 2 = .ok (.getfield 362, 3) := by decide +kernel
theorem dX12_openGroup_5 : decode cX12_openGroup 5 = .ok (.iconst 1, 1) := by decide +kernel
theorem dX12_openGroup_6 : decode cX12_openGroup 6 = .ok (.iadd, 1) := by decide +kernel
theorem dX12_openGroup_7 : decode cX12_openGroup 7 = .ok (.invokevirtual 349, 3) := by decide +kernel
theorem dX12_openGroup_10 : decode cX12_openGroup 10 = .ok (.istore_n 1, 1) := by decide +kernel
theorem dX12_openGroup_11 : decode cX12_openGroup 11 = .ok (.iload_n 1, 1) := by decide +kernel
theorem dX12_openGroup_12 : decode cX12_openGroup 12 = .ok (.bipush 35, 2) := by decide +kernel
theorem dX12_openGroup_14 : decode cX12_openGroup 14 = .ok (.if_icmp .ne 58, 3) := by decide +kernel
theorem dX12_openGroup_17 : decode cX12_openGroup 17 = .ok (.aload_n 0, 1) := by decide +kernel
theorem dX12_openGroup_18 : decode cX12_openGroup 18 = .ok (.getfield 362, 3) := by decide +kernel
theorem dX12_openGroup_21 : decode cX12_openGroup 21 = .ok (.iconst 2, 1) := by decide +kernel
theorem dX12_openGroup_22 : decode cX12_openGroup 22 = .ok (.iadd, 1) := by decide +kernel
theorem dX12_openGroup_23 : decode cX12_openGroup 23 = .ok (.istore_n 2, 1) := by decide +kernel
theorem dX12_openGroup_24 : decode cX12_openGroup 24 = .ok (.aload_n 0, 1) := by decide +kernel
theorem dX12_openGroup_25 : decode cX12_openGroup 25 = .ok (.iload_n 2, 1) := by decide +kernel
theorem dX12_openGroup_26 : decode cX12_openGroup 26 = .ok (.invokevirtual 349, 3) := by decide +kernel
theorem dX12_openGroup_29 : decode cX12_openGroup 29 = .ok (.iconst (-1), 1) := by decide +kernel
theorem dX12_openGroup_30 : decode cX12_openGroup 30 = .ok (.if_icmp .eq 19, 3) := by decide +kernel
theorem dX12_openGroup_33 : decode cX12_openGroup 33 = .ok (.aload_n 0, 1) := by decide +kernel
theorem dX12_openGroup_34 : decode cX12_openGroup 34 = .ok (.iload_n 2, 1) := by decide +kernel
theorem dX12_openGroup_35 : decode cX12_openGroup 35 = .ok (.invokevirtual 349, 3) := by decide +kernel
theorem dX12_openGroup_38 : decode cX12_openGroup 38 = .ok (.bipush 41, 2) := by decide +kernel
theorem dX12_openGroup_40 : decode cX12_openGroup 40 = .ok (.if_icmp .eq 9, 3) := by decide +kernel
theorem dX12_openGroup_43 : decode cX12_openGroup 43 = .ok (.iinc 2 1, 3) := by decide +kernel
theorem dX12_openGroup_46 : decode cX12_openGroup 46 = .ok (.goto (-22), 3) := by decide +kernel
theorem dX12_openGroup_49 : decode cX12_openGroup 49 = .ok (.aload_n 0, 1) := by decide +kernel
theorem dX12_openGroup_50 : decode cX12_openGroup 50 = .ok (.iload_n 2, 1) := by decide +kernel
theorem dX12_openGroup_51 : decode cX12_openGroup 51 = .ok (.invokevirtual 349, 3) := by decide +kernel
theorem dX12_openGroup_54 : decode cX12_openGroup 54 = .ok (.iconst (-1), 1) := by decide +kernel
theorem dX12_openGroup_55 : decode cX12_openGroup 55 = .ok (.if_icmp .ne 9, 3) := by decide +kernel
theorem dX12_openGroup_58 : decode cX12_openGroup 58 = .ok (.aload_n 0, 1) := by decide +kernel
theorem dX12_openGroup_59 : decode cX12_openGroup 59 = .ok (.iconst 1, 1) := by decide +kernel
theorem dX12_openGroup_60 : decode cX12_openGroup 60 = .ok (.iload_n 2, 1) := by decide +kernel
theorem dX12_openGroup_61 : decode cX12_openGroup 61 = .ok (.invokevirtual 345, 3) := by decide +kernel
theorem dX12_openGroup_64 : decode cX12_openGroup 64 = .ok (.aload_n 0, 1) := by decide +kernel
theorem dX12_openGroup_65 : decode cX12_openGroup 65 = .ok (.iload_n 2, 1) := by decide +kernel
theorem dX12_openGroup_66 : decode cX12_openGroup 66 = .ok (.iconst 1, 1) := by decide +kernel
theorem dX12_openGroup_67 : decode cX12_openGroup 67 = .ok (.iadd, 1) := by decide +kernel
theorem dX12_openGroup_68 : decode cX12_openGroup 68 = .ok (.putfield 362, 3) := by decide +kernel
theorem dX12_openGroup_71 : decode cX12_openGroup 71 = .ok (.return_, 1) := by decide +kernel
theorem dX12_openGroup_72 : decode cX12_openGroup 72 = .ok (.iload_n 1, 1) := by decide +kernel
theorem dX12_openGroup_73 : decode cX12_openGroup 73 = .ok (.bipush 58, 2) := by decide +kernel
theorem dX12_openGroup_75 : decode cX12_openGroup 75 = .ok (.if_icmp .eq 39, 3) := by decide +kernel
theorem dX12_openGroup_78 : decode cX12_openGroup 78 = .ok (.iload_n 1, 1) := by decide +kernel
theorem dX12_openGroup_79 : decode cX12_openGroup 79 = .ok (.bipush 61, 2) := by decide +kernel
theorem dX12_openGroup_81 : decode cX12_openGroup 81 = .ok (.if_icmp .eq 33, 3) := by decide +kernel
theorem dX12_openGroup_84 : decode cX12_openGroup 84 = .ok (.iload_n 1, 1) := by decide +kernel
theorem dX12_openGroup_85 : decode cX12_openGroup 85 = .ok (.bipush 33, 2) := by decide +kernel
theorem dX12_openGroup_87 : decode cX12_openGroup 87 = .ok (.if_icmp .eq 27, 3) := by decide +kernel
theorem dX12_openGroup_90 : decode cX12_openGroup 90 = .ok (.iload_n 1, 1) := by decide +kernel
theorem dX12_openGroup_91 : decode cX12_openGroup 91 = .ok (.bipush 60, 2) := by decide +kernel
theorem dX12_openGroup_93 : decode cX12_openGroup 93 = .ok (.if_icmp .eq 21, 3) := by decide +kernel
theorem dX12_openGroup_96 : decode cX12_openGroup 96 = .ok (.iload_n 1, 1) := by decide +kernel
theorem dX12_openGroup_97 : decode cX12_openGroup 97 = .ok (.bipush 126, 2) := by decide +kernel
theorem dX12_openGroup_99 : decode cX12_openGroup 99 = .ok (.if_icmp .eq 15, 3) := by decide +kernel
theorem dX12_openGroup_102 : decode cX12_openGroup 102 = .ok (.iload_n 1, 1) := by decide +kernel
theorem dX12_openGroup_103 : decode cX12_openGroup 103 = .ok (.bipush 42, 2) := by decide +kernel
theorem dX12_openGroup_105 : decode cX12_openGroup 105 = .ok (.if_icmp .eq 9, 3) := by decide +kernel
theorem dX12_openGroup_108 : decode cX12_openGroup 108 = .ok (.iload_n 1, 1) := by decide +kernel
theorem dX12_openGroup_109 : decode cX12_openGroup 109 = .ok (.bipush 37, 2) := by decide +kernel
theorem dX12_openGroup_111 : decode cX12_openGroup 111 = .ok (.if_icmp .ne 7, 3) := by decide +kernel
theorem dX12_openGroup_114 : decode cX12_openGroup 114 = .ok (.iconst 1, 1) := by decide +kernel
theorem dX12_openGroup_115 : decode cX12_openGroup 115 = .ok (.goto 4, 3) := by decide +kernel
theorem dX12_openGroup_118 : decode cX12_openGroup 118 = .ok (.iconst 0, 1) := by decide +kernel
theorem dX12_openGroup_119 : decode cX12_openGroup 119 = .ok (.istore_n 2, 1) := by decide +kernel
theorem dX12_openGroup_120 : decode cX12_openGroup 120 = .ok (.aload_n 0, 1) := by decide +kernel
theorem dX12_openGroup_121 : decode cX12_openGroup 121 = .ok (.getfield 329, 3) := by decide +kernel
theorem dX12_openGroup_124 : decode cX12_openGroup 124 = .ok (.bipush 8, 2) := by decide +kernel
theorem dX12_openGroup_126 : decode cX12_openGroup 126 = .ok (.if_icmp .gt 16, 3) := by decide +kernel
theorem dX12_openGroup_129 : decode cX12_openGroup 129 = .ok (.iload_n 2, 1) := by decide +kernel
theorem dX12_openGroup_130 : decode cX12_openGroup 130 = .ok (.ifCond .ne 21, 3) := by decide +kernel
theorem dX12_openGroup_133 : decode cX12_openGroup 133 = .ok (.aload_n 0, 1) := by decide +kernel
theorem dX12_openGroup_134 : decode cX12_openGroup 134 = .ok (.getfield 377, 3) := by decide +kernel
theorem dX12_openGroup_137 : decode cX12_openGroup 137 = .ok (.bipush 9, 2) := by decide +kernel
theorem dX12_openGroup_139 : decode cX12_openGroup 139 = .ok (.if_icmp .ne 12, 3) := by decide +kernel
theorem dX12_openGroup_142 : decode cX12_openGroup 142 = .ok (.aload_n 0, 1) := by decide +kernel
theorem dX12_openGroup_143 : decode cX12_openGroup 143 = .ok (.iconst 2, 1) := by decide +kernel
theorem dX12_openGroup_144 : decode cX12_openGroup 144 = .ok (.aload_n 0, 1) := by decide +kernel
theorem dX12_openGroup_145 : decode cX12_openGroup 145 = .ok (.getfield 362, 3) := by decide +kernel
theorem dX12_openGroup_148 : decode cX12_openGroup 148 = .ok (.invokevirtual 345, 3) := by decide +kernel
theorem dX12_openGroup_151 : decode cX12_openGroup 151 = .ok (.aload_n 0, 1) := by decide +kernel
theorem dX12_openGroup_152 : decode cX12_openGroup 152 = .ok (.aload_n 0, 1) := by decide +kernel
theorem dX12_openGroup_153 : decode cX12_openGroup 153 = .ok (.getfield 362, 3) := by decide +kernel
theorem dX12_openGroup_156 : decode cX12_openGroup 156 = .ok (.invokevirtual 365, 3) := by decide +kernel
theorem dX12_openGroup_159 : decode cX12_openGroup 159 = .ok (.aload_n 0, 1) := by decide +kernel
theorem dX12_openGroup_160 : decode cX12_openGroup 160 = .ok (.getfield 320, 3) := by decide +kernel
theorem dX12_openGroup_163 : decode cX12_openGroup 163 = .ok (.ifCond .le 4, 3) := by decide +kernel
theorem dX12_openGroup_166 : decode cX12_openGroup 166 = .ok (.return_, 1) := by decide +kernel
theorem dX12_openGroup_167 : decode cX12_openGroup 167 = .ok (.aload_n 0, 1) := by decide +kernel
theorem dX12_openGroup_168 : decode cX12_openGroup 168 = .ok (.dup, 1) := by decide +kernel
theorem dX12_openGroup_169 : decode cX12_openGroup 169 = .ok (.getfield 329, 3) := by decide +kernel
theorem dX12_openGroup_172 : decode cX12_openGroup 172 = .ok (.iconst 1, 1) := by decide +kernel
theorem dX12_openGroup_173 : decode cX12_openGroup 173 = .ok (.iadd, 1) := by decide +kernel
theorem dX12_openGroup_174 : decode cX12_openGroup 174 = .ok (.putfield 329, 3) := by decide +kernel
theorem dX12_openGroup_177 : decode cX12_openGroup 177 = .ok (.iload_n 2, 1) := by decide +kernel
theorem dX12_openGroup_178 : decode cX12_openGroup 178 = .ok (.ifCond .ne 122, 3) := by decide +kernel
theorem dX12_openGroup_181 : decode cX12_openGroup 181 = .ok (.aload_n 0, 1) := by decide +kernel
theorem dX12_openGroup_182 : decode cX12_openGroup 182 = .ok (.dup, 1) := by decide +kernel
theorem dX12_openGroup_183 : decode cX12_openGroup 183 = .ok (.getfield 377, 3) := by decide +kernel
theorem dX12_openGroup_186 : decode cX12_openGroup 186 = .ok (.iconst 1, 1) := by decide +kernel
theorem dX12_openGroup_187 : decode cX12_openGroup 187 = .ok (.iadd, 1) := by decide +kernel
theorem dX12_openGroup_188 : decode cX12_openGroup 188 = .ok (.putfield 377, 3) := by decide +kernel
theorem dX12_openGroup_191 : decode cX12_openGroup 191 = .ok (.aload_n 0, 1) := by decide +kernel
theorem dX12_openGroup_192 : decode cX12_openGroup 192 = .ok (.getfield 116, 3) := by decide +kernel
theorem dX12_openGroup_195 : decode cX12_openGroup 195 = .ok (.aload_n 0, 1) := by decide +kernel
theorem dX12_openGroup_196 : decode cX12_openGroup 196 = .ok (.getfield 377, 3) := by decide +kernel
theorem dX12_openGroup_199 : decode cX12_openGroup 199 = .ok (.iconst 0, 1) := by decide +kernel
theorem dX12_openGroup_200 : decode cX12_openGroup 200 = .ok (.iastore, 1) := by decide +kernel
theorem dX12_openGroup_201 : decode cX12_openGroup 201 = .ok (.iload_n 1, 1) := by decide +kernel
theorem dX12_openGroup_202 : decode cX12_openGroup 202 = .ok (.bipush 64, 2) := by decide +kernel
theorem dX12_openGroup_204 : decode cX12_openGroup 204 = .ok (.if_icmp .ne 65, 3) := by decide +kernel
theorem dX12_openGroup_207 : decode cX12_openGroup 207 = .ok (.aload_n 0, 1) := by decide +kernel
theorem dX12_openGroup_208 : decode cX12_openGroup 208 = .ok (.aload_n 0, 1) := by decide +kernel
theorem dX12_openGroup_209 : decode cX12_openGroup 209 = .ok (.getfield 362, 3) := by decide +kernel
theorem dX12_openGroup_212 : decode cX12_openGroup 212 = .ok (.iconst 2, 1) := by decide +kernel
theorem dX12_openGroup_213 : decode cX12_openGroup 213 = .ok (.iadd, 1) := by decide +kernel
theorem dX12_openGroup_214 : decode cX12_openGroup 214 = .ok (.invokevirtual 349, 3) := by decide +kernel
theorem dX12_openGroup_217 : decode cX12_openGroup 217 = .ok (.istore_n 3, 1) := by decide +kernel
theorem dX12_openGroup_218 : decode cX12_openGroup 218 = .ok (.iload_n 3, 1) := by decide +kernel
theorem dX12_openGroup_219 : decode cX12_openGroup 219 = .ok (.bipush 97, 2) := by decide +kernel
theorem dX12_openGroup_221 : decode cX12_openGroup 221 = .ok (.bipush 122, 2) := by decide +kernel
theorem dX12_openGroup_223 : decode cX12_openGroup 223 = .ok (.invokestatic 7, 3) := by decide +kernel
theorem dX12_openGroup_226 : decode cX12_openGroup 226 = .ok (.ifCond .ne 14, 3) := by decide +kernel
theorem dX12_openGroup_229 : decode cX12_openGroup 229 = .ok (.aload_n 0, 1) := by decide +kernel
theorem dX12_openGroup_230 : decode cX12_openGroup 230 = .ok (.iconst 1, 1) := by decide +kernel
theorem dX12_openGroup_231 : decode cX12_openGroup 231 = .ok (.aload_n 0, 1) := by decide +kernel
theorem dX12_openGroup_232 : decode cX12_openGroup 232 = .ok (.getfield 362, 3) := by decide +kernel
theorem dX12_openGroup_235 : decode cX12_openGroup 235 = .ok (.iconst 2, 1) := by decide +kernel
theorem dX12_openGroup_236 : decode cX12_openGroup 236 = .ok (.iadd, 1) := by decide +kernel
theorem dX12_openGroup_237 : decode cX12_openGroup 237 = .ok (.invokevirtual 345, 3) := by decide +kernel
theorem dX12_openGroup_240 : decode cX12_openGroup 240 = .ok (.aload_n 0, 1) := by decide +kernel
theorem dX12_openGroup_241 : decode cX12_openGroup 241 = .ok (.iload_n 3, 1) := by decide +kernel
theorem dX12_openGroup_242 : decode cX12_openGroup 242 = .ok (.invokevirtual 380, 3) := by decide +kernel
theorem dX12_openGroup_245 : decode cX12_openGroup 245 = .ok (.ifCond .le 14, 3) := by decide +kernel
theorem dX12_openGroup_248 : decode cX12_openGroup 248 = .ok (.aload_n 0, 1) := by decide +kernel
theorem dX12_openGroup_249 : decode cX12_openGroup 249 = .ok (.iconst 3, 1) := by decide +kernel
theorem dX12_openGroup_250 : decode cX12_openGroup 250 = .ok (.aload_n 0, 1) := by decide +kernel
theorem dX12_openGroup_251 : decode cX12_openGroup 251 = .ok (.getfield 362, 3) := by decide +kernel
theorem dX12_openGroup_254 : decode cX12_openGroup 254 = .ok (.iconst 2, 1) := by decide +kernel
theorem dX12_openGroup_255 : decode cX12_openGroup 255 = .ok (.iadd, 1) := by decide +kernel
theorem dX12_openGroup_256 : decode cX12_openGroup 256 = .ok (.invokevirtual 345, 3) := by decide +kernel
theorem dX12_openGroup_259 : decode cX12_openGroup 259 = .ok (.aload_n 0, 1) := by decide +kernel
theorem dX12_openGroup_260 : decode cX12_openGroup 260 = .ok (.getfield 116, 3) := by decide +kernel
theorem dX12_openGroup_263 : decode cX12_openGroup 263 = .ok (.aload_n 0, 1) := by decide +kernel
theorem dX12_openGroup_264 : decode cX12_openGroup 264 = .ok (.getfield 377, 3) := by decide +kernel
theorem dX12_openGroup_267 : decode cX12_openGroup 267 = .ok (.iload_n 3, 1) := by decide +kernel
theorem dX12_openGroup_268 : decode cX12_openGroup 268 = .ok (.iastore, 1) := by decide +kernel
theorem dX12_openGroup_269 : decode cX12_openGroup 269 = .ok (.aload_n 0, 1) := by decide +kernel
theorem dX12_openGroup_270 : decode cX12_openGroup 270 = .ok (.bipush 8, 2) := by decide +kernel
theorem dX12_openGroup_272 : decode cX12_openGroup 272 = .ok (.aload_n 0, 1) := by decide +kernel
theorem dX12_openGroup_273 : decode cX12_openGroup 273 = .ok (.getfield 377, 3) := by decide +kernel
theorem dX12_openGroup_276 : decode cX12_openGroup 276 = .ok (.invokevirtual 383, 3) := by decide +kernel
theorem dX12_openGroup_279 : decode cX12_openGroup 279 = .ok (.aload_n 0, 1) := by decide +kernel
theorem dX12_openGroup_280 : decode cX12_openGroup 280 = .ok (.dup, 1) := by decide +kernel
theorem dX12_openGroup_281 : decode cX12_openGroup 281 = .ok (.getfield 362, 3) := by decide +kernel
theorem dX12_openGroup_284 : decode cX12_openGroup 284 = .ok (.iload_n 1, 1) := by decide +kernel
theorem dX12_openGroup_285 : decode cX12_openGroup 285 = .ok (.bipush 64, 2) := by decide +kernel
theorem dX12_openGroup_287 : decode cX12_openGroup 287 = .ok (.if_icmp .ne 7, 3) := by decide +kernel
theorem dX12_openGroup_290 : decode cX12_openGroup 290 = .ok (.iconst 3, 1) := by decide +kernel
theorem dX12_openGroup_291 : decode cX12_openGroup 291 = .ok (.goto 4, 3) := by decide +kernel
theorem dX12_openGroup_294 : decode cX12_openGroup 294 = .ok (.iconst 1, 1) := by decide +kernel
theorem dX12_openGroup_295 : decode cX12_openGroup 295 = .ok (.iadd, 1) := by decide +kernel
theorem dX12_openGroup_296 : decode cX12_openGroup 296 = .ok (.putfield 362, 3) := by decide +kernel
theorem dX12_openGroup_299 : decode cX12_openGroup 299 = .ok (.return_, 1) := by decide +kernel
theorem dX12_openGroup_300 : decode cX12_openGroup 300 = .ok (.aload_n 0, 1) := by decide +kernel
theorem dX12_openGroup_301 : decode cX12_openGroup 301 = .ok (.iload_n 1, 1) := by decide +kernel
theorem dX12_openGroup_302 : decode cX12_openGroup 302 = .ok (.bipush 58, 2) := by decide +kernel
theorem dX12_openGroup_304 : decode cX12_openGroup 304 = .ok (.if_icmp .ne 7, 3) := by decide +kernel
theorem dX12_openGroup_307 : decode cX12_openGroup 307 = .ok (.iconst 5, 1) := by decide +kernel
theorem dX12_openGroup_308 : decode cX12_openGroup 308 = .ok (.goto 27, 3) := by decide +kernel
theorem dX12_openGroup_311 : decode cX12_openGroup 311 = .ok (.iload_n 1, 1) := by decide +kernel
theorem dX12_openGroup_312 : decode cX12_openGroup 312 = .ok (.bipush 42, 2) := by decide +kernel
theorem dX12_openGroup_314 : decode cX12_openGroup 314 = .ok (.if_icmp .ne 8, 3) := by decide +kernel
theorem dX12_openGroup_317 : decode cX12_openGroup 317 = .ok (.bipush 10, 2) := by decide +kernel
theorem dX12_openGroup_319 : decode cX12_openGroup 319 = .ok (.goto 16, 3) := by decide +kernel
theorem dX12_openGroup_322 : decode cX12_openGroup 322 = .ok (.iload_n 1, 1) := by decide +kernel
theorem dX12_openGroup_323 : decode cX12_openGroup 323 = .ok (.bipush 37, 2) := by decide +kernel
theorem dX12_openGroup_325 : decode cX12_openGroup 325 = .ok (.if_icmp .ne 8, 3) := by decide +kernel
theorem dX12_openGroup_328 : decode cX12_openGroup 328 = .ok (.bipush 11, 2) := by decide +kernel
theorem dX12_openGroup_330 : decode cX12_openGroup 330 = .ok (.goto 5, 3) := by decide +kernel
theorem dX12_openGroup_333 : decode cX12_openGroup 333 = .ok (.bipush 9, 2) := by decide +kernel
theorem dX12_openGroup_335 : decode cX12_openGroup 335 = .ok (.iload_n 1, 1) := by decide +kernel
theorem dX12_openGroup_336 : decode cX12_openGroup 336 = .ok (.bipush 33, 2) := by decide +kernel
theorem dX12_openGroup_338 : decode cX12_openGroup 338 = .ok (.if_icmp .ne 7, 3) := by decide +kernel
theorem dX12_openGroup_341 : decode cX12_openGroup 341 = .ok (.iconst 1, 1) := by decide +kernel
theorem dX12_openGroup_342 : decode cX12_openGroup 342 = .ok (.goto 24, 3) := by decide +kernel
theorem dX12_openGroup_345 : decode cX12_openGroup 345 = .ok (.iload_n 1, 1) := by decide +kernel
theorem dX12_openGroup_346 : decode cX12_openGroup 346 = .ok (.bipush 60, 2) := by decide +kernel
theorem dX12_openGroup_348 : decode cX12_openGroup 348 = .ok (.if_icmp .ne 7, 3) := by decide +kernel
theorem dX12_openGroup_351 : decode cX12_openGroup 351 = .ok (.iconst 2, 1) := by decide +kernel
theorem dX12_openGroup_352 : decode cX12_openGroup 352 = .ok (.goto 14, 3) := by decide +kernel
theorem dX12_openGroup_355 : decode cX12_openGroup 355 = .ok (.iload_n 1, 1) := by decide +kernel
theorem dX12_openGroup_356 : decode cX12_openGroup 356 = .ok (.bipush 126, 2) := by decide +kernel
theorem dX12_openGroup_358 : decode cX12_openGroup 358 = .ok (.if_icmp .ne 7, 3) := by decide +kernel
theorem dX12_openGroup_361 : decode cX12_openGroup 361 = .ok (.iconst 3, 1) := by decide +kernel
theorem dX12_openGroup_362 : decode cX12_openGroup 362 = .ok (.goto 4, 3) := by decide +kernel
theorem dX12_openGroup_365 : decode cX12_openGroup 365 = .ok (.iconst 0, 1) := by decide +kernel
theorem dX12_openGroup_366 : decode cX12_openGroup 366 = .ok (.invokevirtual 383, 3) := by decide +kernel
theorem dX12_openGroup_369 : decode cX12_openGroup 369 = .ok (.aload_n 0, 1) := by decide +kernel
theorem dX12_openGroup_370 : decode cX12_openGroup 370 = .ok (.dup, 1) := by decide +kernel
theorem dX12_openGroup_371 : decode cX12_openGroup 371 = .ok (.getfield 362, 3) := by decide +kernel
theorem dX12_openGroup_374 : decode cX12_openGroup 374 = .ok (.iconst 2, 1) := by decide +kernel
theorem dX12_openGroup_375 : decode cX12_openGroup 375 = .ok (.iadd, 1) := by decide +kernel
theorem dX12_openGroup_376 : decode cX12_openGroup 376 = .ok (.putfield 362, 3) := by decide +kernel
theorem dX12_openGroup_379 : decode cX12_openGroup 379 = .ok (.return_, 1) := by decide +kernel
theorem dX12_otherCase_0 : decode cX12_otherCase 0 = .ok (.iload_n 0, 1) := by decide +kernel
theorem dX12_otherCase_1 : decode cX12_otherCase 1 = .ok (.bipush 65, 2) := by decide +kernel
theorem dX12_otherCase_3 : decode cX12_otherCase 3 = .ok (.bipush 90, 2) := by decide +kernel
theorem dX12_otherCase_5 : decode cX12_otherCase 5 = .ok (.invokestatic 7, 3) := by decide +kernel
theorem dX12_otherCase_8 : decode cX12_otherCase 8 = .ok (.ifCond .eq 10, 3) := by decide +kernel
theorem dX12_otherCase_11 : decode cX12_otherCase 11 = .ok (.iload_n 0, 1) := by decide +kernel
theorem dX12_otherCase_12 : decode cX12_otherCase 12 = .ok (.bipush 32, 2) := by decide +kernel
theorem dX12_otherCase_14 : decode cX12_otherCase 14 = .ok (.iadd, 1) := by decide +kernel
theorem dX12_otherCase_15 : decode cX12_otherCase 15 = .ok (.goto 22, 3) := by decide +kernel
theorem dX12_otherCase_18 : decode cX12_otherCase 18 = .ok (.iload_n 0, 1) := by decide +kernel
theorem dX12_otherCase_19 : decode cX12_otherCase 19 = .ok (.bipush 97, 2) := by decide +kernel
theorem dX12_otherCase_21 : decode cX12_otherCase 21 = .ok (.bipush 122, 2) := by decide +kernel
theorem dX12_otherCase_23 : decode cX12_otherCase 23 = .ok (.invokestatic 7, 3) := by decide +kernel
theorem dX12_otherCase_26 : decode cX12_otherCase 26 = .ok (.ifCond .eq 10, 3) := by decide +kernel
theorem dX12_otherCase_29 : decode cX12_otherCase 29 = .ok (.iload_n 0, 1) := by decide +kernel
theorem dX12_otherCase_30 : decode cX12_otherCase 30 = .ok (.bipush 32, 2) := by decide +kernel
