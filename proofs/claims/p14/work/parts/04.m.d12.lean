theorem dX12_node_29 : decode cX12_node 29 = .ok (.ifCond .eq 24, 3) := by decide +kernel
theorem dX12_node_32 : decode cX12_node 32 = .ok (.iload_n 3, 1) := by decide +kernel
theorem dX12_node_33 : decode cX12_node 33 = .ok (.iconst 0, 1) := by decide +kernel
theorem dX12_node_34 : decode cX12_node 34 = .ok (.bipush 6, 2) := by decide +kernel
theorem dX12_node_36 : decode cX12_node 36 = .ok (.invokestatic 7, 3) := by decide +kernel
theorem dX12_node_39 : decode cX12_node 39 = .ok (.ifCond .ne 17, 3) := by decide +kernel
theorem dX12_node_42 : decode cX12_node 42 = .ok (.iload_n 3, 1) := by decide +kernel
theorem dX12_node_43 : decode cX12_node 43 = .ok (.bipush 10, 2) := by decide +kernel
theorem dX12_node_45 : decode cX12_node 45 = .ok (.bipush 18, 2) := by decide +kernel
theorem dX12_node_47 : decode cX12_node 47 = .ok (.invokestatic 7, 3) := by decide +kernel
theorem dX12_node_50 : decode cX12_node 50 = .ok (.ifCond .ne 6, 3) := by decide +kernel
theorem dX12_node_53 : decode cX12_node 53 = .ok (.bipush (-4), 2) := by decide +kernel
theorem dX12_node_55 : decode cX12_node 55 = .ok (.ireturn, 1) := by decide +kernel
theorem dX12_node_56 : decode cX12_node 56 = .ok (.sipush 220, 3) := by decide +kernel
theorem dX12_node_59 : decode cX12_node 59 = .ok (.iload_n 1, 1) := by decide +kernel
theorem dX12_node_60 : decode cX12_node 60 = .ok (.imul, 1) := by decide +kernel
theorem dX12_node_61 : decode cX12_node 61 = .ok (.iload_n 2, 1) := by decide +kernel
theorem dX12_node_62 : decode cX12_node 62 = .ok (.iadd, 1) := by decide +kernel
theorem dX12_node_63 : decode cX12_node 63 = .ok (.istore 4, 2) := by decide +kernel
theorem dX12_node_65 : decode cX12_node 65 = .ok (.aload_n 0, 1) := by decide +kernel
theorem dX12_node_66 : decode cX12_node 66 = .ok (.getfield 44, 3) := by decide +kernel
theorem dX12_node_69 : decode cX12_node 69 = .ok (.iload 4, 2) := by decide +kernel
theorem dX12_node_71 : decode cX12_node 71 = .ok (.iaload, 1) := by decide +kernel
theorem dX12_node_72 : decode cX12_node 72 = .ok (.istore 5, 2) := by decide +kernel
theorem dX12_node_74 : decode cX12_node 74 = .ok (.iload_n 3, 1) := by decide +kernel
theorem dX12_node_75 : decode cX12_node 75 = .ok (.tableswitch 323 0 17 #[85, 88, 96, 104, 112, 120, 136, 323, 323, 323, 152, 172, 193, 214, 235, 257, 279, 301], 85) := by decide +kernel
theorem dX12_node_160 : decode cX12_node 160 = .ok (.iload 5, 2) := by decide +kernel
theorem dX12_node_162 : decode cX12_node 162 = .ok (.ireturn, 1) := by decide +kernel
theorem dX12_node_163 : decode cX12_node 163 = .ok (.aload_n 0, 1) := by decide +kernel
theorem dX12_node_164 : decode cX12_node 164 = .ok (.getfield 59, 3) := by decide +kernel
theorem dX12_node_167 : decode cX12_node 167 = .ok (.iload 4, 2) := by decide +kernel
theorem dX12_node_169 : decode cX12_node 169 = .ok (.iaload, 1) := by decide +kernel
theorem dX12_node_170 : decode cX12_node 170 = .ok (.ireturn, 1) := by decide +kernel
theorem dX12_node_171 : decode cX12_node 171 = .ok (.aload_n 0, 1) := by decide +kernel
theorem dX12_node_172 : decode cX12_node 172 = .ok (.getfield 56, 3) := by decide +kernel
theorem dX12_node_175 : decode cX12_node 175 = .ok (.iload 4, 2) := by decide +kernel
theorem dX12_node_177 : decode cX12_node 177 = .ok (.iaload, 1) := by decide +kernel
theorem dX12_node_178 : decode cX12_node 178 = .ok (.ireturn, 1) := by decide +kernel
theorem dX12_node_179 : decode cX12_node 179 = .ok (.aload_n 0, 1) := by decide +kernel
theorem dX12_node_180 : decode cX12_node 180 = .ok (.getfield 65, 3) := by decide +kernel
theorem dX12_node_183 : decode cX12_node 183 = .ok (.iload 4, 2) := by decide +kernel
theorem dX12_node_185 : decode cX12_node 185 = .ok (.iaload, 1) := by decide +kernel
theorem dX12_node_186 : decode cX12_node 186 = .ok (.ireturn, 1) := by decide +kernel
theorem dX12_node_187 : decode cX12_node 187 = .ok (.aload_n 0, 1) := by decide +kernel
theorem dX12_node_188 : decode cX12_node 188 = .ok (.getfield 68, 3) := by decide +kernel
theorem dX12_node_191 : decode cX12_node 191 = .ok (.iload 4, 2) := by decide +kernel
theorem dX12_node_193 : decode cX12_node 193 = .ok (.iaload, 1) := by decide +kernel
theorem dX12_node_194 : decode cX12_node 194 = .ok (.ireturn, 1) := by decide +kernel
theorem dX12_node_195 : decode cX12_node 195 = .ok (.aload_n 0, 1) := by decide +kernel
theorem dX12_node_196 : decode cX12_node 196 = .ok (.getfield 74, 3) := by decide +kernel
theorem dX12_node_199 : decode cX12_node 199 = .ok (.iload 4, 2) := by decide +kernel
theorem dX12_node_201 : decode cX12_node 201 = .ok (.baload, 1) := by decide +kernel
theorem dX12_node_202 : decode cX12_node 202 = .ok (.ifCond .eq 7, 3) := by decide +kernel
theorem dX12_node_205 : decode cX12_node 205 = .ok (.iconst 1, 1) := by decide +kernel
theorem dX12_node_206 : decode cX12_node 206 = .ok (.goto 4, 3) := by decide +kernel
theorem dX12_node_209 : decode cX12_node 209 = .ok (.iconst 0, 1) := by decide +kernel
theorem dX12_node_210 : decode cX12_node 210 = .ok (.ireturn, 1) := by decide +kernel
theorem dX12_node_211 : decode cX12_node 211 = .ok (.aload_n 0, 1) := by decide +kernel
theorem dX12_node_212 : decode cX12_node 212 = .ok (.getfield 77, 3) := by decide +kernel
theorem dX12_node_215 : decode cX12_node 215 = .ok (.iload 4, 2) := by decide +kernel
theorem dX12_node_217 : decode cX12_node 217 = .ok (.baload, 1) := by decide +kernel
theorem dX12_node_218 : decode cX12_node 218 = .ok (.ifCond .eq 7, 3) := by decide +kernel
theorem dX12_node_221 : decode cX12_node 221 = .ok (.iconst 1, 1) := by decide +kernel
theorem dX12_node_222 : decode cX12_node 222 = .ok (.goto 4, 3) := by decide +kernel
theorem dX12_node_225 : decode cX12_node 225 = .ok (.iconst 0, 1) := by decide +kernel
theorem dX12_node_226 : decode cX12_node 226 = .ok (.ireturn, 1) := by decide +kernel
theorem dX12_node_227 : decode cX12_node 227 = .ok (.iload 5, 2) := by decide +kernel
theorem dX12_node_229 : decode cX12_node 229 = .ok (.ifCond .ne 13, 3) := by decide +kernel
theorem dX12_node_232 : decode cX12_node 232 = .ok (.aload_n 0, 1) := by decide +kernel
theorem dX12_node_233 : decode cX12_node 233 = .ok (.getfield 47, 3) := by decide +kernel
theorem dX12_node_236 : decode cX12_node 236 = .ok (.iload 4, 2) := by decide +kernel
theorem dX12_node_238 : decode cX12_node 238 = .ok (.iaload, 1) := by decide +kernel
theorem dX12_node_239 : decode cX12_node 239 = .ok (.goto 7, 3) := by decide +kernel
theorem dX12_node_242 : decode cX12_node 242 = .ok (.aload_n 0, 1) := by decide +kernel
theorem dX12_node_243 : decode cX12_node 243 = .ok (.invokevirtual 462, 3) := by decide +kernel
theorem dX12_node_246 : decode cX12_node 246 = .ok (.ireturn, 1) := by decide +kernel
theorem dX12_node_247 : decode cX12_node 247 = .ok (.iload 5, 2) := by decide +kernel
theorem dX12_node_249 : decode cX12_node 249 = .ok (.iconst 2, 1) := by decide +kernel
theorem dX12_node_250 : decode cX12_node 250 = .ok (.if_icmp .ne 13, 3) := by decide +kernel
theorem dX12_node_253 : decode cX12_node 253 = .ok (.aload_n 0, 1) := by decide +kernel
theorem dX12_node_254 : decode cX12_node 254 = .ok (.getfield 47, 3) := by decide +kernel
theorem dX12_node_257 : decode cX12_node 257 = .ok (.iload 4, 2) := by decide +kernel
theorem dX12_node_259 : decode cX12_node 259 = .ok (.iaload, 1) := by decide +kernel
theorem dX12_node_260 : decode cX12_node 260 = .ok (.goto 7, 3) := by decide +kernel
theorem dX12_node_263 : decode cX12_node 263 = .ok (.aload_n 0, 1) := by decide +kernel
theorem dX12_node_264 : decode cX12_node 264 = .ok (.invokevirtual 462, 3) := by decide +kernel
theorem dX12_node_267 : decode cX12_node 267 = .ok (.ireturn, 1) := by decide +kernel
theorem dX12_node_268 : decode cX12_node 268 = .ok (.iload 5, 2) := by decide +kernel
theorem dX12_node_270 : decode cX12_node 270 = .ok (.iconst 3, 1) := by decide +kernel
theorem dX12_node_271 : decode cX12_node 271 = .ok (.if_icmp .ne 13, 3) := by decide +kernel
theorem dX12_node_274 : decode cX12_node 274 = .ok (.aload_n 0, 1) := by decide +kernel
theorem dX12_node_275 : decode cX12_node 275 = .ok (.getfield 47, 3) := by decide +kernel
theorem dX12_node_278 : decode cX12_node 278 = .ok (.iload 4, 2) := by decide +kernel
theorem dX12_node_280 : decode cX12_node 280 = .ok (.iaload, 1) := by decide +kernel
theorem dX12_node_281 : decode cX12_node 281 = .ok (.goto 7, 3) := by decide +kernel
theorem dX12_node_284 : decode cX12_node 284 = .ok (.aload_n 0, 1) := by decide +kernel
theorem dX12_node_285 : decode cX12_node 285 = .ok (.invokevirtual 462, 3) := by decide +kernel
theorem dX12_node_288 : decode cX12_node 288 = .ok (.ireturn, 1) := by decide +kernel
theorem dX12_node_289 : decode cX12_node 289 = .ok (.iload 5, 2) := by decide +kernel
theorem dX12_node_291 : decode cX12_node 291 = .ok (.iconst 4, 1) := by decide +kernel
theorem dX12_node_292 : decode cX12_node 292 = .ok (.if_icmp .ne 13, 3) := by decide +kernel
theorem dX12_node_295 : decode cX12_node 295 = .ok (.aload_n 0, 1) := by decide +kernel
theorem dX12_node_296 : decode cX12_node 296 = .ok (.getfield 47, 3) := by decide +kernel
theorem dX12_node_299 : decode cX12_node 299 = .ok (.iload 4, 2) := by decide +kernel
theorem dX12_node_301 : decode cX12_node 301 = .ok (.iaload, 1) := by decide +kernel
theorem dX12_node_302 : decode cX12_node 302 = .ok (.goto 7, 3) := by decide +kernel
theorem dX12_node_305 : decode cX12_node 305 = .ok (.aload_n 0, 1) := by decide +kernel
theorem dX12_node_306 : decode cX12_node 306 = .ok (.invokevirtual 462, 3) := by decide +kernel
theorem dX12_node_309 : decode cX12_node 309 = .ok (.ireturn, 1) := by decide +kernel
theorem dX12_node_310 : decode cX12_node 310 = .ok (.iload 5, 2) := by decide +kernel
theorem dX12_node_312 : decode cX12_node 312 = .ok (.bipush 8, 2) := by decide +kernel
theorem dX12_node_314 : decode cX12_node 314 = .ok (.if_icmp .ne 13, 3) := by decide +kernel
theorem dX12_node_317 : decode cX12_node 317 = .ok (.aload_n 0, 1) := by decide +kernel
theorem dX12_node_318 : decode cX12_node 318 = .ok (.getfield 47, 3) := by decide +kernel
theorem dX12_node_321 : decode cX12_node 321 = .ok (.iload 4, 2) := by decide +kernel
theorem dX12_node_323 : decode cX12_node 323 = .ok (.iaload, 1) := by decide +kernel
theorem dX12_node_324 : decode cX12_node 324 = .ok (.goto 7, 3) := by decide +kernel
theorem dX12_node_327 : decode cX12_node 327 = .ok (.aload_n 0, 1) := by decide +kernel
theorem dX12_node_328 : decode cX12_node 328 = .ok (.invokevirtual 462, 3) := by decide +kernel
theorem dX12_node_331 : decode cX12_node 331 = .ok (.ireturn, 1) := by decide +kernel
theorem dX12_node_332 : decode cX12_node 332 = .ok (.iload 5, 2) := by decide +kernel
theorem dX12_node_334 : decode cX12_node 334 = .ok (.bipush 9, 2) := by decide +kernel
theorem dX12_node_336 : decode cX12_node 336 = .ok (.if_icmp .ne 13, 3) := by decide +kernel
theorem dX12_node_339 : decode cX12_node 339 = .ok (.aload_n 0, 1) := by decide +kernel
theorem dX12_node_340 : decode cX12_node 340 = .ok (.getfield 47, 3) := by decide +kernel
theorem dX12_node_343 : decode cX12_node 343 = .ok (.iload 4, 2) := by decide +kernel
theorem dX12_node_345 : decode cX12_node 345 = .ok (.iaload, 1) := by decide +kernel
theorem dX12_node_346 : decode cX12_node 346 = .ok (.goto 7, 3) := by decide +kernel
theorem dX12_node_349 : decode cX12_node 349 = .ok (.aload_n 0, 1) := by decide +kernel
theorem dX12_node_350 : decode cX12_node 350 = .ok (.invokevirtual 462, 3) := by decide +kernel
theorem dX12_node_353 : decode cX12_node 353 = .ok (.ireturn, 1) := by decide +kernel
theorem dX12_node_354 : decode cX12_node 354 = .ok (.iload 5, 2) := by decide +kernel
theorem dX12_node_356 : decode cX12_node 356 = .ok (.bipush 7, 2) := by decide +kernel
theorem dX12_node_358 : decode cX12_node 358 = .ok (.if_icmp .ne 13, 3) := by decide +kernel
theorem dX12_node_361 : decode cX12_node 361 = .ok (.aload_n 0, 1) := by decide +kernel
theorem dX12_node_362 : decode cX12_node 362 = .ok (.getfield 50, 3) := by decide +kernel
theorem dX12_node_365 : decode cX12_node 365 = .ok (.iload 4, 2) := by decide +kernel
theorem dX12_node_367 : decode cX12_node 367 = .ok (.iaload, 1) := by decide +kernel
theorem dX12_node_368 : decode cX12_node 368 = .ok (.goto 7, 3) := by decide +kernel
theorem dX12_node_371 : decode cX12_node 371 = .ok (.aload_n 0, 1) := by decide +kernel
theorem dX12_node_372 : decode cX12_node 372 = .ok (.invokevirtual 462, 3) := by decide +kernel
theorem dX12_node_375 : decode cX12_node 375 = .ok (.ireturn, 1) := by decide +kernel
theorem dX12_node_376 : decode cX12_node 376 = .ok (.iload 5, 2) := by decide +kernel
theorem dX12_node_378 : decode cX12_node 378 = .ok (.bipush 7, 2) := by decide +kernel
theorem dX12_node_380 : decode cX12_node 380 = .ok (.if_icmp .ne 13, 3) := by decide +kernel
theorem dX12_node_383 : decode cX12_node 383 = .ok (.aload_n 0, 1) := by decide +kernel
theorem dX12_node_384 : decode cX12_node 384 = .ok (.getfield 53, 3) := by decide +kernel
theorem dX12_node_387 : decode cX12_node 387 = .ok (.iload 4, 2) := by decide +kernel
theorem dX12_node_389 : decode cX12_node 389 = .ok (.iaload, 1) := by decide +kernel
theorem dX12_node_390 : decode cX12_node 390 = .ok (.goto 7, 3) := by decide +kernel
theorem dX12_node_393 : decode cX12_node 393 = .ok (.aload_n 0, 1) := by decide +kernel
theorem dX12_node_394 : decode cX12_node 394 = .ok (.invokevirtual 462, 3) := by decide +kernel
theorem dX12_node_397 : decode cX12_node 397 = .ok (.ireturn, 1) := by decide +kernel
theorem dX12_node_398 : decode cX12_node 398 = .ok (.iload 5, 2) := by decide +kernel
theorem dX12_node_400 : decode cX12_node 400 = .ok (.bipush 7, 2) := by decide +kernel
theorem dX12_node_402 : decode cX12_node 402 = .ok (.if_icmp .ne 13, 3) := by decide +kernel
theorem dX12_node_405 : decode cX12_node 405 = .ok (.aload_n 0, 1) := by decide +kernel
theorem dX12_node_406 : decode cX12_node 406 = .ok (.getfield 47, 3) := by decide +kernel
theorem dX12_node_409 : decode cX12_node 409 = .ok (.iload 4, 2) := by decide +kernel
theorem dX12_node_411 : decode cX12_node 411 = .ok (.iaload, 1) := by decide +kernel
theorem dX12_node_412 : decode cX12_node 412 = .ok (.goto 7, 3) := by decide +kernel
theorem dX12_node_415 : decode cX12_node 415 = .ok (.aload_n 0, 1) := by decide +kernel
theorem dX12_node_416 : decode cX12_node 416 = .ok (.invokevirtual 462, 3) := by decide +kernel
theorem dX12_node_419 : decode cX12_node 419 = .ok (.ireturn, 1) := by decide +kernel
theorem dX12_numberFrom_0 : decode cX12_numberFrom 0 = .ok (.aload_n 0, 1) := by decide +kernel
theorem dX12_numberFrom_1 : decode cX12_numberFrom 1 = .ok (.iload_n 1, 1) := by decide +kernel
theorem dX12_numberFrom_2 : decode cX12_numberFrom 2 = .ok (.invokevirtual 349, 3) := by decide +kernel
theorem dX12_numberFrom_5 : decode cX12_numberFrom 5 = .ok (.invokestatic 15, 3) := by decide +kernel
theorem dX12_numberFrom_8 : decode cX12_numberFrom 8 = .ok (.ifCond .ne 11, 3) := by decide +kernel
theorem dX12_numberFrom_11 : decode cX12_numberFrom 11 = .ok (.aload_n 0, 1) := by decide +kernel
theorem dX12_numberFrom_12 : decode cX12_numberFrom 12 = .ok (.iconst 1, 1) := by decide +kernel
theorem dX12_numberFrom_13 : decode cX12_numberFrom 13 = .ok (.iload_n 1, 1) := by decide +kernel
theorem dX12_numberFrom_14 : decode cX12_numberFrom 14 = .ok (.invokevirtual 345, 3) := by decide +kernel
theorem dX12_numberFrom_17 : decode cX12_numberFrom 17 = .ok (.iload_n 1, 1) := by decide +kernel
theorem dX12_numberFrom_18 : decode cX12_numberFrom 18 = .ok (.ireturn, 1) := by decide +kernel
theorem dX12_numberFrom_19 : decode cX12_numberFrom 19 = .ok (.aload_n 0, 1) := by decide +kernel
theorem dX12_numberFrom_20 : decode cX12_numberFrom 20 = .ok (.iload_n 1, 1) := by decide +kernel
theorem dX12_numberFrom_21 : decode cX12_numberFrom 21 = .ok (.invokevirtual 349, 3) := by decide +kernel
theorem dX12_numberFrom_24 : decode cX12_numberFrom 24 = .ok (.bipush 48, 2) := by decide +kernel
theorem dX12_numberFrom_26 : decode cX12_numberFrom 26 = .ok (.isub, 1) := by decide +kernel
theorem dX12_numberFrom_27 : decode cX12_numberFrom 27 = .ok (.istore_n 3, 1) := by decide +kernel
theorem dX12_numberFrom_28 : decode cX12_numberFrom 28 = .ok (.iload_n 1, 1) := by decide +kernel
theorem dX12_numberFrom_29 : decode cX12_numberFrom 29 = .ok (.iconst 1, 1) := by decide +kernel
theorem dX12_numberFrom_30 : decode cX12_numberFrom 30 = .ok (.iadd, 1) := by decide +kernel
theorem dX12_numberFrom_31 : decode cX12_numberFrom 31 = .ok (.istore 4, 2) := by decide +kernel
theorem dX12_numberFrom_33 : decode cX12_numberFrom 33 = .ok (.aload_n 0, 1) := by decide +kernel
theorem dX12_numberFrom_34 : decode cX12_numberFrom 34 = .ok (.iload 4, 2) := by decide +kernel
theorem dX12_numberFrom_36 : decode cX12_numberFrom 36 = .ok (.invokevirtual 349, 3) := by decide +kernel
theorem dX12_numberFrom_39 : decode cX12_numberFrom 39 = .ok (.invokestatic 15, 3) := by decide +kernel
theorem dX12_numberFrom_42 : decode cX12_numberFrom 42 = .ok (.ifCond .eq 21, 3) := by decide +kernel
theorem dX12_numberFrom_45 : decode cX12_numberFrom 45 = .ok (.bipush 10, 2) := by decide +kernel
theorem dX12_numberFrom_47 : decode cX12_numberFrom 47 = .ok (.iload_n 3, 1) := by decide +kernel
theorem dX12_numberFrom_48 : decode cX12_numberFrom 48 = .ok (.imul, 1) := by decide +kernel
theorem dX12_numberFrom_49 : decode cX12_numberFrom 49 = .ok (.aload_n 0, 1) := by decide +kernel
theorem dX12_numberFrom_50 : decode cX12_numberFrom 50 = .ok (.iload 4, 2) := by decide +kernel
theorem dX12_numberFrom_52 : decode cX12_numberFrom 52 = .ok (.invokevirtual 349, 3) := by decide +kernel
theorem dX12_numberFrom_55 : decode cX12_numberFrom 55 = .ok (.iadd, 1) := by decide +kernel
theorem dX12_numberFrom_56 : decode cX12_numberFrom 56 = .ok (.bipush 48, 2) := by decide +kernel
theorem dX12_numberFrom_58 : decode cX12_numberFrom 58 = .ok (.isub, 1) := by decide +kernel
theorem dX12_numberFrom_59 : decode cX12_numberFrom 59 = .ok (.istore_n 3, 1) := by decide +kernel
theorem dX12_numberFrom_60 : decode cX12_numberFrom 60 = .ok (.iinc 4 1, 3) := by decide +kernel
theorem dX12_numberFrom_63 : decode cX12_numberFrom 63 = .ok (.iload_n 3, 1) := by decide +kernel
theorem dX12_numberFrom_64 : decode cX12_numberFrom 64 = .ok (.bipush 20, 2) := by decide +kernel
theorem dX12_numberFrom_66 : decode cX12_numberFrom 66 = .ok (.if_icmp .gt 15, 3) := by decide +kernel
theorem dX12_numberFrom_69 : decode cX12_numberFrom 69 = .ok (.iload_n 2, 1) := by decide +kernel
theorem dX12_numberFrom_70 : decode cX12_numberFrom 70 = .ok (.ifCond .eq 17, 3) := by decide +kernel
theorem dX12_numberFrom_73 : decode cX12_numberFrom 73 = .ok (.iload_n 3, 1) := by decide +kernel
theorem dX12_numberFrom_74 : decode cX12_numberFrom 74 = .ok (.aload_n 0, 1) := by decide +kernel
theorem dX12_numberFrom_75 : decode cX12_numberFrom 75 = .ok (.getfield 356, 3) := by decide +kernel
theorem dX12_numberFrom_78 : decode cX12_numberFrom 78 = .ok (.if_icmp .ge 9, 3) := by decide +kernel
theorem dX12_numberFrom_81 : decode cX12_numberFrom 81 = .ok (.aload_n 0, 1) := by decide +kernel
theorem dX12_numberFrom_82 : decode cX12_numberFrom 82 = .ok (.iconst 3, 1) := by decide +kernel
theorem dX12_numberFrom_83 : decode cX12_numberFrom 83 = .ok (.iload_n 1, 1) := by decide +kernel
theorem dX12_numberFrom_84 : decode cX12_numberFrom 84 = .ok (.invokevirtual 345, 3) := by decide +kernel
theorem dX12_numberFrom_87 : decode cX12_numberFrom 87 = .ok (.aload_n 0, 1) := by decide +kernel
theorem dX12_numberFrom_88 : decode cX12_numberFrom 88 = .ok (.iload_n 3, 1) := by decide +kernel
theorem dX12_numberFrom_89 : decode cX12_numberFrom 89 = .ok (.putfield 359, 3) := by decide +kernel
theorem dX12_numberFrom_92 : decode cX12_numberFrom 92 = .ok (.aload_n 0, 1) := by decide +kernel
theorem dX12_numberFrom_93 : decode cX12_numberFrom 93 = .ok (.iload_n 2, 1) := by decide +kernel
theorem dX12_numberFrom_94 : decode cX12_numberFrom 94 = .ok (.ifCond .eq 10, 3) := by decide +kernel
theorem dX12_numberFrom_97 : decode cX12_numberFrom 97 = .ok (.aload_n 0, 1) := by decide +kernel
theorem dX12_numberFrom_98 : decode cX12_numberFrom 98 = .ok (.getfield 356, 3) := by decide +kernel
theorem dX12_numberFrom_101 : decode cX12_numberFrom 101 = .ok (.goto 4, 3) := by decide +kernel
theorem dX12_numberFrom_104 : decode cX12_numberFrom 104 = .ok (.iload_n 3, 1) := by decide +kernel
theorem dX12_numberFrom_105 : decode cX12_numberFrom 105 = .ok (.putfield 356, 3) := by decide +kernel
theorem dX12_numberFrom_108 : decode cX12_numberFrom 108 = .ok (.iload 4, 2) := by decide +kernel
theorem dX12_numberFrom_110 : decode cX12_numberFrom 110 = .ok (.ireturn, 1) := by decide +kernel
theorem dX12_openGroup_0 : decode cX12_openGroup 0 = .ok (.aload_n 0, 1) := by decide +kernel
theorem dX12_openGroup_1 : decode cX12_openGroup 1 = .ok (.aload_n 0, 1) := by decide +kernel
theorem dX12_openGroup_2 : decode cX12_openGroup 2 = .ok (.getfield 362, 3) := by decide +kernel
theorem dX12_openGroup_5 : decode cX12_openGroup 5 = .ok (.iconst 1, 1) := by decide +kernel
theorem dX12_openGroup_6 : decode cX12_openGroup 6 = .ok (.iadd, 1) := by decide +kernel
theorem dX12_openGroup_7 : decode cX12_openGroup 7 = .ok (.invokevirtual 349, 3) := by decide +kernel
theorem dX12_openGroup_10 : decode cX12_openGroup 10 = .ok (.istore_n 1, 1) := by decide +kernel
theorem dX12_openGroup_11 : decode cX12_openGroup 11 = .ok (.iload_n 1, 1) := by decide +kernel
theorem dX12_openGroup_12 : decode cX12_openGroup 12 = .ok (.bipush 35, 2) := by decide +kernel
theorem dX12_openGroup_14 : decode cX12_openGroup 14 = .ok (.if_icmp .ne 58, 3) := by decide +kernel
theorem dX12_openGroup_17 : decode cX12_openGroup 17 = .ok (.aload_n 0, 1) := by decide +kernel
theorem dX12_openGroup_18 : decode cX12_openGroup 18 = .ok (.getfield 362, 3) := by decide +kernel
theorem dX12_openGroup_21 : decode cX12_openGroup 21 = .ok (.iconst 2, 1) := by decide +kernel
theorem dX12_openGroup_22 : decode cX12_openGroup 22 = .ok (.iadd, 1) := by decide +kernel
theorem dX12_openGroup_23 : decode cX12_openGroup 23 = .ok (.istore_n 2, 1) := by decide +kernel
theorem dX12_openGroup_24 : decode cX12_openGroup 24 = .ok (.aload_n 0, 1) := by decide +kernel
theorem dX12_openGroup_25 : decode cX12_openGroup 25 = .ok (.iload_n 2, 1) := by decide +kernel
theorem dX12_openGroup_26 : decode cX12_openGroup 26 = .ok (.invokevirtual 349, 3) := by decide +kernel
theorem dX12_openGroup_29 : decode cX12_openGroup 29 = .ok (.iconst (-1), 1) := by decide +kernel
theorem dX12_openGroup_30 : decode cX12_openGroup 30 = .ok (.if_icmp .eq 19, 3) := by decide +kernel
theorem dX12_openGroup_33 : decode cX12_openGroup 33 = .ok (.aload_n 0, 1) := by decide +kernel
theorem dX12_openGroup_34 : decode cX12_openGroup 34 = .ok (.iload_n 2, 1) := by decide +kernel
theorem dX12_openGroup_35 : decode cX12_openGroup 35 = .ok (.invokevirtual 349, 3) := by decide +kernel
theorem dX12_openGroup_38 : decode cX12_openGroup 38 = .ok (.bipush 41, 2) := by decide +kernel
theorem dX12_openGroup_40 : decode cX12_openGroup 40 = .ok (.if_icmp .eq 9, 3) := by decide +kernel
theorem dX12_openGroup_43 : decode cX12_openGroup 43 = .ok (.iinc 2 1, 3) := by decide +kernel
theorem dX12_openGroup_46 : decode cX12_openGroup 46 = .ok (.goto (-22), 3) := by decide +kernel
theorem dX12_openGroup_49 : decode cX12_openGroup 49 = .ok (.aload_n 0, 1) := by decide +kernel
theorem dX12_openGroup_50 : decode cX12_openGroup 50 = .ok (.iload_n 2, 1) := by decide +kernel
theorem dX12_openGroup_51 : decode cX12_openGroup 51 = .ok (.invokevirtual 349, 3) := by decide +kernel
theorem dX12_openGroup_54 : decode cX12_openGroup 54 = .ok (.iconst (-1), 1) := by decide +kernel
theorem dX12_openGroup_55 : decode cX12_openGroup 55 = .ok (.if_icmp .ne 9, 3) := by decide +kernel
theorem dX12_openGroup_58 : decode cX12_openGroup 58 = .ok (.aload_n 0, 1) := by decide +kernel
theorem dX12_openGroup_59 : decode cX12_openGroup 59 = .ok (.iconst 1, 1) := by decide +kernel
theorem dX12_openGroup_60 : decode cX12_openGroup 60 = .ok (.iload_n 2, 1) := by decide +kernel
theorem dX12_openGroup_61 : decode cX12_openGroup 61 = .ok (.invokevirtual 345, 3) := by decide +kernel
theorem dX12_openGroup_64 : decode cX12_openGroup 64 = .ok (.aload_n 0, 1) := by decide +kernel
theorem dX12_openGroup_65 : decode cX12_openGroup 65 = .ok (.iload_n 2, 1) := by decide +kernel
theorem dX12_openGroup_66 : decode cX12_openGroup 66 = .ok (.iconst 1, 1) := by decide +kernel
theorem dX12_openGroup_67 : decode cX12_openGroup 67 = .ok (.iadd, 1) := by decide +kernel
theorem dX12_openGroup_68 : decode cX12_openGroup 68 = .ok (.putfield 362, 3) := by decide +kernel
theorem dX12_openGroup_71 : decode cX12_openGroup 71 = .ok (.return_, 1) := by decide +kernel
theorem dX12_openGroup_72 : decode cX12_openGroup 72 = .ok (.iload_n 1, 1) := by decide +kernel
theorem dX12_openGroup_73 : decode cX12_openGroup 73 = .ok (.bipush 58, 2) := by decide +kernel
theorem dX12_openGroup_75 : decode cX12_openGroup 75 = .ok (.if_icmp .eq 39, 3) := by decide +kernel
theorem dX12_openGroup_78 : decode cX12_openGroup 78 = .ok (.iload_n 1, 1) := by decide +kernel
theorem dX12_openGroup_79 : decode cX12_openGroup 79 = .ok (.bipush 61, 2) := by decide +kernel
theorem dX12_openGroup_81 : decode cX12_openGroup 81 = .ok (.if_icmp .eq 33, 3) := by decide +kernel
theorem dX12_openGroup_84 : decode cX12_openGroup 84 = .ok (.iload_n 1, 1) := by decide +kernel
theorem dX12_openGroup_85 : decode cX12_openGroup 85 = .ok (.bipush 33, 2) := by decide +kernel
theorem dX12_openGroup_87 : decode cX12_openGroup 87 = .ok (.if_icmp .eq 27, 3) := by decide +kernel
theorem dX12_openGroup_90 : decode cX12_openGroup 90 = .ok (.iload_n 1, 1) := by decide +kernel
theorem dX12_openGroup_91 : decode cX12_openGroup 91 = .ok (.bipush 60, 2) := by decide +kernel
theorem dX12_openGroup_93 : decode cX12_openGroup 93 = .ok (.if_icmp .eq 21, 3) := by decide +kernel
theorem dX12_openGroup_96 : decode cX12_openGroup 96 = .ok (.iload_n 1, 1) := by decide +kernel
theorem dX12_openGroup_97 : decode cX12_openGroup 97 = .ok (.bipush 126, 2) := by decide +kernel
theorem dX12_openGroup_99 : decode cX12_openGroup 99 = .ok (.if_icmp .eq 15, 3) := by decide +kernel
theorem dX12_openGroup_102 : decode cX12_openGroup 102 = .ok (.iload_n 1, 1) := by decide +kernel
theorem dX12_openGroup_103 : decode cX12_openGroup 103 = .ok (.bipush 42, 2) := by decide +kernel
theorem dX12_openGroup_105 : decode cX12_openGroup 105 = .ok (.if_icmp .eq 9, 3) := by decide +kernel
theorem dX12_openGroup_108 : decode cX12_openGroup 108 = .ok (.iload_n 1, 1) := by decide +kernel
theorem dX12_openGroup_109 : decode cX12_openGroup 109 = .ok (.bipush 37, 2) := by decide +kernel
theorem dX12_openGroup_111 : decode cX12_openGroup 111 = .ok (.if_icmp .ne 7, 3) := by decide +kernel
theorem dX12_openGroup_114 : decode cX12_openGroup 114 = .ok (.iconst 1, 1) := by decide +kernel
theorem dX12_openGroup_115 : decode cX12_openGroup 115 = .ok (.goto 4, 3) := by decide +kernel
theorem dX12_openGroup_118 : decode cX12_openGroup 118 = .ok (.iconst 0, 1) := by decide +kernel
theorem dX12_openGroup_119 : decode cX12_openGroup 119 = .ok (.istore_n 2, 1) := by decide +kernel
theorem dX12_openGroup_120 : decode cX12_openGroup 120 = .ok (.aload_n 0, 1) := by decide +kernel
theorem dX12_openGroup_121 : decode cX12_openGroup 121 = .ok (.getfield 329, 3) := by decide +kernel
theorem dX12_openGroup_124 : decode cX12_openGroup 124 = .ok (.bipush 8, 2) := by decide +kernel
theorem dX12_openGroup_126 : decode cX12_openGroup 126 = .ok (.if_icmp .gt 16, 3) := by decide +kernel
theorem dX12_openGroup_129 : decode cX12_openGroup 129 = .ok (.iload_n 2, 1) := by decide +kernel
theorem dX12_openGroup_130 : decode cX12_openGroup 130 = .ok (.ifCond .ne 21, 3) := by decide +kernel
theorem dX12_openGroup_133 : decode cX12_openGroup 133 = .ok (.aload_n 0, 1) := by decide +kernel
theorem dX12_openGroup_134 : decode cX12_openGroup 134 = .ok (.getfield 377, 3) := by decide +kernel
theorem dX12_openGroup_137 : decode cX12_openGroup 137 = .ok (.bipush 9, 2) := by decide +kernel
theorem dX12_openGroup_139 : decode cX12_openGroup 139 = .ok (.if_icmp .ne 12, 3) := by decide +kernel
theorem dX12_openGroup_142 : decode cX12_openGroup 142 = .ok (.aload_n 0, 1) := by decide +kernel
theorem dX12_openGroup_143 : decode cX12_openGroup 143 = .ok (.iconst 2, 1) := by decide +kernel
theorem dX12_openGroup_144 : decode cX12_openGroup 144 = .ok (.aload_n 0, 1) := by decide +kernel
theorem dX12_openGroup_145 : decode cX12_openGroup 145 = .ok (.getfield 362, 3) := by decide +kernel
theorem dX12_openGroup_148 : decode cX12_openGroup 148 = .ok (.invokevirtual 345, 3) := by decide +kernel
theorem dX12_openGroup_151 : decode cX12_openGroup 151 = .ok (.aload_n 0, 1) := by decide +kernel
theorem dX12_openGroup_152 : decode cX12_openGroup 152 = .ok (.aload_n 0, 1) := by decide +kernel
theorem dX12_openGroup_153 : decode cX12_openGroup 153 = .ok (.getfield 362, 3) := by decide +kernel
theorem dX12_openGroup_156 : decode cX12_openGroup 156 = .ok (.invokevirtual 365, 3) := by decide +kernel
theorem dX12_openGroup_159 : decode cX12_openGroup 159 = .ok (.aload_n 0, 1) := by decide +kernel
theorem dX12_openGroup_160 : decode cX12_openGroup 160 = .ok (.getfield 320, 3) := by decide +kernel
theorem dX12_openGroup_163 : decode cX12_openGroup 163 = .ok (.ifCond .le 4, 3) := by decide +kernel
theorem dX12_openGroup_166 : decode cX12_openGroup 166 = .ok (.return_, 1) := by decide +kernel
theorem dX12_openGroup_167 : decode cX12_openGroup 167 = .ok (.aload_n 0, 1) := by decide +kernel
theorem dX12_openGroup_168 : decode cX12_openGroup 168 = .ok (.dup, 1) := by decide +kernel
theorem dX12_openGroup_169 : decode cX12_openGroup 169 = .ok (.getfield 329, 3) := by decide +kernel
theorem dX12_openGroup_172 : decode cX12_openGroup 172 = .ok (.iconst 1, 1) := by decide +kernel
theorem dX12_openGroup_173 : decode cX12_openGroup 173 = .ok (.iadd, 1) := by decide +kernel
theorem dX12_openGroup_174 : decode cX12_openGroup 174 = .ok (.putfield 329, 3) := by decide +kernel
theorem dX12_openGroup_177 : decode cX12_openGroup 177 = .ok (.iload_n 2, 1) := by decide +kernel
theorem dX12_openGroup_178 : decode cX12_openGroup 178 = .ok (.ifCond .ne 122, 3) := by decide +kernel
theorem dX12_openGroup_181 : decode cX12_openGroup 181 = .ok (.aload_n 0, 1) := by decide +kernel
theorem dX12_openGroup_182 : decode cX12_openGroup 182 = .ok (.dup, 1) := by decide +kernel
theorem dX12_openGroup_183 : decode cX12_openGroup 183 = .ok (.getfield 377, 3) := by decide +kernel
theorem dX12_openGroup_186 : decode cX12_openGroup 186 = .ok (.iconst 1, 1) := by decide +kernel
theorem dX12_openGroup_187 : decode cX12_openGroup 187 = .ok (.iadd, 1) := by decide +kernel
theorem dX12_openGroup_188 : decode cX12_openGroup 188 = .ok (.putfield 377, 3) := by decide +kernel
theorem dX12_openGroup_191 : decode cX12_openGroup 191 = .ok (.aload_n 0, 1) := by decide +kernel
theorem dX12_openGroup_192 : decode cX12_openGroup 192 = .ok (.getfield 116, 3) := by decide +kernel
theorem dX12_openGroup_195 : decode cX12_openGroup 195 = .ok (.aload_n 0, 1) := by decide +kernel
theorem dX12_openGroup_196 : decode cX12_openGroup 196 = .ok (.getfield 377, 3) := by decide +kernel
theorem dX12_openGroup_199 : decode cX12_openGroup 199 = .ok (.iconst 0, 1) := by decide +kernel
theorem dX12_openGroup_200 : decode cX12_openGroup 200 = .ok (.iastore, 1) := by decide +kernel
theorem dX12_openGroup_201 : decode cX12_openGroup 201 = .ok (.iload_n 1, 1) := by decide +kernel
theorem dX12_openGroup_202 : decode cX12_openGroup 202 = .ok (.bipush 64, 2) := by decide +kernel
theorem dX12_openGroup_204 : decode cX12_openGroup 204 = .ok (.if_icmp .ne 65, 3) := by decide +kernel
theorem dX12_openGroup_207 : decode cX12_openGroup 207 = .ok (.aload_n 0, 1) := by decide +kernel
theorem dX12_openGroup_208 : decode cX12_openGroup 208 = .ok (.aload_n 0, 1) := by decide +kernel
theorem dX12_openGroup_209 : decode cX12_openGroup 209 = .ok (.getfield 362, 3) := by decide +kernel
theorem dX12_openGroup_212 : decode cX12_openGroup 212 = .ok (.iconst 2, 1) := by decide +kernel
theorem dX12_openGroup_213 : decode cX12_openGroup 213 = .ok (.iadd, 1) := by decide +kernel
theorem dX12_openGroup_214 : decode cX12_openGroup 214 = .ok (.invokevirtual 349, 3) := by decide +kernel
theorem dX12_openGroup_217 : decode cX12_openGroup 217 = .ok (.istore_n 3, 1) := by decide +kernel
theorem dX12_openGroup_218 : decode cX12_openGroup 218 = .ok (.iload_n 3, 1) := by decide +kernel
theorem dX12_openGroup_219 : decode cX12_openGroup 219 = .ok (.bipush 97, 2) := by decide +kernel
theorem dX12_openGroup_221 : decode cX12_openGroup 221 = .ok (.bipush 122, 2) := by decide +kernel
theorem dX12_openGroup_223 : decode cX12_openGroup 223 = .ok (.invokestatic 7, 3) := by decide +kernel
theorem dX12_openGroup_226 : decode cX12_openGroup 226 = .ok (.ifCond .ne 14, 3) := by decide +kernel
theorem dX12_openGroup_229 : decode cX12_openGroup 229 = .ok (.aload_n 0, 1) := by decide +kernel
theorem dX12_openGroup_230 : decode cX12_openGroup 230 = .ok (.iconst 1, 1) := by decide +kernel
theorem dX12_openGroup_231 : decode cX12_openGroup 231 = .ok (.aload_n 0, 1) := by decide +kernel
theorem dX12_openGroup_232 : decode cX12_openGroup 232 = .ok (.getfield 362, 3) := by decide +kernel
theorem dX12_openGroup_235 : decode cX12_openGroup 235 = .ok (.iconst 2, 1) := by decide +kernel
theorem dX12_openGroup_236 : decode cX12_openGroup 236 = .ok (.iadd, 1) := by decide +kernel
theorem dX12_openGroup_237 : decode cX12_openGroup 237 = .ok (.invokevirtual 345, 3) := by decide +kernel
theorem dX12_openGroup_240 : decode cX12_openGroup 240 = .ok (.aload_n 0, 1) := by decide +kernel
theorem dX12_openGroup_241 : decode cX12_openGroup 241 = .ok (.iload_n 3, 1) := by decide +kernel
theorem dX12_openGroup_242 : decode cX12_openGroup 242 = .ok (.invokevirtual 380, 3) := by decide +kernel
theorem dX12_openGroup_245 : decode cX12_openGroup 245 = .ok (.ifCond .le 14, 3) := by decide +kernel
theorem dX12_openGroup_248 : decode cX12_openGroup 248 = .ok (.aload_n 0, 1) := by decide +kernel
theorem dX12_openGroup_249 : decode cX12_openGroup 249 = .ok (.iconst 3, 1) := by decide +kernel
theorem dX12_openGroup_250 : decode cX12_openGroup 250 = .ok (.aload_n 0, 1) := by decide +kernel
theorem dX12_openGroup_251 : decode cX12_openGroup 251 = .ok (.getfield 362, 3) := by decide +kernel
theorem dX12_openGroup_254 : decode cX12_openGroup 254 = .ok (.iconst 2, 1) := by decide +kernel
theorem dX12_openGroup_255 : decode cX12_openGroup 255 = .ok (.iadd, 1) := by decide +kernel
theorem dX12_openGroup_256 : decode cX12_openGroup 256 = .ok (.invokevirtual 345, 3) := by decide +kernel
theorem dX12_openGroup_259 : decode cX12_openGroup 259 = .ok (.aload_n 0, 1) := by decide +kernel
theorem dX12_openGroup_260 : decode cX12_openGroup 260 = .ok (.getfield 116, 3) := by decide +kernel
theorem dX12_openGroup_263 : decode cX12_openGroup 263 = .ok (.aload_n 0, 1) := by decide +kernel
theorem dX12_openGroup_264 : decode cX12_openGroup 264 = .ok (.getfield 377, 3) := by decide +kernel
theorem dX12_openGroup_267 : decode cX12_openGroup 267 = .ok (.iload_n 3, 1) := by decide +kernel
theorem dX12_openGroup_268 : decode cX12_openGroup 268 = .ok (.iastore, 1) := by decide +kernel
theorem dX12_openGroup_269 : decode cX12_openGroup 269 = .ok (.aload_n 0, 1) := by decide +kernel
theorem dX12_openGroup_270 : decode cX12_openGroup 270 = .ok (.bipush 8, 2) := by decide +kernel
theorem dX12_openGroup_272 : decode cX12_openGroup 272 = .ok (.aload_n 0, 1) := by decide +kernel
theorem dX12_openGroup_273 : decode cX12_openGroup 273 = .ok (.getfield 377, 3) := by decide +kernel
theorem dX12_openGroup_276 : decode cX12_openGroup 276 = .ok (.invokevirtual 383, 3) := by decide +kernel
theorem dX12_openGroup_279 : decode cX12_openGroup 279 = .ok (.aload_n 0, 1) := by decide +kernel
theorem dX12_openGroup_280 : decode cX12_openGroup 280 = .ok (.dup, 1) := by decide +kernel
theorem dX12_openGroup_281 : decode cX12_openGroup 281 = .ok (.getfield 362, 3) := by decide +kernel
theorem dX12_openGroup_284 : decode cX12_openGroup 284 = .ok (.iload_n 1, 1) := by decide +kernel
theorem dX12_openGroup_285 : decode cX12_openGroup 285 = .ok (.bipush 64, 2) := by decide +kernel
theorem dX12_openGroup_287 : decode cX12_openGroup 287 = .ok (.if_icmp .ne 7, 3) := by decide +kernel
theorem dX12_openGroup_290 : decode cX12_openGroup 290 = .ok (.iconst 3, 1) := by decide +kernel
theorem dX12_openGroup_291 : decode cX12_openGroup 291 = .ok (.goto 4, 3) := by decide +kernel
theorem dX12_openGroup_294 : decode cX12_openGroup 294 = .ok (.iconst 1, 1) := by decide +kernel
theorem dX12_openGroup_295 : decode cX12_openGroup 295 = .ok (.iadd, 1) := by decide +kernel
theorem dX12_openGroup_296 : decode cX12_openGroup 296 = .ok (.putfield 362, 3) := by decide +kernel
theorem dX12_openGroup_299 : decode cX12_openGroup 299 = .ok (.return_, 1) := by decide +kernel
theorem dX12_openGroup_300 : decode cX12_openGroup 300 = .ok (.aload_n 0, 1) := by decide +kernel
theorem dX12_openGroup_301 : decode cX12_openGroup 301 = .ok (.iload_n 1, 1) := by decide +kernel
theorem dX12_openGroup_302 : decode cX12_openGroup 302 = .ok (.bipush 58, 2) := by decide +kernel
theorem dX12_openGroup_304 : decode cX12_openGroup 304 = .ok (.if_icmp .ne 7, 3) := by decide +kernel
theorem dX12_openGroup_307 : decode cX12_openGroup 307 = .ok (.iconst 5, 1) := by decide +kernel
theorem dX12_openGroup_308 : decode cX12_openGroup 308 = .ok (.goto 27, 3) := by decide +kernel
theorem dX12_openGroup_311 : decode cX12_openGroup 311 = .ok (.iload_n 1, 1) := by decide +kernel
theorem dX12_openGroup_312 : decode cX12_openGroup 312 = .ok (.bipush 42, 2) := by decide +kernel
theorem dX12_openGroup_314 : decode cX12_openGroup 314 = .ok (.if_icmp .ne 8, 3) := by decide +kernel
theorem dX12_openGroup_317 : decode cX12_openGroup 317 = .ok (.bipush 10, 2) := by decide +kernel
theorem dX12_openGroup_319 : decode cX12_openGroup 319 = .ok (.goto 16, 3) := by decide +kernel
theorem dX12_openGroup_322 : decode cX12_openGroup 322 = .ok (.iload_n 1, 1) := by decide +kernel
theorem dX12_openGroup_323 : decode cX12_openGroup 323 = .ok (.bipush 37, 2) := by decide +kernel
theorem dX12_openGroup_325 : decode cX12_openGroup 325 = .ok (.if_icmp .ne 8, 3) := by decide +kernel
theorem dX12_openGroup_328 : decode cX12_openGroup 328 = .ok (.bipush 11, 2) := by decide +kernel
theorem dX12_openGroup_330 : decode cX12_openGroup 330 = .ok (.goto 5, 3) := by decide +kernel
theorem dX12_openGroup_333 : decode cX12_openGroup 333 = .ok (.bipush 9, 2) := by decide +kernel
theorem dX12_openGroup_335 : decode cX12_openGroup 335 = .ok (.iload_n 1, 1) := by decide +kernel
theorem dX12_openGroup_336 : decode cX12_openGroup 336 = .ok (.bipush 33, 2) := by decide +kernel
theorem dX12_openGroup_338 : decode cX12_openGroup 338 = .ok (.if_icmp .ne 7, 3) := by decide +kernel
theorem dX12_openGroup_341 : decode cX12_openGroup 341 = .ok (.iconst 1, 1) := by decide +kernel
theorem dX12_openGroup_342 : decode cX12_openGroup 342 = .ok (.goto 24, 3) := by decide +kernel
theorem dX12_openGroup_345 : decode cX12_openGroup 345 = .ok (.iload_n 1, 1) := by decide +kernel
theorem dX12_openGroup_346 : decode cX12_openGroup 346 = .ok (.bipush 60, 2) := by decide +kernel
theorem dX12_openGroup_348 : decode cX12_openGroup 348 = .ok (.if_icmp .ne 7, 3) := by decide +kernel
theorem dX12_openGroup_351 : decode cX12_openGroup 351 = .ok (.iconst 2, 1) := by decide +kernel
theorem dX12_openGroup_352 : decode cX12_openGroup 352 = .ok (.goto 14, 3) := by decide +kernel
theorem dX12_openGroup_355 : decode cX12_openGroup 355 = .ok (.iload_n 1, 1) := by decide +kernel
theorem dX12_openGroup_356 : decode cX12_openGroup 356 = .ok (.bipush 126, 2) := by decide +kernel
theorem dX12_openGroup_358 : decode cX12_openGroup 358 = .ok (.if_icmp .ne 7, 3) := by decide +kernel
theorem dX12_openGroup_361 : decode cX12_openGroup 361 = .ok (.iconst 3, 1) := by decide +kernel
theorem dX12_openGroup_362 : decode cX12_openGroup 362 = .ok (.goto 4, 3) := by decide +kernel
theorem dX12_openGroup_365 : decode cX12_openGroup 365 = .ok (.iconst 0, 1) := by decide +kernel
theorem dX12_openGroup_366 : decode cX12_openGroup 366 = .ok (.invokevirtual 383, 3) := by decide +kernel
theorem dX12_openGroup_369 : decode cX12_openGroup 369 = .ok (.aload_n 0, 1) := by decide +kernel
theorem dX12_openGroup_370 : decode cX12_openGroup 370 = .ok (.dup, 1) := by decide +kernel
theorem dX12_openGroup_371 : decode cX12_openGroup 371 = .ok (.getfield 362, 3) := by decide +kernel
theorem dX12_openGroup_374 : decode cX12_openGroup 374 = .ok (.iconst 2, 1) := by decide +kernel
theorem dX12_openGroup_375 : decode cX12_openGroup 375 = .ok (.iadd, 1) := by decide +kernel
theorem dX12_openGroup_376 : decode cX12_openGroup 376 = .ok (.putfield 362, 3) := by decide +kernel
theorem dX12_openGroup_379 : decode cX12_openGroup 379 = .ok (.return_, 1) := by decide +kernel
theorem dX12_otherCase_0 : decode cX12_otherCase 0 = .ok (.iload_n 0, 1) := by decide +kernel
theorem dX12_otherCase_1 : decode cX12_otherCase 1 = .ok (.bipush 65, 2) := by decide +kernel
theorem dX12_otherCase_3 : decode cX12_otherCase 3 = .ok (.bipush 90, 2) := by decide +kernel
theorem dX12_otherCase_5 : decode cX12_otherCase 5 = .ok (.invokestatic 7, 3) := by decide +kernel
theorem dX12_otherCase_8 : decode cX12_otherCase 8 = .ok (.ifCond .eq 10, 3) := by decide +kernel
theorem dX12_otherCase_11 : decode cX12_otherCase 11 = .ok (.iload_n 0, 1) := by decide +kernel
theorem dX12_otherCase_12 : decode cX12_otherCase 12 = .ok (.bipush 32, 2) := by decide +kernel
theorem dX12_otherCase_14 : decode cX12_otherCase 14 = .ok (.iadd, 1) := by decide +kernel
theorem dX12_otherCase_15 : decode cX12_otherCase 15 = .ok (.goto 22, 3) := by decide +kernel
theorem dX12_otherCase_18 : decode cX12_otherCase 18 = .ok (.iload_n 0, 1) := by decide +kernel
theorem dX12_otherCase_19 : decode cX12_otherCase 19 = .ok (.bipush 97, 2) := by decide +kernel
theorem dX12_otherCase_21 : decode cX12_otherCase 21 = .ok (.bipush 122, 2) := by decide +kernel
theorem dX12_otherCase_23 : decode cX12_otherCase 23 = .ok (.invokestatic 7, 3) := by decide +kernel
theorem dX12_otherCase_26 : decode cX12_otherCase 26 = .ok (.ifCond .eq 10, 3) := by decide +kernel
theorem dX12_otherCase_29 : decode cX12_otherCase 29 = .ok (.iload_n 0, 1) := by decide +kernel
theorem dX12_otherCase_30 : decode cX12_otherCase 30 = .ok (.bipush 32, 2) := by decide +kernel
theorem dX12_otherCase_32 : decode cX12_otherCase 32 = .ok (.isub, 1) := by decide +kernel
theorem dX12_otherCase_33 : decode cX12_otherCase 33 = .ok (.goto 4, 3) := by decide +kernel
theorem dX12_otherCase_36 : decode cX12_otherCase 36 = .ok (.iload_n 0, 1) := by decide +kernel
theorem dX12_otherCase_37 : decode cX12_otherCase 37 = .ok (.ireturn, 1) := by decide +kernel
theorem dX12_otherSort_0 : decode cX12_otherSort 0 = .ok (.aload_n 0, 1) := by decide +kernel
theorem dX12_otherSort_1 : decode cX12_otherSort 1 = .ok (.iconst 3, 1) := by decide +kernel
theorem dX12_otherSort_2 : decode cX12_otherSort 2 = .ok (.putfield 456, 3) := by decide +kernel
theorem dX12_otherSort_5 : decode cX12_otherSort 5 = .ok (.bipush (-6), 2) := by decide +kernel
theorem dX12_otherSort_7 : decode cX12_otherSort 7 = .ok (.ireturn, 1) := by decide +kernel
theorem dX12_out_0 : decode cX12_out 0 = .ok (.aload_n 0, 1) := by decide +kernel
theorem dX12_out_1 : decode cX12_out 1 = .ok (.iload_n 1, 1) := by decide +kernel
theorem dX12_out_2 : decode cX12_out 2 = .ok (.iconst 0, 1) := by decide +kernel
theorem dX12_out_3 : decode cX12_out 3 = .ok (.aload_n 0, 1) := by decide +kernel
theorem dX12_out_4 : decode cX12_out 4 = .ok (.getfield 502, 3) := by decide +kernel
theorem dX12_out_7 : decode cX12_out 7 = .ok (.iconst 1, 1) := by decide +kernel
theorem dX12_out_8 : decode cX12_out 8 = .ok (.isub, 1) := by decide +kernel
theorem dX12_out_9 : decode cX12_out 9 = .ok (.invokestatic 7, 3) := by decide +kernel
theorem dX12_out_12 : decode cX12_out 12 = .ok (.ifCond .eq 7, 3) := by decide +kernel
theorem dX12_out_15 : decode cX12_out 15 = .ok (.iconst 0, 1) := by decide +kernel
theorem dX12_out_16 : decode cX12_out 16 = .ok (.goto 4, 3) := by decide +kernel
theorem dX12_out_19 : decode cX12_out 19 = .ok (.iconst 1, 1) := by decide +kernel
theorem dX12_out_20 : decode cX12_out 20 = .ok (.putfield 1, 3) := by decide +kernel
theorem dX12_out_23 : decode cX12_out 23 = .ok (.aload_n 0, 1) := by decide +kernel
theorem dX12_out_24 : decode cX12_out 24 = .ok (.getfield 1, 3) := by decide +kernel
theorem dX12_out_27 : decode cX12_out 27 = .ok (.ifCond .ne 12, 3) := by decide +kernel
theorem dX12_out_30 : decode cX12_out 30 = .ok (.aload_n 0, 1) := by decide +kernel
theorem dX12_out_31 : decode cX12_out 31 = .ok (.getfield 155, 3) := by decide +kernel
theorem dX12_out_34 : decode cX12_out 34 = .ok (.iload_n 1, 1) := by decide +kernel
theorem dX12_out_35 : decode cX12_out 35 = .ok (.iaload, 1) := by decide +kernel
theorem dX12_out_36 : decode cX12_out 36 = .ok (.goto 4, 3) := by decide +kernel
theorem dX12_out_39 : decode cX12_out 39 = .ok (.iconst 0, 1) := by decide +kernel
theorem dX12_out_40 : decode cX12_out 40 = .ok (.ireturn, 1) := by decide +kernel
theorem dX12_part_0 : decode cX12_part 0 = .ok (.aload_n 0, 1) := by decide +kernel
theorem dX12_part_1 : decode cX12_part 1 = .ok (.iconst 0, 1) := by decide +kernel
theorem dX12_part_2 : decode cX12_part 2 = .ok (.putfield 1, 3) := by decide +kernel
theorem dX12_part_5 : decode cX12_part 5 = .ok (.aload_n 0, 1) := by decide +kernel
theorem dX12_part_6 : decode cX12_part 6 = .ok (.iload_n 1, 1) := by decide +kernel
theorem dX12_part_7 : decode cX12_part 7 = .ok (.invokevirtual 459, 3) := by decide +kernel
theorem dX12_part_10 : decode cX12_part 10 = .ok (.ifCond .eq 6, 3) := by decide +kernel
theorem dX12_part_13 : decode cX12_part 13 = .ok (.bipush (-2), 2) := by decide +kernel
theorem dX12_part_15 : decode cX12_part 15 = .ok (.ireturn, 1) := by decide +kernel
theorem dX12_part_16 : decode cX12_part 16 = .ok (.iload_n 2, 1) := by decide +kernel
theorem dX12_part_17 : decode cX12_part 17 = .ok (.iconst 0, 1) := by decide +kernel
theorem dX12_part_18 : decode cX12_part 18 = .ok (.aload_n 0, 1) := by decide +kernel
theorem dX12_part_19 : decode cX12_part 19 = .ok (.getfield 35, 3) := by decide +kernel
theorem dX12_part_22 : decode cX12_part 22 = .ok (.iload_n 1, 1) := by decide +kernel
theorem dX12_part_23 : decode cX12_part 23 = .ok (.iaload, 1) := by decide +kernel
theorem dX12_part_24 : decode cX12_part 24 = .ok (.iconst 1, 1) := by decide +kernel
theorem dX12_part_25 : decode cX12_part 25 = .ok (.isub, 1) := by decide +kernel
theorem dX12_part_26 : decode cX12_part 26 = .ok (.invokestatic 7, 3) := by decide +kernel
theorem dX12_part_29 : decode cX12_part 29 = .ok (.ifCond .ne 6, 3) := by decide +kernel
theorem dX12_part_32 : decode cX12_part 32 = .ok (.bipush (-4), 2) := by decide +kernel
theorem dX12_part_34 : decode cX12_part 34 = .ok (.ireturn, 1) := by decide +kernel
theorem dX12_part_35 : decode cX12_part 35 = .ok (.sipush 220, 3) := by decide +kernel
theorem dX12_part_38 : decode cX12_part 38 = .ok (.iload_n 1, 1) := by decide +kernel
theorem dX12_part_39 : decode cX12_part 39 = .ok (.imul, 1) := by decide +kernel
theorem dX12_part_40 : decode cX12_part 40 = .ok (.iload_n 2, 1) := by decide +kernel
theorem dX12_part_41 : decode cX12_part 41 = .ok (.iadd, 1) := by decide +kernel
theorem dX12_part_42 : decode cX12_part 42 = .ok (.istore 5, 2) := by decide +kernel
theorem dX12_part_44 : decode cX12_part 44 = .ok (.aload_n 0, 1) := by decide +kernel
theorem dX12_part_45 : decode cX12_part 45 = .ok (.getfield 44, 3) := by decide +kernel
theorem dX12_part_48 : decode cX12_part 48 = .ok (.iload 5, 2) := by decide +kernel
theorem dX12_part_50 : decode cX12_part 50 = .ok (.iaload, 1) := by decide +kernel
theorem dX12_part_51 : decode cX12_part 51 = .ok (.iconst 2, 1) := by decide +kernel
theorem dX12_part_52 : decode cX12_part 52 = .ok (.if_icmp .eq 8, 3) := by decide +kernel
theorem dX12_part_55 : decode cX12_part 55 = .ok (.aload_n 0, 1) := by decide +kernel
theorem dX12_part_56 : decode cX12_part 56 = .ok (.invokevirtual 462, 3) := by decide +kernel
theorem dX12_part_59 : decode cX12_part 59 = .ok (.ireturn, 1) := by decide +kernel
theorem dX12_part_60 : decode cX12_part 60 = .ok (.iload_n 3, 1) := by decide +kernel
theorem dX12_part_61 : decode cX12_part 61 = .ok (.iconst 0, 1) := by decide +kernel
theorem dX12_part_62 : decode cX12_part 62 = .ok (.aload_n 0, 1) := by decide +kernel
theorem dX12_part_63 : decode cX12_part 63 = .ok (.getfield 59, 3) := by decide +kernel
theorem dX12_part_66 : decode cX12_part 66 = .ok (.iload 5, 2) := by decide +kernel
theorem dX12_part_68 : decode cX12_part 68 = .ok (.iaload, 1) := by decide +kernel
theorem dX12_part_69 : decode cX12_part 69 = .ok (.iconst 1, 1) := by decide +kernel
theorem dX12_part_70 : decode cX12_part 70 = .ok (.isub, 1) := by decide +kernel
theorem dX12_part_71 : decode cX12_part 71 = .ok (.invokestatic 7, 3) := by decide +kernel
theorem dX12_part_74 : decode cX12_part 74 = .ok (.ifCond .ne 11, 3) := by decide +kernel
theorem dX12_part_77 : decode cX12_part 77 = .ok (.aload_n 0, 1) := by decide +kernel
theorem dX12_part_78 : decode cX12_part 78 = .ok (.iconst 1, 1) := by decide +kernel
theorem dX12_part_79 : decode cX12_part 79 = .ok (.putfield 456, 3) := by decide +kernel
theorem dX12_part_82 : decode cX12_part 82 = .ok (.bipush (-4), 2) := by decide +kernel
theorem dX12_part_84 : decode cX12_part 84 = .ok (.ireturn, 1) := by decide +kernel
theorem dX12_part_85 : decode cX12_part 85 = .ok (.iload 4, 2) := by decide +kernel
theorem dX12_part_87 : decode cX12_part 87 = .ok (.ifCond .eq 20, 3) := by decide +kernel
theorem dX12_part_90 : decode cX12_part 90 = .ok (.aload_n 0, 1) := by decide +kernel
theorem dX12_part_91 : decode cX12_part 91 = .ok (.getfield 83, 3) := by decide +kernel
theorem dX12_part_94 : decode cX12_part 94 = .ok (.aload_n 0, 1) := by decide +kernel
theorem dX12_part_95 : decode cX12_part 95 = .ok (.getfield 71, 3) := by decide +kernel
theorem dX12_part_98 : decode cX12_part 98 = .ok (.iload 5, 2) := by decide +kernel
theorem dX12_part_100 : decode cX12_part 100 = .ok (.iaload, 1) := by decide +kernel
theorem dX12_part_101 : decode cX12_part 101 = .ok (.iload_n 3, 1) := by decide +kernel
theorem dX12_part_102 : decode cX12_part 102 = .ok (.iadd, 1) := by decide +kernel
theorem dX12_part_103 : decode cX12_part 103 = .ok (.iaload, 1) := by decide +kernel
theorem dX12_part_104 : decode cX12_part 104 = .ok (.goto 17, 3) := by decide +kernel
theorem dX12_part_107 : decode cX12_part 107 = .ok (.aload_n 0, 1) := by decide +kernel
theorem dX12_part_108 : decode cX12_part 108 = .ok (.getfield 80, 3) := by decide +kernel
theorem dX12_part_111 : decode cX12_part 111 = .ok (.aload_n 0, 1) := by decide +kernel
theorem dX12_part_112 : decode cX12_part 112 = .ok (.getfield 71, 3) := by decide +kernel
theorem dX12_part_115 : decode cX12_part 115 = .ok (.iload 5, 2) := by decide +kernel
theorem dX12_part_117 : decode cX12_part 117 = .ok (.iaload, 1) := by decide +kernel
theorem dX12_part_118 : decode cX12_part 118 = .ok (.iload_n 3, 1) := by decide +kernel
theorem dX12_part_119 : decode cX12_part 119 = .ok (.iadd, 1) := by decide +kernel
theorem dX12_part_120 : decode cX12_part 120 = .ok (.iaload, 1) := by decide +kernel
theorem dX12_part_121 : decode cX12_part 121 = .ok (.ireturn, 1) := by decide +kernel
theorem dX12_parting_0 : decode cX12_parting 0 = .ok (.aload_n 0, 1) := by decide +kernel
theorem dX12_parting_1 : decode cX12_parting 1 = .ok (.iconst 0, 1) := by decide +kernel
theorem dX12_parting_2 : decode cX12_parting 2 = .ok (.putfield 1, 3) := by decide +kernel
theorem dX12_parting_5 : decode cX12_parting 5 = .ok (.aload_n 0, 1) := by decide +kernel
theorem dX12_parting_6 : decode cX12_parting 6 = .ok (.iload_n 1, 1) := by decide +kernel
theorem dX12_parting_7 : decode cX12_parting 7 = .ok (.invokevirtual 459, 3) := by decide +kernel
theorem dX12_parting_10 : decode cX12_parting 10 = .ok (.ifCond .ne 11, 3) := by decide +kernel
theorem dX12_parting_13 : decode cX12_parting 13 = .ok (.aload_n 0, 1) := by decide +kernel
theorem dX12_parting_14 : decode cX12_parting 14 = .ok (.iload_n 2, 1) := by decide +kernel
theorem dX12_parting_15 : decode cX12_parting 15 = .ok (.invokevirtual 459, 3) := by decide +kernel
theorem dX12_parting_18 : decode cX12_parting 18 = .ok (.ifCond .eq 6, 3) := by decide +kernel
theorem dX12_parting_21 : decode cX12_parting 21 = .ok (.bipush (-2), 2) := by decide +kernel
theorem dX12_parting_23 : decode cX12_parting 23 = .ok (.ireturn, 1) := by decide +kernel
theorem dX12_parting_24 : decode cX12_parting 24 = .ok (.aload_n 0, 1) := by decide +kernel
theorem dX12_parting_25 : decode cX12_parting 25 = .ok (.iload_n 1, 1) := by decide +kernel
theorem dX12_parting_26 : decode cX12_parting 26 = .ok (.iload_n 2, 1) := by decide +kernel
theorem dX12_parting_27 : decode cX12_parting 27 = .ok (.invokevirtual 752, 3) := by decide +kernel
theorem dX12_parting_30 : decode cX12_parting 30 = .ok (.istore_n 3, 1) := by decide +kernel
theorem dX12_parting_31 : decode cX12_parting 31 = .ok (.iload_n 3, 1) := by decide +kernel
theorem dX12_parting_32 : decode cX12_parting 32 = .ok (.ifCond .eq 5, 3) := by decide +kernel
theorem dX12_parting_35 : decode cX12_parting 35 = .ok (.iload_n 3, 1) := by decide +kernel
theorem dX12_parting_36 : decode cX12_parting 36 = .ok (.ireturn, 1) := by decide +kernel
theorem dX12_parting_37 : decode cX12_parting 37 = .ok (.aload_n 0, 1) := by decide +kernel
theorem dX12_parting_38 : decode cX12_parting 38 = .ok (.invokevirtual 755, 3) := by decide +kernel
theorem dX12_parting_41 : decode cX12_parting 41 = .ok (.iconst 0, 1) := by decide +kernel
theorem dX12_parting_42 : decode cX12_parting 42 = .ok (.istore 4, 2) := by decide +kernel
theorem dX12_parting_44 : decode cX12_parting 44 = .ok (.iload 4, 2) := by decide +kernel
theorem dX12_parting_46 : decode cX12_parting 46 = .ok (.aload_n 0, 1) := by decide +kernel
theorem dX12_parting_47 : decode cX12_parting 47 = .ok (.getfield 745, 3) := by decide +kernel
theorem dX12_parting_50 : decode cX12_parting 50 = .ok (.if_icmp .ge 18, 3) := by decide +kernel
theorem dX12_parting_53 : decode cX12_parting 53 = .ok (.aload_n 0, 1) := by decide +kernel
theorem dX12_parting_54 : decode cX12_parting 54 = .ok (.iload 4, 2) := by decide +kernel
theorem dX12_parting_56 : decode cX12_parting 56 = .ok (.invokevirtual 758, 3) := by decide +kernel
theorem dX12_parting_59 : decode cX12_parting 59 = .ok (.ifCond .ne 9, 3) := by decide +kernel
theorem dX12_parting_62 : decode cX12_parting 62 = .ok (.iinc 4 1, 3) := by decide +kernel
theorem dX12_parting_65 : decode cX12_parting 65 = .ok (.goto (-21), 3) := by decide +kernel
theorem dX12_parting_68 : decode cX12_parting 68 = .ok (.iload 4, 2) := by decide +kernel
theorem dX12_parting_70 : decode cX12_parting 70 = .ok (.aload_n 0, 1) := by decide +kernel
theorem dX12_parting_71 : decode cX12_parting 71 = .ok (.getfield 745, 3) := by decide +kernel
theorem dX12_parting_74 : decode cX12_parting 74 = .ok (.if_icmp .ne 5, 3) := by decide +kernel
theorem dX12_parting_77 : decode cX12_parting 77 = .ok (.iconst (-1), 1) := by decide +kernel
theorem dX12_parting_78 : decode cX12_parting 78 = .ok (.ireturn, 1) := by decide +kernel
theorem dX12_parting_79 : decode cX12_parting 79 = .ok (.iconst 0, 1) := by decide +kernel
theorem dX12_parting_80 : decode cX12_parting 80 = .ok (.istore 5, 2) := by decide +kernel
theorem dX12_parting_82 : decode cX12_parting 82 = .ok (.iload 4, 2) := by decide +kernel
theorem dX12_parting_84 : decode cX12_parting 84 = .ok (.istore 6, 2) := by decide +kernel
theorem dX12_parting_86 : decode cX12_parting 86 = .ok (.aload_n 0, 1) := by decide +kernel
theorem dX12_parting_87 : decode cX12_parting 87 = .ok (.getfield 299, 3) := by decide +kernel
theorem dX12_parting_90 : decode cX12_parting 90 = .ok (.iload 6, 2) := by decide +kernel
theorem dX12_parting_92 : decode cX12_parting 92 = .ok (.iaload, 1) := by decide +kernel
theorem dX12_parting_93 : decode cX12_parting 93 = .ok (.iconst (-1), 1) := by decide +kernel
theorem dX12_parting_94 : decode cX12_parting 94 = .ok (.if_icmp .eq 18, 3) := by decide +kernel
theorem dX12_parting_97 : decode cX12_parting 97 = .ok (.iinc 5 1, 3) := by decide +kernel
theorem dX12_parting_100 : decode cX12_parting 100 = .ok (.aload_n 0, 1) := by decide +kernel
theorem dX12_parting_101 : decode cX12_parting 101 = .ok (.getfield 299, 3) := by decide +kernel
theorem dX12_parting_104 : decode cX12_parting 104 = .ok (.iload 6, 2) := by decide +kernel
theorem dX12_parting_106 : decode cX12_parting 106 = .ok (.iaload, 1) := by decide +kernel
theorem dX12_parting_107 : decode cX12_parting 107 = .ok (.istore 6, 2) := by decide +kernel
theorem dX12_parting_109 : decode cX12_parting 109 = .ok (.goto (-23), 3) := by decide +kernel
theorem dX12_parting_112 : decode cX12_parting 112 = .ok (.iload 5, 2) := by decide +kernel
theorem dX12_parting_114 : decode cX12_parting 114 = .ok (.sipush 400, 3) := by decide +kernel
theorem dX12_parting_117 : decode cX12_parting 117 = .ok (.if_icmp .le 11, 3) := by decide +kernel
theorem dX12_parting_120 : decode cX12_parting 120 = .ok (.aload_n 0, 1) := by decide +kernel
theorem dX12_parting_121 : decode cX12_parting 121 = .ok (.iconst 4, 1) := by decide +kernel
theorem dX12_parting_122 : decode cX12_parting 122 = .ok (.putfield 456, 3) := by decide +kernel
theorem dX12_parting_125 : decode cX12_parting 125 = .ok (.bipush (-9), 2) := by decide +kernel
theorem dX12_parting_127 : decode cX12_parting 127 = .ok (.ireturn, 1) := by decide +kernel
theorem dX12_parting_128 : decode cX12_parting 128 = .ok (.aload_n 0, 1) := by decide +kernel
theorem dX12_parting_129 : decode cX12_parting 129 = .ok (.iload 5, 2) := by decide +kernel
theorem dX12_parting_131 : decode cX12_parting 131 = .ok (.putfield 502, 3) := by decide +kernel
theorem dX12_parting_134 : decode cX12_parting 134 = .ok (.aload_n 0, 1) := by decide +kernel
theorem dX12_parting_135 : decode cX12_parting 135 = .ok (.iconst 0, 1) := by decide +kernel
theorem dX12_parting_136 : decode cX12_parting 136 = .ok (.putfield 505, 3) := by decide +kernel
theorem dX12_parting_139 : decode cX12_parting 139 = .ok (.iload 4, 2) := by decide +kernel
theorem dX12_parting_141 : decode cX12_parting 141 = .ok (.istore 6, 2) := by decide +kernel
theorem dX12_parting_143 : decode cX12_parting 143 = .ok (.aload_n 0, 1) := by decide +kernel
theorem dX12_parting_144 : decode cX12_parting 144 = .ok (.getfield 299, 3) := by decide +kernel
theorem dX12_parting_147 : decode cX12_parting 147 = .ok (.iload 6, 2) := by decide +kernel
theorem dX12_parting_149 : decode cX12_parting 149 = .ok (.iaload, 1) := by decide +kernel
theorem dX12_parting_150 : decode cX12_parting 150 = .ok (.iconst (-1), 1) := by decide +kernel
theorem dX12_parting_151 : decode cX12_parting 151 = .ok (.if_icmp .eq 32, 3) := by decide +kernel
theorem dX12_parting_154 : decode cX12_parting 154 = .ok (.iinc 5 (-1), 3) := by decide +kernel
theorem dX12_parting_157 : decode cX12_parting 157 = .ok (.aload_n 0, 1) := by decide +kernel
theorem dX12_parting_158 : decode cX12_parting 158 = .ok (.getfield 155, 3) := by decide +kernel
theorem dX12_parting_161 : decode cX12_parting 161 = .ok (.iload 5, 2) := by decide +kernel
theorem dX12_parting_163 : decode cX12_parting 163 = .ok (.aload_n 0, 1) := by decide +kernel
theorem dX12_parting_164 : decode cX12_parting 164 = .ok (.getfield 302, 3) := by decide +kernel
theorem dX12_parting_167 : decode cX12_parting 167 = .ok (.iload 6, 2) := by decide +kernel
theorem dX12_parting_169 : decode cX12_parting 169 = .ok (.iaload, 1) := by decide +kernel
theorem dX12_parting_170 : decode cX12_parting 170 = .ok (.iastore, 1) := by decide +kernel
theorem dX12_parting_171 : decode cX12_parting 171 = .ok (.aload_n 0, 1) := by decide +kernel
theorem dX12_parting_172 : decode cX12_parting 172 = .ok (.getfield 299, 3) := by decide +kernel
theorem dX12_parting_175 : decode cX12_parting 175 = .ok (.iload 6, 2) := by decide +kernel
theorem dX12_parting_177 : decode cX12_parting 177 = .ok (.iaload, 1) := by decide +kernel
theorem dX12_parting_178 : decode cX12_parting 178 = .ok (.istore 6, 2) := by decide +kernel
theorem dX12_parting_180 : decode cX12_parting 180 = .ok (.goto (-37), 3) := by decide +kernel
theorem dX12_parting_183 : decode cX12_parting 183 = .ok (.aload_n 0, 1) := by decide +kernel
theorem dX12_parting_184 : decode cX12_parting 184 = .ok (.getfield 502, 3) := by decide +kernel
theorem dX12_parting_187 : decode cX12_parting 187 = .ok (.ireturn, 1) := by decide +kernel
theorem dX12_pattern_0 : decode cX12_pattern 0 = .ok (.aload_n 0, 1) := by decide +kernel
theorem dX12_pattern_1 : decode cX12_pattern 1 = .ok (.iconst 0, 1) := by decide +kernel
theorem dX12_pattern_2 : decode cX12_pattern 2 = .ok (.putfield 1, 3) := by decide +kernel
theorem dX12_pattern_5 : decode cX12_pattern 5 = .ok (.iload_n 1, 1) := by decide +kernel
theorem dX12_pattern_6 : decode cX12_pattern 6 = .ok (.iconst 0, 1) := by decide +kernel
theorem dX12_pattern_7 : decode cX12_pattern 7 = .ok (.iconst 5, 1) := by decide +kernel
theorem dX12_pattern_8 : decode cX12_pattern 8 = .ok (.invokestatic 7, 3) := by decide +kernel
theorem dX12_pattern_11 : decode cX12_pattern 11 = .ok (.ifCond .ne 6, 3) := by decide +kernel
theorem dX12_pattern_14 : decode cX12_pattern 14 = .ok (.bipush (-2), 2) := by decide +kernel
theorem dX12_pattern_16 : decode cX12_pattern 16 = .ok (.ireturn, 1) := by decide +kernel
theorem dX12_pattern_17 : decode cX12_pattern 17 = .ok (.aload_n 0, 1) := by decide +kernel
theorem dX12_pattern_18 : decode cX12_pattern 18 = .ok (.invokevirtual 443, 3) := by decide +kernel
theorem dX12_pattern_21 : decode cX12_pattern 21 = .ok (.istore_n 2, 1) := by decide +kernel
theorem dX12_pattern_22 : decode cX12_pattern 22 = .ok (.aload_n 0, 1) := by decide +kernel
theorem dX12_pattern_23 : decode cX12_pattern 23 = .ok (.iconst 0, 1) := by decide +kernel
theorem dX12_pattern_24 : decode cX12_pattern 24 = .ok (.putfield 317, 3) := by decide +kernel
theorem dX12_pattern_27 : decode cX12_pattern 27 = .ok (.aload_n 0, 1) := by decide +kernel
theorem dX12_pattern_28 : decode cX12_pattern 28 = .ok (.aload_n 0, 1) := by decide +kernel
theorem dX12_pattern_29 : decode cX12_pattern 29 = .ok (.getfield 320, 3) := by decide +kernel
theorem dX12_pattern_32 : decode cX12_pattern 32 = .ok (.ifCond .le 10, 3) := by decide +kernel
theorem dX12_pattern_35 : decode cX12_pattern 35 = .ok (.aload_n 0, 1) := by decide +kernel
theorem dX12_pattern_36 : decode cX12_pattern 36 = .ok (.getfield 323, 3) := by decide +kernel
theorem dX12_pattern_39 : decode cX12_pattern 39 = .ok (.goto 4, 3) := by decide +kernel
theorem dX12_pattern_42 : decode cX12_pattern 42 = .ok (.iconst (-1), 1) := by decide +kernel
theorem dX12_pattern_43 : decode cX12_pattern 43 = .ok (.putfield 28, 3) := by decide +kernel
theorem dX12_pattern_46 : decode cX12_pattern 46 = .ok (.aload_n 0, 1) := by decide +kernel
theorem dX12_pattern_47 : decode cX12_pattern 47 = .ok (.getfield 320, 3) := by decide +kernel
theorem dX12_pattern_50 : decode cX12_pattern 50 = .ok (.ifCond .le 11, 3) := by decide +kernel
theorem dX12_pattern_53 : decode cX12_pattern 53 = .ok (.bipush (-20), 2) := by decide +kernel
theorem dX12_pattern_55 : decode cX12_pattern 55 = .ok (.aload_n 0, 1) := by decide +kernel
theorem dX12_pattern_56 : decode cX12_pattern 56 = .ok (.getfield 320, 3) := by decide +kernel
theorem dX12_pattern_59 : decode cX12_pattern 59 = .ok (.isub, 1) := by decide +kernel
theorem dX12_pattern_60 : decode cX12_pattern 60 = .ok (.ireturn, 1) := by decide +kernel
theorem dX12_pattern_61 : decode cX12_pattern 61 = .ok (.aload_n 0, 1) := by decide +kernel
theorem dX12_pattern_62 : decode cX12_pattern 62 = .ok (.iload_n 1, 1) := by decide +kernel
theorem dX12_pattern_63 : decode cX12_pattern 63 = .ok (.iload_n 2, 1) := by decide +kernel
theorem dX12_pattern_64 : decode cX12_pattern 64 = .ok (.invokevirtual 446, 3) := by decide +kernel
theorem dX12_pattern_67 : decode cX12_pattern 67 = .ok (.aload_n 0, 1) := by decide +kernel
theorem dX12_pattern_68 : decode cX12_pattern 68 = .ok (.aload_n 0, 1) := by decide +kernel
theorem dX12_pattern_69 : decode cX12_pattern 69 = .ok (.getfield 449, 3) := by decide +kernel
theorem dX12_pattern_72 : decode cX12_pattern 72 = .ok (.ifCond .eq 15, 3) := by decide +kernel
theorem dX12_pattern_75 : decode cX12_pattern 75 = .ok (.aload_n 0, 1) := by decide +kernel
theorem dX12_pattern_76 : decode cX12_pattern 76 = .ok (.getfield 453, 3) := by decide +kernel
theorem dX12_pattern_79 : decode cX12_pattern 79 = .ok (.iload_n 1, 1) := by decide +kernel
theorem dX12_pattern_80 : decode cX12_pattern 80 = .ok (.if_icmp .eq 7, 3) := by decide +kernel
theorem dX12_pattern_83 : decode cX12_pattern 83 = .ok (.iconst 1, 1) := by decide +kernel
theorem dX12_pattern_84 : decode cX12_pattern 84 = .ok (.goto 4, 3) := by decide +kernel
theorem dX12_pattern_87 : decode cX12_pattern 87 = .ok (.iconst 0, 1) := by decide +kernel
theorem dX12_pattern_88 : decode cX12_pattern 88 = .ok (.putfield 449, 3) := by decide +kernel
theorem dX12_pattern_91 : decode cX12_pattern 91 = .ok (.aload_n 0, 1) := by decide +kernel
theorem dX12_pattern_92 : decode cX12_pattern 92 = .ok (.getfield 35, 3) := by decide +kernel
theorem dX12_pattern_95 : decode cX12_pattern 95 = .ok (.iload_n 1, 1) := by decide +kernel
theorem dX12_pattern_96 : decode cX12_pattern 96 = .ok (.iaload, 1) := by decide +kernel
theorem dX12_pattern_97 : decode cX12_pattern 97 = .ok (.ireturn, 1) := by decide +kernel
theorem dX12_place_0 : decode cX12_place 0 = .ok (.aload_n 0, 1) := by decide +kernel
theorem dX12_place_1 : decode cX12_place 1 = .ok (.iconst 0, 1) := by decide +kernel
theorem dX12_place_2 : decode cX12_place 2 = .ok (.putfield 1, 3) := by decide +kernel
theorem dX12_place_5 : decode cX12_place 5 = .ok (.aload_n 0, 1) := by decide +kernel
theorem dX12_place_6 : decode cX12_place 6 = .ok (.getfield 28, 3) := by decide +kernel
theorem dX12_place_9 : decode cX12_place 9 = .ok (.ireturn, 1) := by decide +kernel
theorem dX12_prefix_0 : decode cX12_prefix 0 = .ok (.aload_n 0, 1) := by decide +kernel
theorem dX12_prefix_1 : decode cX12_prefix 1 = .ok (.iconst 0, 1) := by decide +kernel
theorem dX12_prefix_2 : decode cX12_prefix 2 = .ok (.putfield 1, 3) := by decide +kernel
theorem dX12_prefix_5 : decode cX12_prefix 5 = .ok (.aload_n 0, 1) := by decide +kernel
theorem dX12_prefix_6 : decode cX12_prefix 6 = .ok (.iload_n 1, 1) := by decide +kernel
theorem dX12_prefix_7 : decode cX12_prefix 7 = .ok (.iload_n 2, 1) := by decide +kernel
theorem dX12_prefix_8 : decode cX12_prefix 8 = .ok (.invokevirtual 687, 3) := by decide +kernel
theorem dX12_prefix_11 : decode cX12_prefix 11 = .ok (.istore 4, 2) := by decide +kernel
theorem dX12_prefix_13 : decode cX12_prefix 13 = .ok (.iload 4, 2) := by decide +kernel
theorem dX12_prefix_15 : decode cX12_prefix 15 = .ok (.ifCond .eq 6, 3) := by decide +kernel
theorem dX12_prefix_18 : decode cX12_prefix 18 = .ok (.iload 4, 2) := by decide +kernel
theorem dX12_prefix_20 : decode cX12_prefix 20 = .ok (.ireturn, 1) := by decide +kernel
theorem dX12_prefix_21 : decode cX12_prefix 21 = .ok (.iload_n 3, 1) := by decide +kernel
theorem dX12_prefix_22 : decode cX12_prefix 22 = .ok (.iconst 0, 1) := by decide +kernel
theorem dX12_prefix_23 : decode cX12_prefix 23 = .ok (.aload_n 0, 1) := by decide +kernel
theorem dX12_prefix_24 : decode cX12_prefix 24 = .ok (.getfield 174, 3) := by decide +kernel
theorem dX12_prefix_27 : decode cX12_prefix 27 = .ok (.iload_n 2, 1) := by decide +kernel
theorem dX12_prefix_28 : decode cX12_prefix 28 = .ok (.iaload, 1) := by decide +kernel
theorem dX12_prefix_29 : decode cX12_prefix 29 = .ok (.invokestatic 7, 3) := by decide +kernel
theorem dX12_prefix_32 : decode cX12_prefix 32 = .ok (.ifCond .ne 6, 3) := by decide +kernel
theorem dX12_prefix_35 : decode cX12_prefix 35 = .ok (.bipush (-4), 2) := by decide +kernel
theorem dX12_prefix_37 : decode cX12_prefix 37 = .ok (.ireturn, 1) := by decide +kernel
theorem dX12_prefix_38 : decode cX12_prefix 38 = .ok (.aload_n 0, 1) := by decide +kernel
theorem dX12_prefix_39 : decode cX12_prefix 39 = .ok (.iload_n 1, 1) := by decide +kernel
theorem dX12_prefix_40 : decode cX12_prefix 40 = .ok (.invokevirtual 730, 3) := by decide +kernel
theorem dX12_prefix_43 : decode cX12_prefix 43 = .ok (.istore 4, 2) := by decide +kernel
theorem dX12_prefix_45 : decode cX12_prefix 45 = .ok (.iload 4, 2) := by decide +kernel
theorem dX12_prefix_47 : decode cX12_prefix 47 = .ok (.ifCond .eq 6, 3) := by decide +kernel
theorem dX12_prefix_50 : decode cX12_prefix 50 = .ok (.iload 4, 2) := by decide +kernel
theorem dX12_prefix_52 : decode cX12_prefix 52 = .ok (.ireturn, 1) := by decide +kernel
theorem dX12_prefix_53 : decode cX12_prefix 53 = .ok (.aload_n 0, 1) := by decide +kernel
theorem dX12_prefix_54 : decode cX12_prefix 54 = .ok (.invokevirtual 736, 3) := by decide +kernel
theorem dX12_prefix_57 : decode cX12_prefix 57 = .ok (.aload_n 0, 1) := by decide +kernel
theorem dX12_prefix_58 : decode cX12_prefix 58 = .ok (.getfield 271, 3) := by decide +kernel
theorem dX12_prefix_61 : decode cX12_prefix 61 = .ok (.iconst 0, 1) := by decide +kernel
theorem dX12_prefix_62 : decode cX12_prefix 62 = .ok (.baload, 1) := by decide +kernel
theorem dX12_prefix_63 : decode cX12_prefix 63 = .ok (.ifCond .ne 5, 3) := by decide +kernel
theorem dX12_prefix_66 : decode cX12_prefix 66 = .ok (.iconst (-1), 1) := by decide +kernel
theorem dX12_prefix_67 : decode cX12_prefix 67 = .ok (.ireturn, 1) := by decide +kernel
theorem dX12_prefix_68 : decode cX12_prefix 68 = .ok (.iconst 0, 1) := by decide +kernel
theorem dX12_prefix_69 : decode cX12_prefix 69 = .ok (.istore 5, 2) := by decide +kernel
theorem dX12_prefix_71 : decode cX12_prefix 71 = .ok (.iload_n 3, 1) := by decide +kernel
theorem dX12_prefix_72 : decode cX12_prefix 72 = .ok (.istore 6, 2) := by decide +kernel
theorem dX12_prefix_74 : decode cX12_prefix 74 = .ok (.iload 6, 2) := by decide +kernel
theorem dX12_prefix_76 : decode cX12_prefix 76 = .ok (.aload_n 0, 1) := by decide +kernel
theorem dX12_prefix_77 : decode cX12_prefix 77 = .ok (.getfield 174, 3) := by decide +kernel
theorem dX12_prefix_80 : decode cX12_prefix 80 = .ok (.iload_n 2, 1) := by decide +kernel
theorem dX12_prefix_81 : decode cX12_prefix 81 = .ok (.iaload, 1) := by decide +kernel
theorem dX12_prefix_82 : decode cX12_prefix 82 = .ok (.if_icmp .ge 81, 3) := by decide +kernel
theorem dX12_prefix_85 : decode cX12_prefix 85 = .ok (.aload_n 0, 1) := by decide +kernel
theorem dX12_prefix_86 : decode cX12_prefix 86 = .ok (.getfield 524, 3) := by decide +kernel
theorem dX12_prefix_89 : decode cX12_prefix 89 = .ok (.iconst 1, 1) := by decide +kernel
theorem dX12_prefix_90 : decode cX12_prefix 90 = .ok (.isub, 1) := by decide +kernel
theorem dX12_prefix_91 : decode cX12_prefix 91 = .ok (.istore 7, 2) := by decide +kernel
theorem dX12_prefix_93 : decode cX12_prefix 93 = .ok (.aload_n 0, 1) := by decide +kernel
theorem dX12_prefix_94 : decode cX12_prefix 94 = .ok (.getfield 165, 3) := by decide +kernel
theorem dX12_prefix_97 : decode cX12_prefix 97 = .ok (.iload 7, 2) := by decide +kernel
theorem dX12_prefix_99 : decode cX12_prefix 99 = .ok (.iaload, 1) := by decide +kernel
theorem dX12_prefix_100 : decode cX12_prefix 100 = .ok (.aload_n 0, 1) := by decide +kernel
theorem dX12_prefix_101 : decode cX12_prefix 101 = .ok (.getfield 177, 3) := by decide +kernel
theorem dX12_prefix_104 : decode cX12_prefix 104 = .ok (.bipush 100, 2) := by decide +kernel
theorem dX12_prefix_106 : decode cX12_prefix 106 = .ok (.iload_n 2, 1) := by decide +kernel
theorem dX12_prefix_107 : decode cX12_prefix 107 = .ok (.imul, 1) := by decide +kernel
theorem dX12_prefix_108 : decode cX12_prefix 108 = .ok (.iload 6, 2) := by decide +kernel
theorem dX12_prefix_110 : decode cX12_prefix 110 = .ok (.iadd, 1) := by decide +kernel
theorem dX12_prefix_111 : decode cX12_prefix 111 = .ok (.iaload, 1) := by decide +kernel
theorem dX12_prefix_112 : decode cX12_prefix 112 = .ok (.if_icmp .le 9, 3) := by decide +kernel
theorem dX12_prefix_115 : decode cX12_prefix 115 = .ok (.iinc 7 (-1), 3) := by decide +kernel
theorem dX12_prefix_118 : decode cX12_prefix 118 = .ok (.goto (-25), 3) := by decide +kernel
theorem dX12_prefix_121 : decode cX12_prefix 121 = .ok (.aload_n 0, 1) := by decide +kernel
theorem dX12_prefix_122 : decode cX12_prefix 122 = .ok (.getfield 284, 3) := by decide +kernel
theorem dX12_prefix_125 : decode cX12_prefix 125 = .ok (.sipush 500, 3) := by decide +kernel
theorem dX12_prefix_128 : decode cX12_prefix 128 = .ok (.iload 5, 2) := by decide +kernel
theorem dX12_prefix_130 : decode cX12_prefix 130 = .ok (.imul, 1) := by decide +kernel
theorem dX12_prefix_131 : decode cX12_prefix 131 = .ok (.aload_n 0, 1) := by decide +kernel
theorem dX12_prefix_132 : decode cX12_prefix 132 = .ok (.getfield 280, 3) := by decide +kernel
theorem dX12_prefix_135 : decode cX12_prefix 135 = .ok (.iload 7, 2) := by decide +kernel
theorem dX12_prefix_137 : decode cX12_prefix 137 = .ok (.iaload, 1) := by decide +kernel
theorem dX12_prefix_138 : decode cX12_prefix 138 = .ok (.iadd, 1) := by decide +kernel
theorem dX12_prefix_139 : decode cX12_prefix 139 = .ok (.iaload, 1) := by decide +kernel
theorem dX12_prefix_140 : decode cX12_prefix 140 = .ok (.istore 5, 2) := by decide +kernel
theorem dX12_prefix_142 : decode cX12_prefix 142 = .ok (.aload_n 0, 1) := by decide +kernel
theorem dX12_prefix_143 : decode cX12_prefix 143 = .ok (.getfield 271, 3) := by decide +kernel
theorem dX12_prefix_146 : decode cX12_prefix 146 = .ok (.iload 5, 2) := by decide +kernel
theorem dX12_prefix_148 : decode cX12_prefix 148 = .ok (.baload, 1) := by decide +kernel
theorem dX12_prefix_149 : decode cX12_prefix 149 = .ok (.ifCond .ne 8, 3) := by decide +kernel
theorem dX12_prefix_152 : decode cX12_prefix 152 = .ok (.iload 6, 2) := by decide +kernel
theorem dX12_prefix_154 : decode cX12_prefix 154 = .ok (.iload_n 3, 1) := by decide +kernel
theorem dX12_prefix_155 : decode cX12_prefix 155 = .ok (.isub, 1) := by decide +kernel
theorem dX12_prefix_156 : decode cX12_prefix 156 = .ok (.ireturn, 1) := by decide +kernel
theorem dX12_prefix_157 : decode cX12_prefix 157 = .ok (.iinc 6 1, 3) := by decide +kernel
theorem dX12_prefix_160 : decode cX12_prefix 160 = .ok (.goto (-86), 3) := by decide +kernel
theorem dX12_prefix_163 : decode cX12_prefix 163 = .ok (.aload_n 0, 1) := by decide +kernel
theorem dX12_prefix_164 : decode cX12_prefix 164 = .ok (.getfield 174, 3) := by decide +kernel
theorem dX12_prefix_167 : decode cX12_prefix 167 = .ok (.iload_n 2, 1) := by decide +kernel
theorem dX12_prefix_168 : decode cX12_prefix 168 = .ok (.iaload, 1) := by decide +kernel
theorem dX12_prefix_169 : decode cX12_prefix 169 = .ok (.iload_n 3, 1) := by decide +kernel
theorem dX12_prefix_170 : decode cX12_prefix 170 = .ok (.isub, 1) := by decide +kernel
theorem dX12_prefix_171 : decode cX12_prefix 171 = .ok (.ireturn, 1) := by decide +kernel
theorem dX12_print_0 : decode cX12_print 0 = .ok (.aload_n 0, 1) := by decide +kernel
theorem dX12_print_1 : decode cX12_print 1 = .ok (.iconst 0, 1) := by decide +kernel
theorem dX12_print_2 : decode cX12_print 2 = .ok (.putfield 1, 3) := by decide +kernel
theorem dX12_print_5 : decode cX12_print 5 = .ok (.aload_n 0, 1) := by decide +kernel
theorem dX12_print_6 : decode cX12_print 6 = .ok (.iload_n 1, 1) := by decide +kernel
theorem dX12_print_7 : decode cX12_print 7 = .ok (.invokevirtual 459, 3) := by decide +kernel
theorem dX12_print_10 : decode cX12_print 10 = .ok (.ifCond .eq 6, 3) := by decide +kernel
theorem dX12_print_13 : decode cX12_print 13 = .ok (.bipush (-2), 2) := by decide +kernel
theorem dX12_print_15 : decode cX12_print 15 = .ok (.ireturn, 1) := by decide +kernel
theorem dX12_print_16 : decode cX12_print 16 = .ok (.aload_n 0, 1) := by decide +kernel
theorem dX12_print_17 : decode cX12_print 17 = .ok (.iload_n 1, 1) := by decide +kernel
theorem dX12_print_18 : decode cX12_print 18 = .ok (.iconst 0, 1) := by decide +kernel
theorem dX12_print_19 : decode cX12_print 19 = .ok (.invokevirtual 499, 3) := by decide +kernel
theorem dX12_print_22 : decode cX12_print 22 = .ok (.aload_n 0, 1) := by decide +kernel
theorem dX12_print_23 : decode cX12_print 23 = .ok (.getfield 465, 3) := by decide +kernel
theorem dX12_print_26 : decode cX12_print 26 = .ok (.sipush 400, 3) := by decide +kernel
theorem dX12_print_29 : decode cX12_print 29 = .ok (.if_icmp .le 11, 3) := by decide +kernel
theorem dX12_print_32 : decode cX12_print 32 = .ok (.aload_n 0, 1) := by decide +kernel
theorem dX12_print_33 : decode cX12_print 33 = .ok (.iconst 4, 1) := by decide +kernel
theorem dX12_print_34 : decode cX12_print 34 = .ok (.putfield 456, 3) := by decide +kernel
theorem dX12_print_37 : decode cX12_print 37 = .ok (.bipush (-9), 2) := by decide +kernel
theorem dX12_print_39 : decode cX12_print 39 = .ok (.ireturn, 1) := by decide +kernel
theorem dX12_print_40 : decode cX12_print 40 = .ok (.iconst 0, 1) := by decide +kernel
theorem dX12_print_41 : decode cX12_print 41 = .ok (.istore_n 2, 1) := by decide +kernel
theorem dX12_print_42 : decode cX12_print 42 = .ok (.iload_n 2, 1) := by decide +kernel
theorem dX12_print_43 : decode cX12_print 43 = .ok (.aload_n 0, 1) := by decide +kernel
theorem dX12_print_44 : decode cX12_print 44 = .ok (.getfield 465, 3) := by decide +kernel
theorem dX12_print_47 : decode cX12_print 47 = .ok (.if_icmp .ge 21, 3) := by decide +kernel
theorem dX12_print_50 : decode cX12_print 50 = .ok (.aload_n 0, 1) := by decide +kernel
theorem dX12_print_51 : decode cX12_print 51 = .ok (.getfield 155, 3) := by decide +kernel
theorem dX12_print_54 : decode cX12_print 54 = .ok (.iload_n 2, 1) := by decide +kernel
theorem dX12_print_55 : decode cX12_print 55 = .ok (.aload_n 0, 1) := by decide +kernel
theorem dX12_print_56 : decode cX12_print 56 = .ok (.getfield 149, 3) := by decide +kernel
theorem dX12_print_59 : decode cX12_print 59 = .ok (.iload_n 2, 1) := by decide +kernel
theorem dX12_print_60 : decode cX12_print 60 = .ok (.iaload, 1) := by decide +kernel
theorem dX12_print_61 : decode cX12_print 61 = .ok (.iastore, 1) := by decide +kernel
theorem dX12_print_62 : decode cX12_print 62 = .ok (.iinc 2 1, 3) := by decide +kernel
theorem dX12_print_65 : decode cX12_print 65 = .ok (.goto (-23), 3) := by decide +kernel
theorem dX12_print_68 : decode cX12_print 68 = .ok (.aload_n 0, 1) := by decide +kernel
theorem dX12_print_69 : decode cX12_print 69 = .ok (.aload_n 0, 1) := by decide +kernel
theorem dX12_print_70 : decode cX12_print 70 = .ok (.getfield 465, 3) := by decide +kernel
theorem dX12_print_73 : decode cX12_print 73 = .ok (.putfield 502, 3) := by decide +kernel
theorem dX12_print_76 : decode cX12_print 76 = .ok (.aload_n 0, 1) := by decide +kernel
theorem dX12_print_77 : decode cX12_print 77 = .ok (.iconst 0, 1) := by decide +kernel
theorem dX12_print_78 : decode cX12_print 78 = .ok (.putfield 505, 3) := by decide +kernel
theorem dX12_print_81 : decode cX12_print 81 = .ok (.aload_n 0, 1) := by decide +kernel
theorem dX12_print_82 : decode cX12_print 82 = .ok (.getfield 502, 3) := by decide +kernel
theorem dX12_print_85 : decode cX12_print 85 = .ok (.ireturn, 1) := by decide +kernel
theorem dX12_printFrom_0 : decode cX12_printFrom 0 = .ok (.sipush 220, 3) := by decide +kernel
theorem dX12_printFrom_3 : decode cX12_printFrom 3 = .ok (.iload_n 1, 1) := by decide +kernel
theorem dX12_printFrom_4 : decode cX12_printFrom 4 = .ok (.imul, 1) := by decide +kernel
theorem dX12_printFrom_5 : decode cX12_printFrom 5 = .ok (.istore_n 3, 1) := by decide +kernel
theorem dX12_printFrom_6 : decode cX12_printFrom 6 = .ok (.aload_n 0, 1) := by decide +kernel
theorem dX12_printFrom_7 : decode cX12_printFrom 7 = .ok (.iconst 0, 1) := by decide +kernel
theorem dX12_printFrom_8 : decode cX12_printFrom 8 = .ok (.putfield 465, 3) := by decide +kernel
theorem dX12_printFrom_11 : decode cX12_printFrom 11 = .ok (.aload_n 0, 1) := by decide +kernel
theorem dX12_printFrom_12 : decode cX12_printFrom 12 = .ok (.iconst (-1), 1) := by decide +kernel
theorem dX12_printFrom_13 : decode cX12_printFrom 13 = .ok (.putfield 478, 3) := by decide +kernel
theorem dX12_printFrom_16 : decode cX12_printFrom 16 = .ok (.aload_n 0, 1) := by decide +kernel
theorem dX12_printFrom_17 : decode cX12_printFrom 17 = .ok (.getfield 143, 3) := by decide +kernel
theorem dX12_printFrom_20 : decode cX12_printFrom 20 = .ok (.iconst 0, 1) := by decide +kernel
theorem dX12_printFrom_21 : decode cX12_printFrom 21 = .ok (.iload_n 2, 1) := by decide +kernel
theorem dX12_printFrom_22 : decode cX12_printFrom 22 = .ok (.iastore, 1) := by decide +kernel
theorem dX12_printFrom_23 : decode cX12_printFrom 23 = .ok (.aload_n 0, 1) := by decide +kernel
theorem dX12_printFrom_24 : decode cX12_printFrom 24 = .ok (.getfield 146, 3) := by decide +kernel
theorem dX12_printFrom_27 : decode cX12_printFrom 27 = .ok (.iconst 0, 1) := by decide +kernel
theorem dX12_printFrom_28 : decode cX12_printFrom 28 = .ok (.iconst (-1), 1) := by decide +kernel
theorem dX12_printFrom_29 : decode cX12_printFrom 29 = .ok (.iastore, 1) := by decide +kernel
theorem dX12_printFrom_30 : decode cX12_printFrom 30 = .ok (.iconst 1, 1) := by decide +kernel
theorem dX12_printFrom_31 : decode cX12_printFrom 31 = .ok (.istore 4, 2) := by decide +kernel
theorem dX12_printFrom_33 : decode cX12_printFrom 33 = .ok (.iload 4, 2) := by decide +kernel
theorem dX12_printFrom_35 : decode cX12_printFrom 35 = .ok (.ifCond .le 155, 3) := by decide +kernel
theorem dX12_printFrom_38 : decode cX12_printFrom 38 = .ok (.aload_n 0, 1) := by decide +kernel
theorem dX12_printFrom_39 : decode cX12_printFrom 39 = .ok (.getfield 143, 3) := by decide +kernel
theorem dX12_printFrom_42 : decode cX12_printFrom 42 = .ok (.iload 4, 2) := by decide +kernel
theorem dX12_printFrom_44 : decode cX12_printFrom 44 = .ok (.iconst 1, 1) := by decide +kernel
theorem dX12_printFrom_45 : decode cX12_printFrom 45 = .ok (.isub, 1) := by decide +kernel
theorem dX12_printFrom_46 : decode cX12_printFrom 46 = .ok (.iaload, 1) := by decide +kernel
theorem dX12_printFrom_47 : decode cX12_printFrom 47 = .ok (.istore 5, 2) := by decide +kernel
theorem dX12_printFrom_49 : decode cX12_printFrom 49 = .ok (.aload_n 0, 1) := by decide +kernel
theorem dX12_printFrom_50 : decode cX12_printFrom 50 = .ok (.getfield 146, 3) := by decide +kernel
theorem dX12_printFrom_53 : decode cX12_printFrom 53 = .ok (.iload 4, 2) := by decide +kernel
theorem dX12_printFrom_55 : decode cX12_printFrom 55 = .ok (.iconst 1, 1) := by decide +kernel
theorem dX12_printFrom_56 : decode cX12_printFrom 56 = .ok (.isub, 1) := by decide +kernel
theorem dX12_printFrom_57 : decode cX12_printFrom 57 = .ok (.iaload, 1) := by decide +kernel
theorem dX12_printFrom_58 : decode cX12_printFrom 58 = .ok (.iconst (-1), 1) := by decide +kernel
theorem dX12_printFrom_59 : decode cX12_printFrom 59 = .ok (.if_icmp .ne 23, 3) := by decide +kernel
theorem dX12_printFrom_62 : decode cX12_printFrom 62 = .ok (.aload_n 0, 1) := by decide +kernel
theorem dX12_printFrom_63 : decode cX12_printFrom 63 = .ok (.iload_n 1, 1) := by decide +kernel
theorem dX12_printFrom_64 : decode cX12_printFrom 64 = .ok (.iload 5, 2) := by decide +kernel
theorem dX12_printFrom_66 : decode cX12_printFrom 66 = .ok (.invokevirtual 493, 3) := by decide +kernel
theorem dX12_printFrom_69 : decode cX12_printFrom 69 = .ok (.aload_n 0, 1) := by decide +kernel
theorem dX12_printFrom_70 : decode cX12_printFrom 70 = .ok (.getfield 146, 3) := by decide +kernel
theorem dX12_printFrom_73 : decode cX12_printFrom 73 = .ok (.iload 4, 2) := by decide +kernel
theorem dX12_printFrom_75 : decode cX12_printFrom 75 = .ok (.iconst 1, 1) := by decide +kernel
theorem dX12_printFrom_76 : decode cX12_printFrom 76 = .ok (.isub, 1) := by decide +kernel
theorem dX12_printFrom_77 : decode cX12_printFrom 77 = .ok (.iload 5, 2) := by decide +kernel
theorem dX12_printFrom_79 : decode cX12_printFrom 79 = .ok (.iconst 1, 1) := by decide +kernel
theorem dX12_printFrom_80 : decode cX12_printFrom 80 = .ok (.iadd, 1) := by decide +kernel
theorem dX12_printFrom_81 : decode cX12_printFrom 81 = .ok (.iastore, 1) := by decide +kernel
theorem dX12_printFrom_82 : decode cX12_printFrom 82 = .ok (.aload_n 0, 1) := by decide +kernel
theorem dX12_printFrom_83 : decode cX12_printFrom 83 = .ok (.getfield 146, 3) := by decide +kernel
theorem dX12_printFrom_86 : decode cX12_printFrom 86 = .ok (.iload 4, 2) := by decide +kernel
theorem dX12_printFrom_88 : decode cX12_printFrom 88 = .ok (.iconst 1, 1) := by decide +kernel
theorem dX12_printFrom_89 : decode cX12_printFrom 89 = .ok (.isub, 1) := by decide +kernel
theorem dX12_printFrom_90 : decode cX12_printFrom 90 = .ok (.iaload, 1) := by decide +kernel
theorem dX12_printFrom_91 : decode cX12_printFrom 91 = .ok (.istore 6, 2) := by decide +kernel
theorem dX12_printFrom_93 : decode cX12_printFrom 93 = .ok (.iload 6, 2) := by decide +kernel
theorem dX12_printFrom_95 : decode cX12_printFrom 95 = .ok (.aload_n 0, 1) := by decide +kernel
theorem dX12_printFrom_96 : decode cX12_printFrom 96 = .ok (.getfield 62, 3) := by decide +kernel
theorem dX12_printFrom_99 : decode cX12_printFrom 99 = .ok (.iload_n 3, 1) := by decide +kernel
theorem dX12_printFrom_100 : decode cX12_printFrom 100 = .ok (.iload 5, 2) := by decide +kernel
theorem dX12_printFrom_102 : decode cX12_printFrom 102 = .ok (.iadd, 1) := by decide +kernel
theorem dX12_printFrom_103 : decode cX12_printFrom 103 = .ok (.iaload, 1) := by decide +kernel
theorem dX12_printFrom_104 : decode cX12_printFrom 104 = .ok (.if_icmp .ge 73, 3) := by decide +kernel
theorem dX12_printFrom_107 : decode cX12_printFrom 107 = .ok (.aload_n 0, 1) := by decide +kernel
theorem dX12_printFrom_108 : decode cX12_printFrom 108 = .ok (.getfield 44, 3) := by decide +kernel
theorem dX12_printFrom_111 : decode cX12_printFrom 111 = .ok (.iload_n 3, 1) := by decide +kernel
theorem dX12_printFrom_112 : decode cX12_printFrom 112 = .ok (.iload 5, 2) := by decide +kernel
theorem dX12_printFrom_114 : decode cX12_printFrom 114 = .ok (.iadd, 1) := by decide +kernel
theorem dX12_printFrom_115 : decode cX12_printFrom 115 = .ok (.iaload, 1) := by decide +kernel
theorem dX12_printFrom_116 : decode cX12_printFrom 116 = .ok (.bipush 6, 2) := by decide +kernel
theorem dX12_printFrom_118 : decode cX12_printFrom 118 = .ok (.if_icmp .ne 18, 3) := by decide +kernel
theorem dX12_printFrom_121 : decode cX12_printFrom 121 = .ok (.iload 6, 2) := by decide +kernel
theorem dX12_printFrom_123 : decode cX12_printFrom 123 = .ok (.iload 5, 2) := by decide +kernel
theorem dX12_printFrom_125 : decode cX12_printFrom 125 = .ok (.iconst 1, 1) := by decide +kernel
theorem dX12_printFrom_126 : decode cX12_printFrom 126 = .ok (.iadd, 1) := by decide +kernel
theorem dX12_printFrom_127 : decode cX12_printFrom 127 = .ok (.if_icmp .le 9, 3) := by decide +kernel
theorem dX12_printFrom_130 : decode cX12_printFrom 130 = .ok (.aload_n 0, 1) := by decide +kernel
theorem dX12_printFrom_131 : decode cX12_printFrom 131 = .ok (.bipush 124, 2) := by decide +kernel
theorem dX12_printFrom_133 : decode cX12_printFrom 133 = .ok (.invokevirtual 468, 3) := by decide +kernel
theorem dX12_printFrom_136 : decode cX12_printFrom 136 = .ok (.aload_n 0, 1) := by decide +kernel
theorem dX12_printFrom_137 : decode cX12_printFrom 137 = .ok (.getfield 146, 3) := by decide +kernel
theorem dX12_printFrom_140 : decode cX12_printFrom 140 = .ok (.iload 4, 2) := by decide +kernel
theorem dX12_printFrom_142 : decode cX12_printFrom 142 = .ok (.iconst 1, 1) := by decide +kernel
theorem dX12_printFrom_143 : decode cX12_printFrom 143 = .ok (.isub, 1) := by decide +kernel
theorem dX12_printFrom_144 : decode cX12_printFrom 144 = .ok (.aload_n 0, 1) := by decide +kernel
theorem dX12_printFrom_145 : decode cX12_printFrom 145 = .ok (.getfield 62, 3) := by decide +kernel
theorem dX12_printFrom_148 : decode cX12_printFrom 148 = .ok (.iload_n 3, 1) := by decide +kernel
theorem dX12_printFrom_149 : decode cX12_printFrom 149 = .ok (.iload 6, 2) := by decide +kernel
theorem dX12_printFrom_151 : decode cX12_printFrom 151 = .ok (.iadd, 1) := by decide +kernel
theorem dX12_printFrom_152 : decode cX12_printFrom 152 = .ok (.iaload, 1) := by decide +kernel
theorem dX12_printFrom_153 : decode cX12_printFrom 153 = .ok (.iastore, 1) := by decide +kernel
theorem dX12_printFrom_154 : decode cX12_printFrom 154 = .ok (.aload_n 0, 1) := by decide +kernel
theorem dX12_printFrom_155 : decode cX12_printFrom 155 = .ok (.getfield 143, 3) := by decide +kernel
theorem dX12_printFrom_158 : decode cX12_printFrom 158 = .ok (.iload 4, 2) := by decide +kernel
theorem dX12_printFrom_160 : decode cX12_printFrom 160 = .ok (.iload 6, 2) := by decide +kernel
theorem dX12_printFrom_162 : decode cX12_printFrom 162 = .ok (.iastore, 1) := by decide +kernel
theorem dX12_printFrom_163 : decode cX12_printFrom 163 = .ok (.aload_n 0, 1) := by decide +kernel
theorem dX12_printFrom_164 : decode cX12_printFrom 164 = .ok (.getfield 146, 3) := by decide +kernel
theorem dX12_printFrom_167 : decode cX12_printFrom 167 = .ok (.iload 4, 2) := by decide +kernel
theorem dX12_printFrom_169 : decode cX12_printFrom 169 = .ok (.iconst (-1), 1) := by decide +kernel
theorem dX12_printFrom_170 : decode cX12_printFrom 170 = .ok (.iastore, 1) := by decide +kernel
theorem dX12_printFrom_171 : decode cX12_printFrom 171 = .ok (.iinc 4 1, 3) := by decide +kernel
theorem dX12_printFrom_174 : decode cX12_printFrom 174 = .ok (.goto 13, 3) := by decide +kernel
theorem dX12_printFrom_177 : decode cX12_printFrom 177 = .ok (.aload_n 0, 1) := by decide +kernel
theorem dX12_printFrom_178 : decode cX12_printFrom 178 = .ok (.iload_n 1, 1) := by decide +kernel
theorem dX12_printFrom_179 : decode cX12_printFrom 179 = .ok (.iload 5, 2) := by decide +kernel
theorem dX12_printFrom_181 : decode cX12_printFrom 181 = .ok (.invokevirtual 496, 3) := by decide +kernel
theorem dX12_printFrom_184 : decode cX12_printFrom 184 = .ok (.iinc 4 (-1), 3) := by decide +kernel
theorem dX12_printFrom_187 : decode cX12_printFrom 187 = .ok (.goto (-154), 3) := by decide +kernel
theorem dX12_printFrom_190 : decode cX12_printFrom 190 = .ok (.return_, 1) := by decide +kernel
theorem dX12_printHead_0 : decode cX12_printHead 0 = .ok (.sipush 220, 3) := by decide +kernel
theorem dX12_printHead_3 : decode cX12_printHead 3 = .ok (.iload_n 1, 1) := by decide +kernel
theorem dX12_printHead_4 : decode cX12_printHead 4 = .ok (.imul, 1) := by decide +kernel
theorem dX12_printHead_5 : decode cX12_printHead 5 = .ok (.iload_n 2, 1) := by decide +kernel
theorem dX12_printHead_6 : decode cX12_printHead 6 = .ok (.iadd, 1) := by decide +kernel
theorem dX12_printHead_7 : decode cX12_printHead 7 = .ok (.istore_n 3, 1) := by decide +kernel
theorem dX12_printHead_8 : decode cX12_printHead 8 = .ok (.aload_n 0, 1) := by decide +kernel
theorem dX12_printHead_9 : decode cX12_printHead 9 = .ok (.getfield 47, 3) := by decide +kernel
theorem dX12_printHead_12 : decode cX12_printHead 12 = .ok (.iload_n 3, 1) := by decide +kernel
theorem dX12_printHead_13 : decode cX12_printHead 13 = .ok (.iaload, 1) := by decide +kernel
theorem dX12_printHead_14 : decode cX12_printHead 14 = .ok (.istore 4, 2) := by decide +kernel
theorem dX12_printHead_16 : decode cX12_printHead 16 = .ok (.aload_n 0, 1) := by decide +kernel
theorem dX12_printHead_17 : decode cX12_printHead 17 = .ok (.iload_n 1, 1) := by decide +kernel
theorem dX12_printHead_18 : decode cX12_printHead 18 = .ok (.iload_n 2, 1) := by decide +kernel
theorem dX12_printHead_19 : decode cX12_printHead 19 = .ok (.invokevirtual 474, 3) := by decide +kernel
theorem dX12_printHead_22 : decode cX12_printHead 22 = .ok (.ifCond .eq 15, 3) := by decide +kernel
theorem dX12_printHead_25 : decode cX12_printHead 25 = .ok (.aload_n 0, 1) := by decide +kernel
theorem dX12_printHead_26 : decode cX12_printHead 26 = .ok (.bipush 40, 2) := by decide +kernel
theorem dX12_printHead_28 : decode cX12_printHead 28 = .ok (.invokevirtual 468, 3) := by decide +kernel
theorem dX12_printHead_31 : decode cX12_printHead 31 = .ok (.aload_n 0, 1) := by decide +kernel
theorem dX12_printHead_32 : decode cX12_printHead 32 = .ok (.bipush 58, 2) := by decide +kernel
theorem dX12_printHead_34 : decode cX12_printHead 34 = .ok (.invokevirtual 468, 3) := by decide +kernel
theorem dX12_printHead_37 : decode cX12_printHead 37 = .ok (.aload_n 0, 1) := by decide +kernel
theorem dX12_printHead_38 : decode cX12_printHead 38 = .ok (.getfield 44, 3) := by decide +kernel
theorem dX12_printHead_41 : decode cX12_printHead 41 = .ok (.iload_n 3, 1) := by decide +kernel
theorem dX12_printHead_42 : decode cX12_printHead 42 = .ok (.iaload, 1) := by decide +kernel
theorem dX12_printHead_43 : decode cX12_printHead 43 = .ok (.tableswitch 439 0 11 #[61, 124, 133, 237, 290, 439, 439, 439, 308, 362, 409, 424], 61) := by decide +kernel
theorem dX12_printHead_104 : decode cX12_printHead 104 = .ok (.iload 4, 2) := by decide +kernel
theorem dX12_printHead_106 : decode cX12_printHead 106 = .ok (.bipush 32, 2) := by decide +kernel
theorem dX12_printHead_108 : decode cX12_printHead 108 = .ok (.bipush 126, 2) := by decide +kernel
theorem dX12_printHead_110 : decode cX12_printHead 110 = .ok (.invokestatic 7, 3) := by decide +kernel
theorem dX12_printHead_113 : decode cX12_printHead 113 = .ok (.ifCond .eq 22, 3) := by decide +kernel
theorem dX12_printHead_116 : decode cX12_printHead 116 = .ok (.aload_n 0, 1) := by decide +kernel
theorem dX12_printHead_117 : decode cX12_printHead 117 = .ok (.getfield 465, 3) := by decide +kernel
theorem dX12_printHead_120 : decode cX12_printHead 120 = .ok (.aload_n 0, 1) := by decide +kernel
theorem dX12_printHead_121 : decode cX12_printHead 121 = .ok (.getfield 478, 3) := by decide +kernel
theorem dX12_printHead_124 : decode cX12_printHead 124 = .ok (.if_icmp .ne 20, 3) := by decide +kernel
theorem dX12_printHead_127 : decode cX12_printHead 127 = .ok (.iload 4, 2) := by decide +kernel
theorem dX12_printHead_129 : decode cX12_printHead 129 = .ok (.invokestatic 481, 3) := by decide +kernel
theorem dX12_printHead_132 : decode cX12_printHead 132 = .ok (.ifCond .eq 12, 3) := by decide +kernel
theorem dX12_printHead_135 : decode cX12_printHead 135 = .ok (.aload_n 0, 1) := by decide +kernel
theorem dX12_printHead_136 : decode cX12_printHead 136 = .ok (.iload 4, 2) := by decide +kernel
theorem dX12_printHead_138 : decode cX12_printHead 138 = .ok (.invokevirtual 471, 3) := by decide +kernel
theorem dX12_printHead_141 : decode cX12_printHead 141 = .ok (.goto 341, 3) := by decide +kernel
theorem dX12_printHead_144 : decode cX12_printHead 144 = .ok (.iload 4, 2) := by decide +kernel
theorem dX12_printHead_146 : decode cX12_printHead 146 = .ok (.invokestatic 484, 3) := by decide +kernel
theorem dX12_printHead_149 : decode cX12_printHead 149 = .ok (.ifCond .ne 9, 3) := by decide +kernel
theorem dX12_printHead_152 : decode cX12_printHead 152 = .ok (.aload_n 0, 1) := by decide +kernel
theorem dX12_printHead_153 : decode cX12_printHead 153 = .ok (.bipush 92, 2) := by decide +kernel
theorem dX12_printHead_155 : decode cX12_printHead 155 = .ok (.invokevirtual 468, 3) := by decide +kernel
theorem dX12_printHead_158 : decode cX12_printHead 158 = .ok (.aload_n 0, 1) := by decide +kernel
theorem dX12_printHead_159 : decode cX12_printHead 159 = .ok (.iload 4, 2) := by decide +kernel
theorem dX12_printHead_161 : decode cX12_printHead 161 = .ok (.invokevirtual 468, 3) := by decide +kernel
theorem dX12_printHead_164 : decode cX12_printHead 164 = .ok (.goto 318, 3) := by decide +kernel
theorem dX12_printHead_167 : decode cX12_printHead 167 = .ok (.aload_n 0, 1) := by decide +kernel
theorem dX12_printHead_168 : decode cX12_printHead 168 = .ok (.bipush 46, 2) := by decide +kernel
theorem dX12_printHead_170 : decode cX12_printHead 170 = .ok (.invokevirtual 468, 3) := by decide +kernel
theorem dX12_printHead_173 : decode cX12_printHead 173 = .ok (.goto 309, 3) := by decide +kernel
theorem dX12_printHead_176 : decode cX12_printHead 176 = .ok (.aload_n 0, 1) := by decide +kernel
theorem dX12_printHead_177 : decode cX12_printHead 177 = .ok (.bipush 91, 2) := by decide +kernel
theorem dX12_printHead_179 : decode cX12_printHead 179 = .ok (.invokevirtual 468, 3) := by decide +kernel
theorem dX12_printHead_182 : decode cX12_printHead 182 = .ok (.iload 4, 2) := by decide +kernel
theorem dX12_printHead_184 : decode cX12_printHead 184 = .ok (.iconst 1, 1) := by decide +kernel
theorem dX12_printHead_185 : decode cX12_printHead 185 = .ok (.if_icmp .ne 9, 3) := by decide +kernel
theorem dX12_printHead_188 : decode cX12_printHead 188 = .ok (.aload_n 0, 1) := by decide +kernel
theorem dX12_printHead_189 : decode cX12_printHead 189 = .ok (.bipush 94, 2) := by decide +kernel
theorem dX12_printHead_191 : decode cX12_printHead 191 = .ok (.invokevirtual 468, 3) := by decide +kernel
theorem dX12_printHead_194 : decode cX12_printHead 194 = .ok (.aload_n 0, 1) := by decide +kernel
theorem dX12_printHead_195 : decode cX12_printHead 195 = .ok (.getfield 71, 3) := by decide +kernel
theorem dX12_printHead_198 : decode cX12_printHead 198 = .ok (.iload_n 3, 1) := by decide +kernel
theorem dX12_printHead_199 : decode cX12_printHead 199 = .ok (.iaload, 1) := by decide +kernel
theorem dX12_printHead_200 : decode cX12_printHead 200 = .ok (.istore 5, 2) := by decide +kernel
theorem dX12_printHead_202 : decode cX12_printHead 202 = .ok (.iload 5, 2) := by decide +kernel
theorem dX12_printHead_204 : decode cX12_printHead 204 = .ok (.aload_n 0, 1) := by decide +kernel
theorem dX12_printHead_205 : decode cX12_printHead 205 = .ok (.getfield 71, 3) := by decide +kernel
theorem dX12_printHead_208 : decode cX12_printHead 208 = .ok (.iload_n 3, 1) := by decide +kernel
theorem dX12_printHead_209 : decode cX12_printHead 209 = .ok (.iaload, 1) := by decide +kernel
theorem dX12_printHead_210 : decode cX12_printHead 210 = .ok (.aload_n 0, 1) := by decide +kernel
theorem dX12_printHead_211 : decode cX12_printHead 211 = .ok (.getfield 59, 3) := by decide +kernel
theorem dX12_printHead_214 : decode cX12_printHead 214 = .ok (.iload_n 3, 1) := by decide +kernel
theorem dX12_printHead_215 : decode cX12_printHead 215 = .ok (.iaload, 1) := by decide +kernel
theorem dX12_printHead_216 : decode cX12_printHead 216 = .ok (.iadd, 1) := by decide +kernel
theorem dX12_printHead_217 : decode cX12_printHead 217 = .ok (.if_icmp .ge 54, 3) := by decide +kernel
theorem dX12_printHead_220 : decode cX12_printHead 220 = .ok (.aload_n 0, 1) := by decide +kernel
theorem dX12_printHead_221 : decode cX12_printHead 221 = .ok (.aload_n 0, 1) := by decide +kernel
theorem dX12_printHead_222 : decode cX12_printHead 222 = .ok (.getfield 80, 3) := by decide +kernel
theorem dX12_printHead_225 : decode cX12_printHead 225 = .ok (.iload 5, 2) := by decide +kernel
theorem dX12_printHead_227 : decode cX12_printHead 227 = .ok (.iaload, 1) := by decide +kernel
theorem dX12_printHead_228 : decode cX12_printHead 228 = .ok (.invokevirtual 487, 3) := by decide +kernel
theorem dX12_printHead_231 : decode cX12_printHead 231 = .ok (.aload_n 0, 1) := by decide +kernel
theorem dX12_printHead_232 : decode cX12_printHead 232 = .ok (.getfield 83, 3) := by decide +kernel
theorem dX12_printHead_235 : decode cX12_printHead 235 = .ok (.iload 5, 2) := by decide +kernel
theorem dX12_printHead_237 : decode cX12_printHead 237 = .ok (.iaload, 1) := by decide +kernel
theorem dX12_printHead_238 : decode cX12_printHead 238 = .ok (.aload_n 0, 1) := by decide +kernel
theorem dX12_printHead_239 : decode cX12_printHead 239 = .ok (.getfield 80, 3) := by decide +kernel
theorem dX12_printHead_242 : decode cX12_printHead 242 = .ok (.iload 5, 2) := by decide +kernel
theorem dX12_printHead_244 : decode cX12_printHead 244 = .ok (.iaload, 1) := by decide +kernel
theorem dX12_printHead_245 : decode cX12_printHead 245 = .ok (.if_icmp .le 20, 3) := by decide +kernel
theorem dX12_printHead_248 : decode cX12_printHead 248 = .ok (.aload_n 0, 1) := by decide +kernel
theorem dX12_printHead_249 : decode cX12_printHead 249 = .ok (.bipush 45, 2) := by decide +kernel
theorem dX12_printHead_251 : decode cX12_printHead 251 = .ok (.invokevirtual 468, 3) := by decide +kernel
theorem dX12_printHead_254 : decode cX12_printHead 254 = .ok (.aload_n 0, 1) := by decide +kernel
theorem dX12_printHead_255 : decode cX12_printHead 255 = .ok (.aload_n 0, 1) := by decide +kernel
theorem dX12_printHead_256 : decode cX12_printHead 256 = .ok (.getfield 83, 3) := by decide +kernel
theorem dX12_printHead_259 : decode cX12_printHead 259 = .ok (.iload 5, 2) := by decide +kernel
theorem dX12_printHead_261 : decode cX12_printHead 261 = .ok (.iaload, 1) := by decide +kernel
theorem dX12_printHead_262 : decode cX12_printHead 262 = .ok (.invokevirtual 487, 3) := by decide +kernel
theorem dX12_printHead_265 : decode cX12_printHead 265 = .ok (.iinc 5 1, 3) := by decide +kernel
theorem dX12_printHead_268 : decode cX12_printHead 268 = .ok (.goto (-66), 3) := by decide +kernel
theorem dX12_printHead_271 : decode cX12_printHead 271 = .ok (.aload_n 0, 1) := by decide +kernel
theorem dX12_printHead_272 : decode cX12_printHead 272 = .ok (.bipush 93, 2) := by decide +kernel
theorem dX12_printHead_274 : decode cX12_printHead 274 = .ok (.invokevirtual 468, 3) := by decide +kernel
theorem dX12_printHead_277 : decode cX12_printHead 277 = .ok (.goto 205, 3) := by decide +kernel
theorem dX12_printHead_280 : decode cX12_printHead 280 = .ok (.iload 4, 2) := by decide +kernel
theorem dX12_printHead_282 : decode cX12_printHead 282 = .ok (.iconst 1, 1) := by decide +kernel
theorem dX12_printHead_283 : decode cX12_printHead 283 = .ok (.if_icmp .le 9, 3) := by decide +kernel
theorem dX12_printHead_286 : decode cX12_printHead 286 = .ok (.aload_n 0, 1) := by decide +kernel
theorem dX12_printHead_287 : decode cX12_printHead 287 = .ok (.bipush 92, 2) := by decide +kernel
theorem dX12_printHead_289 : decode cX12_printHead 289 = .ok (.invokevirtual 468, 3) := by decide +kernel
theorem dX12_printHead_292 : decode cX12_printHead 292 = .ok (.aload_n 0, 1) := by decide +kernel
theorem dX12_printHead_293 : decode cX12_printHead 293 = .ok (.iload 4, 2) := by decide +kernel
theorem dX12_printHead_295 : decode cX12_printHead 295 = .ok (.ifCond .ne 8, 3) := by decide +kernel
theorem dX12_printHead_298 : decode cX12_printHead 298 = .ok (.bipush 94, 2) := by decide +kernel
theorem dX12_printHead_300 : decode cX12_printHead 300 = .ok (.goto 27, 3) := by decide +kernel
theorem dX12_printHead_303 : decode cX12_printHead 303 = .ok (.iload 4, 2) := by decide +kernel
theorem dX12_printHead_305 : decode cX12_printHead 305 = .ok (.iconst 1, 1) := by decide +kernel
theorem dX12_printHead_306 : decode cX12_printHead 306 = .ok (.if_icmp .ne 8, 3) := by decide +kernel
theorem dX12_printHead_309 : decode cX12_printHead 309 = .ok (.bipush 36, 2) := by decide +kernel
theorem dX12_printHead_311 : decode cX12_printHead 311 = .ok (.goto 16, 3) := by decide +kernel
theorem dX12_printHead_314 : decode cX12_printHead 314 = .ok (.iload 4, 2) := by decide +kernel
theorem dX12_printHead_316 : decode cX12_printHead 316 = .ok (.iconst 2, 1) := by decide +kernel
theorem dX12_printHead_317 : decode cX12_printHead 317 = .ok (.if_icmp .ne 8, 3) := by decide +kernel
theorem dX12_printHead_320 : decode cX12_printHead 320 = .ok (.bipush 98, 2) := by decide +kernel
theorem dX12_printHead_322 : decode cX12_printHead 322 = .ok (.goto 5, 3) := by decide +kernel
theorem dX12_printHead_325 : decode cX12_printHead 325 = .ok (.bipush 66, 2) := by decide +kernel
theorem dX12_printHead_327 : decode cX12_printHead 327 = .ok (.invokevirtual 468, 3) := by decide +kernel
theorem dX12_printHead_330 : decode cX12_printHead 330 = .ok (.goto 152, 3) := by decide +kernel
theorem dX12_printHead_333 : decode cX12_printHead 333 = .ok (.aload_n 0, 1) := by decide +kernel
theorem dX12_printHead_334 : decode cX12_printHead 334 = .ok (.bipush 92, 2) := by decide +kernel
theorem dX12_printHead_336 : decode cX12_printHead 336 = .ok (.invokevirtual 468, 3) := by decide +kernel
theorem dX12_printHead_339 : decode cX12_printHead 339 = .ok (.aload_n 0, 1) := by decide +kernel
theorem dX12_printHead_340 : decode cX12_printHead 340 = .ok (.bipush 48, 2) := by decide +kernel
theorem dX12_printHead_342 : decode cX12_printHead 342 = .ok (.iload 4, 2) := by decide +kernel
theorem dX12_printHead_344 : decode cX12_printHead 344 = .ok (.iadd, 1) := by decide +kernel
theorem dX12_printHead_345 : decode cX12_printHead 345 = .ok (.invokevirtual 468, 3) := by decide +kernel
theorem dX12_printHead_348 : decode cX12_printHead 348 = .ok (.goto 134, 3) := by decide +kernel
theorem dX12_printHead_351 : decode cX12_printHead 351 = .ok (.aload_n 0, 1) := by decide +kernel
theorem dX12_printHead_352 : decode cX12_printHead 352 = .ok (.bipush 40, 2) := by decide +kernel
theorem dX12_printHead_354 : decode cX12_printHead 354 = .ok (.invokevirtual 468, 3) := by decide +kernel
theorem dX12_printHead_357 : decode cX12_printHead 357 = .ok (.aload_n 0, 1) := by decide +kernel
theorem dX12_printHead_358 : decode cX12_printHead 358 = .ok (.aload_n 0, 1) := by decide +kernel
theorem dX12_printHead_359 : decode cX12_printHead 359 = .ok (.getfield 465, 3) := by decide +kernel
theorem dX12_printHead_362 : decode cX12_printHead 362 = .ok (.putfield 478, 3) := by decide +kernel
theorem dX12_printHead_365 : decode cX12_printHead 365 = .ok (.aload_n 0, 1) := by decide +kernel
theorem dX12_printHead_366 : decode cX12_printHead 366 = .ok (.getfield 41, 3) := by decide +kernel
theorem dX12_printHead_369 : decode cX12_printHead 369 = .ok (.bipush 10, 2) := by decide +kernel
theorem dX12_printHead_371 : decode cX12_printHead 371 = .ok (.iload_n 1, 1) := by decide +kernel
theorem dX12_printHead_372 : decode cX12_printHead 372 = .ok (.imul, 1) := by decide +kernel
theorem dX12_printHead_373 : decode cX12_printHead 373 = .ok (.iload 4, 2) := by decide +kernel
theorem dX12_printHead_375 : decode cX12_printHead 375 = .ok (.iadd, 1) := by decide +kernel
theorem dX12_printHead_376 : decode cX12_printHead 376 = .ok (.iaload, 1) := by decide +kernel
theorem dX12_printHead_377 : decode cX12_printHead 377 = .ok (.ifCond .le 105, 3) := by decide +kernel
theorem dX12_printHead_380 : decode cX12_printHead 380 = .ok (.aload_n 0, 1) := by decide +kernel
theorem dX12_printHead_381 : decode cX12_printHead 381 = .ok (.bipush 64, 2) := by decide +kernel
theorem dX12_printHead_383 : decode cX12_printHead 383 = .ok (.invokevirtual 468, 3) := by decide +kernel
theorem dX12_printHead_386 : decode cX12_printHead 386 = .ok (.aload_n 0, 1) := by decide +kernel
theorem dX12_printHead_387 : decode cX12_printHead 387 = .ok (.aload_n 0, 1) := by decide +kernel
theorem dX12_printHead_388 : decode cX12_printHead 388 = .ok (.getfield 41, 3) := by decide +kernel
theorem dX12_printHead_391 : decode cX12_printHead 391 = .ok (.bipush 10, 2) := by decide +kernel
theorem dX12_printHead_393 : decode cX12_printHead 393 = .ok (.iload_n 1, 1) := by decide +kernel
theorem dX12_printHead_394 : decode cX12_printHead 394 = .ok (.imul, 1) := by decide +kernel
theorem dX12_printHead_395 : decode cX12_printHead 395 = .ok (.iload 4, 2) := by decide +kernel
theorem dX12_printHead_397 : decode cX12_printHead 397 = .ok (.iadd, 1) := by decide +kernel
theorem dX12_printHead_398 : decode cX12_printHead 398 = .ok (.iaload, 1) := by decide +kernel
theorem dX12_printHead_399 : decode cX12_printHead 399 = .ok (.invokevirtual 468, 3) := by decide +kernel
theorem dX12_printHead_402 : decode cX12_printHead 402 = .ok (.goto 80, 3) := by decide +kernel
theorem dX12_printHead_405 : decode cX12_printHead 405 = .ok (.aload_n 0, 1) := by decide +kernel
theorem dX12_printHead_406 : decode cX12_printHead 406 = .ok (.bipush 40, 2) := by decide +kernel
theorem dX12_printHead_408 : decode cX12_printHead 408 = .ok (.invokevirtual 468, 3) := by decide +kernel
theorem dX12_printHead_411 : decode cX12_printHead 411 = .ok (.aload_n 0, 1) := by decide +kernel
theorem dX12_printHead_412 : decode cX12_printHead 412 = .ok (.iload 4, 2) := by decide +kernel
theorem dX12_printHead_414 : decode cX12_printHead 414 = .ok (.ifCond .ne 8, 3) := by decide +kernel
theorem dX12_printHead_417 : decode cX12_printHead 417 = .ok (.bipush 61, 2) := by decide +kernel
theorem dX12_printHead_419 : decode cX12_printHead 419 = .ok (.goto 27, 3) := by decide +kernel
theorem dX12_printHead_422 : decode cX12_printHead 422 = .ok (.iload 4, 2) := by decide +kernel
theorem dX12_printHead_424 : decode cX12_printHead 424 = .ok (.iconst 1, 1) := by decide +kernel
theorem dX12_printHead_425 : decode cX12_printHead 425 = .ok (.if_icmp .ne 8, 3) := by decide +kernel
theorem dX12_printHead_428 : decode cX12_printHead 428 = .ok (.bipush 33, 2) := by decide +kernel
theorem dX12_printHead_430 : decode cX12_printHead 430 = .ok (.goto 16, 3) := by decide +kernel
theorem dX12_printHead_433 : decode cX12_printHead 433 = .ok (.iload 4, 2) := by decide +kernel
theorem dX12_printHead_435 : decode cX12_printHead 435 = .ok (.iconst 2, 1) := by decide +kernel
theorem dX12_printHead_436 : decode cX12_printHead 436 = .ok (.if_icmp .ne 8, 3) := by decide +kernel
theorem dX12_printHead_439 : decode cX12_printHead 439 = .ok (.bipush 60, 2) := by decide +kernel
theorem dX12_printHead_441 : decode cX12_printHead 441 = .ok (.goto 5, 3) := by decide +kernel
theorem dX12_printHead_444 : decode cX12_printHead 444 = .ok (.bipush 126, 2) := by decide +kernel
theorem dX12_printHead_446 : decode cX12_printHead 446 = .ok (.invokevirtual 468, 3) := by decide +kernel
theorem dX12_printHead_449 : decode cX12_printHead 449 = .ok (.goto 33, 3) := by decide +kernel
theorem dX12_printHead_452 : decode cX12_printHead 452 = .ok (.aload_n 0, 1) := by decide +kernel
theorem dX12_printHead_453 : decode cX12_printHead 453 = .ok (.bipush 40, 2) := by decide +kernel
theorem dX12_printHead_455 : decode cX12_printHead 455 = .ok (.invokevirtual 468, 3) := by decide +kernel
theorem dX12_printHead_458 : decode cX12_printHead 458 = .ok (.aload_n 0, 1) := by decide +kernel
theorem dX12_printHead_459 : decode cX12_printHead 459 = .ok (.bipush 42, 2) := by decide +kernel
theorem dX12_printHead_461 : decode cX12_printHead 461 = .ok (.invokevirtual 468, 3) := by decide +kernel
theorem dX12_printHead_464 : decode cX12_printHead 464 = .ok (.goto 18, 3) := by decide +kernel
theorem dX12_printHead_467 : decode cX12_printHead 467 = .ok (.aload_n 0, 1) := by decide +kernel
theorem dX12_printHead_468 : decode cX12_printHead 468 = .ok (.bipush 40, 2) := by decide +kernel
theorem dX12_printHead_470 : decode cX12_printHead 470 = .ok (.invokevirtual 468, 3) := by decide +kernel
theorem dX12_printHead_473 : decode cX12_printHead 473 = .ok (.aload_n 0, 1) := by decide +kernel
theorem dX12_printHead_474 : decode cX12_printHead 474 = .ok (.bipush 37, 2) := by decide +kernel
theorem dX12_printHead_476 : decode cX12_printHead 476 = .ok (.invokevirtual 468, 3) := by decide +kernel
theorem dX12_printHead_479 : decode cX12_printHead 479 = .ok (.goto 3, 3) := by decide +kernel
theorem dX12_printHead_482 : decode cX12_printHead 482 = .ok (.return_, 1) := by decide +kernel
theorem dX12_printTail_0 : decode cX12_printTail 0 = .ok (.sipush 220, 3) := by decide +kernel
theorem dX12_printTail_3 : decode cX12_printTail 3 = .ok (.iload_n 1, 1) := by decide +kernel
theorem dX12_printTail_4 : decode cX12_printTail 4 = .ok (.imul, 1) := by decide +kernel
theorem dX12_printTail_5 : decode cX12_printTail 5 = .ok (.iload_n 2, 1) := by decide +kernel
theorem dX12_printTail_6 : decode cX12_printTail 6 = .ok (.iadd, 1) := by decide +kernel
theorem dX12_printTail_7 : decode cX12_printTail 7 = .ok (.istore_n 3, 1) := by decide +kernel
theorem dX12_printTail_8 : decode cX12_printTail 8 = .ok (.aload_n 0, 1) := by decide +kernel
theorem dX12_printTail_9 : decode cX12_printTail 9 = .ok (.getfield 44, 3) := by decide +kernel
theorem dX12_printTail_12 : decode cX12_printTail 12 = .ok (.iload_n 3, 1) := by decide +kernel
theorem dX12_printTail_13 : decode cX12_printTail 13 = .ok (.iaload, 1) := by decide +kernel
theorem dX12_printTail_14 : decode cX12_printTail 14 = .ok (.bipush 7, 2) := by decide +kernel
theorem dX12_printTail_16 : decode cX12_printTail 16 = .ok (.if_icmp .ne 160, 3) := by decide +kernel
theorem dX12_printTail_19 : decode cX12_printTail 19 = .ok (.aload_n 0, 1) := by decide +kernel
theorem dX12_printTail_20 : decode cX12_printTail 20 = .ok (.getfield 50, 3) := by decide +kernel
theorem dX12_printTail_23 : decode cX12_printTail 23 = .ok (.iload_n 3, 1) := by decide +kernel
theorem dX12_printTail_24 : decode cX12_printTail 24 = .ok (.iaload, 1) := by decide +kernel
theorem dX12_printTail_25 : decode cX12_printTail 25 = .ok (.istore 4, 2) := by decide +kernel
theorem dX12_printTail_27 : decode cX12_printTail 27 = .ok (.aload_n 0, 1) := by decide +kernel
theorem dX12_printTail_28 : decode cX12_printTail 28 = .ok (.getfield 53, 3) := by decide +kernel
theorem dX12_printTail_31 : decode cX12_printTail 31 = .ok (.iload_n 3, 1) := by decide +kernel
theorem dX12_printTail_32 : decode cX12_printTail 32 = .ok (.iaload, 1) := by decide +kernel
theorem dX12_printTail_33 : decode cX12_printTail 33 = .ok (.istore 5, 2) := by decide +kernel
theorem dX12_printTail_35 : decode cX12_printTail 35 = .ok (.iload 4, 2) := by decide +kernel
theorem dX12_printTail_37 : decode cX12_printTail 37 = .ok (.ifCond .ne 18, 3) := by decide +kernel
theorem dX12_printTail_40 : decode cX12_printTail 40 = .ok (.iload 5, 2) := by decide +kernel
theorem dX12_printTail_42 : decode cX12_printTail 42 = .ok (.iconst (-1), 1) := by decide +kernel
theorem dX12_printTail_43 : decode cX12_printTail 43 = .ok (.if_icmp .ne 12, 3) := by decide +kernel
theorem dX12_printTail_46 : decode cX12_printTail 46 = .ok (.aload_n 0, 1) := by decide +kernel
theorem dX12_printTail_47 : decode cX12_printTail 47 = .ok (.bipush 42, 2) := by decide +kernel
theorem dX12_printTail_49 : decode cX12_printTail 49 = .ok (.invokevirtual 468, 3) := by decide +kernel
theorem dX12_printTail_52 : decode cX12_printTail 52 = .ok (.goto 94, 3) := by decide +kernel
theorem dX12_printTail_55 : decode cX12_printTail 55 = .ok (.iload 4, 2) := by decide +kernel
theorem dX12_printTail_57 : decode cX12_printTail 57 = .ok (.iconst 1, 1) := by decide +kernel
theorem dX12_printTail_58 : decode cX12_printTail 58 = .ok (.if_icmp .ne 18, 3) := by decide +kernel
theorem dX12_printTail_61 : decode cX12_printTail 61 = .ok (.iload 5, 2) := by decide +kernel
theorem dX12_printTail_63 : decode cX12_printTail 63 = .ok (.iconst (-1), 1) := by decide +kernel
theorem dX12_printTail_64 : decode cX12_printTail 64 = .ok (.if_icmp .ne 12, 3) := by decide +kernel
theorem dX12_printTail_67 : decode cX12_printTail 67 = .ok (.aload_n 0, 1) := by decide +kernel
theorem dX12_printTail_68 : decode cX12_printTail 68 = .ok (.bipush 43, 2) := by decide +kernel
theorem dX12_printTail_70 : decode cX12_printTail 70 = .ok (.invokevirtual 468, 3) := by decide +kernel
theorem dX12_printTail_73 : decode cX12_printTail 73 = .ok (.goto 73, 3) := by decide +kernel
theorem dX12_printTail_76 : decode cX12_printTail 76 = .ok (.iload 4, 2) := by decide +kernel
theorem dX12_printTail_78 : decode cX12_printTail 78 = .ok (.ifCond .ne 18, 3) := by decide +kernel
theorem dX12_printTail_81 : decode cX12_printTail 81 = .ok (.iload 5, 2) := by decide +kernel
theorem dX12_printTail_83 : decode cX12_printTail 83 = .ok (.iconst 1, 1) := by decide +kernel
theorem dX12_printTail_84 : decode cX12_printTail 84 = .ok (.if_icmp .ne 12, 3) := by decide +kernel
theorem dX12_printTail_87 : decode cX12_printTail 87 = .ok (.aload_n 0, 1) := by decide +kernel
theorem dX12_printTail_88 : decode cX12_printTail 88 = .ok (.bipush 63, 2) := by decide +kernel
theorem dX12_printTail_90 : decode cX12_printTail 90 = .ok (.invokevirtual 468, 3) := by decide +kernel
theorem dX12_printTail_93 : decode cX12_printTail 93 = .ok (.goto 53, 3) := by decide +kernel
theorem dX12_printTail_96 : decode cX12_printTail 96 = .ok (.aload_n 0, 1) := by decide +kernel
theorem dX12_printTail_97 : decode cX12_printTail 97 = .ok (.bipush 123, 2) := by decide +kernel
theorem dX12_printTail_99 : decode cX12_printTail 99 = .ok (.invokevirtual 468, 3) := by decide +kernel
theorem dX12_printTail_102 : decode cX12_printTail 102 = .ok (.aload_n 0, 1) := by decide +kernel
theorem dX12_printTail_103 : decode cX12_printTail 103 = .ok (.iload 4, 2) := by decide +kernel
theorem dX12_printTail_105 : decode cX12_printTail 105 = .ok (.invokevirtual 490, 3) := by decide +kernel
theorem dX12_printTail_108 : decode cX12_printTail 108 = .ok (.iload 5, 2) := by decide +kernel
theorem dX12_printTail_110 : decode cX12_printTail 110 = .ok (.iload 4, 2) := by decide +kernel
theorem dX12_printTail_112 : decode cX12_printTail 112 = .ok (.if_icmp .eq 9, 3) := by decide +kernel
theorem dX12_printTail_115 : decode cX12_printTail 115 = .ok (.aload_n 0, 1) := by decide +kernel
theorem dX12_printTail_116 : decode cX12_printTail 116 = .ok (.bipush 44, 2) := by decide +kernel
theorem dX12_printTail_118 : decode cX12_printTail 118 = .ok (.invokevirtual 468, 3) := by decide +kernel
theorem dX12_printTail_121 : decode cX12_printTail 121 = .ok (.iload 5, 2) := by decide +kernel
theorem dX12_printTail_123 : decode cX12_printTail 123 = .ok (.iload 4, 2) := by decide +kernel
theorem dX12_printTail_125 : decode cX12_printTail 125 = .ok (.if_icmp .eq 15, 3) := by decide +kernel
theorem dX12_printTail_128 : decode cX12_printTail 128 = .ok (.iload 5, 2) := by decide +kernel
theorem dX12_printTail_130 : decode cX12_printTail 130 = .ok (.iconst (-1), 1) := by decide +kernel
theorem dX12_printTail_131 : decode cX12_printTail 131 = .ok (.if_icmp .eq 9, 3) := by decide +kernel
theorem dX12_printTail_134 : decode cX12_printTail 134 = .ok (.aload_n 0, 1) := by decide +kernel
theorem dX12_printTail_135 : decode cX12_printTail 135 = .ok (.iload 5, 2) := by decide +kernel
theorem dX12_printTail_137 : decode cX12_printTail 137 = .ok (.invokevirtual 490, 3) := by decide +kernel
theorem dX12_printTail_140 : decode cX12_printTail 140 = .ok (.aload_n 0, 1) := by decide +kernel
theorem dX12_printTail_141 : decode cX12_printTail 141 = .ok (.bipush 125, 2) := by decide +kernel
theorem dX12_printTail_143 : decode cX12_printTail 143 = .ok (.invokevirtual 468, 3) := by decide +kernel
theorem dX12_printTail_146 : decode cX12_printTail 146 = .ok (.aload_n 0, 1) := by decide +kernel
theorem dX12_printTail_147 : decode cX12_printTail 147 = .ok (.getfield 47, 3) := by decide +kernel
theorem dX12_printTail_150 : decode cX12_printTail 150 = .ok (.iload_n 3, 1) := by decide +kernel
theorem dX12_printTail_151 : decode cX12_printTail 151 = .ok (.iaload, 1) := by decide +kernel
theorem dX12_printTail_152 : decode cX12_printTail 152 = .ok (.ifCond .le 24, 3) := by decide +kernel
theorem dX12_printTail_155 : decode cX12_printTail 155 = .ok (.aload_n 0, 1) := by decide +kernel
theorem dX12_printTail_156 : decode cX12_printTail 156 = .ok (.aload_n 0, 1) := by decide +kernel
theorem dX12_printTail_157 : decode cX12_printTail 157 = .ok (.getfield 47, 3) := by decide +kernel
theorem dX12_printTail_160 : decode cX12_printTail 160 = .ok (.iload_n 3, 1) := by decide +kernel
theorem dX12_printTail_161 : decode cX12_printTail 161 = .ok (.iaload, 1) := by decide +kernel
theorem dX12_printTail_162 : decode cX12_printTail 162 = .ok (.iconst 1, 1) := by decide +kernel
theorem dX12_printTail_163 : decode cX12_printTail 163 = .ok (.if_icmp .ne 8, 3) := by decide +kernel
theorem dX12_printTail_166 : decode cX12_printTail 166 = .ok (.bipush 63, 2) := by decide +kernel
theorem dX12_printTail_168 : decode cX12_printTail 168 = .ok (.goto 5, 3) := by decide +kernel
theorem dX12_printTail_171 : decode cX12_printTail 171 = .ok (.bipush 43, 2) := by decide +kernel
theorem dX12_printTail_173 : decode cX12_printTail 173 = .ok (.invokevirtual 468, 3) := by decide +kernel
theorem dX12_printTail_176 : decode cX12_printTail 176 = .ok (.aload_n 0, 1) := by decide +kernel
theorem dX12_printTail_177 : decode cX12_printTail 177 = .ok (.getfield 44, 3) := by decide +kernel
theorem dX12_printTail_180 : decode cX12_printTail 180 = .ok (.iload_n 3, 1) := by decide +kernel
theorem dX12_printTail_181 : decode cX12_printTail 181 = .ok (.iaload, 1) := by decide +kernel
theorem dX12_printTail_182 : decode cX12_printTail 182 = .ok (.bipush 8, 2) := by decide +kernel
theorem dX12_printTail_184 : decode cX12_printTail 184 = .ok (.if_icmp .lt 9, 3) := by decide +kernel
theorem dX12_printTail_187 : decode cX12_printTail 187 = .ok (.aload_n 0, 1) := by decide +kernel
theorem dX12_printTail_188 : decode cX12_printTail 188 = .ok (.bipush 41, 2) := by decide +kernel
theorem dX12_printTail_190 : decode cX12_printTail 190 = .ok (.invokevirtual 468, 3) := by decide +kernel
theorem dX12_printTail_193 : decode cX12_printTail 193 = .ok (.aload_n 0, 1) := by decide +kernel
theorem dX12_printTail_194 : decode cX12_printTail 194 = .ok (.iload_n 1, 1) := by decide +kernel
theorem dX12_printTail_195 : decode cX12_printTail 195 = .ok (.iload_n 2, 1) := by decide +kernel
theorem dX12_printTail_196 : decode cX12_printTail 196 = .ok (.invokevirtual 474, 3) := by decide +kernel
theorem dX12_printTail_199 : decode cX12_printTail 199 = .ok (.ifCond .eq 9, 3) := by decide +kernel
theorem dX12_printTail_202 : decode cX12_printTail 202 = .ok (.aload_n 0, 1) := by decide +kernel
theorem dX12_printTail_203 : decode cX12_printTail 203 = .ok (.bipush 41, 2) := by decide +kernel
theorem dX12_printTail_205 : decode cX12_printTail 205 = .ok (.invokevirtual 468, 3) := by decide +kernel
theorem dX12_printTail_208 : decode cX12_printTail 208 = .ok (.return_, 1) := by decide +kernel
theorem dX12_put_0 : decode cX12_put 0 = .ok (.aload_n 0, 1) := by decide +kernel
theorem dX12_put_1 : decode cX12_put 1 = .ok (.getfield 149, 3) := by decide +kernel
theorem dX12_put_4 : decode cX12_put 4 = .ok (.aload_n 0, 1) := by decide +kernel
theorem dX12_put_5 : decode cX12_put 5 = .ok (.getfield 465, 3) := by decide +kernel
theorem dX12_put_8 : decode cX12_put 8 = .ok (.iload_n 1, 1) := by decide +kernel
theorem dX12_put_9 : decode cX12_put 9 = .ok (.iastore, 1) := by decide +kernel
theorem dX12_put_10 : decode cX12_put 10 = .ok (.aload_n 0, 1) := by decide +kernel
theorem dX12_put_11 : decode cX12_put 11 = .ok (.dup, 1) := by decide +kernel
theorem dX12_put_12 : decode cX12_put 12 = .ok (.getfield 465, 3) := by decide +kernel
theorem dX12_put_15 : decode cX12_put 15 = .ok (.iconst 1, 1) := by decide +kernel
theorem dX12_put_16 : decode cX12_put 16 = .ok (.iadd, 1) := by decide +kernel
theorem dX12_put_17 : decode cX12_put 17 = .ok (.putfield 465, 3) := by decide +kernel
theorem dX12_put_20 : decode cX12_put 20 = .ok (.return_, 1) := by decide +kernel
theorem dX12_putHex_0 : decode cX12_putHex 0 = .ok (.aload_n 0, 1) := by decide +kernel
theorem dX12_putHex_1 : decode cX12_putHex 1 = .ok (.bipush 92, 2) := by decide +kernel
theorem dX12_putHex_3 : decode cX12_putHex 3 = .ok (.invokevirtual 468, 3) := by decide +kernel
theorem dX12_putHex_6 : decode cX12_putHex 6 = .ok (.aload_n 0, 1) := by decide +kernel
theorem dX12_putHex_7 : decode cX12_putHex 7 = .ok (.bipush 120, 2) := by decide +kernel
theorem dX12_putHex_9 : decode cX12_putHex 9 = .ok (.invokevirtual 468, 3) := by decide +kernel
theorem dX12_putHex_12 : decode cX12_putHex 12 = .ok (.bipush 12, 2) := by decide +kernel
theorem dX12_putHex_14 : decode cX12_putHex 14 = .ok (.istore_n 2, 1) := by decide +kernel
theorem dX12_putHex_15 : decode cX12_putHex 15 = .ok (.iload_n 2, 1) := by decide +kernel
theorem dX12_putHex_16 : decode cX12_putHex 16 = .ok (.ifCond .lt 37, 3) := by decide +kernel
theorem dX12_putHex_19 : decode cX12_putHex 19 = .ok (.iload_n 1, 1) := by decide +kernel
theorem dX12_putHex_20 : decode cX12_putHex 20 = .ok (.iload_n 2, 1) := by decide +kernel
theorem dX12_putHex_21 : decode cX12_putHex 21 = .ok (.ishr, 1) := by decide +kernel
theorem dX12_putHex_22 : decode cX12_putHex 22 = .ok (.bipush 15, 2) := by decide +kernel
theorem dX12_putHex_24 : decode cX12_putHex 24 = .ok (.iand, 1) := by decide +kernel
theorem dX12_putHex_25 : decode cX12_putHex 25 = .ok (.istore_n 3, 1) := by decide +kernel
theorem dX12_putHex_26 : decode cX12_putHex 26 = .ok (.aload_n 0, 1) := by decide +kernel
theorem dX12_putHex_27 : decode cX12_putHex 27 = .ok (.iload_n 3, 1) := by decide +kernel
theorem dX12_putHex_28 : decode cX12_putHex 28 = .ok (.bipush 10, 2) := by decide +kernel
theorem dX12_putHex_30 : decode cX12_putHex 30 = .ok (.if_icmp .ge 10, 3) := by decide +kernel
theorem dX12_putHex_33 : decode cX12_putHex 33 = .ok (.bipush 48, 2) := by decide +kernel
theorem dX12_putHex_35 : decode cX12_putHex 35 = .ok (.iload_n 3, 1) := by decide +kernel
theorem dX12_putHex_36 : decode cX12_putHex 36 = .ok (.iadd, 1) := by decide +kernel
theorem dX12_putHex_37 : decode cX12_putHex 37 = .ok (.goto 7, 3) := by decide +kernel
theorem dX12_putHex_40 : decode cX12_putHex 40 = .ok (.bipush 87, 2) := by decide +kernel
theorem dX12_putHex_42 : decode cX12_putHex 42 = .ok (.iload_n 3, 1) := by decide +kernel
theorem dX12_putHex_43 : decode cX12_putHex 43 = .ok (.iadd, 1) := by decide +kernel
theorem dX12_putHex_44 : decode cX12_putHex 44 = .ok (.invokevirtual 468, 3) := by decide +kernel
theorem dX12_putHex_47 : decode cX12_putHex 47 = .ok (.iinc 2 (-4), 3) := by decide +kernel
theorem dX12_putHex_50 : decode cX12_putHex 50 = .ok (.goto (-35), 3) := by decide +kernel
theorem dX12_putHex_53 : decode cX12_putHex 53 = .ok (.return_, 1) := by decide +kernel
theorem dX12_putMember_0 : decode cX12_putMember 0 = .ok (.iload_n 1, 1) := by decide +kernel
theorem dX12_putMember_1 : decode cX12_putMember 1 = .ok (.bipush 32, 2) := by decide +kernel
theorem dX12_putMember_3 : decode cX12_putMember 3 = .ok (.bipush 126, 2) := by decide +kernel
theorem dX12_putMember_5 : decode cX12_putMember 5 = .ok (.invokestatic 7, 3) := by decide +kernel
theorem dX12_putMember_8 : decode cX12_putMember 8 = .ok (.ifCond .ne 9, 3) := by decide +kernel
theorem dX12_putMember_11 : decode cX12_putMember 11 = .ok (.aload_n 0, 1) := by decide +kernel
theorem dX12_putMember_12 : decode cX12_putMember 12 = .ok (.iload_n 1, 1) := by decide +kernel
theorem dX12_putMember_13 : decode cX12_putMember 13 = .ok (.invokevirtual 471, 3) := by decide +kernel
theorem dX12_putMember_16 : decode cX12_putMember 16 = .ok (.return_, 1) := by decide +kernel
theorem dX12_putMember_17 : decode cX12_putMember 17 = .ok (.iload_n 1, 1) := by decide +kernel
theorem dX12_putMember_18 : decode cX12_putMember 18 = .ok (.bipush 91, 2) := by decide +kernel
theorem dX12_putMember_20 : decode cX12_putMember 20 = .ok (.if_icmp .eq 27, 3) := by decide +kernel
theorem dX12_putMember_23 : decode cX12_putMember 23 = .ok (.iload_n 1, 1) := by decide +kernel
theorem dX12_putMember_24 : decode cX12_putMember 24 = .ok (.bipush 93, 2) := by decide +kernel
theorem dX12_putMember_26 : decode cX12_putMember 26 = .ok (.if_icmp .eq 21, 3) := by decide +kernel
theorem dX12_putMember_29 : decode cX12_putMember 29 = .ok (.iload_n 1, 1) := by decide +kernel
theorem dX12_putMember_30 : decode cX12_putMember 30 = .ok (.bipush 94, 2) := by decide +kernel
theorem dX12_putMember_32 : decode cX12_putMember 32 = .ok (.if_icmp .eq 15, 3) := by decide +kernel
theorem dX12_putMember_35 : decode cX12_putMember 35 = .ok (.iload_n 1, 1) := by decide +kernel
theorem dX12_putMember_36 : decode cX12_putMember 36 = .ok (.bipush 45, 2) := by decide +kernel
theorem dX12_putMember_38 : decode cX12_putMember 38 = .ok (.if_icmp .eq 9, 3) := by decide +kernel
theorem dX12_putMember_41 : decode cX12_putMember 41 = .ok (.iload_n 1, 1) := by decide +kernel
theorem dX12_putMember_42 : decode cX12_putMember 42 = .ok (.bipush 92, 2) := by decide +kernel
theorem dX12_putMember_44 : decode cX12_putMember 44 = .ok (.if_icmp .ne 9, 3) := by decide +kernel
theorem dX12_putMember_47 : decode cX12_putMember 47 = .ok (.aload_n 0, 1) := by decide +kernel
theorem dX12_putMember_48 : decode cX12_putMember 48 = .ok (.bipush 92, 2) := by decide +kernel
theorem dX12_putMember_50 : decode cX12_putMember 50 = .ok (.invokevirtual 468, 3) := by decide +kernel
theorem dX12_putMember_53 : decode cX12_putMember 53 = .ok (.aload_n 0, 1) := by decide +kernel
theorem dX12_putMember_54 : decode cX12_putMember 54 = .ok (.iload_n 1, 1) := by decide +kernel
theorem dX12_putMember_55 : decode cX12_putMember 55 = .ok (.invokevirtual 468, 3) := by decide +kernel
theorem dX12_putMember_58 : decode cX12_putMember 58 = .ok (.return_, 1) := by decide +kernel
theorem dX12_putNumber_0 : decode cX12_putNumber 0 = .ok (.iload_n 1, 1) := by decide +kernel
theorem dX12_putNumber_1 : decode cX12_putNumber 1 = .ok (.bipush 9, 2) := by decide +kernel
theorem dX12_putNumber_3 : decode cX12_putNumber 3 = .ok (.if_icmp .le 14, 3) := by decide +kernel
theorem dX12_putNumber_6 : decode cX12_putNumber 6 = .ok (.aload_n 0, 1) := by decide +kernel
theorem dX12_putNumber_7 : decode cX12_putNumber 7 = .ok (.bipush 48, 2) := by decide +kernel
theorem dX12_putNumber_9 : decode cX12_putNumber 9 = .ok (.iload_n 1, 1) := by decide +kernel
theorem dX12_putNumber_10 : decode cX12_putNumber 10 = .ok (.bipush 10, 2) := by decide +kernel
theorem dX12_putNumber_12 : decode cX12_putNumber 12 = .ok (.idiv, 1) := by decide +kernel
theorem dX12_putNumber_13 : decode cX12_putNumber 13 = .ok (.iadd, 1) := by decide +kernel
theorem dX12_putNumber_14 : decode cX12_putNumber 14 = .ok (.invokevirtual 468, 3) := by decide +kernel
theorem dX12_putNumber_17 : decode cX12_putNumber 17 = .ok (.aload_n 0, 1) := by decide +kernel
theorem dX12_putNumber_18 : decode cX12_putNumber 18 = .ok (.bipush 48, 2) := by decide +kernel
theorem dX12_putNumber_20 : decode cX12_putNumber 20 = .ok (.iload_n 1, 1) := by decide +kernel
theorem dX12_putNumber_21 : decode cX12_putNumber 21 = .ok (.bipush 10, 2) := by decide +kernel
theorem dX12_putNumber_23 : decode cX12_putNumber 23 = .ok (.irem, 1) := by decide +kernel
theorem dX12_putNumber_24 : decode cX12_putNumber 24 = .ok (.iadd, 1) := by decide +kernel
theorem dX12_putNumber_25 : decode cX12_putNumber 25 = .ok (.invokevirtual 468, 3) := by decide +kernel
theorem dX12_putNumber_28 : decode cX12_putNumber 28 = .ok (.return_, 1) := by decide +kernel
theorem dX12_put__0 : decode cX12_put_ 0 = .ok (.aload_n 0, 1) := by decide +kernel
theorem dX12_put__1 : decode cX12_put_ 1 = .ok (.iconst 0, 1) := by decide +kernel
theorem dX12_put__2 : decode cX12_put_ 2 = .ok (.putfield 1, 3) := by decide +kernel
theorem dX12_put__5 : decode cX12_put_ 5 = .ok (.iload_n 1, 1) := by decide +kernel
theorem dX12_put__6 : decode cX12_put_ 6 = .ok (.iconst 0, 1) := by decide +kernel
theorem dX12_put__7 : decode cX12_put_ 7 = .ok (.iconst 3, 1) := by decide +kernel
theorem dX12_put__8 : decode cX12_put_ 8 = .ok (.invokestatic 7, 3) := by decide +kernel
theorem dX12_put__11 : decode cX12_put_ 11 = .ok (.ifCond .ne 6, 3) := by decide +kernel
theorem dX12_put__14 : decode cX12_put_ 14 = .ok (.bipush (-2), 2) := by decide +kernel
theorem dX12_put__16 : decode cX12_put_ 16 = .ok (.ireturn, 1) := by decide +kernel
theorem dX12_put__17 : decode cX12_put_ 17 = .ok (.iload_n 2, 1) := by decide +kernel
theorem dX12_put__18 : decode cX12_put_ 18 = .ok (.iconst 0, 1) := by decide +kernel
theorem dX12_put__19 : decode cX12_put_ 19 = .ok (.iconst 4, 1) := by decide +kernel
theorem dX12_put__20 : decode cX12_put_ 20 = .ok (.invokestatic 7, 3) := by decide +kernel
theorem dX12_put__23 : decode cX12_put_ 23 = .ok (.ifCond .ne 6, 3) := by decide +kernel
theorem dX12_put__26 : decode cX12_put_ 26 = .ok (.bipush (-4), 2) := by decide +kernel
theorem dX12_put__28 : decode cX12_put_ 28 = .ok (.ireturn, 1) := by decide +kernel
theorem dX12_put__29 : decode cX12_put_ 29 = .ok (.aload_n 0, 1) := by decide +kernel
theorem dX12_put__30 : decode cX12_put_ 30 = .ok (.getfield 171, 3) := by decide +kernel
theorem dX12_put__33 : decode cX12_put_ 33 = .ok (.iload_n 1, 1) := by decide +kernel
theorem dX12_put__34 : decode cX12_put_ 34 = .ok (.baload, 1) := by decide +kernel
theorem dX12_put__35 : decode cX12_put_ 35 = .ok (.ifCond .eq 12, 3) := by decide +kernel
theorem dX12_put__38 : decode cX12_put_ 38 = .ok (.aload_n 0, 1) := by decide +kernel
theorem dX12_put__39 : decode cX12_put_ 39 = .ok (.getfield 174, 3) := by decide +kernel
theorem dX12_put__42 : decode cX12_put_ 42 = .ok (.iload_n 1, 1) := by decide +kernel
theorem dX12_put__43 : decode cX12_put_ 43 = .ok (.iaload, 1) := by decide +kernel
theorem dX12_put__44 : decode cX12_put_ 44 = .ok (.goto 4, 3) := by decide +kernel
theorem dX12_put__47 : decode cX12_put_ 47 = .ok (.iconst 0, 1) := by decide +kernel
theorem dX12_put__48 : decode cX12_put_ 48 = .ok (.istore 5, 2) := by decide +kernel
theorem dX12_put__50 : decode cX12_put_ 50 = .ok (.iload 5, 2) := by decide +kernel
theorem dX12_put__52 : decode cX12_put_ 52 = .ok (.iload_n 2, 1) := by decide +kernel
theorem dX12_put__53 : decode cX12_put_ 53 = .ok (.iadd, 1) := by decide +kernel
theorem dX12_put__54 : decode cX12_put_ 54 = .ok (.bipush 100, 2) := by decide +kernel
theorem dX12_put__56 : decode cX12_put_ 56 = .ok (.if_icmp .le 6, 3) := by decide +kernel
theorem dX12_put__59 : decode cX12_put_ 59 = .ok (.bipush (-9), 2) := by decide +kernel
theorem dX12_put__61 : decode cX12_put_ 61 = .ok (.ireturn, 1) := by decide +kernel
theorem dX12_put__62 : decode cX12_put_ 62 = .ok (.iconst 0, 1) := by decide +kernel
theorem dX12_put__63 : decode cX12_put_ 63 = .ok (.istore 6, 2) := by decide +kernel
theorem dX12_put__65 : decode cX12_put_ 65 = .ok (.iload 6, 2) := by decide +kernel
theorem dX12_put__67 : decode cX12_put_ 67 = .ok (.iload_n 2, 1) := by decide +kernel
theorem dX12_put__68 : decode cX12_put_ 68 = .ok (.if_icmp .ge 40, 3) := by decide +kernel
theorem dX12_put__71 : decode cX12_put_ 71 = .ok (.aload_n 0, 1) := by decide +kernel
theorem dX12_put__72 : decode cX12_put_ 72 = .ok (.getfield 177, 3) := by decide +kernel
theorem dX12_put__75 : decode cX12_put_ 75 = .ok (.bipush 100, 2) := by decide +kernel
theorem dX12_put__77 : decode cX12_put_ 77 = .ok (.iload_n 1, 1) := by decide +kernel
theorem dX12_put__78 : decode cX12_put_ 78 = .ok (.imul, 1) := by decide +kernel
theorem dX12_put__79 : decode cX12_put_ 79 = .ok (.iload 5, 2) := by decide +kernel
theorem dX12_put__81 : decode cX12_put_ 81 = .ok (.iadd, 1) := by decide +kernel
theorem dX12_put__82 : decode cX12_put_ 82 = .ok (.iload 6, 2) := by decide +kernel
theorem dX12_put__84 : decode cX12_put_ 84 = .ok (.iadd, 1) := by decide +kernel
theorem dX12_put__85 : decode cX12_put_ 85 = .ok (.lload_n 3, 1) := by decide +kernel
theorem dX12_put__86 : decode cX12_put_ 86 = .ok (.bipush 16, 2) := by decide +kernel
theorem dX12_put__88 : decode cX12_put_ 88 = .ok (.iload_n 2, 1) := by decide +kernel
theorem dX12_put__89 : decode cX12_put_ 89 = .ok (.iconst 1, 1) := by decide +kernel
theorem dX12_put__90 : decode cX12_put_ 90 = .ok (.isub, 1) := by decide +kernel
theorem dX12_put__91 : decode cX12_put_ 91 = .ok (.iload 6, 2) := by decide +kernel
theorem dX12_put__93 : decode cX12_put_ 93 = .ok (.isub, 1) := by decide +kernel
theorem dX12_put__94 : decode cX12_put_ 94 = .ok (.imul, 1) := by decide +kernel
theorem dX12_put__95 : decode cX12_put_ 95 = .ok (.lshr, 1) := by decide +kernel
theorem dX12_put__96 : decode cX12_put_ 96 = .ok (.ldc2_w 537, 3) := by decide +kernel
theorem dX12_put__99 : decode cX12_put_ 99 = .ok (.land, 1) := by decide +kernel
theorem dX12_put__100 : decode cX12_put_ 100 = .ok (.l2i, 1) := by decide +kernel
theorem dX12_put__101 : decode cX12_put_ 101 = .ok (.iastore, 1) := by decide +kernel
theorem dX12_put__102 : decode cX12_put_ 102 = .ok (.iinc 6 1, 3) := by decide +kernel
theorem dX12_put__105 : decode cX12_put_ 105 = .ok (.goto (-40), 3) := by decide +kernel
theorem dX12_put__108 : decode cX12_put_ 108 = .ok (.aload_n 0, 1) := by decide +kernel
theorem dX12_put__109 : decode cX12_put_ 109 = .ok (.getfield 171, 3) := by decide +kernel
theorem dX12_put__112 : decode cX12_put_ 112 = .ok (.iload_n 1, 1) := by decide +kernel
theorem dX12_put__113 : decode cX12_put_ 113 = .ok (.iconst 1, 1) := by decide +kernel
theorem dX12_put__114 : decode cX12_put_ 114 = .ok (.bastore, 1) := by decide +kernel
theorem dX12_put__115 : decode cX12_put_ 115 = .ok (.aload_n 0, 1) := by decide +kernel
theorem dX12_put__116 : decode cX12_put_ 116 = .ok (.getfield 174, 3) := by decide +kernel
theorem dX12_put__119 : decode cX12_put_ 119 = .ok (.iload_n 1, 1) := by decide +kernel
theorem dX12_put__120 : decode cX12_put_ 120 = .ok (.iload 5, 2) := by decide +kernel
theorem dX12_put__122 : decode cX12_put_ 122 = .ok (.iload_n 2, 1) := by decide +kernel
theorem dX12_put__123 : decode cX12_put_ 123 = .ok (.iadd, 1) := by decide +kernel
theorem dX12_put__124 : decode cX12_put_ 124 = .ok (.iastore, 1) := by decide +kernel
theorem dX12_put__125 : decode cX12_put_ 125 = .ok (.aload_n 0, 1) := by decide +kernel
theorem dX12_put__126 : decode cX12_put_ 126 = .ok (.aload_n 0, 1) := by decide +kernel
theorem dX12_put__127 : decode cX12_put_ 127 = .ok (.getfield 449, 3) := by decide +kernel
theorem dX12_put__130 : decode cX12_put_ 130 = .ok (.ifCond .eq 15, 3) := by decide +kernel
theorem dX12_put__133 : decode cX12_put_ 133 = .ok (.aload_n 0, 1) := by decide +kernel
theorem dX12_put__134 : decode cX12_put_ 134 = .ok (.getfield 539, 3) := by decide +kernel
theorem dX12_put__137 : decode cX12_put_ 137 = .ok (.iload_n 1, 1) := by decide +kernel
theorem dX12_put__138 : decode cX12_put_ 138 = .ok (.if_icmp .eq 7, 3) := by decide +kernel
theorem dX12_put__141 : decode cX12_put_ 141 = .ok (.iconst 1, 1) := by decide +kernel
theorem dX12_put__142 : decode cX12_put_ 142 = .ok (.goto 4, 3) := by decide +kernel
theorem dX12_put__145 : decode cX12_put_ 145 = .ok (.iconst 0, 1) := by decide +kernel
theorem dX12_put__146 : decode cX12_put_ 146 = .ok (.putfield 449, 3) := by decide +kernel
theorem dX12_put__149 : decode cX12_put_ 149 = .ok (.iload 5, 2) := by decide +kernel
theorem dX12_put__151 : decode cX12_put_ 151 = .ok (.iload_n 2, 1) := by decide +kernel
theorem dX12_put__152 : decode cX12_put_ 152 = .ok (.iadd, 1) := by decide +kernel
theorem dX12_put__153 : decode cX12_put_ 153 = .ok (.ireturn, 1) := by decide +kernel
theorem dX12_reach_0 : decode cX12_reach 0 = .ok (.iconst 0, 1) := by decide +kernel
theorem dX12_reach_1 : decode cX12_reach 1 = .ok (.istore_n 2, 1) := by decide +kernel
theorem dX12_reach_2 : decode cX12_reach 2 = .ok (.iload_n 2, 1) := by decide +kernel
theorem dX12_reach_3 : decode cX12_reach 3 = .ok (.aload_n 0, 1) := by decide +kernel
theorem dX12_reach_4 : decode cX12_reach 4 = .ok (.getfield 551, 3) := by decide +kernel
theorem dX12_reach_7 : decode cX12_reach 7 = .ok (.if_icmp .ge 16, 3) := by decide +kernel
theorem dX12_reach_10 : decode cX12_reach 10 = .ok (.aload_n 0, 1) := by decide +kernel
theorem dX12_reach_11 : decode cX12_reach 11 = .ok (.getfield 256, 3) := by decide +kernel
theorem dX12_reach_14 : decode cX12_reach 14 = .ok (.iload_n 2, 1) := by decide +kernel
theorem dX12_reach_15 : decode cX12_reach 15 = .ok (.iconst 0, 1) := by decide +kernel
theorem dX12_reach_16 : decode cX12_reach 16 = .ok (.bastore, 1) := by decide +kernel
theorem dX12_reach_17 : decode cX12_reach 17 = .ok (.iinc 2 1, 3) := by decide +kernel
theorem dX12_reach_20 : decode cX12_reach 20 = .ok (.goto (-18), 3) := by decide +kernel
theorem dX12_reach_23 : decode cX12_reach 23 = .ok (.aload_n 0, 1) := by decide +kernel
theorem dX12_reach_24 : decode cX12_reach 24 = .ok (.lconst 0, 1) := by decide +kernel
theorem dX12_reach_25 : decode cX12_reach 25 = .ok (.putfield 714, 3) := by decide +kernel
theorem dX12_reach_28 : decode cX12_reach 28 = .ok (.aload_n 0, 1) := by decide +kernel
theorem dX12_reach_29 : decode cX12_reach 29 = .ok (.iconst 0, 1) := by decide +kernel
theorem dX12_reach_30 : decode cX12_reach 30 = .ok (.putfield 718, 3) := by decide +kernel
theorem dX12_reach_33 : decode cX12_reach 33 = .ok (.iconst 1, 1) := by decide +kernel
theorem dX12_reach_34 : decode cX12_reach 34 = .ok (.istore_n 2, 1) := by decide +kernel
theorem dX12_reach_35 : decode cX12_reach 35 = .ok (.aload_n 0, 1) := by decide +kernel
theorem dX12_reach_36 : decode cX12_reach 36 = .ok (.getfield 259, 3) := by decide +kernel
theorem dX12_reach_39 : decode cX12_reach 39 = .ok (.iconst 0, 1) := by decide +kernel
theorem dX12_reach_40 : decode cX12_reach 40 = .ok (.iload_n 1, 1) := by decide +kernel
theorem dX12_reach_41 : decode cX12_reach 41 = .ok (.iastore, 1) := by decide +kernel
theorem dX12_reach_42 : decode cX12_reach 42 = .ok (.iload_n 2, 1) := by decide +kernel
theorem dX12_reach_43 : decode cX12_reach 43 = .ok (.ifCond .le 152, 3) := by decide +kernel
theorem dX12_reach_46 : decode cX12_reach 46 = .ok (.iinc 2 (-1), 3) := by decide +kernel
theorem dX12_reach_49 : decode cX12_reach 49 = .ok (.aload_n 0, 1) := by decide +kernel
theorem dX12_reach_50 : decode cX12_reach 50 = .ok (.getfield 259, 3) := by decide +kernel
theorem dX12_reach_53 : decode cX12_reach 53 = .ok (.iload_n 2, 1) := by decide +kernel
theorem dX12_reach_54 : decode cX12_reach 54 = .ok (.iaload, 1) := by decide +kernel
theorem dX12_reach_55 : decode cX12_reach 55 = .ok (.istore_n 3, 1) := by decide +kernel
theorem dX12_reach_56 : decode cX12_reach 56 = .ok (.aload_n 0, 1) := by decide +kernel
theorem dX12_reach_57 : decode cX12_reach 57 = .ok (.getfield 256, 3) := by decide +kernel
theorem dX12_reach_60 : decode cX12_reach 60 = .ok (.iload_n 3, 1) := by decide +kernel
theorem dX12_reach_61 : decode cX12_reach 61 = .ok (.baload, 1) := by decide +kernel
theorem dX12_reach_62 : decode cX12_reach 62 = .ok (.ifCond .ne 130, 3) := by decide +kernel
theorem dX12_reach_65 : decode cX12_reach 65 = .ok (.aload_n 0, 1) := by decide +kernel
theorem dX12_reach_66 : decode cX12_reach 66 = .ok (.getfield 256, 3) := by decide +kernel
theorem dX12_reach_69 : decode cX12_reach 69 = .ok (.iload_n 3, 1) := by decide +kernel
theorem dX12_reach_70 : decode cX12_reach 70 = .ok (.iconst 1, 1) := by decide +kernel
theorem dX12_reach_71 : decode cX12_reach 71 = .ok (.bastore, 1) := by decide +kernel
theorem dX12_reach_72 : decode cX12_reach 72 = .ok (.aload_n 0, 1) := by decide +kernel
theorem dX12_reach_73 : decode cX12_reach 73 = .ok (.getfield 180, 3) := by decide +kernel
theorem dX12_reach_76 : decode cX12_reach 76 = .ok (.iload_n 3, 1) := by decide +kernel
theorem dX12_reach_77 : decode cX12_reach 77 = .ok (.iaload, 1) := by decide +kernel
theorem dX12_reach_78 : decode cX12_reach 78 = .ok (.ifCond .ne 23, 3) := by decide +kernel
theorem dX12_reach_81 : decode cX12_reach 81 = .ok (.aload_n 0, 1) := by decide +kernel
theorem dX12_reach_82 : decode cX12_reach 82 = .ok (.aload_n 0, 1) := by decide +kernel
theorem dX12_reach_83 : decode cX12_reach 83 = .ok (.getfield 714, 3) := by decide +kernel
theorem dX12_reach_86 : decode cX12_reach 86 = .ok (.lconst 1, 1) := by decide +kernel
theorem dX12_reach_87 : decode cX12_reach 87 = .ok (.aload_n 0, 1) := by decide +kernel
theorem dX12_reach_88 : decode cX12_reach 88 = .ok (.getfield 250, 3) := by decide +kernel
theorem dX12_reach_91 : decode cX12_reach 91 = .ok (.iload_n 3, 1) := by decide +kernel
theorem dX12_reach_92 : decode cX12_reach 92 = .ok (.iaload, 1) := by decide +kernel
theorem dX12_reach_93 : decode cX12_reach 93 = .ok (.lshl, 1) := by decide +kernel
theorem dX12_reach_94 : decode cX12_reach 94 = .ok (.lor, 1) := by decide +kernel
theorem dX12_reach_95 : decode cX12_reach 95 = .ok (.putfield 714, 3) := by decide +kernel
theorem dX12_reach_98 : decode cX12_reach 98 = .ok (.goto 94, 3) := by decide +kernel
theorem dX12_reach_101 : decode cX12_reach 101 = .ok (.aload_n 0, 1) := by decide +kernel
theorem dX12_reach_102 : decode cX12_reach 102 = .ok (.getfield 180, 3) := by decide +kernel
theorem dX12_reach_105 : decode cX12_reach 105 = .ok (.iload_n 3, 1) := by decide +kernel
theorem dX12_reach_106 : decode cX12_reach 106 = .ok (.iaload, 1) := by decide +kernel
theorem dX12_reach_107 : decode cX12_reach 107 = .ok (.bipush 19, 2) := by decide +kernel
theorem dX12_reach_109 : decode cX12_reach 109 = .ok (.if_icmp .ne 11, 3) := by decide +kernel
theorem dX12_reach_112 : decode cX12_reach 112 = .ok (.aload_n 0, 1) := by decide +kernel
theorem dX12_reach_113 : decode cX12_reach 113 = .ok (.iconst 1, 1) := by decide +kernel
theorem dX12_reach_114 : decode cX12_reach 114 = .ok (.putfield 718, 3) := by decide +kernel
theorem dX12_reach_117 : decode cX12_reach 117 = .ok (.goto 75, 3) := by decide +kernel
theorem dX12_reach_120 : decode cX12_reach 120 = .ok (.aload_n 0, 1) := by decide +kernel
theorem dX12_reach_121 : decode cX12_reach 121 = .ok (.getfield 180, 3) := by decide +kernel
theorem dX12_reach_124 : decode cX12_reach 124 = .ok (.iload_n 3, 1) := by decide +kernel
theorem dX12_reach_125 : decode cX12_reach 125 = .ok (.iaload, 1) := by decide +kernel
theorem dX12_reach_126 : decode cX12_reach 126 = .ok (.iconst 5, 1) := by decide +kernel
theorem dX12_reach_127 : decode cX12_reach 127 = .ok (.if_icmp .eq 15, 3) := by decide +kernel
theorem dX12_reach_130 : decode cX12_reach 130 = .ok (.aload_n 0, 1) := by decide +kernel
theorem dX12_reach_131 : decode cX12_reach 131 = .ok (.getfield 259, 3) := by decide +kernel
theorem dX12_reach_134 : decode cX12_reach 134 = .ok (.iload_n 2, 1) := by decide +kernel
theorem dX12_reach_135 : decode cX12_reach 135 = .ok (.iload_n 3, 1) := by decide +kernel
theorem dX12_reach_136 : decode cX12_reach 136 = .ok (.iconst 1, 1) := by decide +kernel
theorem dX12_reach_137 : decode cX12_reach 137 = .ok (.iadd, 1) := by decide +kernel
theorem dX12_reach_138 : decode cX12_reach 138 = .ok (.iastore, 1) := by decide +kernel
theorem dX12_reach_139 : decode cX12_reach 139 = .ok (.iinc 2 1, 3) := by decide +kernel
theorem dX12_reach_142 : decode cX12_reach 142 = .ok (.aload_n 0, 1) := by decide +kernel
theorem dX12_reach_143 : decode cX12_reach 143 = .ok (.getfield 180, 3) := by decide +kernel
theorem dX12_reach_146 : decode cX12_reach 146 = .ok (.iload_n 3, 1) := by decide +kernel
theorem dX12_reach_147 : decode cX12_reach 147 = .ok (.iaload, 1) := by decide +kernel
theorem dX12_reach_148 : decode cX12_reach 148 = .ok (.iconst 5, 1) := by decide +kernel
theorem dX12_reach_149 : decode cX12_reach 149 = .ok (.if_icmp .eq 23, 3) := by decide +kernel
theorem dX12_reach_152 : decode cX12_reach 152 = .ok (.aload_n 0, 1) := by decide +kernel
theorem dX12_reach_153 : decode cX12_reach 153 = .ok (.getfield 180, 3) := by decide +kernel
theorem dX12_reach_156 : decode cX12_reach 156 = .ok (.iload_n 3, 1) := by decide +kernel
theorem dX12_reach_157 : decode cX12_reach 157 = .ok (.iaload, 1) := by decide +kernel
theorem dX12_reach_158 : decode cX12_reach 158 = .ok (.iconst 3, 1) := by decide +kernel
theorem dX12_reach_159 : decode cX12_reach 159 = .ok (.if_icmp .eq 13, 3) := by decide +kernel
theorem dX12_reach_162 : decode cX12_reach 162 = .ok (.aload_n 0, 1) := by decide +kernel
theorem dX12_reach_163 : decode cX12_reach 163 = .ok (.getfield 180, 3) := by decide +kernel
theorem dX12_reach_166 : decode cX12_reach 166 = .ok (.iload_n 3, 1) := by decide +kernel
theorem dX12_reach_167 : decode cX12_reach 167 = .ok (.iaload, 1) := by decide +kernel
theorem dX12_reach_168 : decode cX12_reach 168 = .ok (.iconst 4, 1) := by decide +kernel
theorem dX12_reach_169 : decode cX12_reach 169 = .ok (.if_icmp .ne 23, 3) := by decide +kernel
theorem dX12_reach_172 : decode cX12_reach 172 = .ok (.aload_n 0, 1) := by decide +kernel
theorem dX12_reach_173 : decode cX12_reach 173 = .ok (.getfield 259, 3) := by decide +kernel
theorem dX12_reach_176 : decode cX12_reach 176 = .ok (.iload_n 2, 1) := by decide +kernel
theorem dX12_reach_177 : decode cX12_reach 177 = .ok (.aload_n 0, 1) := by decide +kernel
theorem dX12_reach_178 : decode cX12_reach 178 = .ok (.getfield 189, 3) := by decide +kernel
theorem dX12_reach_181 : decode cX12_reach 181 = .ok (.aload_n 0, 1) := by decide +kernel
theorem dX12_reach_182 : decode cX12_reach 182 = .ok (.getfield 183, 3) := by decide +kernel
theorem dX12_reach_185 : decode cX12_reach 185 = .ok (.iload_n 3, 1) := by decide +kernel
theorem dX12_reach_186 : decode cX12_reach 186 = .ok (.iaload, 1) := by decide +kernel
theorem dX12_reach_187 : decode cX12_reach 187 = .ok (.iaload, 1) := by decide +kernel
theorem dX12_reach_188 : decode cX12_reach 188 = .ok (.iastore, 1) := by decide +kernel
theorem dX12_reach_189 : decode cX12_reach 189 = .ok (.iinc 2 1, 3) := by decide +kernel
theorem dX12_reach_192 : decode cX12_reach 192 = .ok (.goto (-150), 3) := by decide +kernel
theorem dX12_reach_195 : decode cX12_reach 195 = .ok (.return_, 1) := by decide +kernel
theorem dX12_readAll_0 : decode cX12_readAll 0 = .ok (.aload_n 0, 1) := by decide +kernel
theorem dX12_readAll_1 : decode cX12_readAll 1 = .ok (.iconst 0, 1) := by decide +kernel
theorem dX12_readAll_2 : decode cX12_readAll 2 = .ok (.putfield 326, 3) := by decide +kernel
theorem dX12_readAll_5 : decode cX12_readAll 5 = .ok (.aload_n 0, 1) := by decide +kernel
theorem dX12_readAll_6 : decode cX12_readAll 6 = .ok (.iconst 0, 1) := by decide +kernel
theorem dX12_readAll_7 : decode cX12_readAll 7 = .ok (.putfield 396, 3) := by decide +kernel
theorem dX12_readAll_10 : decode cX12_readAll 10 = .ok (.aload_n 0, 1) := by decide +kernel
theorem dX12_readAll_11 : decode cX12_readAll 11 = .ok (.iconst 0, 1) := by decide +kernel
theorem dX12_readAll_12 : decode cX12_readAll 12 = .ok (.putfield 377, 3) := by decide +kernel
theorem dX12_readAll_15 : decode cX12_readAll 15 = .ok (.aload_n 0, 1) := by decide +kernel
theorem dX12_readAll_16 : decode cX12_readAll 16 = .ok (.iconst 0, 1) := by decide +kernel
theorem dX12_readAll_17 : decode cX12_readAll 17 = .ok (.putfield 320, 3) := by decide +kernel
theorem dX12_readAll_20 : decode cX12_readAll 20 = .ok (.aload_n 0, 1) := by decide +kernel
theorem dX12_readAll_21 : decode cX12_readAll 21 = .ok (.iconst 0, 1) := by decide +kernel
theorem dX12_readAll_22 : decode cX12_readAll 22 = .ok (.putfield 362, 3) := by decide +kernel
theorem dX12_readAll_25 : decode cX12_readAll 25 = .ok (.aload_n 0, 1) := by decide +kernel
theorem dX12_readAll_26 : decode cX12_readAll 26 = .ok (.iconst 0, 1) := by decide +kernel
theorem dX12_readAll_27 : decode cX12_readAll 27 = .ok (.putfield 342, 3) := by decide +kernel
theorem dX12_readAll_30 : decode cX12_readAll 30 = .ok (.aload_n 0, 1) := by decide +kernel
theorem dX12_readAll_31 : decode cX12_readAll 31 = .ok (.iconst 0, 1) := by decide +kernel
theorem dX12_readAll_32 : decode cX12_readAll 32 = .ok (.putfield 329, 3) := by decide +kernel
theorem dX12_readAll_35 : decode cX12_readAll 35 = .ok (.aload_n 0, 1) := by decide +kernel
theorem dX12_readAll_36 : decode cX12_readAll 36 = .ok (.iconst 5, 1) := by decide +kernel
theorem dX12_readAll_37 : decode cX12_readAll 37 = .ok (.iconst 0, 1) := by decide +kernel
theorem dX12_readAll_38 : decode cX12_readAll 38 = .ok (.invokevirtual 383, 3) := by decide +kernel
theorem dX12_readAll_41 : decode cX12_readAll 41 = .ok (.aload_n 0, 1) := by decide +kernel
theorem dX12_readAll_42 : decode cX12_readAll 42 = .ok (.getfield 320, 3) := by decide +kernel
theorem dX12_readAll_45 : decode cX12_readAll 45 = .ok (.ifCond .ne 80, 3) := by decide +kernel
theorem dX12_readAll_48 : decode cX12_readAll 48 = .ok (.aload_n 0, 1) := by decide +kernel
theorem dX12_readAll_49 : decode cX12_readAll 49 = .ok (.getfield 362, 3) := by decide +kernel
theorem dX12_readAll_52 : decode cX12_readAll 52 = .ok (.aload_n 0, 1) := by decide +kernel
theorem dX12_readAll_53 : decode cX12_readAll 53 = .ok (.getfield 317, 3) := by decide +kernel
theorem dX12_readAll_56 : decode cX12_readAll 56 = .ok (.if_icmp .ge 69, 3) := by decide +kernel
theorem dX12_readAll_59 : decode cX12_readAll 59 = .ok (.aload_n 0, 1) := by decide +kernel
theorem dX12_readAll_60 : decode cX12_readAll 60 = .ok (.aload_n 0, 1) := by decide +kernel
theorem dX12_readAll_61 : decode cX12_readAll 61 = .ok (.getfield 362, 3) := by decide +kernel
theorem dX12_readAll_64 : decode cX12_readAll 64 = .ok (.invokevirtual 349, 3) := by decide +kernel
theorem dX12_readAll_67 : decode cX12_readAll 67 = .ok (.istore_n 1, 1) := by decide +kernel
theorem dX12_readAll_68 : decode cX12_readAll 68 = .ok (.iload_n 1, 1) := by decide +kernel
theorem dX12_readAll_69 : decode cX12_readAll 69 = .ok (.bipush 124, 2) := by decide +kernel
theorem dX12_readAll_71 : decode cX12_readAll 71 = .ok (.if_icmp .ne 20, 3) := by decide +kernel
theorem dX12_readAll_74 : decode cX12_readAll 74 = .ok (.aload_n 0, 1) := by decide +kernel
theorem dX12_readAll_75 : decode cX12_readAll 75 = .ok (.invokevirtual 339, 3) := by decide +kernel
theorem dX12_readAll_78 : decode cX12_readAll 78 = .ok (.aload_n 0, 1) := by decide +kernel
theorem dX12_readAll_79 : decode cX12_readAll 79 = .ok (.dup, 1) := by decide +kernel
theorem dX12_readAll_80 : decode cX12_readAll 80 = .ok (.getfield 362, 3) := by decide +kernel
theorem dX12_readAll_83 : decode cX12_readAll 83 = .ok (.iconst 1, 1) := by decide +kernel
theorem dX12_readAll_84 : decode cX12_readAll 84 = .ok (.iadd, 1) := by decide +kernel
theorem dX12_readAll_85 : decode cX12_readAll 85 = .ok (.putfield 362, 3) := by decide +kernel
theorem dX12_readAll_88 : decode cX12_readAll 88 = .ok (.goto 34, 3) := by decide +kernel
theorem dX12_readAll_91 : decode cX12_readAll 91 = .ok (.iload_n 1, 1) := by decide +kernel
theorem dX12_readAll_92 : decode cX12_readAll 92 = .ok (.bipush 41, 2) := by decide +kernel
theorem dX12_readAll_94 : decode cX12_readAll 94 = .ok (.if_icmp .ne 10, 3) := by decide +kernel
theorem dX12_readAll_97 : decode cX12_readAll 97 = .ok (.aload_n 0, 1) := by decide +kernel
theorem dX12_readAll_98 : decode cX12_readAll 98 = .ok (.invokevirtual 426, 3) := by decide +kernel
theorem dX12_readAll_101 : decode cX12_readAll 101 = .ok (.goto 21, 3) := by decide +kernel
theorem dX12_readAll_104 : decode cX12_readAll 104 = .ok (.iload_n 1, 1) := by decide +kernel
theorem dX12_readAll_105 : decode cX12_readAll 105 = .ok (.bipush 40, 2) := by decide +kernel
theorem dX12_readAll_107 : decode cX12_readAll 107 = .ok (.if_icmp .ne 10, 3) := by decide +kernel
theorem dX12_readAll_110 : decode cX12_readAll 110 = .ok (.aload_n 0, 1) := by decide +kernel
theorem dX12_readAll_111 : decode cX12_readAll 111 = .ok (.invokevirtual 429, 3) := by decide +kernel
theorem dX12_readAll_114 : decode cX12_readAll 114 = .ok (.goto 8, 3) := by decide +kernel
theorem dX12_readAll_117 : decode cX12_readAll 117 = .ok (.aload_n 0, 1) := by decide +kernel
theorem dX12_readAll_118 : decode cX12_readAll 118 = .ok (.iload_n 1, 1) := by decide +kernel
theorem dX12_readAll_119 : decode cX12_readAll 119 = .ok (.invokevirtual 432, 3) := by decide +kernel
theorem dX12_readAll_122 : decode cX12_readAll 122 = .ok (.goto (-81), 3) := by decide +kernel
theorem dX12_readAll_125 : decode cX12_readAll 125 = .ok (.aload_n 0, 1) := by decide +kernel
theorem dX12_readAll_126 : decode cX12_readAll 126 = .ok (.getfield 329, 3) := by decide +kernel
theorem dX12_readAll_129 : decode cX12_readAll 129 = .ok (.ifCond .le 12, 3) := by decide +kernel
theorem dX12_readAll_132 : decode cX12_readAll 132 = .ok (.aload_n 0, 1) := by decide +kernel
theorem dX12_readAll_133 : decode cX12_readAll 133 = .ok (.iconst 1, 1) := by decide +kernel
theorem dX12_readAll_134 : decode cX12_readAll 134 = .ok (.aload_n 0, 1) := by decide +kernel
theorem dX12_readAll_135 : decode cX12_readAll 135 = .ok (.getfield 317, 3) := by decide +kernel
theorem dX12_readAll_138 : decode cX12_readAll 138 = .ok (.invokevirtual 345, 3) := by decide +kernel
theorem dX12_readAll_141 : decode cX12_readAll 141 = .ok (.aload_n 0, 1) := by decide +kernel
theorem dX12_readAll_142 : decode cX12_readAll 142 = .ok (.getfield 320, 3) := by decide +kernel
theorem dX12_readAll_145 : decode cX12_readAll 145 = .ok (.ifCond .ne 10, 3) := by decide +kernel
theorem dX12_readAll_148 : decode cX12_readAll 148 = .ok (.aload_n 0, 1) := by decide +kernel
theorem dX12_readAll_149 : decode cX12_readAll 149 = .ok (.invokevirtual 386, 3) := by decide +kernel
theorem dX12_readAll_152 : decode cX12_readAll 152 = .ok (.goto 4, 3) := by decide +kernel
theorem dX12_readAll_155 : decode cX12_readAll 155 = .ok (.iconst (-1), 1) := by decide +kernel
theorem dX12_readAll_156 : decode cX12_readAll 156 = .ok (.ireturn, 1) := by decide +kernel
theorem dX12_readOne_0 : decode cX12_readOne 0 = .ok (.iload_n 1, 1) := by decide +kernel
theorem dX12_readOne_1 : decode cX12_readOne 1 = .ok (.bipush 42, 2) := by decide +kernel
theorem dX12_readOne_3 : decode cX12_readOne 3 = .ok (.if_icmp .eq 33, 3) := by decide +kernel
theorem dX12_readOne_6 : decode cX12_readOne 6 = .ok (.iload_n 1, 1) := by decide +kernel
theorem dX12_readOne_7 : decode cX12_readOne 7 = .ok (.bipush 43, 2) := by decide +kernel
theorem dX12_readOne_9 : decode cX12_readOne 9 = .ok (.if_icmp .eq 27, 3) := by decide +kernel
theorem dX12_readOne_12 : decode cX12_readOne 12 = .ok (.iload_n 1, 1) := by decide +kernel
theorem dX12_readOne_13 : decode cX12_readOne 13 = .ok (.bipush 63, 2) := by decide +kernel
theorem dX12_readOne_15 : decode cX12_readOne 15 = .ok (.if_icmp .eq 21, 3) := by decide +kernel
theorem dX12_readOne_18 : decode cX12_readOne 18 = .ok (.iload_n 1, 1) := by decide +kernel
theorem dX12_readOne_19 : decode cX12_readOne 19 = .ok (.bipush 123, 2) := by decide +kernel
theorem dX12_readOne_21 : decode cX12_readOne 21 = .ok (.if_icmp .eq 15, 3) := by decide +kernel
theorem dX12_readOne_24 : decode cX12_readOne 24 = .ok (.iload_n 1, 1) := by decide +kernel
theorem dX12_readOne_25 : decode cX12_readOne 25 = .ok (.bipush 125, 2) := by decide +kernel
theorem dX12_readOne_27 : decode cX12_readOne 27 = .ok (.if_icmp .eq 9, 3) := by decide +kernel
theorem dX12_readOne_30 : decode cX12_readOne 30 = .ok (.iload_n 1, 1) := by decide +kernel
theorem dX12_readOne_31 : decode cX12_readOne 31 = .ok (.bipush 93, 2) := by decide +kernel
theorem dX12_readOne_33 : decode cX12_readOne 33 = .ok (.if_icmp .ne 13, 3) := by decide +kernel
theorem dX12_readOne_36 : decode cX12_readOne 36 = .ok (.aload_n 0, 1) := by decide +kernel
theorem dX12_readOne_37 : decode cX12_readOne 37 = .ok (.iconst 1, 1) := by decide +kernel
theorem dX12_readOne_38 : decode cX12_readOne 38 = .ok (.aload_n 0, 1) := by decide +kernel
theorem dX12_readOne_39 : decode cX12_readOne 39 = .ok (.getfield 362, 3) := by decide +kernel
theorem dX12_readOne_42 : decode cX12_readOne 42 = .ok (.invokevirtual 345, 3) := by decide +kernel
theorem dX12_readOne_45 : decode cX12_readOne 45 = .ok (.return_, 1) := by decide +kernel
theorem dX12_readOne_46 : decode cX12_readOne 46 = .ok (.aload_n 0, 1) := by decide +kernel
theorem dX12_readOne_47 : decode cX12_readOne 47 = .ok (.aload_n 0, 1) := by decide +kernel
theorem dX12_readOne_48 : decode cX12_readOne 48 = .ok (.getfield 362, 3) := by decide +kernel
theorem dX12_readOne_51 : decode cX12_readOne 51 = .ok (.invokevirtual 365, 3) := by decide +kernel
theorem dX12_readOne_54 : decode cX12_readOne 54 = .ok (.aload_n 0, 1) := by decide +kernel
theorem dX12_readOne_55 : decode cX12_readOne 55 = .ok (.getfield 320, 3) := by decide +kernel
theorem dX12_readOne_58 : decode cX12_readOne 58 = .ok (.ifCond .le 4, 3) := by decide +kernel
theorem dX12_readOne_61 : decode cX12_readOne 61 = .ok (.return_, 1) := by decide +kernel
theorem dX12_readOne_62 : decode cX12_readOne 62 = .ok (.iconst (-1), 1) := by decide +kernel
theorem dX12_readOne_63 : decode cX12_readOne 63 = .ok (.istore_n 2, 1) := by decide +kernel
theorem dX12_readOne_64 : decode cX12_readOne 64 = .ok (.iload_n 1, 1) := by decide +kernel
theorem dX12_readOne_65 : decode cX12_readOne 65 = .ok (.bipush 92, 2) := by decide +kernel
theorem dX12_readOne_67 : decode cX12_readOne 67 = .ok (.if_icmp .ne 11, 3) := by decide +kernel
theorem dX12_readOne_70 : decode cX12_readOne 70 = .ok (.aload_n 0, 1) := by decide +kernel
theorem dX12_readOne_71 : decode cX12_readOne 71 = .ok (.invokevirtual 420, 3) := by decide +kernel
theorem dX12_readOne_74 : decode cX12_readOne 74 = .ok (.istore_n 2, 1) := by decide +kernel
theorem dX12_readOne_75 : decode cX12_readOne 75 = .ok (.goto 79, 3) := by decide +kernel
theorem dX12_readOne_78 : decode cX12_readOne 78 = .ok (.iload_n 1, 1) := by decide +kernel
theorem dX12_readOne_79 : decode cX12_readOne 79 = .ok (.bipush 91, 2) := by decide +kernel
theorem dX12_readOne_81 : decode cX12_readOne 81 = .ok (.if_icmp .ne 11, 3) := by decide +kernel
theorem dX12_readOne_84 : decode cX12_readOne 84 = .ok (.aload_n 0, 1) := by decide +kernel
theorem dX12_readOne_85 : decode cX12_readOne 85 = .ok (.invokevirtual 423, 3) := by decide +kernel
theorem dX12_readOne_88 : decode cX12_readOne 88 = .ok (.istore_n 2, 1) := by decide +kernel
theorem dX12_readOne_89 : decode cX12_readOne 89 = .ok (.goto 65, 3) := by decide +kernel
theorem dX12_readOne_92 : decode cX12_readOne 92 = .ok (.aload_n 0, 1) := by decide +kernel
theorem dX12_readOne_93 : decode cX12_readOne 93 = .ok (.dup, 1) := by decide +kernel
theorem dX12_readOne_94 : decode cX12_readOne 94 = .ok (.getfield 362, 3) := by decide +kernel
theorem dX12_readOne_97 : decode cX12_readOne 97 = .ok (.iconst 1, 1) := by decide +kernel
theorem dX12_readOne_98 : decode cX12_readOne 98 = .ok (.iadd, 1) := by decide +kernel
theorem dX12_readOne_99 : decode cX12_readOne 99 = .ok (.putfield 362, 3) := by decide +kernel
theorem dX12_readOne_102 : decode cX12_readOne 102 = .ok (.iload_n 1, 1) := by decide +kernel
theorem dX12_readOne_103 : decode cX12_readOne 103 = .ok (.bipush 46, 2) := by decide +kernel
theorem dX12_readOne_105 : decode cX12_readOne 105 = .ok (.if_icmp .ne 12, 3) := by decide +kernel
theorem dX12_readOne_108 : decode cX12_readOne 108 = .ok (.aload_n 0, 1) := by decide +kernel
theorem dX12_readOne_109 : decode cX12_readOne 109 = .ok (.iconst 1, 1) := by decide +kernel
theorem dX12_readOne_110 : decode cX12_readOne 110 = .ok (.iconst 0, 1) := by decide +kernel
theorem dX12_readOne_111 : decode cX12_readOne 111 = .ok (.invokevirtual 335, 3) := by decide +kernel
theorem dX12_readOne_114 : decode cX12_readOne 114 = .ok (.goto 39, 3) := by decide +kernel
theorem dX12_readOne_117 : decode cX12_readOne 117 = .ok (.iload_n 1, 1) := by decide +kernel
theorem dX12_readOne_118 : decode cX12_readOne 118 = .ok (.bipush 94, 2) := by decide +kernel
theorem dX12_readOne_120 : decode cX12_readOne 120 = .ok (.if_icmp .ne 12, 3) := by decide +kernel
theorem dX12_readOne_123 : decode cX12_readOne 123 = .ok (.aload_n 0, 1) := by decide +kernel
theorem dX12_readOne_124 : decode cX12_readOne 124 = .ok (.iconst 3, 1) := by decide +kernel
theorem dX12_readOne_125 : decode cX12_readOne 125 = .ok (.iconst 0, 1) := by decide +kernel
theorem dX12_readOne_126 : decode cX12_readOne 126 = .ok (.invokevirtual 335, 3) := by decide +kernel
theorem dX12_readOne_129 : decode cX12_readOne 129 = .ok (.goto 24, 3) := by decide +kernel
theorem dX12_readOne_132 : decode cX12_readOne 132 = .ok (.iload_n 1, 1) := by decide +kernel
theorem dX12_readOne_133 : decode cX12_readOne 133 = .ok (.bipush 36, 2) := by decide +kernel
theorem dX12_readOne_135 : decode cX12_readOne 135 = .ok (.if_icmp .ne 12, 3) := by decide +kernel
theorem dX12_readOne_138 : decode cX12_readOne 138 = .ok (.aload_n 0, 1) := by decide +kernel
theorem dX12_readOne_139 : decode cX12_readOne 139 = .ok (.iconst 3, 1) := by decide +kernel
theorem dX12_readOne_140 : decode cX12_readOne 140 = .ok (.iconst 1, 1) := by decide +kernel
theorem dX12_readOne_141 : decode cX12_readOne 141 = .ok (.invokevirtual 335, 3) := by decide +kernel
theorem dX12_readOne_144 : decode cX12_readOne 144 = .ok (.goto 9, 3) := by decide +kernel
theorem dX12_readOne_147 : decode cX12_readOne 147 = .ok (.aload_n 0, 1) := by decide +kernel
theorem dX12_readOne_148 : decode cX12_readOne 148 = .ok (.iconst 0, 1) := by decide +kernel
theorem dX12_readOne_149 : decode cX12_readOne 149 = .ok (.iload_n 1, 1) := by decide +kernel
theorem dX12_readOne_150 : decode cX12_readOne 150 = .ok (.invokevirtual 335, 3) := by decide +kernel
theorem dX12_readOne_153 : decode cX12_readOne 153 = .ok (.istore_n 2, 1) := by decide +kernel
theorem dX12_readOne_154 : decode cX12_readOne 154 = .ok (.aload_n 0, 1) := by decide +kernel
theorem dX12_readOne_155 : decode cX12_readOne 155 = .ok (.aload_n 0, 1) := by decide +kernel
theorem dX12_readOne_156 : decode cX12_readOne 156 = .ok (.iload_n 2, 1) := by decide +kernel
theorem dX12_readOne_157 : decode cX12_readOne 157 = .ok (.invokevirtual 390, 3) := by decide +kernel
theorem dX12_readOne_160 : decode cX12_readOne 160 = .ok (.invokevirtual 393, 3) := by decide +kernel
theorem dX12_readOne_163 : decode cX12_readOne 163 = .ok (.return_, 1) := by decide +kernel
theorem dX12_readSet_0 : decode cX12_readSet 0 = .ok (.aload_n 0, 1) := by decide +kernel
theorem dX12_readSet_1 : decode cX12_readSet 1 = .ok (.getfield 396, 3) := by decide +kernel
theorem dX12_readSet_4 : decode cX12_readSet 4 = .ok (.istore_n 1, 1) := by decide +kernel
theorem dX12_readSet_5 : decode cX12_readSet 5 = .ok (.aload_n 0, 1) := by decide +kernel
theorem dX12_readSet_6 : decode cX12_readSet 6 = .ok (.getfield 362, 3) := by decide +kernel
theorem dX12_readSet_9 : decode cX12_readSet 9 = .ok (.iconst 1, 1) := by decide +kernel
theorem dX12_readSet_10 : decode cX12_readSet 10 = .ok (.iadd, 1) := by decide +kernel
theorem dX12_readSet_11 : decode cX12_readSet 11 = .ok (.istore_n 2, 1) := by decide +kernel
theorem dX12_readSet_12 : decode cX12_readSet 12 = .ok (.aload_n 0, 1) := by decide +kernel
theorem dX12_readSet_13 : decode cX12_readSet 13 = .ok (.iload_n 2, 1) := by decide +kernel
theorem dX12_readSet_14 : decode cX12_readSet 14 = .ok (.invokevirtual 349, 3) := by decide +kernel
theorem dX12_readSet_17 : decode cX12_readSet 17 = .ok (.bipush 94, 2) := by decide +kernel
theorem dX12_readSet_19 : decode cX12_readSet 19 = .ok (.if_icmp .ne 7, 3) := by decide +kernel
theorem dX12_readSet_22 : decode cX12_readSet 22 = .ok (.iconst 1, 1) := by decide +kernel
theorem dX12_readSet_23 : decode cX12_readSet 23 = .ok (.goto 4, 3) := by decide +kernel
theorem dX12_readSet_26 : decode cX12_readSet 26 = .ok (.iconst 0, 1) := by decide +kernel
theorem dX12_readSet_27 : decode cX12_readSet 27 = .ok (.istore_n 3, 1) := by decide +kernel
theorem dX12_readSet_28 : decode cX12_readSet 28 = .ok (.iload_n 2, 1) := by decide +kernel
theorem dX12_readSet_29 : decode cX12_readSet 29 = .ok (.iload_n 3, 1) := by decide +kernel
theorem dX12_readSet_30 : decode cX12_readSet 30 = .ok (.ifCond .eq 7, 3) := by decide +kernel
theorem dX12_readSet_33 : decode cX12_readSet 33 = .ok (.iconst 1, 1) := by decide +kernel
theorem dX12_readSet_34 : decode cX12_readSet 34 = .ok (.goto 4, 3) := by decide +kernel
theorem dX12_readSet_37 : decode cX12_readSet 37 = .ok (.iconst 0, 1) := by decide +kernel
theorem dX12_readSet_38 : decode cX12_readSet 38 = .ok (.iadd, 1) := by decide +kernel
theorem dX12_readSet_39 : decode cX12_readSet 39 = .ok (.istore_n 2, 1) := by decide +kernel
theorem dX12_readSet_40 : decode cX12_readSet 40 = .ok (.iconst 1, 1) := by decide +kernel
theorem dX12_readSet_41 : decode cX12_readSet 41 = .ok (.istore 4, 2) := by decide +kernel
theorem dX12_readSet_43 : decode cX12_readSet 43 = .ok (.iload 4, 2) := by decide +kernel
theorem dX12_readSet_45 : decode cX12_readSet 45 = .ok (.ifCond .eq 118, 3) := by decide +kernel
theorem dX12_readSet_48 : decode cX12_readSet 48 = .ok (.aload_n 0, 1) := by decide +kernel
theorem dX12_readSet_49 : decode cX12_readSet 49 = .ok (.getfield 320, 3) := by decide +kernel
theorem dX12_readSet_52 : decode cX12_readSet 52 = .ok (.ifCond .ne 111, 3) := by decide +kernel
theorem dX12_readSet_55 : decode cX12_readSet 55 = .ok (.aload_n 0, 1) := by decide +kernel
theorem dX12_readSet_56 : decode cX12_readSet 56 = .ok (.iload_n 2, 1) := by decide +kernel
theorem dX12_readSet_57 : decode cX12_readSet 57 = .ok (.invokevirtual 411, 3) := by decide +kernel
theorem dX12_readSet_60 : decode cX12_readSet 60 = .ok (.aload_n 0, 1) := by decide +kernel
theorem dX12_readSet_61 : decode cX12_readSet 61 = .ok (.getfield 402, 3) := by decide +kernel
theorem dX12_readSet_64 : decode cX12_readSet 64 = .ok (.istore 5, 2) := by decide +kernel
theorem dX12_readSet_66 : decode cX12_readSet 66 = .ok (.aload_n 0, 1) := by decide +kernel
theorem dX12_readSet_67 : decode cX12_readSet 67 = .ok (.getfield 405, 3) := by decide +kernel
theorem dX12_readSet_70 : decode cX12_readSet 70 = .ok (.istore_n 2, 1) := by decide +kernel
theorem dX12_readSet_71 : decode cX12_readSet 71 = .ok (.iload 5, 2) := by decide +kernel
theorem dX12_readSet_73 : decode cX12_readSet 73 = .ok (.istore 6, 2) := by decide +kernel
theorem dX12_readSet_75 : decode cX12_readSet 75 = .ok (.aload_n 0, 1) := by decide +kernel
theorem dX12_readSet_76 : decode cX12_readSet 76 = .ok (.getfield 320, 3) := by decide +kernel
theorem dX12_readSet_79 : decode cX12_readSet 79 = .ok (.ifCond .ne 49, 3) := by decide +kernel
theorem dX12_readSet_82 : decode cX12_readSet 82 = .ok (.aload_n 0, 1) := by decide +kernel
theorem dX12_readSet_83 : decode cX12_readSet 83 = .ok (.iload_n 2, 1) := by decide +kernel
theorem dX12_readSet_84 : decode cX12_readSet 84 = .ok (.invokevirtual 349, 3) := by decide +kernel
theorem dX12_readSet_87 : decode cX12_readSet 87 = .ok (.bipush 45, 2) := by decide +kernel
theorem dX12_readSet_89 : decode cX12_readSet 89 = .ok (.if_icmp .ne 39, 3) := by decide +kernel
theorem dX12_readSet_92 : decode cX12_readSet 92 = .ok (.iload_n 2, 1) := by decide +kernel
theorem dX12_readSet_93 : decode cX12_readSet 93 = .ok (.iconst 1, 1) := by decide +kernel
theorem dX12_readSet_94 : decode cX12_readSet 94 = .ok (.iadd, 1) := by decide +kernel
theorem dX12_readSet_95 : decode cX12_readSet 95 = .ok (.istore 7, 2) := by decide +kernel
theorem dX12_readSet_97 : decode cX12_readSet 97 = .ok (.aload_n 0, 1) := by decide +kernel
theorem dX12_readSet_98 : decode cX12_readSet 98 = .ok (.iload 7, 2) := by decide +kernel
theorem dX12_readSet_100 : decode cX12_readSet 100 = .ok (.invokevirtual 411, 3) := by decide +kernel
theorem dX12_readSet_103 : decode cX12_readSet 103 = .ok (.aload_n 0, 1) := by decide +kernel
theorem dX12_readSet_104 : decode cX12_readSet 104 = .ok (.getfield 402, 3) := by decide +kernel
theorem dX12_readSet_107 : decode cX12_readSet 107 = .ok (.istore 6, 2) := by decide +kernel
theorem dX12_readSet_109 : decode cX12_readSet 109 = .ok (.aload_n 0, 1) := by decide +kernel
theorem dX12_readSet_110 : decode cX12_readSet 110 = .ok (.getfield 405, 3) := by decide +kernel
theorem dX12_readSet_113 : decode cX12_readSet 113 = .ok (.istore_n 2, 1) := by decide +kernel
theorem dX12_readSet_114 : decode cX12_readSet 114 = .ok (.iload 6, 2) := by decide +kernel
theorem dX12_readSet_116 : decode cX12_readSet 116 = .ok (.iload 5, 2) := by decide +kernel
theorem dX12_readSet_118 : decode cX12_readSet 118 = .ok (.if_icmp .ge 10, 3) := by decide +kernel
theorem dX12_readSet_121 : decode cX12_readSet 121 = .ok (.aload_n 0, 1) := by decide +kernel
theorem dX12_readSet_122 : decode cX12_readSet 122 = .ok (.iconst 3, 1) := by decide +kernel
theorem dX12_readSet_123 : decode cX12_readSet 123 = .ok (.iload 7, 2) := by decide +kernel
theorem dX12_readSet_125 : decode cX12_readSet 125 = .ok (.invokevirtual 345, 3) := by decide +kernel
theorem dX12_readSet_128 : decode cX12_readSet 128 = .ok (.aload_n 0, 1) := by decide +kernel
theorem dX12_readSet_129 : decode cX12_readSet 129 = .ok (.getfield 320, 3) := by decide +kernel
theorem dX12_readSet_132 : decode cX12_readSet 132 = .ok (.ifCond .ne 11, 3) := by decide +kernel
theorem dX12_readSet_135 : decode cX12_readSet 135 = .ok (.aload_n 0, 1) := by decide +kernel
theorem dX12_readSet_136 : decode cX12_readSet 136 = .ok (.iload 5, 2) := by decide +kernel
theorem dX12_readSet_138 : decode cX12_readSet 138 = .ok (.iload 6, 2) := by decide +kernel
theorem dX12_readSet_140 : decode cX12_readSet 140 = .ok (.invokevirtual 414, 3) := by decide +kernel
theorem dX12_readSet_143 : decode cX12_readSet 143 = .ok (.aload_n 0, 1) := by decide +kernel
theorem dX12_readSet_144 : decode cX12_readSet 144 = .ok (.iload_n 2, 1) := by decide +kernel
theorem dX12_readSet_145 : decode cX12_readSet 145 = .ok (.invokevirtual 349, 3) := by decide +kernel
theorem dX12_readSet_148 : decode cX12_readSet 148 = .ok (.bipush 93, 2) := by decide +kernel
theorem dX12_readSet_150 : decode cX12_readSet 150 = .ok (.if_icmp .eq 7, 3) := by decide +kernel
theorem dX12_readSet_153 : decode cX12_readSet 153 = .ok (.iconst 1, 1) := by decide +kernel
theorem dX12_readSet_154 : decode cX12_readSet 154 = .ok (.goto 4, 3) := by decide +kernel
theorem dX12_readSet_157 : decode cX12_readSet 157 = .ok (.iconst 0, 1) := by decide +kernel
theorem dX12_readSet_158 : decode cX12_readSet 158 = .ok (.istore 4, 2) := by decide +kernel
theorem dX12_readSet_160 : decode cX12_readSet 160 = .ok (.goto (-117), 3) := by decide +kernel
theorem dX12_readSet_163 : decode cX12_readSet 163 = .ok (.aload_n 0, 1) := by decide +kernel
theorem dX12_readSet_164 : decode cX12_readSet 164 = .ok (.iload_n 2, 1) := by decide +kernel
theorem dX12_readSet_165 : decode cX12_readSet 165 = .ok (.iconst 1, 1) := by decide +kernel
theorem dX12_readSet_166 : decode cX12_readSet 166 = .ok (.iadd, 1) := by decide +kernel
theorem dX12_readSet_167 : decode cX12_readSet 167 = .ok (.putfield 362, 3) := by decide +kernel
theorem dX12_readSet_170 : decode cX12_readSet 170 = .ok (.aload_n 0, 1) := by decide +kernel
theorem dX12_readSet_171 : decode cX12_readSet 171 = .ok (.iload_n 1, 1) := by decide +kernel
theorem dX12_readSet_172 : decode cX12_readSet 172 = .ok (.iload_n 3, 1) := by decide +kernel
theorem dX12_readSet_173 : decode cX12_readSet 173 = .ok (.invokevirtual 417, 3) := by decide +kernel
theorem dX12_readSet_176 : decode cX12_readSet 176 = .ok (.ireturn, 1) := by decide +kernel
theorem dX12_replace_0 : decode cX12_replace 0 = .ok (.aload_n 0, 1) := by decide +kernel
theorem dX12_replace_1 : decode cX12_replace 1 = .ok (.iconst 0, 1) := by decide +kernel
theorem dX12_replace_2 : decode cX12_replace 2 = .ok (.putfield 1, 3) := by decide +kernel
theorem dX12_replace_5 : decode cX12_replace 5 = .ok (.aload_n 0, 1) := by decide +kernel
theorem dX12_replace_6 : decode cX12_replace 6 = .ok (.iload_n 1, 1) := by decide +kernel
theorem dX12_replace_7 : decode cX12_replace 7 = .ok (.iload_n 2, 1) := by decide +kernel
theorem dX12_replace_8 : decode cX12_replace 8 = .ok (.invokevirtual 687, 3) := by decide +kernel
theorem dX12_replace_11 : decode cX12_replace 11 = .ok (.istore 4, 2) := by decide +kernel
theorem dX12_replace_13 : decode cX12_replace 13 = .ok (.iload 4, 2) := by decide +kernel
theorem dX12_replace_15 : decode cX12_replace 15 = .ok (.ifCond .ne 17, 3) := by decide +kernel
theorem dX12_replace_18 : decode cX12_replace 18 = .ok (.iload_n 3, 1) := by decide +kernel
theorem dX12_replace_19 : decode cX12_replace 19 = .ok (.iconst 0, 1) := by decide +kernel
theorem dX12_replace_20 : decode cX12_replace 20 = .ok (.iconst 2, 1) := by decide +kernel
theorem dX12_replace_21 : decode cX12_replace 21 = .ok (.invokestatic 7, 3) := by decide +kernel
theorem dX12_replace_24 : decode cX12_replace 24 = .ok (.ifCond .ne 8, 3) := by decide +kernel
theorem dX12_replace_27 : decode cX12_replace 27 = .ok (.bipush (-4), 2) := by decide +kernel
theorem dX12_replace_29 : decode cX12_replace 29 = .ok (.goto 5, 3) := by decide +kernel
theorem dX12_replace_32 : decode cX12_replace 32 = .ok (.iload 4, 2) := by decide +kernel
theorem dX12_replace_34 : decode cX12_replace 34 = .ok (.istore 4, 2) := by decide +kernel
theorem dX12_replace_36 : decode cX12_replace 36 = .ok (.iload 4, 2) := by decide +kernel
theorem dX12_replace_38 : decode cX12_replace 38 = .ok (.ifCond .ne 16, 3) := by decide +kernel
theorem dX12_replace_41 : decode cX12_replace 41 = .ok (.aload_n 0, 1) := by decide +kernel
theorem dX12_replace_42 : decode cX12_replace 42 = .ok (.iload_n 1, 1) := by decide +kernel
theorem dX12_replace_43 : decode cX12_replace 43 = .ok (.invokevirtual 708, 3) := by decide +kernel
theorem dX12_replace_46 : decode cX12_replace 46 = .ok (.ifCond .ne 8, 3) := by decide +kernel
theorem dX12_replace_49 : decode cX12_replace 49 = .ok (.bipush (-5), 2) := by decide +kernel
theorem dX12_replace_51 : decode cX12_replace 51 = .ok (.goto 5, 3) := by decide +kernel
theorem dX12_replace_54 : decode cX12_replace 54 = .ok (.iload 4, 2) := by decide +kernel
theorem dX12_replace_56 : decode cX12_replace 56 = .ok (.istore 4, 2) := by decide +kernel
theorem dX12_replace_58 : decode cX12_replace 58 = .ok (.iload 4, 2) := by decide +kernel
theorem dX12_replace_60 : decode cX12_replace 60 = .ok (.ifCond .ne 12, 3) := by decide +kernel
theorem dX12_replace_63 : decode cX12_replace 63 = .ok (.aload_n 0, 1) := by decide +kernel
theorem dX12_replace_64 : decode cX12_replace 64 = .ok (.iload_n 1, 1) := by decide +kernel
theorem dX12_replace_65 : decode cX12_replace 65 = .ok (.iload_n 3, 1) := by decide +kernel
theorem dX12_replace_66 : decode cX12_replace 66 = .ok (.invokevirtual 690, 3) := by decide +kernel
theorem dX12_replace_69 : decode cX12_replace 69 = .ok (.goto 5, 3) := by decide +kernel
theorem dX12_replace_72 : decode cX12_replace 72 = .ok (.iload 4, 2) := by decide +kernel
theorem dX12_replace_74 : decode cX12_replace 74 = .ok (.istore 4, 2) := by decide +kernel
theorem dX12_replace_76 : decode cX12_replace 76 = .ok (.iload 4, 2) := by decide +kernel
theorem dX12_replace_78 : decode cX12_replace 78 = .ok (.ifCond .ne 13, 3) := by decide +kernel
theorem dX12_replace_81 : decode cX12_replace 81 = .ok (.aload_n 0, 1) := by decide +kernel
theorem dX12_replace_82 : decode cX12_replace 82 = .ok (.iload_n 1, 1) := by decide +kernel
theorem dX12_replace_83 : decode cX12_replace 83 = .ok (.iload_n 2, 1) := by decide +kernel
theorem dX12_replace_84 : decode cX12_replace 84 = .ok (.iload_n 3, 1) := by decide +kernel
theorem dX12_replace_85 : decode cX12_replace 85 = .ok (.invokevirtual 699, 3) := by decide +kernel
theorem dX12_replace_88 : decode cX12_replace 88 = .ok (.goto 5, 3) := by decide +kernel
theorem dX12_replace_91 : decode cX12_replace 91 = .ok (.iload 4, 2) := by decide +kernel
theorem dX12_replace_93 : decode cX12_replace 93 = .ok (.istore 4, 2) := by decide +kernel
theorem dX12_replace_95 : decode cX12_replace 95 = .ok (.iload 4, 2) := by decide +kernel
theorem dX12_replace_97 : decode cX12_replace 97 = .ok (.ifCond .eq 6, 3) := by decide +kernel
theorem dX12_replace_100 : decode cX12_replace 100 = .ok (.iload 4, 2) := by decide +kernel
theorem dX12_replace_102 : decode cX12_replace 102 = .ok (.ireturn, 1) := by decide +kernel
theorem dX12_replace_103 : decode cX12_replace 103 = .ok (.aload_n 0, 1) := by decide +kernel
theorem dX12_replace_104 : decode cX12_replace 104 = .ok (.iconst 0, 1) := by decide +kernel
theorem dX12_replace_105 : decode cX12_replace 105 = .ok (.putfield 702, 3) := by decide +kernel
theorem dX12_replace_108 : decode cX12_replace 108 = .ok (.iconst 0, 1) := by decide +kernel
theorem dX12_replace_109 : decode cX12_replace 109 = .ok (.istore 5, 2) := by decide +kernel
theorem dX12_replace_111 : decode cX12_replace 111 = .ok (.iconst 0, 1) := by decide +kernel
theorem dX12_replace_112 : decode cX12_replace 112 = .ok (.istore 6, 2) := by decide +kernel
theorem dX12_replace_114 : decode cX12_replace 114 = .ok (.iload 6, 2) := by decide +kernel
theorem dX12_replace_116 : decode cX12_replace 116 = .ok (.aload_n 0, 1) := by decide +kernel
theorem dX12_replace_117 : decode cX12_replace 117 = .ok (.getfield 696, 3) := by decide +kernel
theorem dX12_replace_120 : decode cX12_replace 120 = .ok (.if_icmp .ge 155, 3) := by decide +kernel
theorem dX12_replace_123 : decode cX12_replace 123 = .ok (.aload_n 0, 1) := by decide +kernel
theorem dX12_replace_124 : decode cX12_replace 124 = .ok (.iload_n 2, 1) := by decide +kernel
theorem dX12_replace_125 : decode cX12_replace 125 = .ok (.iload 5, 2) := by decide +kernel
theorem dX12_replace_127 : decode cX12_replace 127 = .ok (.aload_n 0, 1) := by decide +kernel
theorem dX12_replace_128 : decode cX12_replace 128 = .ok (.getfield 237, 3) := by decide +kernel
theorem dX12_replace_131 : decode cX12_replace 131 = .ok (.bipush 20, 2) := by decide +kernel
theorem dX12_replace_133 : decode cX12_replace 133 = .ok (.iload 6, 2) := by decide +kernel
theorem dX12_replace_135 : decode cX12_replace 135 = .ok (.imul, 1) := by decide +kernel
theorem dX12_replace_136 : decode cX12_replace 136 = .ok (.iaload, 1) := by decide +kernel
theorem dX12_replace_137 : decode cX12_replace 137 = .ok (.invokevirtual 711, 3) := by decide +kernel
theorem dX12_replace_140 : decode cX12_replace 140 = .ok (.iconst 0, 1) := by decide +kernel
theorem dX12_replace_141 : decode cX12_replace 141 = .ok (.istore 7, 2) := by decide +kernel
theorem dX12_replace_143 : decode cX12_replace 143 = .ok (.iload 7, 2) := by decide +kernel
theorem dX12_replace_145 : decode cX12_replace 145 = .ok (.aload_n 0, 1) := by decide +kernel
theorem dX12_replace_146 : decode cX12_replace 146 = .ok (.getfield 317, 3) := by decide +kernel
theorem dX12_replace_149 : decode cX12_replace 149 = .ok (.if_icmp .ge 106, 3) := by decide +kernel
theorem dX12_replace_152 : decode cX12_replace 152 = .ok (.aload_n 0, 1) := by decide +kernel
theorem dX12_replace_153 : decode cX12_replace 153 = .ok (.getfield 24, 3) := by decide +kernel
theorem dX12_replace_156 : decode cX12_replace 156 = .ok (.iload 7, 2) := by decide +kernel
theorem dX12_replace_158 : decode cX12_replace 158 = .ok (.iaload, 1) := by decide +kernel
theorem dX12_replace_159 : decode cX12_replace 159 = .ok (.istore 8, 2) := by decide +kernel
theorem dX12_replace_161 : decode cX12_replace 161 = .ok (.iload 8, 2) := by decide +kernel
theorem dX12_replace_163 : decode cX12_replace 163 = .ok (.bipush 36, 2) := by decide +kernel
theorem dX12_replace_165 : decode cX12_replace 165 = .ok (.if_icmp .ne 78, 3) := by decide +kernel
theorem dX12_replace_168 : decode cX12_replace 168 = .ok (.iinc 7 1, 3) := by decide +kernel
theorem dX12_replace_171 : decode cX12_replace 171 = .ok (.aload_n 0, 1) := by decide +kernel
theorem dX12_replace_172 : decode cX12_replace 172 = .ok (.getfield 24, 3) := by decide +kernel
theorem dX12_replace_175 : decode cX12_replace 175 = .ok (.iload 7, 2) := by decide +kernel
theorem dX12_replace_177 : decode cX12_replace 177 = .ok (.iaload, 1) := by decide +kernel
theorem dX12_replace_178 : decode cX12_replace 178 = .ok (.istore 8, 2) := by decide +kernel
theorem dX12_replace_180 : decode cX12_replace 180 = .ok (.iload 8, 2) := by decide +kernel
theorem dX12_replace_182 : decode cX12_replace 182 = .ok (.invokestatic 15, 3) := by decide +kernel
theorem dX12_replace_185 : decode cX12_replace 185 = .ok (.ifCond .eq 49, 3) := by decide +kernel
theorem dX12_replace_188 : decode cX12_replace 188 = .ok (.aload_n 0, 1) := by decide +kernel
theorem dX12_replace_189 : decode cX12_replace 189 = .ok (.iload_n 2, 1) := by decide +kernel
theorem dX12_replace_190 : decode cX12_replace 190 = .ok (.aload_n 0, 1) := by decide +kernel
theorem dX12_replace_191 : decode cX12_replace 191 = .ok (.getfield 237, 3) := by decide +kernel
theorem dX12_replace_194 : decode cX12_replace 194 = .ok (.bipush 20, 2) := by decide +kernel
theorem dX12_replace_196 : decode cX12_replace 196 = .ok (.iload 6, 2) := by decide +kernel
theorem dX12_replace_198 : decode cX12_replace 198 = .ok (.imul, 1) := by decide +kernel
theorem dX12_replace_199 : decode cX12_replace 199 = .ok (.iconst 2, 1) := by decide +kernel
theorem dX12_replace_200 : decode cX12_replace 200 = .ok (.iload 8, 2) := by decide +kernel
theorem dX12_replace_202 : decode cX12_replace 202 = .ok (.bipush 48, 2) := by decide +kernel
theorem dX12_replace_204 : decode cX12_replace 204 = .ok (.isub, 1) := by decide +kernel
theorem dX12_replace_205 : decode cX12_replace 205 = .ok (.imul, 1) := by decide +kernel
theorem dX12_replace_206 : decode cX12_replace 206 = .ok (.iadd, 1) := by decide +kernel
theorem dX12_replace_207 : decode cX12_replace 207 = .ok (.iaload, 1) := by decide +kernel
theorem dX12_replace_208 : decode cX12_replace 208 = .ok (.aload_n 0, 1) := by decide +kernel
theorem dX12_replace_209 : decode cX12_replace 209 = .ok (.getfield 237, 3) := by decide +kernel
theorem dX12_replace_212 : decode cX12_replace 212 = .ok (.bipush 20, 2) := by decide +kernel
theorem dX12_replace_214 : decode cX12_replace 214 = .ok (.iload 6, 2) := by decide +kernel
theorem dX12_replace_216 : decode cX12_replace 216 = .ok (.imul, 1) := by decide +kernel
theorem dX12_replace_217 : decode cX12_replace 217 = .ok (.iconst 2, 1) := by decide +kernel
theorem dX12_replace_218 : decode cX12_replace 218 = .ok (.iload 8, 2) := by decide +kernel
theorem dX12_replace_220 : decode cX12_replace 220 = .ok (.bipush 48, 2) := by decide +kernel
theorem dX12_replace_222 : decode cX12_replace 222 = .ok (.isub, 1) := by decide +kernel
theorem dX12_replace_223 : decode cX12_replace 223 = .ok (.imul, 1) := by decide +kernel
theorem dX12_replace_224 : decode cX12_replace 224 = .ok (.iadd, 1) := by decide +kernel
theorem dX12_replace_225 : decode cX12_replace 225 = .ok (.iconst 1, 1) := by decide +kernel
theorem dX12_replace_226 : decode cX12_replace 226 = .ok (.iadd, 1) := by decide +kernel
theorem dX12_replace_227 : decode cX12_replace 227 = .ok (.iaload, 1) := by decide +kernel
theorem dX12_replace_228 : decode cX12_replace 228 = .ok (.invokevirtual 711, 3) := by decide +kernel
theorem dX12_replace_231 : decode cX12_replace 231 = .ok (.goto 18, 3) := by decide +kernel
theorem dX12_replace_234 : decode cX12_replace 234 = .ok (.aload_n 0, 1) := by decide +kernel
theorem dX12_replace_235 : decode cX12_replace 235 = .ok (.iload 8, 2) := by decide +kernel
theorem dX12_replace_237 : decode cX12_replace 237 = .ok (.invokevirtual 705, 3) := by decide +kernel
theorem dX12_replace_240 : decode cX12_replace 240 = .ok (.goto 9, 3) := by decide +kernel
theorem dX12_replace_243 : decode cX12_replace 243 = .ok (.aload_n 0, 1) := by decide +kernel
theorem dX12_replace_244 : decode cX12_replace 244 = .ok (.iload 8, 2) := by decide +kernel
theorem dX12_replace_246 : decode cX12_replace 246 = .ok (.invokevirtual 705, 3) := by decide +kernel
theorem dX12_replace_249 : decode cX12_replace 249 = .ok (.iinc 7 1, 3) := by decide +kernel
theorem dX12_replace_252 : decode cX12_replace 252 = .ok (.goto (-109), 3) := by decide +kernel
theorem dX12_replace_255 : decode cX12_replace 255 = .ok (.aload_n 0, 1) := by decide +kernel
theorem dX12_replace_256 : decode cX12_replace 256 = .ok (.getfield 237, 3) := by decide +kernel
theorem dX12_replace_259 : decode cX12_replace 259 = .ok (.bipush 20, 2) := by decide +kernel
theorem dX12_replace_261 : decode cX12_replace 261 = .ok (.iload 6, 2) := by decide +kernel
theorem dX12_replace_263 : decode cX12_replace 263 = .ok (.imul, 1) := by decide +kernel
theorem dX12_replace_264 : decode cX12_replace 264 = .ok (.iconst 1, 1) := by decide +kernel
theorem dX12_replace_265 : decode cX12_replace 265 = .ok (.iadd, 1) := by decide +kernel
theorem dX12_replace_266 : decode cX12_replace 266 = .ok (.iaload, 1) := by decide +kernel
theorem dX12_replace_267 : decode cX12_replace 267 = .ok (.istore 5, 2) := by decide +kernel
theorem dX12_replace_269 : decode cX12_replace 269 = .ok (.iinc 6 1, 3) := by decide +kernel
theorem dX12_replace_272 : decode cX12_replace 272 = .ok (.goto (-158), 3) := by decide +kernel
theorem dX12_replace_275 : decode cX12_replace 275 = .ok (.aload_n 0, 1) := by decide +kernel
theorem dX12_replace_276 : decode cX12_replace 276 = .ok (.iload_n 2, 1) := by decide +kernel
theorem dX12_replace_277 : decode cX12_replace 277 = .ok (.iload 5, 2) := by decide +kernel
theorem dX12_replace_279 : decode cX12_replace 279 = .ok (.aload_n 0, 1) := by decide +kernel
theorem dX12_replace_280 : decode cX12_replace 280 = .ok (.getfield 174, 3) := by decide +kernel
theorem dX12_replace_283 : decode cX12_replace 283 = .ok (.iload_n 2, 1) := by decide +kernel
theorem dX12_replace_284 : decode cX12_replace 284 = .ok (.iaload, 1) := by decide +kernel
theorem dX12_replace_285 : decode cX12_replace 285 = .ok (.invokevirtual 711, 3) := by decide +kernel
theorem dX12_replace_288 : decode cX12_replace 288 = .ok (.aload_n 0, 1) := by decide +kernel
theorem dX12_replace_289 : decode cX12_replace 289 = .ok (.getfield 702, 3) := by decide +kernel
theorem dX12_replace_292 : decode cX12_replace 292 = .ok (.sipush 400, 3) := by decide +kernel
theorem dX12_replace_295 : decode cX12_replace 295 = .ok (.if_icmp .le 11, 3) := by decide +kernel
theorem dX12_replace_298 : decode cX12_replace 298 = .ok (.aload_n 0, 1) := by decide +kernel
theorem dX12_replace_299 : decode cX12_replace 299 = .ok (.iconst 4, 1) := by decide +kernel
theorem dX12_replace_300 : decode cX12_replace 300 = .ok (.putfield 456, 3) := by decide +kernel
theorem dX12_replace_303 : decode cX12_replace 303 = .ok (.bipush (-9), 2) := by decide +kernel
theorem dX12_replace_305 : decode cX12_replace 305 = .ok (.ireturn, 1) := by decide +kernel
theorem dX12_replace_306 : decode cX12_replace 306 = .ok (.iconst 0, 1) := by decide +kernel
theorem dX12_replace_307 : decode cX12_replace 307 = .ok (.istore 6, 2) := by decide +kernel
theorem dX12_replace_309 : decode cX12_replace 309 = .ok (.iload 6, 2) := by decide +kernel
theorem dX12_replace_311 : decode cX12_replace 311 = .ok (.aload_n 0, 1) := by decide +kernel
theorem dX12_replace_312 : decode cX12_replace 312 = .ok (.getfield 702, 3) := by decide +kernel
theorem dX12_replace_315 : decode cX12_replace 315 = .ok (.if_icmp .ge 23, 3) := by decide +kernel
theorem dX12_replace_318 : decode cX12_replace 318 = .ok (.aload_n 0, 1) := by decide +kernel
theorem dX12_replace_319 : decode cX12_replace 319 = .ok (.getfield 155, 3) := by decide +kernel
theorem dX12_replace_322 : decode cX12_replace 322 = .ok (.iload 6, 2) := by decide +kernel
theorem dX12_replace_324 : decode cX12_replace 324 = .ok (.aload_n 0, 1) := by decide +kernel
theorem dX12_replace_325 : decode cX12_replace 325 = .ok (.getfield 240, 3) := by decide +kernel
theorem dX12_replace_328 : decode cX12_replace 328 = .ok (.iload 6, 2) := by decide +kernel
theorem dX12_replace_330 : decode cX12_replace 330 = .ok (.iaload, 1) := by decide +kernel
theorem dX12_replace_331 : decode cX12_replace 331 = .ok (.iastore, 1) := by decide +kernel
theorem dX12_replace_332 : decode cX12_replace 332 = .ok (.iinc 6 1, 3) := by decide +kernel
theorem dX12_replace_335 : decode cX12_replace 335 = .ok (.goto (-26), 3) := by decide +kernel
theorem dX12_replace_338 : decode cX12_replace 338 = .ok (.aload_n 0, 1) := by decide +kernel
theorem dX12_replace_339 : decode cX12_replace 339 = .ok (.aload_n 0, 1) := by decide +kernel
theorem dX12_replace_340 : decode cX12_replace 340 = .ok (.getfield 702, 3) := by decide +kernel
theorem dX12_replace_343 : decode cX12_replace 343 = .ok (.putfield 502, 3) := by decide +kernel
theorem dX12_replace_346 : decode cX12_replace 346 = .ok (.aload_n 0, 1) := by decide +kernel
theorem dX12_replace_347 : decode cX12_replace 347 = .ok (.iconst 0, 1) := by decide +kernel
theorem dX12_replace_348 : decode cX12_replace 348 = .ok (.putfield 505, 3) := by decide +kernel
theorem dX12_replace_351 : decode cX12_replace 351 = .ok (.aload_n 0, 1) := by decide +kernel
theorem dX12_replace_352 : decode cX12_replace 352 = .ok (.iconst 0, 1) := by decide +kernel
theorem dX12_replace_353 : decode cX12_replace 353 = .ok (.putfield 317, 3) := by decide +kernel
theorem dX12_replace_356 : decode cX12_replace 356 = .ok (.aload_n 0, 1) := by decide +kernel
theorem dX12_replace_357 : decode cX12_replace 357 = .ok (.getfield 502, 3) := by decide +kernel
theorem dX12_replace_360 : decode cX12_replace 360 = .ok (.ireturn, 1) := by decide +kernel
theorem dX12_risky_0 : decode cX12_risky 0 = .ok (.aload_n 0, 1) := by decide +kernel
theorem dX12_risky_1 : decode cX12_risky 1 = .ok (.iconst 0, 1) := by decide +kernel
theorem dX12_risky_2 : decode cX12_risky 2 = .ok (.putfield 1, 3) := by decide +kernel
theorem dX12_risky_5 : decode cX12_risky 5 = .ok (.aload_n 0, 1) := by decide +kernel
theorem dX12_risky_6 : decode cX12_risky 6 = .ok (.iload_n 1, 1) := by decide +kernel
theorem dX12_risky_7 : decode cX12_risky 7 = .ok (.invokevirtual 459, 3) := by decide +kernel
theorem dX12_risky_10 : decode cX12_risky 10 = .ok (.ifCond .eq 6, 3) := by decide +kernel
theorem dX12_risky_13 : decode cX12_risky 13 = .ok (.bipush (-2), 2) := by decide +kernel
theorem dX12_risky_15 : decode cX12_risky 15 = .ok (.ireturn, 1) := by decide +kernel
theorem dX12_risky_16 : decode cX12_risky 16 = .ok (.sipush 220, 3) := by decide +kernel
theorem dX12_risky_19 : decode cX12_risky 19 = .ok (.iload_n 1, 1) := by decide +kernel
theorem dX12_risky_20 : decode cX12_risky 20 = .ok (.imul, 1) := by decide +kernel
theorem dX12_risky_21 : decode cX12_risky 21 = .ok (.istore_n 2, 1) := by decide +kernel
theorem dX12_risky_22 : decode cX12_risky 22 = .ok (.iconst 0, 1) := by decide +kernel
theorem dX12_risky_23 : decode cX12_risky 23 = .ok (.istore_n 3, 1) := by decide +kernel
theorem dX12_risky_24 : decode cX12_risky 24 = .ok (.iload_n 3, 1) := by decide +kernel
theorem dX12_risky_25 : decode cX12_risky 25 = .ok (.aload_n 0, 1) := by decide +kernel
theorem dX12_risky_26 : decode cX12_risky 26 = .ok (.getfield 35, 3) := by decide +kernel
theorem dX12_risky_29 : decode cX12_risky 29 = .ok (.iload_n 1, 1) := by decide +kernel
theorem dX12_risky_30 : decode cX12_risky 30 = .ok (.iaload, 1) := by decide +kernel
theorem dX12_risky_31 : decode cX12_risky 31 = .ok (.if_icmp .ge 16, 3) := by decide +kernel
theorem dX12_risky_34 : decode cX12_risky 34 = .ok (.aload_n 0, 1) := by decide +kernel
theorem dX12_risky_35 : decode cX12_risky 35 = .ok (.getfield 168, 3) := by decide +kernel
theorem dX12_risky_38 : decode cX12_risky 38 = .ok (.iload_n 3, 1) := by decide +kernel
theorem dX12_risky_39 : decode cX12_risky 39 = .ok (.iconst 0, 1) := by decide +kernel
theorem dX12_risky_40 : decode cX12_risky 40 = .ok (.bastore, 1) := by decide +kernel
theorem dX12_risky_41 : decode cX12_risky 41 = .ok (.iinc 3 1, 3) := by decide +kernel
theorem dX12_risky_44 : decode cX12_risky 44 = .ok (.goto (-20), 3) := by decide +kernel
theorem dX12_risky_47 : decode cX12_risky 47 = .ok (.aload_n 0, 1) := by decide +kernel
theorem dX12_risky_48 : decode cX12_risky 48 = .ok (.iload_n 1, 1) := by decide +kernel
theorem dX12_risky_49 : decode cX12_risky 49 = .ok (.invokevirtual 528, 3) := by decide +kernel
theorem dX12_risky_52 : decode cX12_risky 52 = .ok (.aload_n 0, 1) := by decide +kernel
theorem dX12_risky_53 : decode cX12_risky 53 = .ok (.invokevirtual 531, 3) := by decide +kernel
theorem dX12_risky_56 : decode cX12_risky 56 = .ok (.iconst 0, 1) := by decide +kernel
theorem dX12_risky_57 : decode cX12_risky 57 = .ok (.istore_n 3, 1) := by decide +kernel
theorem dX12_risky_58 : decode cX12_risky 58 = .ok (.iload_n 3, 1) := by decide +kernel
theorem dX12_risky_59 : decode cX12_risky 59 = .ok (.aload_n 0, 1) := by decide +kernel
theorem dX12_risky_60 : decode cX12_risky 60 = .ok (.getfield 524, 3) := by decide +kernel
theorem dX12_risky_63 : decode cX12_risky 63 = .ok (.if_icmp .ge 146, 3) := by decide +kernel
theorem dX12_risky_66 : decode cX12_risky 66 = .ok (.aload_n 0, 1) := by decide +kernel
theorem dX12_risky_67 : decode cX12_risky 67 = .ok (.iload_n 1, 1) := by decide +kernel
theorem dX12_risky_68 : decode cX12_risky 68 = .ok (.aload_n 0, 1) := by decide +kernel
theorem dX12_risky_69 : decode cX12_risky 69 = .ok (.getfield 165, 3) := by decide +kernel
theorem dX12_risky_72 : decode cX12_risky 72 = .ok (.iload_n 3, 1) := by decide +kernel
theorem dX12_risky_73 : decode cX12_risky 73 = .ok (.iaload, 1) := by decide +kernel
theorem dX12_risky_74 : decode cX12_risky 74 = .ok (.invokevirtual 521, 3) := by decide +kernel
theorem dX12_risky_77 : decode cX12_risky 77 = .ok (.iconst 0, 1) := by decide +kernel
theorem dX12_risky_78 : decode cX12_risky 78 = .ok (.istore 4, 2) := by decide +kernel
theorem dX12_risky_80 : decode cX12_risky 80 = .ok (.iload 4, 2) := by decide +kernel
theorem dX12_risky_82 : decode cX12_risky 82 = .ok (.aload_n 0, 1) := by decide +kernel
theorem dX12_risky_83 : decode cX12_risky 83 = .ok (.getfield 35, 3) := by decide +kernel
theorem dX12_risky_86 : decode cX12_risky 86 = .ok (.iload_n 1, 1) := by decide +kernel
theorem dX12_risky_87 : decode cX12_risky 87 = .ok (.iaload, 1) := by decide +kernel
theorem dX12_risky_88 : decode cX12_risky 88 = .ok (.if_icmp .ge 115, 3) := by decide +kernel
theorem dX12_risky_91 : decode cX12_risky 91 = .ok (.aload_n 0, 1) := by decide +kernel
theorem dX12_risky_92 : decode cX12_risky 92 = .ok (.iload_n 2, 1) := by decide +kernel
theorem dX12_risky_93 : decode cX12_risky 93 = .ok (.iload 4, 2) := by decide +kernel
theorem dX12_risky_95 : decode cX12_risky 95 = .ok (.iadd, 1) := by decide +kernel
theorem dX12_risky_96 : decode cX12_risky 96 = .ok (.invokevirtual 534, 3) := by decide +kernel
theorem dX12_risky_99 : decode cX12_risky 99 = .ok (.ifCond .eq 19, 3) := by decide +kernel
theorem dX12_risky_102 : decode cX12_risky 102 = .ok (.aload_n 0, 1) := by decide +kernel
theorem dX12_risky_103 : decode cX12_risky 103 = .ok (.getfield 158, 3) := by decide +kernel
theorem dX12_risky_106 : decode cX12_risky 106 = .ok (.iload 4, 2) := by decide +kernel
theorem dX12_risky_108 : decode cX12_risky 108 = .ok (.iconst 1, 1) := by decide +kernel
theorem dX12_risky_109 : decode cX12_risky 109 = .ok (.iadd, 1) := by decide +kernel
theorem dX12_risky_110 : decode cX12_risky 110 = .ok (.baload, 1) := by decide +kernel
theorem dX12_risky_111 : decode cX12_risky 111 = .ok (.ifCond .eq 7, 3) := by decide +kernel
theorem dX12_risky_114 : decode cX12_risky 114 = .ok (.iconst 1, 1) := by decide +kernel
theorem dX12_risky_115 : decode cX12_risky 115 = .ok (.goto 4, 3) := by decide +kernel
theorem dX12_risky_118 : decode cX12_risky 118 = .ok (.iconst 0, 1) := by decide +kernel
theorem dX12_risky_119 : decode cX12_risky 119 = .ok (.istore 5, 2) := by decide +kernel
theorem dX12_risky_121 : decode cX12_risky 121 = .ok (.iload 4, 2) := by decide +kernel
theorem dX12_risky_123 : decode cX12_risky 123 = .ok (.iconst 1, 1) := by decide +kernel
theorem dX12_risky_124 : decode cX12_risky 124 = .ok (.iadd, 1) := by decide +kernel
theorem dX12_risky_125 : decode cX12_risky 125 = .ok (.istore 6, 2) := by decide +kernel
theorem dX12_risky_127 : decode cX12_risky 127 = .ok (.iload 5, 2) := by decide +kernel
theorem dX12_risky_129 : decode cX12_risky 129 = .ok (.ifCond .eq 68, 3) := by decide +kernel
theorem dX12_risky_132 : decode cX12_risky 132 = .ok (.iload 6, 2) := by decide +kernel
theorem dX12_risky_134 : decode cX12_risky 134 = .ok (.aload_n 0, 1) := by decide +kernel
theorem dX12_risky_135 : decode cX12_risky 135 = .ok (.getfield 62, 3) := by decide +kernel
theorem dX12_risky_138 : decode cX12_risky 138 = .ok (.iload_n 2, 1) := by decide +kernel
theorem dX12_risky_139 : decode cX12_risky 139 = .ok (.iload 4, 2) := by decide +kernel
theorem dX12_risky_141 : decode cX12_risky 141 = .ok (.iadd, 1) := by decide +kernel
theorem dX12_risky_142 : decode cX12_risky 142 = .ok (.iaload, 1) := by decide +kernel
theorem dX12_risky_143 : decode cX12_risky 143 = .ok (.if_icmp .ge 54, 3) := by decide +kernel
theorem dX12_risky_146 : decode cX12_risky 146 = .ok (.aload_n 0, 1) := by decide +kernel
theorem dX12_risky_147 : decode cX12_risky 147 = .ok (.getfield 168, 3) := by decide +kernel
theorem dX12_risky_150 : decode cX12_risky 150 = .ok (.iload 4, 2) := by decide +kernel
theorem dX12_risky_152 : decode cX12_risky 152 = .ok (.aload_n 0, 1) := by decide +kernel
theorem dX12_risky_153 : decode cX12_risky 153 = .ok (.getfield 168, 3) := by decide +kernel
theorem dX12_risky_156 : decode cX12_risky 156 = .ok (.iload 4, 2) := by decide +kernel
theorem dX12_risky_158 : decode cX12_risky 158 = .ok (.baload, 1) := by decide +kernel
theorem dX12_risky_159 : decode cX12_risky 159 = .ok (.ifCond .ne 26, 3) := by decide +kernel
theorem dX12_risky_162 : decode cX12_risky 162 = .ok (.aload_n 0, 1) := by decide +kernel
theorem dX12_risky_163 : decode cX12_risky 163 = .ok (.iload_n 2, 1) := by decide +kernel
theorem dX12_risky_164 : decode cX12_risky 164 = .ok (.iload 6, 2) := by decide +kernel
theorem dX12_risky_166 : decode cX12_risky 166 = .ok (.iadd, 1) := by decide +kernel
theorem dX12_risky_167 : decode cX12_risky 167 = .ok (.invokevirtual 534, 3) := by decide +kernel
theorem dX12_risky_170 : decode cX12_risky 170 = .ok (.ifCond .eq 19, 3) := by decide +kernel
theorem dX12_risky_173 : decode cX12_risky 173 = .ok (.aload_n 0, 1) := by decide +kernel
theorem dX12_risky_174 : decode cX12_risky 174 = .ok (.getfield 158, 3) := by decide +kernel
theorem dX12_risky_177 : decode cX12_risky 177 = .ok (.iload 6, 2) := by decide +kernel
theorem dX12_risky_179 : decode cX12_risky 179 = .ok (.iconst 1, 1) := by decide +kernel
theorem dX12_risky_180 : decode cX12_risky 180 = .ok (.iadd, 1) := by decide +kernel
theorem dX12_risky_181 : decode cX12_risky 181 = .ok (.baload, 1) := by decide +kernel
theorem dX12_risky_182 : decode cX12_risky 182 = .ok (.ifCond .eq 7, 3) := by decide +kernel
theorem dX12_risky_185 : decode cX12_risky 185 = .ok (.iconst 1, 1) := by decide +kernel
theorem dX12_risky_186 : decode cX12_risky 186 = .ok (.goto 4, 3) := by decide +kernel
theorem dX12_risky_189 : decode cX12_risky 189 = .ok (.iconst 0, 1) := by decide +kernel
theorem dX12_risky_190 : decode cX12_risky 190 = .ok (.bastore, 1) := by decide +kernel
theorem dX12_risky_191 : decode cX12_risky 191 = .ok (.iinc 6 1, 3) := by decide +kernel
theorem dX12_risky_194 : decode cX12_risky 194 = .ok (.goto (-67), 3) := by decide +kernel
theorem dX12_risky_197 : decode cX12_risky 197 = .ok (.iinc 4 1, 3) := by decide +kernel
theorem dX12_risky_200 : decode cX12_risky 200 = .ok (.goto (-120), 3) := by decide +kernel
theorem dX12_risky_203 : decode cX12_risky 203 = .ok (.iinc 3 1, 3) := by decide +kernel
theorem dX12_risky_206 : decode cX12_risky 206 = .ok (.goto (-148), 3) := by decide +kernel
theorem dX12_risky_209 : decode cX12_risky 209 = .ok (.iconst 0, 1) := by decide +kernel
theorem dX12_risky_210 : decode cX12_risky 210 = .ok (.istore_n 3, 1) := by decide +kernel
theorem dX12_risky_211 : decode cX12_risky 211 = .ok (.iload_n 3, 1) := by decide +kernel
theorem dX12_risky_212 : decode cX12_risky 212 = .ok (.aload_n 0, 1) := by decide +kernel
theorem dX12_risky_213 : decode cX12_risky 213 = .ok (.getfield 35, 3) := by decide +kernel
theorem dX12_risky_216 : decode cX12_risky 216 = .ok (.iload_n 1, 1) := by decide +kernel
theorem dX12_risky_217 : decode cX12_risky 217 = .ok (.iaload, 1) := by decide +kernel
theorem dX12_risky_218 : decode cX12_risky 218 = .ok (.if_icmp .ge 20, 3) := by decide +kernel
theorem dX12_risky_221 : decode cX12_risky 221 = .ok (.aload_n 0, 1) := by decide +kernel
theorem dX12_risky_222 : decode cX12_risky 222 = .ok (.getfield 168, 3) := by decide +kernel
theorem dX12_risky_225 : decode cX12_risky 225 = .ok (.iload_n 3, 1) := by decide +kernel
theorem dX12_risky_226 : decode cX12_risky 226 = .ok (.baload, 1) := by decide +kernel
theorem dX12_risky_227 : decode cX12_risky 227 = .ok (.ifCond .eq 5, 3) := by decide +kernel
theorem dX12_risky_230 : decode cX12_risky 230 = .ok (.iload_n 3, 1) := by decide +kernel
theorem dX12_risky_231 : decode cX12_risky 231 = .ok (.ireturn, 1) := by decide +kernel
theorem dX12_risky_232 : decode cX12_risky 232 = .ok (.iinc 3 1, 3) := by decide +kernel
theorem dX12_risky_235 : decode cX12_risky 235 = .ok (.goto (-24), 3) := by decide +kernel
theorem dX12_risky_238 : decode cX12_risky 238 = .ok (.iconst (-1), 1) := by decide +kernel
theorem dX12_risky_239 : decode cX12_risky 239 = .ok (.ireturn, 1) := by decide +kernel
theorem dX12_searched_0 : decode cX12_searched 0 = .ok (.aload_n 0, 1) := by decide +kernel
theorem dX12_searched_1 : decode cX12_searched 1 = .ok (.sipush 220, 3) := by decide +kernel
theorem dX12_searched_4 : decode cX12_searched 4 = .ok (.iload_n 1, 1) := by decide +kernel
theorem dX12_searched_5 : decode cX12_searched 5 = .ok (.imul, 1) := by decide +kernel
theorem dX12_searched_6 : decode cX12_searched 6 = .ok (.putfield 629, 3) := by decide +kernel
theorem dX12_searched_9 : decode cX12_searched 9 = .ok (.aload_n 0, 1) := by decide +kernel
theorem dX12_searched_10 : decode cX12_searched 10 = .ok (.bipush 100, 2) := by decide +kernel
theorem dX12_searched_12 : decode cX12_searched 12 = .ok (.iload_n 2, 1) := by decide +kernel
theorem dX12_searched_13 : decode cX12_searched 13 = .ok (.imul, 1) := by decide +kernel
theorem dX12_searched_14 : decode cX12_searched 14 = .ok (.putfield 592, 3) := by decide +kernel
theorem dX12_searched_17 : decode cX12_searched 17 = .ok (.aload_n 0, 1) := by decide +kernel
theorem dX12_searched_18 : decode cX12_searched 18 = .ok (.aload_n 0, 1) := by decide +kernel
theorem dX12_searched_19 : decode cX12_searched 19 = .ok (.getfield 174, 3) := by decide +kernel
theorem dX12_searched_22 : decode cX12_searched 22 = .ok (.iload_n 2, 1) := by decide +kernel
theorem dX12_searched_23 : decode cX12_searched 23 = .ok (.iaload, 1) := by decide +kernel
theorem dX12_searched_24 : decode cX12_searched 24 = .ok (.putfield 595, 3) := by decide +kernel
theorem dX12_searched_27 : decode cX12_searched 27 = .ok (.aload_n 0, 1) := by decide +kernel
theorem dX12_searched_28 : decode cX12_searched 28 = .ok (.iconst 0, 1) := by decide +kernel
theorem dX12_searched_29 : decode cX12_searched 29 = .ok (.putfield 583, 3) := by decide +kernel
theorem dX12_searched_32 : decode cX12_searched 32 = .ok (.aload_n 0, 1) := by decide +kernel
theorem dX12_searched_33 : decode cX12_searched 33 = .ok (.iload 5, 2) := by decide +kernel
theorem dX12_searched_35 : decode cX12_searched 35 = .ok (.ifCond .eq 9, 3) := by decide +kernel
theorem dX12_searched_38 : decode cX12_searched 38 = .ok (.ldc_w 653, 3) := by decide +kernel
theorem dX12_searched_41 : decode cX12_searched 41 = .ok (.goto 5, 3) := by decide +kernel
theorem dX12_searched_44 : decode cX12_searched 44 = .ok (.iload 6, 2) := by decide +kernel
theorem dX12_searched_46 : decode cX12_searched 46 = .ok (.putfield 586, 3) := by decide +kernel
theorem dX12_searched_49 : decode cX12_searched 49 = .ok (.aload_n 0, 1) := by decide +kernel
theorem dX12_searched_50 : decode cX12_searched 50 = .ok (.iconst 0, 1) := by decide +kernel
theorem dX12_searched_51 : decode cX12_searched 51 = .ok (.putfield 589, 3) := by decide +kernel
theorem dX12_searched_54 : decode cX12_searched 54 = .ok (.aload_n 0, 1) := by decide +kernel
theorem dX12_searched_55 : decode cX12_searched 55 = .ok (.dup, 1) := by decide +kernel
theorem dX12_searched_56 : decode cX12_searched 56 = .ok (.getfield 644, 3) := by decide +kernel
theorem dX12_searched_59 : decode cX12_searched 59 = .ok (.iconst 1, 1) := by decide +kernel
theorem dX12_searched_60 : decode cX12_searched 60 = .ok (.iadd, 1) := by decide +kernel
theorem dX12_searched_61 : decode cX12_searched 61 = .ok (.putfield 644, 3) := by decide +kernel
theorem dX12_searched_64 : decode cX12_searched 64 = .ok (.iconst 0, 1) := by decide +kernel
theorem dX12_searched_65 : decode cX12_searched 65 = .ok (.istore 7, 2) := by decide +kernel
theorem dX12_searched_67 : decode cX12_searched 67 = .ok (.iload_n 3, 1) := by decide +kernel
theorem dX12_searched_68 : decode cX12_searched 68 = .ok (.istore 8, 2) := by decide +kernel
theorem dX12_searched_70 : decode cX12_searched 70 = .ok (.iload 7, 2) := by decide +kernel
theorem dX12_searched_72 : decode cX12_searched 72 = .ok (.ifCond .ne 39, 3) := by decide +kernel
theorem dX12_searched_75 : decode cX12_searched 75 = .ok (.iload 8, 2) := by decide +kernel
theorem dX12_searched_77 : decode cX12_searched 77 = .ok (.iload 4, 2) := by decide +kernel
theorem dX12_searched_79 : decode cX12_searched 79 = .ok (.ifCond .eq 7, 3) := by decide +kernel
theorem dX12_searched_82 : decode cX12_searched 82 = .ok (.iload_n 3, 1) := by decide +kernel
theorem dX12_searched_83 : decode cX12_searched 83 = .ok (.goto 7, 3) := by decide +kernel
theorem dX12_searched_86 : decode cX12_searched 86 = .ok (.aload_n 0, 1) := by decide +kernel
theorem dX12_searched_87 : decode cX12_searched 87 = .ok (.getfield 595, 3) := by decide +kernel
theorem dX12_searched_90 : decode cX12_searched 90 = .ok (.if_icmp .gt 21, 3) := by decide +kernel
theorem dX12_searched_93 : decode cX12_searched 93 = .ok (.aload_n 0, 1) := by decide +kernel
theorem dX12_searched_94 : decode cX12_searched 94 = .ok (.iload 8, 2) := by decide +kernel
theorem dX12_searched_96 : decode cX12_searched 96 = .ok (.iload 4, 2) := by decide +kernel
theorem dX12_searched_98 : decode cX12_searched 98 = .ok (.iload 5, 2) := by decide +kernel
theorem dX12_searched_100 : decode cX12_searched 100 = .ok (.invokevirtual 654, 3) := by decide +kernel
theorem dX12_searched_103 : decode cX12_searched 103 = .ok (.istore 7, 2) := by decide +kernel
theorem dX12_searched_105 : decode cX12_searched 105 = .ok (.iinc 8 1, 3) := by decide +kernel
theorem dX12_searched_108 : decode cX12_searched 108 = .ok (.goto (-38), 3) := by decide +kernel
theorem dX12_searched_111 : decode cX12_searched 111 = .ok (.iload 7, 2) := by decide +kernel
theorem dX12_searched_113 : decode cX12_searched 113 = .ok (.iconst 1, 1) := by decide +kernel
theorem dX12_searched_114 : decode cX12_searched 114 = .ok (.if_icmp .ne 82, 3) := by decide +kernel
theorem dX12_searched_117 : decode cX12_searched 117 = .ok (.iconst 0, 1) := by decide +kernel
theorem dX12_searched_118 : decode cX12_searched 118 = .ok (.istore 9, 2) := by decide +kernel
theorem dX12_searched_120 : decode cX12_searched 120 = .ok (.iload 9, 2) := by decide +kernel
theorem dX12_searched_122 : decode cX12_searched 122 = .ok (.bipush 10, 2) := by decide +kernel
theorem dX12_searched_124 : decode cX12_searched 124 = .ok (.if_icmp .ge 72, 3) := by decide +kernel
theorem dX12_searched_127 : decode cX12_searched 127 = .ok (.aload_n 0, 1) := by decide +kernel
theorem dX12_searched_128 : decode cX12_searched 128 = .ok (.getfield 231, 3) := by decide +kernel
theorem dX12_searched_131 : decode cX12_searched 131 = .ok (.iconst 2, 1) := by decide +kernel
theorem dX12_searched_132 : decode cX12_searched 132 = .ok (.iload 9, 2) := by decide +kernel
theorem dX12_searched_134 : decode cX12_searched 134 = .ok (.imul, 1) := by decide +kernel
theorem dX12_searched_135 : decode cX12_searched 135 = .ok (.iload 9, 2) := by decide +kernel
theorem dX12_searched_137 : decode cX12_searched 137 = .ok (.ifCond .ne 10, 3) := by decide +kernel
theorem dX12_searched_140 : decode cX12_searched 140 = .ok (.iload 8, 2) := by decide +kernel
theorem dX12_searched_142 : decode cX12_searched 142 = .ok (.iconst 1, 1) := by decide +kernel
theorem dX12_searched_143 : decode cX12_searched 143 = .ok (.isub, 1) := by decide +kernel
theorem dX12_searched_144 : decode cX12_searched 144 = .ok (.goto 12, 3) := by decide +kernel
theorem dX12_searched_147 : decode cX12_searched 147 = .ok (.aload_n 0, 1) := by decide +kernel
theorem dX12_searched_148 : decode cX12_searched 148 = .ok (.getfield 204, 3) := by decide +kernel
theorem dX12_searched_151 : decode cX12_searched 151 = .ok (.iconst 0, 1) := by decide +kernel
theorem dX12_searched_152 : decode cX12_searched 152 = .ok (.iload 9, 2) := by decide +kernel
theorem dX12_searched_154 : decode cX12_searched 154 = .ok (.iadd, 1) := by decide +kernel
theorem dX12_searched_155 : decode cX12_searched 155 = .ok (.iaload, 1) := by decide +kernel
theorem dX12_searched_156 : decode cX12_searched 156 = .ok (.iastore, 1) := by decide +kernel
theorem dX12_searched_157 : decode cX12_searched 157 = .ok (.aload_n 0, 1) := by decide +kernel
theorem dX12_searched_158 : decode cX12_searched 158 = .ok (.getfield 231, 3) := by decide +kernel
theorem dX12_searched_161 : decode cX12_searched 161 = .ok (.iconst 2, 1) := by decide +kernel
theorem dX12_searched_162 : decode cX12_searched 162 = .ok (.iload 9, 2) := by decide +kernel
theorem dX12_searched_164 : decode cX12_searched 164 = .ok (.imul, 1) := by decide +kernel
theorem dX12_searched_165 : decode cX12_searched 165 = .ok (.iconst 1, 1) := by decide +kernel
theorem dX12_searched_166 : decode cX12_searched 166 = .ok (.iadd, 1) := by decide +kernel
theorem dX12_searched_167 : decode cX12_searched 167 = .ok (.iload 9, 2) := by decide +kernel
theorem dX12_searched_169 : decode cX12_searched 169 = .ok (.ifCond .ne 10, 3) := by decide +kernel
theorem dX12_searched_172 : decode cX12_searched 172 = .ok (.aload_n 0, 1) := by decide +kernel
theorem dX12_searched_173 : decode cX12_searched 173 = .ok (.getfield 604, 3) := by decide +kernel
theorem dX12_searched_176 : decode cX12_searched 176 = .ok (.goto 13, 3) := by decide +kernel
theorem dX12_searched_179 : decode cX12_searched 179 = .ok (.aload_n 0, 1) := by decide +kernel
theorem dX12_searched_180 : decode cX12_searched 180 = .ok (.getfield 204, 3) := by decide +kernel
theorem dX12_searched_183 : decode cX12_searched 183 = .ok (.bipush 10, 2) := by decide +kernel
theorem dX12_searched_185 : decode cX12_searched 185 = .ok (.iload 9, 2) := by decide +kernel
theorem dX12_searched_187 : decode cX12_searched 187 = .ok (.iadd, 1) := by decide +kernel
theorem dX12_searched_188 : decode cX12_searched 188 = .ok (.iaload, 1) := by decide +kernel
theorem dX12_searched_189 : decode cX12_searched 189 = .ok (.iastore, 1) := by decide +kernel
theorem dX12_searched_190 : decode cX12_searched 190 = .ok (.iinc 9 1, 3) := by decide +kernel
theorem dX12_searched_193 : decode cX12_searched 193 = .ok (.goto (-73), 3) := by decide +kernel
theorem dX12_searched_196 : decode cX12_searched 196 = .ok (.aload_n 0, 1) := by decide +kernel
theorem dX12_searched_197 : decode cX12_searched 197 = .ok (.iload 5, 2) := by decide +kernel
theorem dX12_searched_199 : decode cX12_searched 199 = .ok (.ifCond .eq 7, 3) := by decide +kernel
theorem dX12_searched_202 : decode cX12_searched 202 = .ok (.iconst 0, 1) := by decide +kernel
theorem dX12_searched_203 : decode cX12_searched 203 = .ok (.goto 7, 3) := by decide +kernel
theorem dX12_searched_206 : decode cX12_searched 206 = .ok (.aload_n 0, 1) := by decide +kernel
theorem dX12_searched_207 : decode cX12_searched 207 = .ok (.getfield 583, 3) := by decide +kernel
theorem dX12_searched_210 : decode cX12_searched 210 = .ok (.putfield 583, 3) := by decide +kernel
theorem dX12_searched_213 : decode cX12_searched 213 = .ok (.iload 7, 2) := by decide +kernel
theorem dX12_searched_215 : decode cX12_searched 215 = .ok (.ireturn, 1) := by decide +kernel
theorem dX12_set_0 : decode cX12_set 0 = .ok (.aload_n 0, 1) := by decide +kernel
theorem dX12_set_1 : decode cX12_set 1 = .ok (.getfield 204, 3) := by decide +kernel
theorem dX12_set_4 : decode cX12_set 4 = .ok (.iload_n 1, 1) := by decide +kernel
theorem dX12_set_5 : decode cX12_set 5 = .ok (.iaload, 1) := by decide +kernel
theorem dX12_set_6 : decode cX12_set 6 = .ok (.iload_n 2, 1) := by decide +kernel
theorem dX12_set_7 : decode cX12_set 7 = .ok (.if_icmp .eq 45, 3) := by decide +kernel
theorem dX12_set_10 : decode cX12_set 10 = .ok (.aload_n 0, 1) := by decide +kernel
theorem dX12_set_11 : decode cX12_set 11 = .ok (.getfield 208, 3) := by decide +kernel
theorem dX12_set_14 : decode cX12_set 14 = .ok (.aload_n 0, 1) := by decide +kernel
theorem dX12_set_15 : decode cX12_set 15 = .ok (.getfield 577, 3) := by decide +kernel
theorem dX12_set_18 : decode cX12_set 18 = .ok (.iload_n 1, 1) := by decide +kernel
theorem dX12_set_19 : decode cX12_set 19 = .ok (.iastore, 1) := by decide +kernel
theorem dX12_set_20 : decode cX12_set 20 = .ok (.aload_n 0, 1) := by decide +kernel
theorem dX12_set_21 : decode cX12_set 21 = .ok (.getfield 211, 3) := by decide +kernel
theorem dX12_set_24 : decode cX12_set 24 = .ok (.aload_n 0, 1) := by decide +kernel
theorem dX12_set_25 : decode cX12_set 25 = .ok (.getfield 577, 3) := by decide +kernel
theorem dX12_set_28 : decode cX12_set 28 = .ok (.aload_n 0, 1) := by decide +kernel
theorem dX12_set_29 : decode cX12_set 29 = .ok (.getfield 204, 3) := by decide +kernel
theorem dX12_set_32 : decode cX12_set 32 = .ok (.iload_n 1, 1) := by decide +kernel
theorem dX12_set_33 : decode cX12_set 33 = .ok (.iaload, 1) := by decide +kernel
theorem dX12_set_34 : decode cX12_set 34 = .ok (.iastore, 1) := by decide +kernel
theorem dX12_set_35 : decode cX12_set 35 = .ok (.aload_n 0, 1) := by decide +kernel
theorem dX12_set_36 : decode cX12_set 36 = .ok (.dup, 1) := by decide +kernel
theorem dX12_set_37 : decode cX12_set 37 = .ok (.getfield 577, 3) := by decide +kernel
theorem dX12_set_40 : decode cX12_set 40 = .ok (.iconst 1, 1) := by decide +kernel
theorem dX12_set_41 : decode cX12_set 41 = .ok (.iadd, 1) := by decide +kernel
theorem dX12_set_42 : decode cX12_set 42 = .ok (.putfield 577, 3) := by decide +kernel
theorem dX12_set_45 : decode cX12_set 45 = .ok (.aload_n 0, 1) := by decide +kernel
theorem dX12_set_46 : decode cX12_set 46 = .ok (.getfield 204, 3) := by decide +kernel
theorem dX12_set_49 : decode cX12_set 49 = .ok (.iload_n 1, 1) := by decide +kernel
theorem dX12_set_50 : decode cX12_set 50 = .ok (.iload_n 2, 1) := by decide +kernel
theorem dX12_set_51 : decode cX12_set 51 = .ok (.iastore, 1) := by decide +kernel
theorem dX12_set_52 : decode cX12_set 52 = .ok (.return_, 1) := by decide +kernel
theorem dX12_setNode_0 : decode cX12_setNode 0 = .ok (.aload_n 0, 1) := by decide +kernel
theorem dX12_setNode_1 : decode cX12_setNode 1 = .ok (.iload_n 1, 1) := by decide +kernel
theorem dX12_setNode_2 : decode cX12_setNode 2 = .ok (.invokevirtual 399, 3) := by decide +kernel
theorem dX12_setNode_5 : decode cX12_setNode 5 = .ok (.aload_n 0, 1) := by decide +kernel
theorem dX12_setNode_6 : decode cX12_setNode 6 = .ok (.iconst 2, 1) := by decide +kernel
theorem dX12_setNode_7 : decode cX12_setNode 7 = .ok (.iload_n 2, 1) := by decide +kernel
theorem dX12_setNode_8 : decode cX12_setNode 8 = .ok (.ifCond .eq 7, 3) := by decide +kernel
theorem dX12_setNode_11 : decode cX12_setNode 11 = .ok (.iconst 1, 1) := by decide +kernel
theorem dX12_setNode_12 : decode cX12_setNode 12 = .ok (.goto 4, 3) := by decide +kernel
theorem dX12_setNode_15 : decode cX12_setNode 15 = .ok (.iconst 0, 1) := by decide +kernel
theorem dX12_setNode_16 : decode cX12_setNode 16 = .ok (.invokevirtual 335, 3) := by decide +kernel
theorem dX12_setNode_19 : decode cX12_setNode 19 = .ok (.istore_n 3, 1) := by decide +kernel
theorem dX12_setNode_20 : decode cX12_setNode 20 = .ok (.aload_n 0, 1) := by decide +kernel
theorem dX12_setNode_21 : decode cX12_setNode 21 = .ok (.getfield 107, 3) := by decide +kernel
theorem dX12_setNode_24 : decode cX12_setNode 24 = .ok (.iload_n 3, 1) := by decide +kernel
theorem dX12_setNode_25 : decode cX12_setNode 25 = .ok (.iload_n 1, 1) := by decide +kernel
theorem dX12_setNode_26 : decode cX12_setNode 26 = .ok (.iastore, 1) := by decide +kernel
theorem dX12_setNode_27 : decode cX12_setNode 27 = .ok (.aload_n 0, 1) := by decide +kernel
theorem dX12_setNode_28 : decode cX12_setNode 28 = .ok (.getfield 104, 3) := by decide +kernel
theorem dX12_setNode_31 : decode cX12_setNode 31 = .ok (.iload_n 3, 1) := by decide +kernel
theorem dX12_setNode_32 : decode cX12_setNode 32 = .ok (.aload_n 0, 1) := by decide +kernel
theorem dX12_setNode_33 : decode cX12_setNode 33 = .ok (.getfield 396, 3) := by decide +kernel
theorem dX12_setNode_36 : decode cX12_setNode 36 = .ok (.iload_n 1, 1) := by decide +kernel
theorem dX12_setNode_37 : decode cX12_setNode 37 = .ok (.isub, 1) := by decide +kernel
theorem dX12_setNode_38 : decode cX12_setNode 38 = .ok (.iastore, 1) := by decide +kernel
theorem dX12_setNode_39 : decode cX12_setNode 39 = .ok (.iload_n 3, 1) := by decide +kernel
theorem dX12_setNode_40 : decode cX12_setNode 40 = .ok (.ireturn, 1) := by decide +kernel
theorem dX12_sign_0 : decode cX12_sign 0 = .ok (.aload_n 0, 1) := by decide +kernel
theorem dX12_sign_1 : decode cX12_sign 1 = .ok (.iload_n 1, 1) := by decide +kernel
theorem dX12_sign_2 : decode cX12_sign 2 = .ok (.iconst 0, 1) := by decide +kernel
theorem dX12_sign_3 : decode cX12_sign 3 = .ok (.iconst 3, 1) := by decide +kernel
theorem dX12_sign_4 : decode cX12_sign 4 = .ok (.invokestatic 7, 3) := by decide +kernel
theorem dX12_sign_7 : decode cX12_sign 7 = .ok (.ifCond .ne 7, 3) := by decide +kernel
theorem dX12_sign_10 : decode cX12_sign 10 = .ok (.iconst 2, 1) := by decide +kernel
theorem dX12_sign_11 : decode cX12_sign 11 = .ok (.goto 37, 3) := by decide +kernel
theorem dX12_sign_14 : decode cX12_sign 14 = .ok (.aload_n 0, 1) := by decide +kernel
theorem dX12_sign_15 : decode cX12_sign 15 = .ok (.getfield 171, 3) := by decide +kernel
theorem dX12_sign_18 : decode cX12_sign 18 = .ok (.iload_n 1, 1) := by decide +kernel
theorem dX12_sign_19 : decode cX12_sign 19 = .ok (.baload, 1) := by decide +kernel
theorem dX12_sign_20 : decode cX12_sign 20 = .ok (.ifCond .ne 7, 3) := by decide +kernel
theorem dX12_sign_23 : decode cX12_sign 23 = .ok (.iconst 1, 1) := by decide +kernel
theorem dX12_sign_24 : decode cX12_sign 24 = .ok (.goto 24, 3) := by decide +kernel
theorem dX12_sign_27 : decode cX12_sign 27 = .ok (.iload_n 2, 1) := by decide +kernel
theorem dX12_sign_28 : decode cX12_sign 28 = .ok (.iconst 0, 1) := by decide +kernel
theorem dX12_sign_29 : decode cX12_sign 29 = .ok (.aload_n 0, 1) := by decide +kernel
theorem dX12_sign_30 : decode cX12_sign 30 = .ok (.getfield 174, 3) := by decide +kernel
theorem dX12_sign_33 : decode cX12_sign 33 = .ok (.iload_n 1, 1) := by decide +kernel
theorem dX12_sign_34 : decode cX12_sign 34 = .ok (.iaload, 1) := by decide +kernel
theorem dX12_sign_35 : decode cX12_sign 35 = .ok (.iconst 1, 1) := by decide +kernel
theorem dX12_sign_36 : decode cX12_sign 36 = .ok (.isub, 1) := by decide +kernel
theorem dX12_sign_37 : decode cX12_sign 37 = .ok (.invokestatic 7, 3) := by decide +kernel
theorem dX12_sign_40 : decode cX12_sign 40 = .ok (.ifCond .ne 7, 3) := by decide +kernel
theorem dX12_sign_43 : decode cX12_sign 43 = .ok (.iconst 2, 1) := by decide +kernel
theorem dX12_sign_44 : decode cX12_sign 44 = .ok (.goto 4, 3) := by decide +kernel
theorem dX12_sign_47 : decode cX12_sign 47 = .ok (.iconst 0, 1) := by decide +kernel
theorem dX12_sign_48 : decode cX12_sign 48 = .ok (.putfield 1, 3) := by decide +kernel
theorem dX12_sign_51 : decode cX12_sign 51 = .ok (.aload_n 0, 1) := by decide +kernel
theorem dX12_sign_52 : decode cX12_sign 52 = .ok (.getfield 1, 3) := by decide +kernel
theorem dX12_sign_55 : decode cX12_sign 55 = .ok (.ifCond .ne 18, 3) := by decide +kernel
theorem dX12_sign_58 : decode cX12_sign 58 = .ok (.aload_n 0, 1) := by decide +kernel
theorem dX12_sign_59 : decode cX12_sign 59 = .ok (.getfield 177, 3) := by decide +kernel
theorem dX12_sign_62 : decode cX12_sign 62 = .ok (.bipush 100, 2) := by decide +kernel
theorem dX12_sign_64 : decode cX12_sign 64 = .ok (.iload_n 1, 1) := by decide +kernel
theorem dX12_sign_65 : decode cX12_sign 65 = .ok (.imul, 1) := by decide +kernel
theorem dX12_sign_66 : decode cX12_sign 66 = .ok (.iload_n 2, 1) := by decide +kernel
theorem dX12_sign_67 : decode cX12_sign 67 = .ok (.iadd, 1) := by decide +kernel
theorem dX12_sign_68 : decode cX12_sign 68 = .ok (.iaload, 1) := by decide +kernel
theorem dX12_sign_69 : decode cX12_sign 69 = .ok (.i2c, 1) := by decide +kernel
theorem dX12_sign_70 : decode cX12_sign 70 = .ok (.goto 5, 3) := by decide +kernel
theorem dX12_sign_73 : decode cX12_sign 73 = .ok (.bipush 32, 2) := by decide +kernel
theorem dX12_sign_75 : decode cX12_sign 75 = .ok (.ireturn, 1) := by decide +kernel
theorem dX12_signAt_0 : decode cX12_signAt 0 = .ok (.iload_n 1, 1) := by decide +kernel
theorem dX12_signAt_1 : decode cX12_signAt 1 = .ok (.aload_n 0, 1) := by decide +kernel
theorem dX12_signAt_2 : decode cX12_signAt 2 = .ok (.getfield 317, 3) := by decide +kernel
theorem dX12_signAt_5 : decode cX12_signAt 5 = .ok (.if_icmp .ge 12, 3) := by decide +kernel
theorem dX12_signAt_8 : decode cX12_signAt 8 = .ok (.aload_n 0, 1) := by decide +kernel
theorem dX12_signAt_9 : decode cX12_signAt 9 = .ok (.getfield 24, 3) := by decide +kernel
theorem dX12_signAt_12 : decode cX12_signAt 12 = .ok (.iload_n 1, 1) := by decide +kernel
theorem dX12_signAt_13 : decode cX12_signAt 13 = .ok (.iaload, 1) := by decide +kernel
theorem dX12_signAt_14 : decode cX12_signAt 14 = .ok (.goto 4, 3) := by decide +kernel
theorem dX12_signAt_17 : decode cX12_signAt 17 = .ok (.iconst (-1), 1) := by decide +kernel
theorem dX12_signAt_18 : decode cX12_signAt 18 = .ok (.ireturn, 1) := by decide +kernel
theorem dX12_signOf_0 : decode cX12_signOf 0 = .ok (.aload_n 0, 1) := by decide +kernel
theorem dX12_signOf_1 : decode cX12_signOf 1 = .ok (.getfield 177, 3) := by decide +kernel
theorem dX12_signOf_4 : decode cX12_signOf 4 = .ok (.aload_n 0, 1) := by decide +kernel
theorem dX12_signOf_5 : decode cX12_signOf 5 = .ok (.getfield 592, 3) := by decide +kernel
theorem dX12_signOf_8 : decode cX12_signOf 8 = .ok (.iload_n 1, 1) := by decide +kernel
theorem dX12_signOf_9 : decode cX12_signOf 9 = .ok (.iadd, 1) := by decide +kernel
theorem dX12_signOf_10 : decode cX12_signOf 10 = .ok (.iaload, 1) := by decide +kernel
theorem dX12_signOf_11 : decode cX12_signOf 11 = .ok (.ireturn, 1) := by decide +kernel
theorem dX12_sizeBars_0 : decode cX12_sizeBars 0 = .ok (.sipush 220, 3) := by decide +kernel
theorem dX12_sizeBars_3 : decode cX12_sizeBars 3 = .ok (.iload_n 1, 1) := by decide +kernel
theorem dX12_sizeBars_4 : decode cX12_sizeBars 4 = .ok (.imul, 1) := by decide +kernel
theorem dX12_sizeBars_5 : decode cX12_sizeBars 5 = .ok (.istore_n 3, 1) := by decide +kernel
theorem dX12_sizeBars_6 : decode cX12_sizeBars 6 = .ok (.iload_n 2, 1) := by decide +kernel
theorem dX12_sizeBars_7 : decode cX12_sizeBars 7 = .ok (.ifCond .le 15, 3) := by decide +kernel
theorem dX12_sizeBars_10 : decode cX12_sizeBars 10 = .ok (.aload_n 0, 1) := by decide +kernel
theorem dX12_sizeBars_11 : decode cX12_sizeBars 11 = .ok (.getfield 65, 3) := by decide +kernel
theorem dX12_sizeBars_14 : decode cX12_sizeBars 14 = .ok (.iload_n 3, 1) := by decide +kernel
theorem dX12_sizeBars_15 : decode cX12_sizeBars 15 = .ok (.iaload, 1) := by decide +kernel
theorem dX12_sizeBars_16 : decode cX12_sizeBars 16 = .ok (.sipush 200, 3) := by decide +kernel
theorem dX12_sizeBars_19 : decode cX12_sizeBars 19 = .ok (.if_icmp .gt 19, 3) := by decide +kernel
theorem dX12_sizeBars_22 : decode cX12_sizeBars 22 = .ok (.iload_n 2, 1) := by decide +kernel
theorem dX12_sizeBars_23 : decode cX12_sizeBars 23 = .ok (.iconst 2, 1) := by decide +kernel
theorem dX12_sizeBars_24 : decode cX12_sizeBars 24 = .ok (.if_icmp .ne 19, 3) := by decide +kernel
theorem dX12_sizeBars_27 : decode cX12_sizeBars 27 = .ok (.aload_n 0, 1) := by decide +kernel
theorem dX12_sizeBars_28 : decode cX12_sizeBars 28 = .ok (.getfield 68, 3) := by decide +kernel
theorem dX12_sizeBars_31 : decode cX12_sizeBars 31 = .ok (.iload_n 3, 1) := by decide +kernel
theorem dX12_sizeBars_32 : decode cX12_sizeBars 32 = .ok (.iaload, 1) := by decide +kernel
theorem dX12_sizeBars_33 : decode cX12_sizeBars 33 = .ok (.bipush 60, 2) := by decide +kernel
theorem dX12_sizeBars_35 : decode cX12_sizeBars 35 = .ok (.if_icmp .le 8, 3) := by decide +kernel
theorem dX12_sizeBars_38 : decode cX12_sizeBars 38 = .ok (.bipush (-7), 2) := by decide +kernel
theorem dX12_sizeBars_40 : decode cX12_sizeBars 40 = .ok (.goto 4, 3) := by decide +kernel
theorem dX12_sizeBars_43 : decode cX12_sizeBars 43 = .ok (.iconst 0, 1) := by decide +kernel
theorem dX12_sizeBars_44 : decode cX12_sizeBars 44 = .ok (.ireturn, 1) := by decide +kernel
theorem dX12_span_0 : decode cX12_span 0 = .ok (.aload_n 0, 1) := by decide +kernel
theorem dX12_span_1 : decode cX12_span 1 = .ok (.iconst 0, 1) := by decide +kernel
theorem dX12_span_2 : decode cX12_span 2 = .ok (.putfield 1, 3) := by decide +kernel
theorem dX12_span_5 : decode cX12_span 5 = .ok (.aload_n 0, 1) := by decide +kernel
theorem dX12_span_6 : decode cX12_span 6 = .ok (.getfield 664, 3) := by decide +kernel
theorem dX12_span_9 : decode cX12_span 9 = .ok (.ifCond .ne 6, 3) := by decide +kernel
theorem dX12_span_12 : decode cX12_span 12 = .ok (.bipush (-2), 2) := by decide +kernel
theorem dX12_span_14 : decode cX12_span 14 = .ok (.ireturn, 1) := by decide +kernel
theorem dX12_span_15 : decode cX12_span 15 = .ok (.iload_n 1, 1) := by decide +kernel
theorem dX12_span_16 : decode cX12_span 16 = .ok (.iconst 0, 1) := by decide +kernel
theorem dX12_span_17 : decode cX12_span 17 = .ok (.aload_n 0, 1) := by decide +kernel
theorem dX12_span_18 : decode cX12_span 18 = .ok (.getfield 667, 3) := by decide +kernel
theorem dX12_span_21 : decode cX12_span 21 = .ok (.invokestatic 7, 3) := by decide +kernel
theorem dX12_span_24 : decode cX12_span 24 = .ok (.ifCond .ne 11, 3) := by decide +kernel
theorem dX12_span_27 : decode cX12_span 27 = .ok (.aload_n 0, 1) := by decide +kernel
theorem dX12_span_28 : decode cX12_span 28 = .ok (.iconst 1, 1) := by decide +kernel
theorem dX12_span_29 : decode cX12_span 29 = .ok (.putfield 456, 3) := by decide +kernel
theorem dX12_span_32 : decode cX12_span 32 = .ok (.bipush (-4), 2) := by decide +kernel
theorem dX12_span_34 : decode cX12_span 34 = .ok (.ireturn, 1) := by decide +kernel
theorem dX12_span_35 : decode cX12_span 35 = .ok (.aload_n 0, 1) := by decide +kernel
theorem dX12_span_36 : decode cX12_span 36 = .ok (.getfield 234, 3) := by decide +kernel
theorem dX12_span_39 : decode cX12_span 39 = .ok (.iconst 2, 1) := by decide +kernel
theorem dX12_span_40 : decode cX12_span 40 = .ok (.iload_n 1, 1) := by decide +kernel
theorem dX12_span_41 : decode cX12_span 41 = .ok (.imul, 1) := by decide +kernel
theorem dX12_span_42 : decode cX12_span 42 = .ok (.iload_n 2, 1) := by decide +kernel
theorem dX12_span_43 : decode cX12_span 43 = .ok (.ifCond .eq 7, 3) := by decide +kernel
theorem dX12_span_46 : decode cX12_span 46 = .ok (.iconst 1, 1) := by decide +kernel
theorem dX12_span_47 : decode cX12_span 47 = .ok (.goto 4, 3) := by decide +kernel
theorem dX12_span_50 : decode cX12_span 50 = .ok (.iconst 0, 1) := by decide +kernel
theorem dX12_span_51 : decode cX12_span 51 = .ok (.iadd, 1) := by decide +kernel
theorem dX12_span_52 : decode cX12_span 52 = .ok (.iaload, 1) := by decide +kernel
theorem dX12_span_53 : decode cX12_span 53 = .ok (.ireturn, 1) := by decide +kernel
theorem dX12_steps_0 : decode cX12_steps 0 = .ok (.aload_n 0, 1) := by decide +kernel
theorem dX12_steps_1 : decode cX12_steps 1 = .ok (.iconst 0, 1) := by decide +kernel
theorem dX12_steps_2 : decode cX12_steps 2 = .ok (.putfield 1, 3) := by decide +kernel
theorem dX12_steps_5 : decode cX12_steps 5 = .ok (.aload_n 0, 1) := by decide +kernel
theorem dX12_steps_6 : decode cX12_steps 6 = .ok (.getfield 583, 3) := by decide +kernel
theorem dX12_steps_9 : decode cX12_steps 9 = .ok (.ireturn, 1) := by decide +kernel
theorem dX12_table_0 : decode cX12_table 0 = .ok (.aload_n 0, 1) := by decide +kernel
theorem dX12_table_1 : decode cX12_table 1 = .ok (.iconst 0, 1) := by decide +kernel
theorem dX12_table_2 : decode cX12_table 2 = .ok (.putfield 1, 3) := by decide +kernel
theorem dX12_table_5 : decode cX12_table 5 = .ok (.aload_n 0, 1) := by decide +kernel
theorem dX12_table_6 : decode cX12_table 6 = .ok (.iload_n 1, 1) := by decide +kernel
theorem dX12_table_7 : decode cX12_table 7 = .ok (.invokevirtual 459, 3) := by decide +kernel
theorem dX12_table_10 : decode cX12_table 10 = .ok (.ifCond .eq 6, 3) := by decide +kernel
theorem dX12_table_13 : decode cX12_table 13 = .ok (.bipush (-2), 2) := by decide +kernel
theorem dX12_table_15 : decode cX12_table 15 = .ok (.ireturn, 1) := by decide +kernel
theorem dX12_table_16 : decode cX12_table 16 = .ok (.aload_n 0, 1) := by decide +kernel
theorem dX12_table_17 : decode cX12_table 17 = .ok (.iload_n 1, 1) := by decide +kernel
theorem dX12_table_18 : decode cX12_table 18 = .ok (.invokevirtual 730, 3) := by decide +kernel
theorem dX12_table_21 : decode cX12_table 21 = .ok (.istore_n 2, 1) := by decide +kernel
theorem dX12_table_22 : decode cX12_table 22 = .ok (.iload_n 2, 1) := by decide +kernel
theorem dX12_table_23 : decode cX12_table 23 = .ok (.ifCond .eq 7, 3) := by decide +kernel
theorem dX12_table_26 : decode cX12_table 26 = .ok (.iload_n 2, 1) := by decide +kernel
theorem dX12_table_27 : decode cX12_table 27 = .ok (.goto 9, 3) := by decide +kernel
theorem dX12_table_30 : decode cX12_table 30 = .ok (.aload_n 0, 1) := by decide +kernel
theorem dX12_table_31 : decode cX12_table 31 = .ok (.getfield 262, 3) := by decide +kernel
theorem dX12_table_34 : decode cX12_table 34 = .ok (.iconst 0, 1) := by decide +kernel
theorem dX12_table_35 : decode cX12_table 35 = .ok (.iaload, 1) := by decide +kernel
theorem dX12_table_36 : decode cX12_table 36 = .ok (.ireturn, 1) := by decide +kernel
theorem dX12_tabled_0 : decode cX12_tabled 0 = .ok (.aload_n 0, 1) := by decide +kernel
theorem dX12_tabled_1 : decode cX12_tabled 1 = .ok (.iload_n 1, 1) := by decide +kernel
theorem dX12_tabled_2 : decode cX12_tabled 2 = .ok (.iconst 2, 1) := by decide +kernel
theorem dX12_tabled_3 : decode cX12_tabled 3 = .ok (.invokevirtual 690, 3) := by decide +kernel
theorem dX12_tabled_6 : decode cX12_tabled 6 = .ok (.istore_n 2, 1) := by decide +kernel
theorem dX12_tabled_7 : decode cX12_tabled 7 = .ok (.iload_n 2, 1) := by decide +kernel
theorem dX12_tabled_8 : decode cX12_tabled 8 = .ok (.ifCond .eq 5, 3) := by decide +kernel
theorem dX12_tabled_11 : decode cX12_tabled 11 = .ok (.iload_n 2, 1) := by decide +kernel
theorem dX12_tabled_12 : decode cX12_tabled 12 = .ok (.ireturn, 1) := by decide +kernel
theorem dX12_tabled_13 : decode cX12_tabled 13 = .ok (.aload_n 0, 1) := by decide +kernel
theorem dX12_tabled_14 : decode cX12_tabled 14 = .ok (.iload_n 1, 1) := by decide +kernel
theorem dX12_tabled_15 : decode cX12_tabled 15 = .ok (.invokevirtual 528, 3) := by decide +kernel
theorem dX12_tabled_18 : decode cX12_tabled 18 = .ok (.aload_n 0, 1) := by decide +kernel
theorem dX12_tabled_19 : decode cX12_tabled 19 = .ok (.invokevirtual 531, 3) := by decide +kernel
theorem dX12_tabled_22 : decode cX12_tabled 22 = .ok (.aload_n 0, 1) := by decide +kernel
theorem dX12_tabled_23 : decode cX12_tabled 23 = .ok (.iconst 0, 1) := by decide +kernel
theorem dX12_tabled_24 : decode cX12_tabled 24 = .ok (.iload_n 1, 1) := by decide +kernel
theorem dX12_tabled_25 : decode cX12_tabled 25 = .ok (.invokevirtual 727, 3) := by decide +kernel
theorem dX12_tabled_28 : decode cX12_tabled 28 = .ok (.ireturn, 1) := by decide +kernel
theorem dX12_takes_0 : decode cX12_takes 0 = .ok (.aload_n 0, 1) := by decide +kernel
theorem dX12_takes_1 : decode cX12_takes 1 = .ok (.getfield 77, 3) := by decide +kernel
theorem dX12_takes_4 : decode cX12_takes 4 = .ok (.iload_n 1, 1) := by decide +kernel
theorem dX12_takes_5 : decode cX12_takes 5 = .ok (.baload, 1) := by decide +kernel
theorem dX12_takes_6 : decode cX12_takes 6 = .ok (.ifCond .eq 10, 3) := by decide +kernel
theorem dX12_takes_9 : decode cX12_takes 9 = .ok (.iload_n 2, 1) := by decide +kernel
theorem dX12_takes_10 : decode cX12_takes 10 = .ok (.invokestatic 511, 3) := by decide +kernel
theorem dX12_takes_13 : decode cX12_takes 13 = .ok (.goto 4, 3) := by decide +kernel
theorem dX12_takes_16 : decode cX12_takes 16 = .ok (.iload_n 2, 1) := by decide +kernel
theorem dX12_takes_17 : decode cX12_takes 17 = .ok (.istore_n 3, 1) := by decide +kernel
theorem dX12_takes_18 : decode cX12_takes 18 = .ok (.aload_n 0, 1) := by decide +kernel
theorem dX12_takes_19 : decode cX12_takes 19 = .ok (.getfield 44, 3) := by decide +kernel
theorem dX12_takes_22 : decode cX12_takes 22 = .ok (.iload_n 1, 1) := by decide +kernel
theorem dX12_takes_23 : decode cX12_takes 23 = .ok (.iaload, 1) := by decide +kernel
theorem dX12_takes_24 : decode cX12_takes 24 = .ok (.ifCond .ne 29, 3) := by decide +kernel
theorem dX12_takes_27 : decode cX12_takes 27 = .ok (.aload_n 0, 1) := by decide +kernel
theorem dX12_takes_28 : decode cX12_takes 28 = .ok (.getfield 47, 3) := by decide +kernel
theorem dX12_takes_31 : decode cX12_takes 31 = .ok (.iload_n 1, 1) := by decide +kernel
theorem dX12_takes_32 : decode cX12_takes 32 = .ok (.iaload, 1) := by decide +kernel
theorem dX12_takes_33 : decode cX12_takes 33 = .ok (.iload_n 2, 1) := by decide +kernel
theorem dX12_takes_34 : decode cX12_takes 34 = .ok (.if_icmp .eq 13, 3) := by decide +kernel
theorem dX12_takes_37 : decode cX12_takes 37 = .ok (.aload_n 0, 1) := by decide +kernel
theorem dX12_takes_38 : decode cX12_takes 38 = .ok (.getfield 47, 3) := by decide +kernel
theorem dX12_takes_41 : decode cX12_takes 41 = .ok (.iload_n 1, 1) := by decide +kernel
theorem dX12_takes_42 : decode cX12_takes 42 = .ok (.iaload, 1) := by decide +kernel
theorem dX12_takes_43 : decode cX12_takes 43 = .ok (.iload_n 3, 1) := by decide +kernel
theorem dX12_takes_44 : decode cX12_takes 44 = .ok (.if_icmp .ne 7, 3) := by decide +kernel
theorem dX12_takes_47 : decode cX12_takes 47 = .ok (.iconst 1, 1) := by decide +kernel
theorem dX12_takes_48 : decode cX12_takes 48 = .ok (.goto 4, 3) := by decide +kernel
theorem dX12_takes_51 : decode cX12_takes 51 = .ok (.iconst 0, 1) := by decide +kernel
theorem dX12_takes_52 : decode cX12_takes 52 = .ok (.ireturn, 1) := by decide +kernel
theorem dX12_takes_53 : decode cX12_takes 53 = .ok (.aload_n 0, 1) := by decide +kernel
theorem dX12_takes_54 : decode cX12_takes 54 = .ok (.getfield 44, 3) := by decide +kernel
theorem dX12_takes_57 : decode cX12_takes 57 = .ok (.iload_n 1, 1) := by decide +kernel
theorem dX12_takes_58 : decode cX12_takes 58 = .ok (.iaload, 1) := by decide +kernel
theorem dX12_takes_59 : decode cX12_takes 59 = .ok (.iconst 1, 1) := by decide +kernel
theorem dX12_takes_60 : decode cX12_takes 60 = .ok (.if_icmp .ne 15, 3) := by decide +kernel
theorem dX12_takes_63 : decode cX12_takes 63 = .ok (.iload_n 2, 1) := by decide +kernel
theorem dX12_takes_64 : decode cX12_takes 64 = .ok (.bipush 10, 2) := by decide +kernel
theorem dX12_takes_66 : decode cX12_takes 66 = .ok (.if_icmp .eq 7, 3) := by decide +kernel
theorem dX12_takes_69 : decode cX12_takes 69 = .ok (.iconst 1, 1) := by decide +kernel
theorem dX12_takes_70 : decode cX12_takes 70 = .ok (.goto 4, 3) := by decide +kernel
theorem dX12_takes_73 : decode cX12_takes 73 = .ok (.iconst 0, 1) := by decide +kernel
theorem dX12_takes_74 : decode cX12_takes 74 = .ok (.ireturn, 1) := by decide +kernel
theorem dX12_takes_75 : decode cX12_takes 75 = .ok (.aload_n 0, 1) := by decide +kernel
theorem dX12_takes_76 : decode cX12_takes 76 = .ok (.iload_n 1, 1) := by decide +kernel
theorem dX12_takes_77 : decode cX12_takes 77 = .ok (.iload_n 2, 1) := by decide +kernel
theorem dX12_takes_78 : decode cX12_takes 78 = .ok (.invokevirtual 514, 3) := by decide +kernel
theorem dX12_takes_81 : decode cX12_takes 81 = .ok (.ifCond .ne 12, 3) := by decide +kernel
theorem dX12_takes_84 : decode cX12_takes 84 = .ok (.aload_n 0, 1) := by decide +kernel
theorem dX12_takes_85 : decode cX12_takes 85 = .ok (.iload_n 1, 1) := by decide +kernel
theorem dX12_takes_86 : decode cX12_takes 86 = .ok (.iload_n 3, 1) := by decide +kernel
theorem dX12_takes_87 : decode cX12_takes 87 = .ok (.invokevirtual 514, 3) := by decide +kernel
theorem dX12_takes_90 : decode cX12_takes 90 = .ok (.ifCond .eq 7, 3) := by decide +kernel
theorem dX12_takes_93 : decode cX12_takes 93 = .ok (.iconst 1, 1) := by decide +kernel
theorem dX12_takes_94 : decode cX12_takes 94 = .ok (.goto 4, 3) := by decide +kernel
theorem dX12_takes_97 : decode cX12_takes 97 = .ok (.iconst 0, 1) := by decide +kernel
theorem dX12_takes_98 : decode cX12_takes 98 = .ok (.aload_n 0, 1) := by decide +kernel
theorem dX12_takes_99 : decode cX12_takes 99 = .ok (.getfield 47, 3) := by decide +kernel
theorem dX12_takes_102 : decode cX12_takes 102 = .ok (.iload_n 1, 1) := by decide +kernel
theorem dX12_takes_103 : decode cX12_takes 103 = .ok (.iaload, 1) := by decide +kernel
theorem dX12_takes_104 : decode cX12_takes 104 = .ok (.iconst 1, 1) := by decide +kernel
theorem dX12_takes_105 : decode cX12_takes 105 = .ok (.if_icmp .ne 7, 3) := by decide +kernel
theorem dX12_takes_108 : decode cX12_takes 108 = .ok (.iconst 1, 1) := by decide +kernel
theorem dX12_takes_109 : decode cX12_takes 109 = .ok (.goto 4, 3) := by decide +kernel
theorem dX12_takes_112 : decode cX12_takes 112 = .ok (.iconst 0, 1) := by decide +kernel
theorem dX12_takes_113 : decode cX12_takes 113 = .ok (.if_icmp .eq 7, 3) := by decide +kernel
theorem dX12_takes_116 : decode cX12_takes 116 = .ok (.iconst 1, 1) := by decide +kernel
theorem dX12_takes_117 : decode cX12_takes 117 = .ok (.goto 4, 3) := by decide +kernel
theorem dX12_takes_120 : decode cX12_takes 120 = .ok (.iconst 0, 1) := by decide +kernel
theorem dX12_takes_121 : decode cX12_takes 121 = .ok (.ireturn, 1) := by decide +kernel
theorem dX12_testLoop_0 : decode cX12_testLoop 0 = .ok (.aload_n 0, 1) := by decide +kernel
theorem dX12_testLoop_1 : decode cX12_testLoop 1 = .ok (.getfield 629, 3) := by decide +kernel
theorem dX12_testLoop_4 : decode cX12_testLoop 4 = .ok (.iload_n 1, 1) := by decide +kernel
theorem dX12_testLoop_5 : decode cX12_testLoop 5 = .ok (.iadd, 1) := by decide +kernel
theorem dX12_testLoop_6 : decode cX12_testLoop 6 = .ok (.istore_n 3, 1) := by decide +kernel
theorem dX12_testLoop_7 : decode cX12_testLoop 7 = .ok (.aload_n 0, 1) := by decide +kernel
theorem dX12_testLoop_8 : decode cX12_testLoop 8 = .ok (.getfield 204, 3) := by decide +kernel
theorem dX12_testLoop_11 : decode cX12_testLoop 11 = .ok (.bipush 30, 2) := by decide +kernel
theorem dX12_testLoop_13 : decode cX12_testLoop 13 = .ok (.iload_n 1, 1) := by decide +kernel
theorem dX12_testLoop_14 : decode cX12_testLoop 14 = .ok (.iadd, 1) := by decide +kernel
theorem dX12_testLoop_15 : decode cX12_testLoop 15 = .ok (.iaload, 1) := by decide +kernel
theorem dX12_testLoop_16 : decode cX12_testLoop 16 = .ok (.istore 4, 2) := by decide +kernel
theorem dX12_testLoop_18 : decode cX12_testLoop 18 = .ok (.iload 4, 2) := by decide +kernel
theorem dX12_testLoop_20 : decode cX12_testLoop 20 = .ok (.aload_n 0, 1) := by decide +kernel
theorem dX12_testLoop_21 : decode cX12_testLoop 21 = .ok (.getfield 50, 3) := by decide +kernel
theorem dX12_testLoop_24 : decode cX12_testLoop 24 = .ok (.iload_n 3, 1) := by decide +kernel
theorem dX12_testLoop_25 : decode cX12_testLoop 25 = .ok (.iaload, 1) := by decide +kernel
theorem dX12_testLoop_26 : decode cX12_testLoop 26 = .ok (.if_icmp .ge 9, 3) := by decide +kernel
theorem dX12_testLoop_29 : decode cX12_testLoop 29 = .ok (.aload_n 0, 1) := by decide +kernel
theorem dX12_testLoop_30 : decode cX12_testLoop 30 = .ok (.iload_n 1, 1) := by decide +kernel
theorem dX12_testLoop_31 : decode cX12_testLoop 31 = .ok (.invokevirtual 623, 3) := by decide +kernel
theorem dX12_testLoop_34 : decode cX12_testLoop 34 = .ok (.return_, 1) := by decide +kernel
theorem dX12_testLoop_35 : decode cX12_testLoop 35 = .ok (.aload_n 0, 1) := by decide +kernel
theorem dX12_testLoop_36 : decode cX12_testLoop 36 = .ok (.getfield 53, 3) := by decide +kernel
theorem dX12_testLoop_39 : decode cX12_testLoop 39 = .ok (.iload_n 3, 1) := by decide +kernel
theorem dX12_testLoop_40 : decode cX12_testLoop 40 = .ok (.iaload, 1) := by decide +kernel
theorem dX12_testLoop_41 : decode cX12_testLoop 41 = .ok (.iconst (-1), 1) := by decide +kernel
theorem dX12_testLoop_42 : decode cX12_testLoop 42 = .ok (.if_icmp .eq 14, 3) := by decide +kernel
theorem dX12_testLoop_45 : decode cX12_testLoop 45 = .ok (.iload 4, 2) := by decide +kernel
theorem dX12_testLoop_47 : decode cX12_testLoop 47 = .ok (.aload_n 0, 1) := by decide +kernel
theorem dX12_testLoop_48 : decode cX12_testLoop 48 = .ok (.getfield 53, 3) := by decide +kernel
theorem dX12_testLoop_51 : decode cX12_testLoop 51 = .ok (.iload_n 3, 1) := by decide +kernel
theorem dX12_testLoop_52 : decode cX12_testLoop 52 = .ok (.iaload, 1) := by decide +kernel
theorem dX12_testLoop_53 : decode cX12_testLoop 53 = .ok (.if_icmp .ge 7, 3) := by decide +kernel
theorem dX12_testLoop_56 : decode cX12_testLoop 56 = .ok (.iconst 1, 1) := by decide +kernel
theorem dX12_testLoop_57 : decode cX12_testLoop 57 = .ok (.goto 4, 3) := by decide +kernel
theorem dX12_testLoop_60 : decode cX12_testLoop 60 = .ok (.iconst 0, 1) := by decide +kernel
theorem dX12_testLoop_61 : decode cX12_testLoop 61 = .ok (.istore 5, 2) := by decide +kernel
theorem dX12_testLoop_63 : decode cX12_testLoop 63 = .ok (.aload_n 0, 1) := by decide +kernel
theorem dX12_testLoop_64 : decode cX12_testLoop 64 = .ok (.getfield 47, 3) := by decide +kernel
theorem dX12_testLoop_67 : decode cX12_testLoop 67 = .ok (.iload_n 3, 1) := by decide +kernel
theorem dX12_testLoop_68 : decode cX12_testLoop 68 = .ok (.iaload, 1) := by decide +kernel
theorem dX12_testLoop_69 : decode cX12_testLoop 69 = .ok (.iconst 1, 1) := by decide +kernel
theorem dX12_testLoop_70 : decode cX12_testLoop 70 = .ok (.if_icmp .ne 34, 3) := by decide +kernel
theorem dX12_testLoop_73 : decode cX12_testLoop 73 = .ok (.iload 5, 2) := by decide +kernel
theorem dX12_testLoop_75 : decode cX12_testLoop 75 = .ok (.ifCond .eq 16, 3) := by decide +kernel
theorem dX12_testLoop_78 : decode cX12_testLoop 78 = .ok (.aload_n 0, 1) := by decide +kernel
theorem dX12_testLoop_79 : decode cX12_testLoop 79 = .ok (.iconst 1, 1) := by decide +kernel
theorem dX12_testLoop_80 : decode cX12_testLoop 80 = .ok (.aload_n 0, 1) := by decide +kernel
theorem dX12_testLoop_81 : decode cX12_testLoop 81 = .ok (.getfield 617, 3) := by decide +kernel
theorem dX12_testLoop_84 : decode cX12_testLoop 84 = .ok (.aload_n 0, 1) := by decide +kernel
theorem dX12_testLoop_85 : decode cX12_testLoop 85 = .ok (.getfield 604, 3) := by decide +kernel
theorem dX12_testLoop_88 : decode cX12_testLoop 88 = .ok (.invokevirtual 620, 3) := by decide +kernel
theorem dX12_testLoop_91 : decode cX12_testLoop 91 = .ok (.aload_n 0, 1) := by decide +kernel
theorem dX12_testLoop_92 : decode cX12_testLoop 92 = .ok (.aload_n 0, 1) := by decide +kernel
theorem dX12_testLoop_93 : decode cX12_testLoop 93 = .ok (.getfield 189, 3) := by decide +kernel
theorem dX12_testLoop_96 : decode cX12_testLoop 96 = .ok (.iload_n 2, 1) := by decide +kernel
theorem dX12_testLoop_97 : decode cX12_testLoop 97 = .ok (.iaload, 1) := by decide +kernel
theorem dX12_testLoop_98 : decode cX12_testLoop 98 = .ok (.putfield 617, 3) := by decide +kernel
theorem dX12_testLoop_101 : decode cX12_testLoop 101 = .ok (.goto 41, 3) := by decide +kernel
theorem dX12_testLoop_104 : decode cX12_testLoop 104 = .ok (.iload 5, 2) := by decide +kernel
theorem dX12_testLoop_106 : decode cX12_testLoop 106 = .ok (.ifCond .eq 26, 3) := by decide +kernel
theorem dX12_testLoop_109 : decode cX12_testLoop 109 = .ok (.aload_n 0, 1) := by decide +kernel
theorem dX12_testLoop_110 : decode cX12_testLoop 110 = .ok (.iconst 0, 1) := by decide +kernel
theorem dX12_testLoop_111 : decode cX12_testLoop 111 = .ok (.aload_n 0, 1) := by decide +kernel
theorem dX12_testLoop_112 : decode cX12_testLoop 112 = .ok (.getfield 189, 3) := by decide +kernel
theorem dX12_testLoop_115 : decode cX12_testLoop 115 = .ok (.iload_n 2, 1) := by decide +kernel
theorem dX12_testLoop_116 : decode cX12_testLoop 116 = .ok (.iaload, 1) := by decide +kernel
theorem dX12_testLoop_117 : decode cX12_testLoop 117 = .ok (.aload_n 0, 1) := by decide +kernel
theorem dX12_testLoop_118 : decode cX12_testLoop 118 = .ok (.getfield 604, 3) := by decide +kernel
theorem dX12_testLoop_121 : decode cX12_testLoop 121 = .ok (.invokevirtual 620, 3) := by decide +kernel
theorem dX12_testLoop_124 : decode cX12_testLoop 124 = .ok (.aload_n 0, 1) := by decide +kernel
theorem dX12_testLoop_125 : decode cX12_testLoop 125 = .ok (.iload_n 1, 1) := by decide +kernel
theorem dX12_testLoop_126 : decode cX12_testLoop 126 = .ok (.invokevirtual 623, 3) := by decide +kernel
theorem dX12_testLoop_129 : decode cX12_testLoop 129 = .ok (.goto 13, 3) := by decide +kernel
theorem dX12_testLoop_132 : decode cX12_testLoop 132 = .ok (.aload_n 0, 1) := by decide +kernel
theorem dX12_testLoop_133 : decode cX12_testLoop 133 = .ok (.aload_n 0, 1) := by decide +kernel
theorem dX12_testLoop_134 : decode cX12_testLoop 134 = .ok (.getfield 189, 3) := by decide +kernel
theorem dX12_testLoop_137 : decode cX12_testLoop 137 = .ok (.iload_n 2, 1) := by decide +kernel
theorem dX12_testLoop_138 : decode cX12_testLoop 138 = .ok (.iaload, 1) := by decide +kernel
theorem dX12_testLoop_139 : decode cX12_testLoop 139 = .ok (.putfield 617, 3) := by decide +kernel
theorem dX12_testLoop_142 : decode cX12_testLoop 142 = .ok (.return_, 1) := by decide +kernel
theorem dX12_told_0 : decode cX12_told 0 = .ok (.aload_n 0, 1) := by decide +kernel
theorem dX12_told_1 : decode cX12_told 1 = .ok (.iconst 0, 1) := by decide +kernel
theorem dX12_told_2 : decode cX12_told 2 = .ok (.putfield 1, 3) := by decide +kernel
theorem dX12_told_5 : decode cX12_told 5 = .ok (.iconst 0, 1) := by decide +kernel
theorem dX12_told_6 : decode cX12_told 6 = .ok (.istore_n 2, 1) := by decide +kernel
theorem dX12_told_7 : decode cX12_told 7 = .ok (.iconst 0, 1) := by decide +kernel
theorem dX12_told_8 : decode cX12_told 8 = .ok (.istore_n 3, 1) := by decide +kernel
theorem dX12_told_9 : decode cX12_told 9 = .ok (.iload_n 3, 1) := by decide +kernel
theorem dX12_told_10 : decode cX12_told 10 = .ok (.bipush 6, 2) := by decide +kernel
theorem dX12_told_12 : decode cX12_told 12 = .ok (.if_icmp .ge 26, 3) := by decide +kernel
theorem dX12_told_15 : decode cX12_told 15 = .ok (.iload_n 2, 1) := by decide +kernel
theorem dX12_told_16 : decode cX12_told 16 = .ok (.aload_n 0, 1) := by decide +kernel
theorem dX12_told_17 : decode cX12_told 17 = .ok (.getfield 31, 3) := by decide +kernel
theorem dX12_told_20 : decode cX12_told 20 = .ok (.iload_n 3, 1) := by decide +kernel
theorem dX12_told_21 : decode cX12_told 21 = .ok (.baload, 1) := by decide +kernel
theorem dX12_told_22 : decode cX12_told 22 = .ok (.ifCond .eq 7, 3) := by decide +kernel
theorem dX12_told_25 : decode cX12_told 25 = .ok (.iconst 1, 1) := by decide +kernel
theorem dX12_told_26 : decode cX12_told 26 = .ok (.goto 4, 3) := by decide +kernel
theorem dX12_told_29 : decode cX12_told 29 = .ok (.iconst 0, 1) := by decide +kernel
theorem dX12_told_30 : decode cX12_told 30 = .ok (.iadd, 1) := by decide +kernel
theorem dX12_told_31 : decode cX12_told 31 = .ok (.istore_n 2, 1) := by decide +kernel
theorem dX12_told_32 : decode cX12_told 32 = .ok (.iinc 3 1, 3) := by decide +kernel
theorem dX12_told_35 : decode cX12_told 35 = .ok (.goto (-26), 3) := by decide +kernel
theorem dX12_told_38 : decode cX12_told 38 = .ok (.iconst 0, 1) := by decide +kernel
theorem dX12_told_39 : decode cX12_told 39 = .ok (.istore_n 3, 1) := by decide +kernel
theorem dX12_told_40 : decode cX12_told 40 = .ok (.iconst 0, 1) := by decide +kernel
theorem dX12_told_41 : decode cX12_told 41 = .ok (.istore 4, 2) := by decide +kernel
theorem dX12_told_43 : decode cX12_told 43 = .ok (.iload 4, 2) := by decide +kernel
theorem dX12_told_45 : decode cX12_told 45 = .ok (.iconst 4, 1) := by decide +kernel
theorem dX12_told_46 : decode cX12_told 46 = .ok (.if_icmp .ge 27, 3) := by decide +kernel
theorem dX12_told_49 : decode cX12_told 49 = .ok (.iload_n 3, 1) := by decide +kernel
theorem dX12_told_50 : decode cX12_told 50 = .ok (.aload_n 0, 1) := by decide +kernel
theorem dX12_told_51 : decode cX12_told 51 = .ok (.getfield 171, 3) := by decide +kernel
theorem dX12_told_54 : decode cX12_told 54 = .ok (.iload 4, 2) := by decide +kernel
theorem dX12_told_56 : decode cX12_told 56 = .ok (.baload, 1) := by decide +kernel
theorem dX12_told_57 : decode cX12_told 57 = .ok (.ifCond .eq 7, 3) := by decide +kernel
theorem dX12_told_60 : decode cX12_told 60 = .ok (.iconst 1, 1) := by decide +kernel
theorem dX12_told_61 : decode cX12_told 61 = .ok (.goto 4, 3) := by decide +kernel
theorem dX12_told_64 : decode cX12_told 64 = .ok (.iconst 0, 1) := by decide +kernel
theorem dX12_told_65 : decode cX12_told 65 = .ok (.iadd, 1) := by decide +kernel
theorem dX12_told_66 : decode cX12_told 66 = .ok (.istore_n 3, 1) := by decide +kernel
theorem dX12_told_67 : decode cX12_told 67 = .ok (.iinc 4 1, 3) := by decide +kernel
theorem dX12_told_70 : decode cX12_told 70 = .ok (.goto (-27), 3) := by decide +kernel
theorem dX12_told_73 : decode cX12_told 73 = .ok (.iload_n 1, 1) := by decide +kernel
theorem dX12_told_74 : decode cX12_told 74 = .ok (.tableswitch 98 0 6 #[42, 47, 49, 51, 56, 69, 85], 42) := by decide +kernel
theorem dX12_told_116 : decode cX12_told 116 = .ok (.aload_n 0, 1) := by decide +kernel
theorem dX12_told_117 : decode cX12_told 117 = .ok (.getfield 317, 3) := by decide +kernel
theorem dX12_told_120 : decode cX12_told 120 = .ok (.ireturn, 1) := by decide +kernel
theorem dX12_told_121 : decode cX12_told 121 = .ok (.iload_n 2, 1) := by decide +kernel
theorem dX12_told_122 : decode cX12_told 122 = .ok (.ireturn, 1) := by decide +kernel
theorem dX12_told_123 : decode cX12_told 123 = .ok (.iload_n 3, 1) := by decide +kernel
theorem dX12_told_124 : decode cX12_told 124 = .ok (.ireturn, 1) := by decide +kernel
theorem dX12_told_125 : decode cX12_told 125 = .ok (.aload_n 0, 1) := by decide +kernel
theorem dX12_told_126 : decode cX12_told 126 = .ok (.getfield 502, 3) := by decide +kernel
theorem dX12_told_129 : decode cX12_told 129 = .ok (.ireturn, 1) := by decide +kernel
theorem dX12_told_130 : decode cX12_told 130 = .ok (.aload_n 0, 1) := by decide +kernel
theorem dX12_told_131 : decode cX12_told 131 = .ok (.getfield 505, 3) := by decide +kernel
theorem dX12_told_134 : decode cX12_told 134 = .ok (.ifCond .eq 7, 3) := by decide +kernel
theorem dX12_told_137 : decode cX12_told 137 = .ok (.iconst 1, 1) := by decide +kernel
theorem dX12_told_138 : decode cX12_told 138 = .ok (.goto 4, 3) := by decide +kernel
theorem dX12_told_141 : decode cX12_told 141 = .ok (.iconst 0, 1) := by decide +kernel
theorem dX12_told_142 : decode cX12_told 142 = .ok (.ireturn, 1) := by decide +kernel
theorem dX12_told_143 : decode cX12_told 143 = .ok (.aload_n 0, 1) := by decide +kernel
theorem dX12_told_144 : decode cX12_told 144 = .ok (.getfield 664, 3) := by decide +kernel
theorem dX12_told_147 : decode cX12_told 147 = .ok (.ifCond .eq 10, 3) := by decide +kernel
theorem dX12_told_150 : decode cX12_told 150 = .ok (.aload_n 0, 1) := by decide +kernel
theorem dX12_told_151 : decode cX12_told 151 = .ok (.getfield 667, 3) := by decide +kernel
theorem dX12_told_154 : decode cX12_told 154 = .ok (.goto 4, 3) := by decide +kernel
theorem dX12_told_157 : decode cX12_told 157 = .ok (.iconst 0, 1) := by decide +kernel
theorem dX12_told_158 : decode cX12_told 158 = .ok (.ireturn, 1) := by decide +kernel
theorem dX12_told_159 : decode cX12_told 159 = .ok (.aload_n 0, 1) := by decide +kernel
theorem dX12_told_160 : decode cX12_told 160 = .ok (.getfield 449, 3) := by decide +kernel
theorem dX12_told_163 : decode cX12_told 163 = .ok (.ifCond .eq 7, 3) := by decide +kernel
theorem dX12_told_166 : decode cX12_told 166 = .ok (.iconst 1, 1) := by decide +kernel
theorem dX12_told_167 : decode cX12_told 167 = .ok (.goto 4, 3) := by decide +kernel
theorem dX12_told_170 : decode cX12_told 170 = .ok (.iconst 0, 1) := by decide +kernel
theorem dX12_told_171 : decode cX12_told 171 = .ok (.ireturn, 1) := by decide +kernel
theorem dX12_told_172 : decode cX12_told 172 = .ok (.bipush (-4), 2) := by decide +kernel
theorem dX12_told_174 : decode cX12_told 174 = .ok (.ireturn, 1) := by decide +kernel
theorem dX12_tried_0 : decode cX12_tried 0 = .ok (.iconst 0, 1) := by decide +kernel
theorem dX12_tried_1 : decode cX12_tried 1 = .ok (.istore 4, 2) := by decide +kernel
theorem dX12_tried_3 : decode cX12_tried 3 = .ok (.iload 4, 2) := by decide +kernel
theorem dX12_tried_5 : decode cX12_tried 5 = .ok (.bipush 20, 2) := by decide +kernel
theorem dX12_tried_7 : decode cX12_tried 7 = .ok (.if_icmp .ge 17, 3) := by decide +kernel
theorem dX12_tried_10 : decode cX12_tried 10 = .ok (.aload_n 0, 1) := by decide +kernel
theorem dX12_tried_11 : decode cX12_tried 11 = .ok (.getfield 204, 3) := by decide +kernel
theorem dX12_tried_14 : decode cX12_tried 14 = .ok (.iload 4, 2) := by decide +kernel
theorem dX12_tried_16 : decode cX12_tried 16 = .ok (.iconst (-1), 1) := by decide +kernel
theorem dX12_tried_17 : decode cX12_tried 17 = .ok (.iastore, 1) := by decide +kernel
theorem dX12_tried_18 : decode cX12_tried 18 = .ok (.iinc 4 1, 3) := by decide +kernel
theorem dX12_tried_21 : decode cX12_tried 21 = .ok (.goto (-18), 3) := by decide +kernel
theorem dX12_tried_24 : decode cX12_tried 24 = .ok (.aload_n 0, 1) := by decide +kernel
theorem dX12_tried_25 : decode cX12_tried 25 = .ok (.iconst 0, 1) := by decide +kernel
theorem dX12_tried_26 : decode cX12_tried 26 = .ok (.putfield 577, 3) := by decide +kernel
theorem dX12_tried_29 : decode cX12_tried 29 = .ok (.aload_n 0, 1) := by decide +kernel
theorem dX12_tried_30 : decode cX12_tried 30 = .ok (.iconst 0, 1) := by decide +kernel
theorem dX12_tried_31 : decode cX12_tried 31 = .ok (.putfield 580, 3) := by decide +kernel
theorem dX12_tried_34 : decode cX12_tried 34 = .ok (.aload_n 0, 1) := by decide +kernel
theorem dX12_tried_35 : decode cX12_tried 35 = .ok (.iconst 0, 1) := by decide +kernel
theorem dX12_tried_36 : decode cX12_tried 36 = .ok (.putfield 617, 3) := by decide +kernel
theorem dX12_tried_39 : decode cX12_tried 39 = .ok (.aload_n 0, 1) := by decide +kernel
theorem dX12_tried_40 : decode cX12_tried 40 = .ok (.iload_n 1, 1) := by decide +kernel
theorem dX12_tried_41 : decode cX12_tried 41 = .ok (.putfield 604, 3) := by decide +kernel
theorem dX12_tried_44 : decode cX12_tried 44 = .ok (.iconst 1, 1) := by decide +kernel
theorem dX12_tried_45 : decode cX12_tried 45 = .ok (.istore 4, 2) := by decide +kernel
theorem dX12_tried_47 : decode cX12_tried 47 = .ok (.iload_n 3, 1) := by decide +kernel
theorem dX12_tried_48 : decode cX12_tried 48 = .ok (.ifCond .eq 49, 3) := by decide +kernel
theorem dX12_tried_51 : decode cX12_tried 51 = .ok (.bipush 101, 2) := by decide +kernel
theorem dX12_tried_53 : decode cX12_tried 53 = .ok (.aload_n 0, 1) := by decide +kernel
theorem dX12_tried_54 : decode cX12_tried 54 = .ok (.getfield 617, 3) := by decide +kernel
theorem dX12_tried_57 : decode cX12_tried 57 = .ok (.imul, 1) := by decide +kernel
theorem dX12_tried_58 : decode cX12_tried 58 = .ok (.aload_n 0, 1) := by decide +kernel
theorem dX12_tried_59 : decode cX12_tried 59 = .ok (.getfield 604, 3) := by decide +kernel
theorem dX12_tried_62 : decode cX12_tried 62 = .ok (.iadd, 1) := by decide +kernel
theorem dX12_tried_63 : decode cX12_tried 63 = .ok (.istore 5, 2) := by decide +kernel
theorem dX12_tried_65 : decode cX12_tried 65 = .ok (.aload_n 0, 1) := by decide +kernel
theorem dX12_tried_66 : decode cX12_tried 66 = .ok (.getfield 228, 3) := by decide +kernel
theorem dX12_tried_69 : decode cX12_tried 69 = .ok (.iload 5, 2) := by decide +kernel
theorem dX12_tried_71 : decode cX12_tried 71 = .ok (.iaload, 1) := by decide +kernel
theorem dX12_tried_72 : decode cX12_tried 72 = .ok (.aload_n 0, 1) := by decide +kernel
theorem dX12_tried_73 : decode cX12_tried 73 = .ok (.getfield 644, 3) := by decide +kernel
theorem dX12_tried_76 : decode cX12_tried 76 = .ok (.if_icmp .eq 7, 3) := by decide +kernel
theorem dX12_tried_79 : decode cX12_tried 79 = .ok (.iconst 1, 1) := by decide +kernel
theorem dX12_tried_80 : decode cX12_tried 80 = .ok (.goto 4, 3) := by decide +kernel
theorem dX12_tried_83 : decode cX12_tried 83 = .ok (.iconst 0, 1) := by decide +kernel
theorem dX12_tried_84 : decode cX12_tried 84 = .ok (.istore 4, 2) := by decide +kernel
theorem dX12_tried_86 : decode cX12_tried 86 = .ok (.aload_n 0, 1) := by decide +kernel
theorem dX12_tried_87 : decode cX12_tried 87 = .ok (.getfield 228, 3) := by decide +kernel
theorem dX12_tried_90 : decode cX12_tried 90 = .ok (.iload 5, 2) := by decide +kernel
theorem dX12_tried_92 : decode cX12_tried 92 = .ok (.aload_n 0, 1) := by decide +kernel
theorem dX12_tried_93 : decode cX12_tried 93 = .ok (.getfield 644, 3) := by decide +kernel
theorem dX12_tried_96 : decode cX12_tried 96 = .ok (.iastore, 1) := by decide +kernel
theorem dX12_tried_97 : decode cX12_tried 97 = .ok (.iload 4, 2) := by decide +kernel
theorem dX12_tried_99 : decode cX12_tried 99 = .ok (.ifCond .eq 40, 3) := by decide +kernel
theorem dX12_tried_102 : decode cX12_tried 102 = .ok (.aload_n 0, 1) := by decide +kernel
theorem dX12_tried_103 : decode cX12_tried 103 = .ok (.getfield 180, 3) := by decide +kernel
theorem dX12_tried_106 : decode cX12_tried 106 = .ok (.aload_n 0, 1) := by decide +kernel
theorem dX12_tried_107 : decode cX12_tried 107 = .ok (.getfield 617, 3) := by decide +kernel
theorem dX12_tried_110 : decode cX12_tried 110 = .ok (.iaload, 1) := by decide +kernel
theorem dX12_tried_111 : decode cX12_tried 111 = .ok (.bipush 19, 2) := by decide +kernel
theorem dX12_tried_113 : decode cX12_tried 113 = .ok (.if_icmp .ne 26, 3) := by decide +kernel
theorem dX12_tried_116 : decode cX12_tried 116 = .ok (.iload_n 2, 1) := by decide +kernel
theorem dX12_tried_117 : decode cX12_tried 117 = .ok (.ifCond .eq 14, 3) := by decide +kernel
theorem dX12_tried_120 : decode cX12_tried 120 = .ok (.aload_n 0, 1) := by decide +kernel
theorem dX12_tried_121 : decode cX12_tried 121 = .ok (.getfield 604, 3) := by decide +kernel
theorem dX12_tried_124 : decode cX12_tried 124 = .ok (.aload_n 0, 1) := by decide +kernel
theorem dX12_tried_125 : decode cX12_tried 125 = .ok (.getfield 595, 3) := by decide +kernel
theorem dX12_tried_128 : decode cX12_tried 128 = .ok (.if_icmp .ne 5, 3) := by decide +kernel
theorem dX12_tried_131 : decode cX12_tried 131 = .ok (.iconst 1, 1) := by decide +kernel
theorem dX12_tried_132 : decode cX12_tried 132 = .ok (.ireturn, 1) := by decide +kernel
theorem dX12_tried_133 : decode cX12_tried 133 = .ok (.iconst 0, 1) := by decide +kernel
theorem dX12_tried_134 : decode cX12_tried 134 = .ok (.istore 4, 2) := by decide +kernel
theorem dX12_tried_136 : decode cX12_tried 136 = .ok (.goto 32, 3) := by decide +kernel
theorem dX12_tried_139 : decode cX12_tried 139 = .ok (.iload 4, 2) := by decide +kernel
theorem dX12_tried_141 : decode cX12_tried 141 = .ok (.ifCond .eq 27, 3) := by decide +kernel
theorem dX12_tried_144 : decode cX12_tried 144 = .ok (.aload_n 0, 1) := by decide +kernel
theorem dX12_tried_145 : decode cX12_tried 145 = .ok (.aload_n 0, 1) := by decide +kernel
theorem dX12_tried_146 : decode cX12_tried 146 = .ok (.getfield 180, 3) := by decide +kernel
theorem dX12_tried_149 : decode cX12_tried 149 = .ok (.aload_n 0, 1) := by decide +kernel
theorem dX12_tried_150 : decode cX12_tried 150 = .ok (.getfield 617, 3) := by decide +kernel
theorem dX12_tried_153 : decode cX12_tried 153 = .ok (.iaload, 1) := by decide +kernel
theorem dX12_tried_154 : decode cX12_tried 154 = .ok (.aload_n 0, 1) := by decide +kernel
theorem dX12_tried_155 : decode cX12_tried 155 = .ok (.getfield 183, 3) := by decide +kernel
theorem dX12_tried_158 : decode cX12_tried 158 = .ok (.aload_n 0, 1) := by decide +kernel
theorem dX12_tried_159 : decode cX12_tried 159 = .ok (.getfield 617, 3) := by decide +kernel
theorem dX12_tried_162 : decode cX12_tried 162 = .ok (.iaload, 1) := by decide +kernel
theorem dX12_tried_163 : decode cX12_tried 163 = .ok (.invokevirtual 647, 3) := by decide +kernel
theorem dX12_tried_166 : decode cX12_tried 166 = .ok (.istore 4, 2) := by decide +kernel
theorem dX12_tried_168 : decode cX12_tried 168 = .ok (.aload_n 0, 1) := by decide +kernel
theorem dX12_tried_169 : decode cX12_tried 169 = .ok (.getfield 589, 3) := by decide +kernel
theorem dX12_tried_172 : decode cX12_tried 172 = .ok (.ifCond .ne 17, 3) := by decide +kernel
theorem dX12_tried_175 : decode cX12_tried 175 = .ok (.iload 4, 2) := by decide +kernel
theorem dX12_tried_177 : decode cX12_tried 177 = .ok (.ifCond .ne 12, 3) := by decide +kernel
theorem dX12_tried_180 : decode cX12_tried 180 = .ok (.aload_n 0, 1) := by decide +kernel
theorem dX12_tried_181 : decode cX12_tried 181 = .ok (.invokevirtual 650, 3) := by decide +kernel
theorem dX12_tried_184 : decode cX12_tried 184 = .ok (.ifCond .ne 5, 3) := by decide +kernel
theorem dX12_tried_187 : decode cX12_tried 187 = .ok (.iconst 0, 1) := by decide +kernel
theorem dX12_tried_188 : decode cX12_tried 188 = .ok (.ireturn, 1) := by decide +kernel
theorem dX12_tried_189 : decode cX12_tried 189 = .ok (.aload_n 0, 1) := by decide +kernel
theorem dX12_tried_190 : decode cX12_tried 190 = .ok (.getfield 589, 3) := by decide +kernel
theorem dX12_tried_193 : decode cX12_tried 193 = .ok (.ifCond .eq 5, 3) := by decide +kernel
theorem dX12_tried_196 : decode cX12_tried 196 = .ok (.iconst 2, 1) := by decide +kernel
theorem dX12_tried_197 : decode cX12_tried 197 = .ok (.ireturn, 1) := by decide +kernel
theorem dX12_tried_198 : decode cX12_tried 198 = .ok (.goto (-154), 3) := by decide +kernel
theorem dX12_tryBehind_0 : decode cX12_tryBehind 0 = .ok (.aload_n 0, 1) := by decide +kernel
theorem dX12_tryBehind_1 : decode cX12_tryBehind 1 = .ok (.invokevirtual 610, 3) := by decide +kernel
theorem dX12_tryBehind_4 : decode cX12_tryBehind 4 = .ok (.ifCond .eq 45, 3) := by decide +kernel
theorem dX12_tryBehind_7 : decode cX12_tryBehind 7 = .ok (.aload_n 0, 1) := by decide +kernel
theorem dX12_tryBehind_8 : decode cX12_tryBehind 8 = .ok (.sipush 910, 3) := by decide +kernel
theorem dX12_tryBehind_11 : decode cX12_tryBehind 11 = .ok (.iload_n 1, 1) := by decide +kernel
theorem dX12_tryBehind_12 : decode cX12_tryBehind 12 = .ok (.iadd, 1) := by decide +kernel
theorem dX12_tryBehind_13 : decode cX12_tryBehind 13 = .ok (.iload_n 2, 1) := by decide +kernel
theorem dX12_tryBehind_14 : decode cX12_tryBehind 14 = .ok (.invokevirtual 614, 3) := by decide +kernel
theorem dX12_tryBehind_17 : decode cX12_tryBehind 17 = .ok (.iload_n 2, 1) := by decide +kernel
theorem dX12_tryBehind_18 : decode cX12_tryBehind 18 = .ok (.ifCond .le 16, 3) := by decide +kernel
theorem dX12_tryBehind_21 : decode cX12_tryBehind 21 = .ok (.aload_n 0, 1) := by decide +kernel
theorem dX12_tryBehind_22 : decode cX12_tryBehind 22 = .ok (.iconst 2, 1) := by decide +kernel
theorem dX12_tryBehind_23 : decode cX12_tryBehind 23 = .ok (.aload_n 0, 1) := by decide +kernel
theorem dX12_tryBehind_24 : decode cX12_tryBehind 24 = .ok (.getfield 617, 3) := by decide +kernel
theorem dX12_tryBehind_27 : decode cX12_tryBehind 27 = .ok (.aload_n 0, 1) := by decide +kernel
theorem dX12_tryBehind_28 : decode cX12_tryBehind 28 = .ok (.getfield 604, 3) := by decide +kernel
theorem dX12_tryBehind_31 : decode cX12_tryBehind 31 = .ok (.invokevirtual 620, 3) := by decide +kernel
theorem dX12_tryBehind_34 : decode cX12_tryBehind 34 = .ok (.aload_n 0, 1) := by decide +kernel
theorem dX12_tryBehind_35 : decode cX12_tryBehind 35 = .ok (.iload_n 2, 1) := by decide +kernel
theorem dX12_tryBehind_36 : decode cX12_tryBehind 36 = .ok (.putfield 604, 3) := by decide +kernel
theorem dX12_tryBehind_39 : decode cX12_tryBehind 39 = .ok (.aload_n 0, 1) := by decide +kernel
theorem dX12_tryBehind_40 : decode cX12_tryBehind 40 = .ok (.dup, 1) := by decide +kernel
theorem dX12_tryBehind_41 : decode cX12_tryBehind 41 = .ok (.getfield 617, 3) := by decide +kernel
theorem dX12_tryBehind_44 : decode cX12_tryBehind 44 = .ok (.iconst 1, 1) := by decide +kernel
theorem dX12_tryBehind_45 : decode cX12_tryBehind 45 = .ok (.iadd, 1) := by decide +kernel
theorem dX12_tryBehind_46 : decode cX12_tryBehind 46 = .ok (.putfield 617, 3) := by decide +kernel
theorem dX12_tryBehind_49 : decode cX12_tryBehind 49 = .ok (.return_, 1) := by decide +kernel
theorem dX12_whole_0 : decode cX12_whole 0 = .ok (.aload_n 0, 1) := by decide +kernel
theorem dX12_whole_1 : decode cX12_whole 1 = .ok (.iconst 0, 1) := by decide +kernel
theorem dX12_whole_2 : decode cX12_whole 2 = .ok (.putfield 1, 3) := by decide +kernel
theorem dX12_whole_5 : decode cX12_whole 5 = .ok (.aload_n 0, 1) := by decide +kernel
theorem dX12_whole_6 : decode cX12_whole 6 = .ok (.iload_n 1, 1) := by decide +kernel
theorem dX12_whole_7 : decode cX12_whole 7 = .ok (.iload_n 2, 1) := by decide +kernel
theorem dX12_whole_8 : decode cX12_whole 8 = .ok (.invokevirtual 687, 3) := by decide +kernel
theorem dX12_whole_11 : decode cX12_whole 11 = .ok (.istore 4, 2) := by decide +kernel
theorem dX12_whole_13 : decode cX12_whole 13 = .ok (.iload 4, 2) := by decide +kernel
theorem dX12_whole_15 : decode cX12_whole 15 = .ok (.ifCond .ne 17, 3) := by decide +kernel
theorem dX12_whole_18 : decode cX12_whole 18 = .ok (.iload_n 3, 1) := by decide +kernel
theorem dX12_whole_19 : decode cX12_whole 19 = .ok (.iconst 0, 1) := by decide +kernel
theorem dX12_whole_20 : decode cX12_whole 20 = .ok (.iconst 2, 1) := by decide +kernel
theorem dX12_whole_21 : decode cX12_whole 21 = .ok (.invokestatic 7, 3) := by decide +kernel
theorem dX12_whole_24 : decode cX12_whole 24 = .ok (.ifCond .ne 8, 3) := by decide +kernel
theorem dX12_whole_27 : decode cX12_whole 27 = .ok (.bipush (-4), 2) := by decide +kernel
theorem dX12_whole_29 : decode cX12_whole 29 = .ok (.goto 5, 3) := by decide +kernel
theorem dX12_whole_32 : decode cX12_whole 32 = .ok (.iload 4, 2) := by decide +kernel
theorem dX12_whole_34 : decode cX12_whole 34 = .ok (.istore 4, 2) := by decide +kernel
theorem dX12_whole_36 : decode cX12_whole 36 = .ok (.iload 4, 2) := by decide +kernel
theorem dX12_whole_38 : decode cX12_whole 38 = .ok (.ifCond .ne 12, 3) := by decide +kernel
theorem dX12_whole_41 : decode cX12_whole 41 = .ok (.aload_n 0, 1) := by decide +kernel
theorem dX12_whole_42 : decode cX12_whole 42 = .ok (.iload_n 1, 1) := by decide +kernel
theorem dX12_whole_43 : decode cX12_whole 43 = .ok (.iload_n 3, 1) := by decide +kernel
theorem dX12_whole_44 : decode cX12_whole 44 = .ok (.invokevirtual 690, 3) := by decide +kernel
theorem dX12_whole_47 : decode cX12_whole 47 = .ok (.goto 5, 3) := by decide +kernel
theorem dX12_whole_50 : decode cX12_whole 50 = .ok (.iload 4, 2) := by decide +kernel
theorem dX12_whole_52 : decode cX12_whole 52 = .ok (.istore 4, 2) := by decide +kernel
theorem dX12_whole_54 : decode cX12_whole 54 = .ok (.iload 4, 2) := by decide +kernel
theorem dX12_whole_56 : decode cX12_whole 56 = .ok (.ifCond .eq 6, 3) := by decide +kernel
theorem dX12_whole_59 : decode cX12_whole 59 = .ok (.iload 4, 2) := by decide +kernel
theorem dX12_whole_61 : decode cX12_whole 61 = .ok (.ireturn, 1) := by decide +kernel
theorem dX12_whole_62 : decode cX12_whole 62 = .ok (.aload_n 0, 1) := by decide +kernel
theorem dX12_whole_63 : decode cX12_whole 63 = .ok (.iconst 0, 1) := by decide +kernel
theorem dX12_whole_64 : decode cX12_whole 64 = .ok (.putfield 449, 3) := by decide +kernel
theorem dX12_whole_67 : decode cX12_whole 67 = .ok (.aload_n 0, 1) := by decide +kernel
theorem dX12_whole_68 : decode cX12_whole 68 = .ok (.iload_n 1, 1) := by decide +kernel
theorem dX12_whole_69 : decode cX12_whole 69 = .ok (.iload_n 3, 1) := by decide +kernel
theorem dX12_whole_70 : decode cX12_whole 70 = .ok (.ifCond .le 7, 3) := by decide +kernel
theorem dX12_whole_73 : decode cX12_whole 73 = .ok (.iconst 1, 1) := by decide +kernel
theorem dX12_whole_74 : decode cX12_whole 74 = .ok (.goto 4, 3) := by decide +kernel
theorem dX12_whole_77 : decode cX12_whole 77 = .ok (.iconst 0, 1) := by decide +kernel
theorem dX12_whole_78 : decode cX12_whole 78 = .ok (.invokevirtual 673, 3) := by decide +kernel
theorem dX12_whole_81 : decode cX12_whole 81 = .ok (.aload_n 0, 1) := by decide +kernel
theorem dX12_whole_82 : decode cX12_whole 82 = .ok (.iload_n 1, 1) := by decide +kernel
theorem dX12_whole_83 : decode cX12_whole 83 = .ok (.iload_n 2, 1) := by decide +kernel
theorem dX12_whole_84 : decode cX12_whole 84 = .ok (.iconst 0, 1) := by decide +kernel
theorem dX12_whole_85 : decode cX12_whole 85 = .ok (.iconst 1, 1) := by decide +kernel
theorem dX12_whole_86 : decode cX12_whole 86 = .ok (.iload_n 3, 1) := by decide +kernel
theorem dX12_whole_87 : decode cX12_whole 87 = .ok (.ifCond .le 7, 3) := by decide +kernel
theorem dX12_whole_90 : decode cX12_whole 90 = .ok (.iconst 1, 1) := by decide +kernel
theorem dX12_whole_91 : decode cX12_whole 91 = .ok (.goto 4, 3) := by decide +kernel
theorem dX12_whole_94 : decode cX12_whole 94 = .ok (.iconst 0, 1) := by decide +kernel
theorem dX12_whole_95 : decode cX12_whole 95 = .ok (.sipush 3000, 3) := by decide +kernel
theorem dX12_whole_98 : decode cX12_whole 98 = .ok (.invokevirtual 680, 3) := by decide +kernel
theorem dX12_whole_101 : decode cX12_whole 101 = .ok (.istore 5, 2) := by decide +kernel
theorem dX12_whole_103 : decode cX12_whole 103 = .ok (.iload 5, 2) := by decide +kernel
theorem dX12_whole_105 : decode cX12_whole 105 = .ok (.iconst 2, 1) := by decide +kernel
theorem dX12_whole_106 : decode cX12_whole 106 = .ok (.if_icmp .ne 6, 3) := by decide +kernel
theorem dX12_whole_109 : decode cX12_whole 109 = .ok (.bipush (-8), 2) := by decide +kernel
theorem dX12_whole_111 : decode cX12_whole 111 = .ok (.ireturn, 1) := by decide +kernel
theorem dX12_whole_112 : decode cX12_whole 112 = .ok (.aload_n 0, 1) := by decide +kernel
theorem dX12_whole_113 : decode cX12_whole 113 = .ok (.iload_n 1, 1) := by decide +kernel
theorem dX12_whole_114 : decode cX12_whole 114 = .ok (.iload 5, 2) := by decide +kernel
theorem dX12_whole_116 : decode cX12_whole 116 = .ok (.iconst 1, 1) := by decide +kernel
theorem dX12_whole_117 : decode cX12_whole 117 = .ok (.if_icmp .ne 7, 3) := by decide +kernel
theorem dX12_whole_120 : decode cX12_whole 120 = .ok (.iconst 1, 1) := by decide +kernel
theorem dX12_whole_121 : decode cX12_whole 121 = .ok (.goto 4, 3) := by decide +kernel
theorem dX12_whole_124 : decode cX12_whole 124 = .ok (.iconst 0, 1) := by decide +kernel
theorem dX12_whole_125 : decode cX12_whole 125 = .ok (.invokevirtual 684, 3) := by decide +kernel
theorem dX12_whole_128 : decode cX12_whole 128 = .ok (.iload 5, 2) := by decide +kernel
theorem dX12_whole_130 : decode cX12_whole 130 = .ok (.ireturn, 1) := by decide +kernel
theorem dX12_wrongBoth_0 : decode cX12_wrongBoth 0 = .ok (.aload_n 0, 1) := by decide +kernel
theorem dX12_wrongBoth_1 : decode cX12_wrongBoth 1 = .ok (.iload_n 1, 1) := by decide +kernel
theorem dX12_wrongBoth_2 : decode cX12_wrongBoth 2 = .ok (.invokevirtual 459, 3) := by decide +kernel
theorem dX12_wrongBoth_5 : decode cX12_wrongBoth 5 = .ok (.istore_n 3, 1) := by decide +kernel
theorem dX12_wrongBoth_6 : decode cX12_wrongBoth 6 = .ok (.iload_n 3, 1) := by decide +kernel
theorem dX12_wrongBoth_7 : decode cX12_wrongBoth 7 = .ok (.ifCond .eq 7, 3) := by decide +kernel
theorem dX12_wrongBoth_10 : decode cX12_wrongBoth 10 = .ok (.iload_n 3, 1) := by decide +kernel
theorem dX12_wrongBoth_11 : decode cX12_wrongBoth 11 = .ok (.goto 8, 3) := by decide +kernel
theorem dX12_wrongBoth_14 : decode cX12_wrongBoth 14 = .ok (.aload_n 0, 1) := by decide +kernel
theorem dX12_wrongBoth_15 : decode cX12_wrongBoth 15 = .ok (.iload_n 2, 1) := by decide +kernel
theorem dX12_wrongBoth_16 : decode cX12_wrongBoth 16 = .ok (.invokevirtual 542, 3) := by decide +kernel
theorem dX12_wrongBoth_19 : decode cX12_wrongBoth 19 = .ok (.ireturn, 1) := by decide +kernel
theorem dX12_wrongSlot_0 : decode cX12_wrongSlot 0 = .ok (.iload_n 1, 1) := by decide +kernel
theorem dX12_wrongSlot_1 : decode cX12_wrongSlot 1 = .ok (.iconst 0, 1) := by decide +kernel
theorem dX12_wrongSlot_2 : decode cX12_wrongSlot 2 = .ok (.iconst 5, 1) := by decide +kernel
theorem dX12_wrongSlot_3 : decode cX12_wrongSlot 3 = .ok (.invokestatic 7, 3) := by decide +kernel
theorem dX12_wrongSlot_6 : decode cX12_wrongSlot 6 = .ok (.ifCond .ne 6, 3) := by decide +kernel
theorem dX12_wrongSlot_9 : decode cX12_wrongSlot 9 = .ok (.bipush (-2), 2) := by decide +kernel
theorem dX12_wrongSlot_11 : decode cX12_wrongSlot 11 = .ok (.ireturn, 1) := by decide +kernel
theorem dX12_wrongSlot_12 : decode cX12_wrongSlot 12 = .ok (.aload_n 0, 1) := by decide +kernel
theorem dX12_wrongSlot_13 : decode cX12_wrongSlot 13 = .ok (.getfield 31, 3) := by decide +kernel
theorem dX12_wrongSlot_16 : decode cX12_wrongSlot 16 = .ok (.iload_n 1, 1) := by decide +kernel
theorem dX12_wrongSlot_17 : decode cX12_wrongSlot 17 = .ok (.baload, 1) := by decide +kernel
theorem dX12_wrongSlot_18 : decode cX12_wrongSlot 18 = .ok (.ifCond .ne 11, 3) := by decide +kernel
theorem dX12_wrongSlot_21 : decode cX12_wrongSlot 21 = .ok (.aload_n 0, 1) := by decide +kernel
theorem dX12_wrongSlot_22 : decode cX12_wrongSlot 22 = .ok (.iconst 2, 1) := by decide +kernel
theorem dX12_wrongSlot_23 : decode cX12_wrongSlot 23 = .ok (.putfield 456, 3) := by decide +kernel
theorem dX12_wrongSlot_26 : decode cX12_wrongSlot 26 = .ok (.bipush (-2), 2) := by decide +kernel
theorem dX12_wrongSlot_28 : decode cX12_wrongSlot 28 = .ok (.ireturn, 1) := by decide +kernel
theorem dX12_wrongSlot_29 : decode cX12_wrongSlot 29 = .ok (.iconst 0, 1) := by decide +kernel
theorem dX12_wrongSlot_30 : decode cX12_wrongSlot 30 = .ok (.ireturn, 1) := by decide +kernel
theorem dX12_wrongSubject_0 : decode cX12_wrongSubject 0 = .ok (.iload_n 1, 1) := by decide +kernel
theorem dX12_wrongSubject_1 : decode cX12_wrongSubject 1 = .ok (.iconst 0, 1) := by decide +kernel
theorem dX12_wrongSubject_2 : decode cX12_wrongSubject 2 = .ok (.iconst 3, 1) := by decide +kernel
theorem dX12_wrongSubject_3 : decode cX12_wrongSubject 3 = .ok (.invokestatic 7, 3) := by decide +kernel
theorem dX12_wrongSubject_6 : decode cX12_wrongSubject 6 = .ok (.ifCond .ne 6, 3) := by decide +kernel
theorem dX12_wrongSubject_9 : decode cX12_wrongSubject 9 = .ok (.bipush (-2), 2) := by decide +kernel
theorem dX12_wrongSubject_11 : decode cX12_wrongSubject 11 = .ok (.ireturn, 1) := by decide +kernel
theorem dX12_wrongSubject_12 : decode cX12_wrongSubject 12 = .ok (.aload_n 0, 1) := by decide +kernel
theorem dX12_wrongSubject_13 : decode cX12_wrongSubject 13 = .ok (.getfield 171, 3) := by decide +kernel
theorem dX12_wrongSubject_16 : decode cX12_wrongSubject 16 = .ok (.iload_n 1, 1) := by decide +kernel
theorem dX12_wrongSubject_17 : decode cX12_wrongSubject 17 = .ok (.baload, 1) := by decide +kernel
theorem dX12_wrongSubject_18 : decode cX12_wrongSubject 18 = .ok (.ifCond .ne 11, 3) := by decide +kernel
theorem dX12_wrongSubject_21 : decode cX12_wrongSubject 21 = .ok (.aload_n 0, 1) := by decide +kernel
theorem dX12_wrongSubject_22 : decode cX12_wrongSubject 22 = .ok (.iconst 2, 1) := by decide +kernel
theorem dX12_wrongSubject_23 : decode cX12_wrongSubject 23 = .ok (.putfield 456, 3) := by decide +kernel
theorem dX12_wrongSubject_26 : decode cX12_wrongSubject 26 = .ok (.bipush (-3), 2) := by decide +kernel
theorem dX12_wrongSubject_28 : decode cX12_wrongSubject 28 = .ok (.ireturn, 1) := by decide +kernel
theorem dX12_wrongSubject_29 : decode cX12_wrongSubject 29 = .ok (.iconst 0, 1) := by decide +kernel
theorem dX12_wrongSubject_30 : decode cX12_wrongSubject 30 = .ok (.ireturn, 1) := by decide +kernel
