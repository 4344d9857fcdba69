theorem dX12_init_786 : decode cX12_init 786 = .ok (.putfield 305, 3) := by decide +kernel
theorem dX12_init_789 : decode cX12_init 789 = .ok (.aload_n 0, 1) := by decide +kernel
theorem dX12_init_790 : decode cX12_init 790 = .ok (.sipush 3000, 3) := by decide +kernel
theorem dX12_init_793 : decode cX12_init 793 = .ok (.newarray .int, 2) := by decide +kernel
theorem dX12_init_795 : decode cX12_init 795 = .ok (.putfield 308, 3) := by decide +kernel
theorem dX12_init_798 : decode cX12_init 798 = .ok (.aload_n 0, 1) := by decide +kernel
theorem dX12_init_799 : decode cX12_init 799 = .ok (.sipush 3000, 3) := by decide +kernel
theorem dX12_init_802 : decode cX12_init 802 = .ok (.newarray .int, 2) := by decide +kernel
theorem dX12_init_804 : decode cX12_init 804 = .ok (.putfield 311, 3) := by decide +kernel
theorem dX12_init_807 : decode cX12_init 807 = .ok (.aload_n 0, 1) := by decide +kernel
theorem dX12_init_808 : decode cX12_init 808 = .ok (.sipush 3000, 3) := by decide +kernel
theorem dX12_init_811 : decode cX12_init 811 = .ok (.newarray .int, 2) := by decide +kernel
theorem dX12_init_813 : decode cX12_init 813 = .ok (.putfield 314, 3) := by decide +kernel
theorem dX12_init_816 : decode cX12_init 816 = .ok (.return_, 1) := by decide +kernel
theorem dX12_keepPattern_0 : decode cX12_keepPattern 0 = .ok (.sipush 220, 3) := by decide +kernel
theorem dX12_keepPattern_3 : decode cX12_keepPattern 3 = .ok (.iload_n 1, 1) := by decide +kernel
theorem dX12_keepPattern_4 : decode cX12_keepPattern 4 = .ok (.imul, 1) := by decide +kernel
theorem dX12_keepPattern_5 : decode cX12_keepPattern 5 = .ok (.istore_n 3, 1) := by decide +kernel
theorem dX12_keepPattern_6 : decode cX12_keepPattern 6 = .ok (.iconst 0, 1) := by decide +kernel
theorem dX12_keepPattern_7 : decode cX12_keepPattern 7 = .ok (.istore 4, 2) := by decide +kernel
theorem dX12_keepPattern_9 : decode cX12_keepPattern 9 = .ok (.iconst 1, 1) := by decide +kernel
theorem dX12_keepPattern_10 : decode cX12_keepPattern 10 = .ok (.istore 5, 2) := by decide +kernel
theorem dX12_keepPattern_12 : decode cX12_keepPattern 12 = .ok (.aload_n 0, 1) := by decide +kernel
theorem dX12_keepPattern_13 : decode cX12_keepPattern 13 = .ok (.getfield 143, 3) := by decide +kernel
theorem dX12_keepPattern_16 : decode cX12_keepPattern 16 = .ok (.iconst 0, 1) := by decide +kernel
theorem dX12_keepPattern_17 : decode cX12_keepPattern 17 = .ok (.iload_n 2, 1) := by decide +kernel
theorem dX12_keepPattern_18 : decode cX12_keepPattern 18 = .ok (.iastore, 1) := by decide +kernel
theorem dX12_keepPattern_19 : decode cX12_keepPattern 19 = .ok (.aload_n 0, 1) := by decide +kernel
theorem dX12_keepPattern_20 : decode cX12_keepPattern 20 = .ok (.getfield 146, 3) := by decide +kernel
theorem dX12_keepPattern_23 : decode cX12_keepPattern 23 = .ok (.iconst 0, 1) := by decide +kernel
theorem dX12_keepPattern_24 : decode cX12_keepPattern 24 = .ok (.iconst (-1), 1) := by decide +kernel
theorem dX12_keepPattern_25 : decode cX12_keepPattern 25 = .ok (.iastore, 1) := by decide +kernel
theorem dX12_keepPattern_26 : decode cX12_keepPattern 26 = .ok (.iload 5, 2) := by decide +kernel
theorem dX12_keepPattern_28 : decode cX12_keepPattern 28 = .ok (.ifCond .le 261, 3) := by decide +kernel
theorem dX12_keepPattern_31 : decode cX12_keepPattern 31 = .ok (.iinc 5 (-1), 3) := by decide +kernel
theorem dX12_keepPattern_34 : decode cX12_keepPattern 34 = .ok (.aload_n 0, 1) := by decide +kernel
theorem dX12_keepPattern_35 : decode cX12_keepPattern 35 = .ok (.getfield 143, 3) := by decide +kernel
theorem dX12_keepPattern_38 : decode cX12_keepPattern 38 = .ok (.iload 5, 2) := by decide +kernel
theorem dX12_keepPattern_40 : decode cX12_keepPattern 40 = .ok (.iaload, 1) := by decide +kernel
theorem dX12_keepPattern_41 : decode cX12_keepPattern 41 = .ok (.istore 6, 2) := by decide +kernel
theorem dX12_keepPattern_43 : decode cX12_keepPattern 43 = .ok (.aload_n 0, 1) := by decide +kernel
theorem dX12_keepPattern_44 : decode cX12_keepPattern 44 = .ok (.getfield 146, 3) := by decide +kernel
theorem dX12_keepPattern_47 : decode cX12_keepPattern 47 = .ok (.iload 5, 2) := by decide +kernel
theorem dX12_keepPattern_49 : decode cX12_keepPattern 49 = .ok (.iaload, 1) := by decide +kernel
theorem dX12_keepPattern_50 : decode cX12_keepPattern 50 = .ok (.istore 7, 2) := by decide +kernel
theorem dX12_keepPattern_52 : decode cX12_keepPattern 52 = .ok (.iload_n 3, 1) := by decide +kernel
theorem dX12_keepPattern_53 : decode cX12_keepPattern 53 = .ok (.iload 4, 2) := by decide +kernel
theorem dX12_keepPattern_55 : decode cX12_keepPattern 55 = .ok (.iadd, 1) := by decide +kernel
theorem dX12_keepPattern_56 : decode cX12_keepPattern 56 = .ok (.istore 8, 2) := by decide +kernel
theorem dX12_keepPattern_58 : decode cX12_keepPattern 58 = .ok (.aload_n 0, 1) := by decide +kernel
theorem dX12_keepPattern_59 : decode cX12_keepPattern 59 = .ok (.getfield 44, 3) := by decide +kernel
theorem dX12_keepPattern_62 : decode cX12_keepPattern 62 = .ok (.iload 8, 2) := by decide +kernel
theorem dX12_keepPattern_64 : decode cX12_keepPattern 64 = .ok (.aload_n 0, 1) := by decide +kernel
theorem dX12_keepPattern_65 : decode cX12_keepPattern 65 = .ok (.getfield 86, 3) := by decide +kernel
theorem dX12_keepPattern_68 : decode cX12_keepPattern 68 = .ok (.iload 6, 2) := by decide +kernel
theorem dX12_keepPattern_70 : decode cX12_keepPattern 70 = .ok (.iaload, 1) := by decide +kernel
theorem dX12_keepPattern_71 : decode cX12_keepPattern 71 = .ok (.iastore, 1) := by decide +kernel
theorem dX12_keepPattern_72 : decode cX12_keepPattern 72 = .ok (.aload_n 0, 1) := by decide +kernel
theorem dX12_keepPattern_73 : decode cX12_keepPattern 73 = .ok (.getfield 47, 3) := by decide +kernel
theorem dX12_keepPattern_76 : decode cX12_keepPattern 76 = .ok (.iload 8, 2) := by decide +kernel
theorem dX12_keepPattern_78 : decode cX12_keepPattern 78 = .ok (.aload_n 0, 1) := by decide +kernel
theorem dX12_keepPattern_79 : decode cX12_keepPattern 79 = .ok (.getfield 89, 3) := by decide +kernel
theorem dX12_keepPattern_82 : decode cX12_keepPattern 82 = .ok (.iload 6, 2) := by decide +kernel
theorem dX12_keepPattern_84 : decode cX12_keepPattern 84 = .ok (.iaload, 1) := by decide +kernel
theorem dX12_keepPattern_85 : decode cX12_keepPattern 85 = .ok (.iastore, 1) := by decide +kernel
theorem dX12_keepPattern_86 : decode cX12_keepPattern 86 = .ok (.aload_n 0, 1) := by decide +kernel
theorem dX12_keepPattern_87 : decode cX12_keepPattern 87 = .ok (.getfield 50, 3) := by decide +kernel
theorem dX12_keepPattern_90 : decode cX12_keepPattern 90 = .ok (.iload 8, 2) := by decide +kernel
theorem dX12_keepPattern_92 : decode cX12_keepPattern 92 = .ok (.aload_n 0, 1) := by decide +kernel
theorem dX12_keepPattern_93 : decode cX12_keepPattern 93 = .ok (.getfield 92, 3) := by decide +kernel
theorem dX12_keepPattern_96 : decode cX12_keepPattern 96 = .ok (.iload 6, 2) := by decide +kernel
theorem dX12_keepPattern_98 : decode cX12_keepPattern 98 = .ok (.iaload, 1) := by decide +kernel
theorem dX12_keepPattern_99 : decode cX12_keepPattern 99 = .ok (.iastore, 1) := by decide +kernel
theorem dX12_keepPattern_100 : decode cX12_keepPattern 100 = .ok (.aload_n 0, 1) := by decide +kernel
theorem dX12_keepPattern_101 : decode cX12_keepPattern 101 = .ok (.getfield 53, 3) := by decide +kernel
theorem dX12_keepPattern_104 : decode cX12_keepPattern 104 = .ok (.iload 8, 2) := by decide +kernel
theorem dX12_keepPattern_106 : decode cX12_keepPattern 106 = .ok (.aload_n 0, 1) := by decide +kernel
theorem dX12_keepPattern_107 : decode cX12_keepPattern 107 = .ok (.getfield 95, 3) := by decide +kernel
theorem dX12_keepPattern_110 : decode cX12_keepPattern 110 = .ok (.iload 6, 2) := by decide +kernel
theorem dX12_keepPattern_112 : decode cX12_keepPattern 112 = .ok (.iaload, 1) := by decide +kernel
theorem dX12_keepPattern_113 : decode cX12_keepPattern 113 = .ok (.iastore, 1) := by decide +kernel
theorem dX12_keepPattern_114 : decode cX12_keepPattern 114 = .ok (.aload_n 0, 1) := by decide +kernel
theorem dX12_keepPattern_115 : decode cX12_keepPattern 115 = .ok (.getfield 56, 3) := by decide +kernel
theorem dX12_keepPattern_118 : decode cX12_keepPattern 118 = .ok (.iload 8, 2) := by decide +kernel
theorem dX12_keepPattern_120 : decode cX12_keepPattern 120 = .ok (.iload 7, 2) := by decide +kernel
theorem dX12_keepPattern_122 : decode cX12_keepPattern 122 = .ok (.iastore, 1) := by decide +kernel
theorem dX12_keepPattern_123 : decode cX12_keepPattern 123 = .ok (.aload_n 0, 1) := by decide +kernel
theorem dX12_keepPattern_124 : decode cX12_keepPattern 124 = .ok (.getfield 59, 3) := by decide +kernel
theorem dX12_keepPattern_127 : decode cX12_keepPattern 127 = .ok (.iload 8, 2) := by decide +kernel
theorem dX12_keepPattern_129 : decode cX12_keepPattern 129 = .ok (.aload_n 0, 1) := by decide +kernel
theorem dX12_keepPattern_130 : decode cX12_keepPattern 130 = .ok (.getfield 104, 3) := by decide +kernel
theorem dX12_keepPattern_133 : decode cX12_keepPattern 133 = .ok (.iload 6, 2) := by decide +kernel
theorem dX12_keepPattern_135 : decode cX12_keepPattern 135 = .ok (.iaload, 1) := by decide +kernel
theorem dX12_keepPattern_136 : decode cX12_keepPattern 136 = .ok (.iastore, 1) := by decide +kernel
theorem dX12_keepPattern_137 : decode cX12_keepPattern 137 = .ok (.aload_n 0, 1) := by decide +kernel
theorem dX12_keepPattern_138 : decode cX12_keepPattern 138 = .ok (.getfield 71, 3) := by decide +kernel
theorem dX12_keepPattern_141 : decode cX12_keepPattern 141 = .ok (.iload 8, 2) := by decide +kernel
theorem dX12_keepPattern_143 : decode cX12_keepPattern 143 = .ok (.sipush 420, 3) := by decide +kernel
theorem dX12_keepPattern_146 : decode cX12_keepPattern 146 = .ok (.iload_n 1, 1) := by decide +kernel
theorem dX12_keepPattern_147 : decode cX12_keepPattern 147 = .ok (.imul, 1) := by decide +kernel
theorem dX12_keepPattern_148 : decode cX12_keepPattern 148 = .ok (.aload_n 0, 1) := by decide +kernel
theorem dX12_keepPattern_149 : decode cX12_keepPattern 149 = .ok (.getfield 107, 3) := by decide +kernel
theorem dX12_keepPattern_152 : decode cX12_keepPattern 152 = .ok (.iload 6, 2) := by decide +kernel
theorem dX12_keepPattern_154 : decode cX12_keepPattern 154 = .ok (.iaload, 1) := by decide +kernel
theorem dX12_keepPattern_155 : decode cX12_keepPattern 155 = .ok (.iadd, 1) := by decide +kernel
theorem dX12_keepPattern_156 : decode cX12_keepPattern 156 = .ok (.iastore, 1) := by decide +kernel
theorem dX12_keepPattern_157 : decode cX12_keepPattern 157 = .ok (.aload_n 0, 1) := by decide +kernel
theorem dX12_keepPattern_158 : decode cX12_keepPattern 158 = .ok (.getfield 62, 3) := by decide +kernel
theorem dX12_keepPattern_161 : decode cX12_keepPattern 161 = .ok (.iload 8, 2) := by decide +kernel
theorem dX12_keepPattern_163 : decode cX12_keepPattern 163 = .ok (.iload 4, 2) := by decide +kernel
theorem dX12_keepPattern_165 : decode cX12_keepPattern 165 = .ok (.iconst 1, 1) := by decide +kernel
theorem dX12_keepPattern_166 : decode cX12_keepPattern 166 = .ok (.iadd, 1) := by decide +kernel
theorem dX12_keepPattern_167 : decode cX12_keepPattern 167 = .ok (.iastore, 1) := by decide +kernel
theorem dX12_keepPattern_168 : decode cX12_keepPattern 168 = .ok (.aload_n 0, 1) := by decide +kernel
theorem dX12_keepPattern_169 : decode cX12_keepPattern 169 = .ok (.getfield 77, 3) := by decide +kernel
theorem dX12_keepPattern_172 : decode cX12_keepPattern 172 = .ok (.iload 8, 2) := by decide +kernel
theorem dX12_keepPattern_174 : decode cX12_keepPattern 174 = .ok (.iload 7, 2) := by decide +kernel
theorem dX12_keepPattern_176 : decode cX12_keepPattern 176 = .ok (.ifCond .lt 33, 3) := by decide +kernel
theorem dX12_keepPattern_209 : decode cX12_keepPattern 209 = .ok (.iconst 0, 1) := by decide +kernel
theorem dX12_keepPattern_210 : decode cX12_keepPattern 210 = .ok (.bastore, 1) := by decide +kernel
theorem dX12_keepPattern_211 : decode cX12_keepPattern 211 = .ok (.aload_n 0, 1) := by decide +kernel
theorem dX12_keepPattern_212 : decode cX12_keepPattern 212 = .ok (.getfield 101, 3) := by decide +kernel
theorem dX12_keepPattern_215 : decode cX12_keepPattern 215 = .ok (.iload 6, 2) := by decide +kernel
theorem dX12_keepPattern_217 : decode cX12_keepPattern 217 = .ok (.iaload, 1) := by decide +kernel
theorem dX12_keepPattern_218 : decode cX12_keepPattern 218 = .ok (.ifCond .lt 29, 3) := by decide +kernel
theorem dX12_keepPattern_247 : decode cX12_keepPattern 247 = .ok (.aload_n 0, 1) := by decide +kernel
theorem dX12_keepPattern_248 : decode cX12_keepPattern 248 = .ok (.getfield 98, 3) := by decide +kernel
theorem dX12_keepPattern_251 : decode cX12_keepPattern 251 = .ok (.iload 6, 2) := by decide +kernel
theorem dX12_keepPattern_253 : decode cX12_keepPattern 253 = .ok (.iaload, 1) := by decide +kernel
theorem dX12_keepPattern_254 : decode cX12_keepPattern 254 = .ok (.ifCond .lt 29, 3) := by decide +kernel
theorem dX12_keepPattern_283 : decode cX12_keepPattern 283 = .ok (.iinc 4 1, 3) := by decide +kernel
theorem dX12_keepPattern_286 : decode cX12_keepPattern 286 = .ok (.goto (-260), 3) := by decide +kernel
theorem dX12_keepPattern_289 : decode cX12_keepPattern 289 = .ok (.iconst 0, 1) := by decide +kernel
theorem dX12_keepPattern_290 : decode cX12_keepPattern 290 = .ok (.istore 6, 2) := by decide +kernel
theorem dX12_keepPattern_292 : decode cX12_keepPattern 292 = .ok (.iload 6, 2) := by decide +kernel
theorem dX12_keepPattern_294 : decode cX12_keepPattern 294 = .ok (.aload_n 0, 1) := by decide +kernel
theorem dX12_keepPattern_295 : decode cX12_keepPattern 295 = .ok (.getfield 396, 3) := by decide +kernel
theorem dX12_keepPattern_298 : decode cX12_keepPattern 298 = .ok (.if_icmp .ge 49, 3) := by decide +kernel
theorem dX12_keepPattern_347 : decode cX12_keepPattern 347 = .ok (.aload_n 0, 1) := by decide +kernel
theorem dX12_keepPattern_348 : decode cX12_keepPattern 348 = .ok (.getfield 35, 3) := by decide +kernel
theorem dX12_keepPattern_351 : decode cX12_keepPattern 351 = .ok (.iload_n 1, 1) := by decide +kernel
theorem dX12_keepPattern_352 : decode cX12_keepPattern 352 = .ok (.iload 4, 2) := by decide +kernel
theorem dX12_keepPattern_354 : decode cX12_keepPattern 354 = .ok (.iastore, 1) := by decide +kernel
theorem dX12_keepPattern_355 : decode cX12_keepPattern 355 = .ok (.aload_n 0, 1) := by decide +kernel
theorem dX12_keepPattern_356 : decode cX12_keepPattern 356 = .ok (.getfield 38, 3) := by decide +kernel
theorem dX12_keepPattern_359 : decode cX12_keepPattern 359 = .ok (.iload_n 1, 1) := by decide +kernel
theorem dX12_keepPattern_360 : decode cX12_keepPattern 360 = .ok (.aload_n 0, 1) := by decide +kernel
theorem dX12_keepPattern_361 : decode cX12_keepPattern 361 = .ok (.getfield 377, 3) := by decide +kernel
theorem dX12_keepPattern_364 : decode cX12_keepPattern 364 = .ok (.iastore, 1) := by decide +kernel
theorem dX12_keepPattern_365 : decode cX12_keepPattern 365 = .ok (.iconst 1, 1) := by decide +kernel
theorem dX12_keepPattern_366 : decode cX12_keepPattern 366 = .ok (.istore 6, 2) := by decide +kernel
theorem dX12_keepPattern_368 : decode cX12_keepPattern 368 = .ok (.iload 6, 2) := by decide +kernel
theorem dX12_keepPattern_370 : decode cX12_keepPattern 370 = .ok (.bipush 10, 2) := by decide +kernel
theorem dX12_keepPattern_372 : decode cX12_keepPattern 372 = .ok (.if_icmp .ge 41, 3) := by decide +kernel
theorem dX12_keepPattern_375 : decode cX12_keepPattern 375 = .ok (.aload_n 0, 1) := by decide +kernel
theorem dX12_keepPattern_376 : decode cX12_keepPattern 376 = .ok (.getfield 41, 3) := by decide +kernel
theorem dX12_keepPattern_379 : decode cX12_keepPattern 379 = .ok (.bipush 10, 2) := by decide +kernel
theorem dX12_keepPattern_381 : decode cX12_keepPattern 381 = .ok (.iload_n 1, 1) := by decide +kernel
theorem dX12_keepPattern_382 : decode cX12_keepPattern 382 = .ok (.imul, 1) := by decide +kernel
theorem dX12_keepPattern_383 : decode cX12_keepPattern 383 = .ok (.iload 6, 2) := by decide +kernel
theorem dX12_keepPattern_385 : decode cX12_keepPattern 385 = .ok (.iadd, 1) := by decide +kernel
theorem dX12_keepPattern_386 : decode cX12_keepPattern 386 = .ok (.iload 6, 2) := by decide +kernel
theorem dX12_keepPattern_388 : decode cX12_keepPattern 388 = .ok (.aload_n 0, 1) := by decide +kernel
theorem dX12_keepPattern_389 : decode cX12_keepPattern 389 = .ok (.getfield 377, 3) := by decide +kernel
theorem dX12_keepPattern_392 : decode cX12_keepPattern 392 = .ok (.if_icmp .gt 13, 3) := by decide +kernel
theorem dX12_keepPattern_405 : decode cX12_keepPattern 405 = .ok (.iconst 0, 1) := by decide +kernel
theorem dX12_keepPattern_406 : decode cX12_keepPattern 406 = .ok (.iastore, 1) := by decide +kernel
theorem dX12_keepPattern_407 : decode cX12_keepPattern 407 = .ok (.iinc 6 1, 3) := by decide +kernel
theorem dX12_keepPattern_410 : decode cX12_keepPattern 410 = .ok (.goto (-42), 3) := by decide +kernel
theorem dX12_keepPattern_413 : decode cX12_keepPattern 413 = .ok (.iload 4, 2) := by decide +kernel
theorem dX12_keepPattern_415 : decode cX12_keepPattern 415 = .ok (.iconst 1, 1) := by decide +kernel
theorem dX12_keepPattern_416 : decode cX12_keepPattern 416 = .ok (.isub, 1) := by decide +kernel
theorem dX12_keepPattern_417 : decode cX12_keepPattern 417 = .ok (.istore 6, 2) := by decide +kernel
theorem dX12_keepPattern_419 : decode cX12_keepPattern 419 = .ok (.iload 6, 2) := by decide +kernel
theorem dX12_keepPattern_421 : decode cX12_keepPattern 421 = .ok (.ifCond .le 67, 3) := by decide +kernel
theorem dX12_keepPattern_488 : decode cX12_keepPattern 488 = .ok (.iload 4, 2) := by decide +kernel
theorem dX12_keepPattern_490 : decode cX12_keepPattern 490 = .ok (.iconst 1, 1) := by decide +kernel
theorem dX12_keepPattern_491 : decode cX12_keepPattern 491 = .ok (.isub, 1) := by decide +kernel
theorem dX12_keepPattern_492 : decode cX12_keepPattern 492 = .ok (.istore 6, 2) := by decide +kernel
theorem dX12_keepPattern_494 : decode cX12_keepPattern 494 = .ok (.iload 6, 2) := by decide +kernel
theorem dX12_keepPattern_496 : decode cX12_keepPattern 496 = .ok (.ifCond .lt 16, 3) := by decide +kernel
theorem dX12_keepPattern_499 : decode cX12_keepPattern 499 = .ok (.aload_n 0, 1) := by decide +kernel
theorem dX12_keepPattern_500 : decode cX12_keepPattern 500 = .ok (.iload_n 1, 1) := by decide +kernel
theorem dX12_keepPattern_501 : decode cX12_keepPattern 501 = .ok (.iload 6, 2) := by decide +kernel
theorem dX12_keepPattern_503 : decode cX12_keepPattern 503 = .ok (.invokevirtual 435, 3) := by decide +kernel
theorem dX12_keepPattern_506 : decode cX12_keepPattern 506 = .ok (.iinc 6 (-1), 3) := by decide +kernel
theorem dX12_keepPattern_509 : decode cX12_keepPattern 509 = .ok (.goto (-15), 3) := by decide +kernel
theorem dX12_keepPattern_512 : decode cX12_keepPattern 512 = .ok (.aload_n 0, 1) := by decide +kernel
theorem dX12_keepPattern_513 : decode cX12_keepPattern 513 = .ok (.getfield 31, 3) := by decide +kernel
theorem dX12_keepPattern_516 : decode cX12_keepPattern 516 = .ok (.iload_n 1, 1) := by decide +kernel
theorem dX12_keepPattern_517 : decode cX12_keepPattern 517 = .ok (.iconst 1, 1) := by decide +kernel
theorem dX12_keepPattern_518 : decode cX12_keepPattern 518 = .ok (.bastore, 1) := by decide +kernel
theorem dX12_keepPattern_519 : decode cX12_keepPattern 519 = .ok (.return_, 1) := by decide +kernel
theorem dX12_least_0 : decode cX12_least 0 = .ok (.aload_n 0, 1) := by decide +kernel
theorem dX12_least_1 : decode cX12_least 1 = .ok (.iconst 0, 1) := by decide +kernel
theorem dX12_least_2 : decode cX12_least 2 = .ok (.putfield 1, 3) := by decide +kernel
theorem dX12_least_5 : decode cX12_least 5 = .ok (.aload_n 0, 1) := by decide +kernel
theorem dX12_least_6 : decode cX12_least 6 = .ok (.iload_n 1, 1) := by decide +kernel
theorem dX12_least_7 : decode cX12_least 7 = .ok (.invokevirtual 459, 3) := by decide +kernel
theorem dX12_least_10 : decode cX12_least 10 = .ok (.ifCond .eq 6, 3) := by decide +kernel
theorem dX12_least_13 : decode cX12_least 13 = .ok (.bipush (-2), 2) := by decide +kernel
theorem dX12_least_15 : decode cX12_least 15 = .ok (.ireturn, 1) := by decide +kernel
theorem dX12_made_0 : decode cX12_made 0 = .ok (.aload_n 0, 1) := by decide +kernel
theorem dX12_made_1 : decode cX12_made 1 = .ok (.getfield 326, 3) := by decide +kernel
theorem dX12_made_4 : decode cX12_made 4 = .ok (.istore_n 3, 1) := by decide +kernel
theorem dX12_made_5 : decode cX12_made 5 = .ok (.aload_n 0, 1) := by decide +kernel
theorem dX12_made_6 : decode cX12_made 6 = .ok (.dup, 1) := by decide +kernel
theorem dX12_made_7 : decode cX12_made 7 = .ok (.getfield 326, 3) := by decide +kernel
theorem dX12_made_10 : decode cX12_made 10 = .ok (.iconst 1, 1) := by decide +kernel
theorem dX12_made_11 : decode cX12_made 11 = .ok (.iadd, 1) := by decide +kernel
theorem dX12_made_12 : decode cX12_made 12 = .ok (.putfield 326, 3) := by decide +kernel
theorem dX12_made_15 : decode cX12_made 15 = .ok (.aload_n 0, 1) := by decide +kernel
theorem dX12_made_16 : decode cX12_made 16 = .ok (.getfield 86, 3) := by decide +kernel
theorem dX12_made_19 : decode cX12_made 19 = .ok (.iload_n 3, 1) := by decide +kernel
theorem dX12_made_20 : decode cX12_made 20 = .ok (.iload_n 1, 1) := by decide +kernel
theorem dX12_made_21 : decode cX12_made 21 = .ok (.iastore, 1) := by decide +kernel
theorem dX12_made_22 : decode cX12_made 22 = .ok (.aload_n 0, 1) := by decide +kernel
theorem dX12_made_23 : decode cX12_made 23 = .ok (.getfield 89, 3) := by decide +kernel
theorem dX12_made_26 : decode cX12_made 26 = .ok (.iload_n 3, 1) := by decide +kernel
theorem dX12_made_27 : decode cX12_made 27 = .ok (.iload_n 2, 1) := by decide +kernel
theorem dX12_made_28 : decode cX12_made 28 = .ok (.iastore, 1) := by decide +kernel
theorem dX12_made_29 : decode cX12_made 29 = .ok (.aload_n 0, 1) := by decide +kernel
theorem dX12_made_30 : decode cX12_made 30 = .ok (.getfield 92, 3) := by decide +kernel
theorem dX12_made_33 : decode cX12_made 33 = .ok (.iload_n 3, 1) := by decide +kernel
theorem dX12_made_34 : decode cX12_made 34 = .ok (.iconst 0, 1) := by decide +kernel
theorem dX12_made_35 : decode cX12_made 35 = .ok (.iastore, 1) := by decide +kernel
theorem dX12_made_36 : decode cX12_made 36 = .ok (.aload_n 0, 1) := by decide +kernel
theorem dX12_made_37 : decode cX12_made 37 = .ok (.getfield 95, 3) := by decide +kernel
theorem dX12_made_40 : decode cX12_made 40 = .ok (.iload_n 3, 1) := by decide +kernel
theorem dX12_made_41 : decode cX12_made 41 = .ok (.iconst 0, 1) := by decide +kernel
theorem dX12_made_42 : decode cX12_made 42 = .ok (.iastore, 1) := by decide +kernel
theorem dX12_made_43 : decode cX12_made 43 = .ok (.aload_n 0, 1) := by decide +kernel
theorem dX12_made_44 : decode cX12_made 44 = .ok (.getfield 98, 3) := by decide +kernel
theorem dX12_made_47 : decode cX12_made 47 = .ok (.iload_n 3, 1) := by decide +kernel
theorem dX12_made_48 : decode cX12_made 48 = .ok (.iconst (-1), 1) := by decide +kernel
theorem dX12_made_49 : decode cX12_made 49 = .ok (.iastore, 1) := by decide +kernel
theorem dX12_made_50 : decode cX12_made 50 = .ok (.aload_n 0, 1) := by decide +kernel
theorem dX12_made_51 : decode cX12_made 51 = .ok (.getfield 101, 3) := by decide +kernel
theorem dX12_made_54 : decode cX12_made 54 = .ok (.iload_n 3, 1) := by decide +kernel
theorem dX12_made_55 : decode cX12_made 55 = .ok (.iconst (-1), 1) := by decide +kernel
theorem dX12_made_56 : decode cX12_made 56 = .ok (.iastore, 1) := by decide +kernel
theorem dX12_made_57 : decode cX12_made 57 = .ok (.aload_n 0, 1) := by decide +kernel
theorem dX12_made_58 : decode cX12_made 58 = .ok (.getfield 104, 3) := by decide +kernel
theorem dX12_made_61 : decode cX12_made 61 = .ok (.iload_n 3, 1) := by decide +kernel
theorem dX12_made_62 : decode cX12_made 62 = .ok (.iconst 0, 1) := by decide +kernel
theorem dX12_made_63 : decode cX12_made 63 = .ok (.iastore, 1) := by decide +kernel
theorem dX12_made_64 : decode cX12_made 64 = .ok (.aload_n 0, 1) := by decide +kernel
theorem dX12_made_65 : decode cX12_made 65 = .ok (.getfield 107, 3) := by decide +kernel
theorem dX12_made_68 : decode cX12_made 68 = .ok (.iload_n 3, 1) := by decide +kernel
theorem dX12_made_69 : decode cX12_made 69 = .ok (.iconst 0, 1) := by decide +kernel
theorem dX12_made_70 : decode cX12_made 70 = .ok (.iastore, 1) := by decide +kernel
theorem dX12_made_71 : decode cX12_made 71 = .ok (.iload_n 3, 1) := by decide +kernel
theorem dX12_made_72 : decode cX12_made 72 = .ok (.ireturn, 1) := by decide +kernel
theorem dX12_measure_0 : decode cX12_measure 0 = .ok (.sipush 220, 3) := by decide +kernel
theorem dX12_measure_3 : decode cX12_measure 3 = .ok (.iload_n 1, 1) := by decide +kernel
theorem dX12_measure_4 : decode cX12_measure 4 = .ok (.imul, 1) := by decide +kernel
theorem dX12_measure_5 : decode cX12_measure 5 = .ok (.istore_n 3, 1) := by decide +kernel
theorem dX12_measure_6 : decode cX12_measure 6 = .ok (.iload_n 3, 1) := by decide +kernel
theorem dX12_measure_7 : decode cX12_measure 7 = .ok (.iload_n 2, 1) := by decide +kernel
theorem dX12_measure_8 : decode cX12_measure 8 = .ok (.iadd, 1) := by decide +kernel
theorem dX12_measure_9 : decode cX12_measure 9 = .ok (.istore 4, 2) := by decide +kernel
theorem dX12_measure_11 : decode cX12_measure 11 = .ok (.iconst 0, 1) := by decide +kernel
theorem dX12_measure_12 : decode cX12_measure 12 = .ok (.istore 5, 2) := by decide +kernel
theorem dX12_measure_14 : decode cX12_measure 14 = .ok (.iconst 0, 1) := by decide +kernel
theorem dX12_measure_15 : decode cX12_measure 15 = .ok (.istore 6, 2) := by decide +kernel
theorem dX12_measure_17 : decode cX12_measure 17 = .ok (.iconst 1, 1) := by decide +kernel
theorem dX12_measure_18 : decode cX12_measure 18 = .ok (.istore 7, 2) := by decide +kernel
theorem dX12_measure_20 : decode cX12_measure 20 = .ok (.iconst 0, 1) := by decide +kernel
theorem dX12_measure_21 : decode cX12_measure 21 = .ok (.istore 8, 2) := by decide +kernel
theorem dX12_measure_23 : decode cX12_measure 23 = .ok (.iload_n 2, 1) := by decide +kernel
theorem dX12_measure_24 : decode cX12_measure 24 = .ok (.iconst 1, 1) := by decide +kernel
theorem dX12_measure_25 : decode cX12_measure 25 = .ok (.iadd, 1) := by decide +kernel
theorem dX12_measure_26 : decode cX12_measure 26 = .ok (.istore 9, 2) := by decide +kernel
theorem dX12_measure_28 : decode cX12_measure 28 = .ok (.iload 9, 2) := by decide +kernel
theorem dX12_measure_30 : decode cX12_measure 30 = .ok (.aload_n 0, 1) := by decide +kernel
theorem dX12_measure_31 : decode cX12_measure 31 = .ok (.getfield 62, 3) := by decide +kernel
theorem dX12_measure_34 : decode cX12_measure 34 = .ok (.iload 4, 2) := by decide +kernel
theorem dX12_measure_36 : decode cX12_measure 36 = .ok (.iaload, 1) := by decide +kernel
theorem dX12_measure_37 : decode cX12_measure 37 = .ok (.if_icmp .ge 99, 3) := by decide +kernel
theorem dX12_measure_136 : decode cX12_measure 136 = .ok (.aload_n 0, 1) := by decide +kernel
theorem dX12_measure_137 : decode cX12_measure 137 = .ok (.getfield 44, 3) := by decide +kernel
theorem dX12_measure_140 : decode cX12_measure 140 = .ok (.iload 4, 2) := by decide +kernel
theorem dX12_measure_142 : decode cX12_measure 142 = .ok (.iaload, 1) := by decide +kernel
theorem dX12_measure_143 : decode cX12_measure 143 = .ok (.istore 9, 2) := by decide +kernel
theorem dX12_measure_145 : decode cX12_measure 145 = .ok (.iconst 1, 1) := by decide +kernel
theorem dX12_measure_146 : decode cX12_measure 146 = .ok (.istore 10, 2) := by decide +kernel
theorem dX12_measure_148 : decode cX12_measure 148 = .ok (.iload 9, 2) := by decide +kernel
theorem dX12_measure_150 : decode cX12_measure 150 = .ok (.bipush 7, 2) := by decide +kernel
theorem dX12_measure_152 : decode cX12_measure 152 = .ok (.if_icmp .ne 50, 3) := by decide +kernel
theorem dX12_measure_202 : decode cX12_measure 202 = .ok (.aload_n 0, 1) := by decide +kernel
theorem dX12_measure_203 : decode cX12_measure 203 = .ok (.getfield 65, 3) := by decide +kernel
theorem dX12_measure_206 : decode cX12_measure 206 = .ok (.iload 4, 2) := by decide +kernel
theorem dX12_measure_208 : decode cX12_measure 208 = .ok (.iconst 1, 1) := by decide +kernel
theorem dX12_measure_209 : decode cX12_measure 209 = .ok (.iload 10, 2) := by decide +kernel
theorem dX12_measure_211 : decode cX12_measure 211 = .ok (.iload 5, 2) := by decide +kernel
theorem dX12_measure_213 : decode cX12_measure 213 = .ok (.imul, 1) := by decide +kernel
theorem dX12_measure_214 : decode cX12_measure 214 = .ok (.iadd, 1) := by decide +kernel
theorem dX12_measure_215 : decode cX12_measure 215 = .ok (.invokestatic 438, 3) := by decide +kernel
theorem dX12_measure_218 : decode cX12_measure 218 = .ok (.iastore, 1) := by decide +kernel
theorem dX12_measure_219 : decode cX12_measure 219 = .ok (.aload_n 0, 1) := by decide +kernel
theorem dX12_measure_220 : decode cX12_measure 220 = .ok (.getfield 68, 3) := by decide +kernel
theorem dX12_measure_223 : decode cX12_measure 223 = .ok (.iload 4, 2) := by decide +kernel
theorem dX12_measure_225 : decode cX12_measure 225 = .ok (.iload 9, 2) := by decide +kernel
theorem dX12_measure_227 : decode cX12_measure 227 = .ok (.iconst 2, 1) := by decide +kernel
theorem dX12_measure_228 : decode cX12_measure 228 = .ok (.if_icmp .gt 7, 3) := by decide +kernel
theorem dX12_measure_235 : decode cX12_measure 235 = .ok (.iload 10, 2) := by decide +kernel
theorem dX12_measure_237 : decode cX12_measure 237 = .ok (.iload 6, 2) := by decide +kernel
theorem dX12_measure_239 : decode cX12_measure 239 = .ok (.imul, 1) := by decide +kernel
theorem dX12_measure_240 : decode cX12_measure 240 = .ok (.invokestatic 438, 3) := by decide +kernel
theorem dX12_measure_243 : decode cX12_measure 243 = .ok (.iastore, 1) := by decide +kernel
theorem dX12_measure_244 : decode cX12_measure 244 = .ok (.aload_n 0, 1) := by decide +kernel
theorem dX12_measure_245 : decode cX12_measure 245 = .ok (.getfield 74, 3) := by decide +kernel
theorem dX12_measure_248 : decode cX12_measure 248 = .ok (.iload 4, 2) := by decide +kernel
theorem dX12_measure_250 : decode cX12_measure 250 = .ok (.iload 9, 2) := by decide +kernel
theorem dX12_measure_252 : decode cX12_measure 252 = .ok (.iconst 3, 1) := by decide +kernel
theorem dX12_measure_253 : decode cX12_measure 253 = .ok (.if_icmp .eq 63, 3) := by decide +kernel
theorem dX12_measure_256 : decode cX12_measure 256 = .ok (.iload 9, 2) := by decide +kernel
theorem dX12_measure_258 : decode cX12_measure 258 = .ok (.iconst 4, 1) := by decide +kernel
theorem dX12_measure_259 : decode cX12_measure 259 = .ok (.if_icmp .eq 57, 3) := by decide +kernel
theorem dX12_measure_262 : decode cX12_measure 262 = .ok (.iload 9, 2) := by decide +kernel
theorem dX12_measure_264 : decode cX12_measure 264 = .ok (.bipush 9, 2) := by decide +kernel
theorem dX12_measure_266 : decode cX12_measure 266 = .ok (.if_icmp .eq 50, 3) := by decide +kernel
theorem dX12_measure_269 : decode cX12_measure 269 = .ok (.iload 9, 2) := by decide +kernel
theorem dX12_measure_271 : decode cX12_measure 271 = .ok (.bipush 7, 2) := by decide +kernel
theorem dX12_measure_273 : decode cX12_measure 273 = .ok (.if_icmp .ne 13, 3) := by decide +kernel
theorem dX12_measure_286 : decode cX12_measure 286 = .ok (.iload 9, 2) := by decide +kernel
theorem dX12_measure_288 : decode cX12_measure 288 = .ok (.bipush 6, 2) := by decide +kernel
theorem dX12_measure_290 : decode cX12_measure 290 = .ok (.if_icmp .ne 8, 3) := by decide +kernel
theorem dX12_measure_298 : decode cX12_measure 298 = .ok (.iload 9, 2) := by decide +kernel
theorem dX12_measure_300 : decode cX12_measure 300 = .ok (.bipush 6, 2) := by decide +kernel
theorem dX12_measure_302 : decode cX12_measure 302 = .ok (.if_icmp .eq 18, 3) := by decide +kernel
theorem dX12_measure_305 : decode cX12_measure 305 = .ok (.iload 9, 2) := by decide +kernel
theorem dX12_measure_307 : decode cX12_measure 307 = .ok (.iconst 2, 1) := by decide +kernel
theorem dX12_measure_308 : decode cX12_measure 308 = .ok (.if_icmp .le 12, 3) := by decide +kernel
theorem dX12_measure_311 : decode cX12_measure 311 = .ok (.iload 7, 2) := by decide +kernel
theorem dX12_measure_313 : decode cX12_measure 313 = .ok (.ifCond .eq 7, 3) := by decide +kernel
theorem dX12_measure_316 : decode cX12_measure 316 = .ok (.iconst 1, 1) := by decide +kernel
theorem dX12_measure_317 : decode cX12_measure 317 = .ok (.goto 4, 3) := by decide +kernel
theorem dX12_measure_321 : decode cX12_measure 321 = .ok (.bastore, 1) := by decide +kernel
theorem dX12_measure_322 : decode cX12_measure 322 = .ok (.return_, 1) := by decide +kernel
theorem dX12_named_0 : decode cX12_named 0 = .ok (.aload_n 0, 1) := by decide +kernel
theorem dX12_named_1 : decode cX12_named 1 = .ok (.iconst 0, 1) := by decide +kernel
theorem dX12_named_2 : decode cX12_named 2 = .ok (.putfield 1, 3) := by decide +kernel
theorem dX12_named_5 : decode cX12_named 5 = .ok (.aload_n 0, 1) := by decide +kernel
theorem dX12_named_6 : decode cX12_named 6 = .ok (.iload_n 1, 1) := by decide +kernel
theorem dX12_named_7 : decode cX12_named 7 = .ok (.invokevirtual 459, 3) := by decide +kernel
theorem dX12_named_10 : decode cX12_named 10 = .ok (.ifCond .eq 6, 3) := by decide +kernel
theorem dX12_named_13 : decode cX12_named 13 = .ok (.bipush (-2), 2) := by decide +kernel
theorem dX12_named_15 : decode cX12_named 15 = .ok (.ireturn, 1) := by decide +kernel
theorem dX12_node_0 : decode cX12_node 0 = .ok (.aload_n 0, 1) := by decide +kernel
theorem dX12_node_1 : decode cX12_node 1 = .ok (.iconst 0, 1) := by decide +kernel
theorem dX12_node_2 : decode cX12_node 2 = .ok (.putfield 1, 3) := by decide +kernel
theorem dX12_node_5 : decode cX12_node 5 = .ok (.aload_n 0, 1) := by decide +kernel
theorem dX12_node_6 : decode cX12_node 6 = .ok (.iload_n 1, 1) := by decide +kernel
theorem dX12_node_7 : decode cX12_node 7 = .ok (.invokevirtual 459, 3) := by decide +kernel
theorem dX12_node_10 : decode cX12_node 10 = .ok (.ifCond .eq 6, 3) := by decide +kernel
theorem dX12_node_13 : decode cX12_node 13 = .ok (.bipush (-2), 2) := by decide +kernel
theorem dX12_node_15 : decode cX12_node 15 = .ok (.ireturn, 1) := by decide +kernel
theorem dX12_out_0 : decode cX12_out 0 = .ok (.aload_n 0, 1) := by decide +kernel
theorem dX12_out_1 : decode cX12_out 1 = .ok (.iload_n 1, 1) := by decide +kernel
theorem dX12_out_2 : decode cX12_out 2 = .ok (.iconst 0, 1) := by decide +kernel
theorem dX12_out_3 : decode cX12_out 3 = .ok (.aload_n 0, 1) := by decide +kernel
theorem dX12_out_4 : decode cX12_out 4 = .ok (.getfield 502, 3) := by decide +kernel
theorem dX12_out_7 : decode cX12_out 7 = .ok (.iconst 1, 1) := by decide +kernel
theorem dX12_out_8 : decode cX12_out 8 = .ok (.isub, 1) := by decide +kernel
theorem dX12_out_9 : decode cX12_out 9 = .ok (.invokestatic 7, 3) := by decide +kernel
theorem dX12_out_12 : decode cX12_out 12 = .ok (.ifCond .eq 7, 3) := by decide +kernel
theorem dX12_out_19 : decode cX12_out 19 = .ok (.iconst 1, 1) := by decide +kernel
theorem dX12_out_20 : decode cX12_out 20 = .ok (.putfield 1, 3) := by decide +kernel
theorem dX12_out_23 : decode cX12_out 23 = .ok (.aload_n 0, 1) := by decide +kernel
theorem dX12_out_24 : decode cX12_out 24 = .ok (.getfield 1, 3) := by decide +kernel
theorem dX12_out_27 : decode cX12_out 27 = .ok (.ifCond .ne 12, 3) := by decide +kernel
theorem dX12_out_39 : decode cX12_out 39 = .ok (.iconst 0, 1) := by decide +kernel
theorem dX12_out_40 : decode cX12_out 40 = .ok (.ireturn, 1) := by decide +kernel
theorem dX12_part_0 : decode cX12_part 0 = .ok (.aload_n 0, 1) := by decide +kernel
theorem dX12_part_1 : decode cX12_part 1 = .ok (.iconst 0, 1) := by decide +kernel
theorem dX12_part_2 : decode cX12_part 2 = .ok (.putfield 1, 3) := by decide +kernel
theorem dX12_part_5 : decode cX12_part 5 = .ok (.aload_n 0, 1) := by decide +kernel
theorem dX12_part_6 : decode cX12_part 6 = .ok (.iload_n 1, 1) := by decide +kernel
theorem dX12_part_7 : decode cX12_part 7 = .ok (.invokevirtual 459, 3) := by decide +kernel
theorem dX12_part_10 : decode cX12_part 10 = .ok (.ifCond .eq 6, 3) := by decide +kernel
theorem dX12_part_13 : decode cX12_part 13 = .ok (.bipush (-2), 2) := by decide +kernel
theorem dX12_part_15 : decode cX12_part 15 = .ok (.ireturn, 1) := by decide +kernel
theorem dX12_parting_0 : decode cX12_parting 0 = .ok (.aload_n 0, 1) := by decide +kernel
theorem dX12_parting_1 : decode cX12_parting 1 = .ok (.iconst 0, 1) := by decide +kernel
theorem dX12_parting_2 : decode cX12_parting 2 = .ok (.putfield 1, 3) := by decide +kernel
theorem dX12_parting_5 : decode cX12_parting 5 = .ok (.aload_n 0, 1) := by decide +kernel
theorem dX12_parting_6 : decode cX12_parting 6 = .ok (.iload_n 1, 1) := by decide +kernel
theorem dX12_parting_7 : decode cX12_parting 7 = .ok (.invokevirtual 459, 3) := by decide +kernel
theorem dX12_parting_10 : decode cX12_parting 10 = .ok (.ifCond .ne 11, 3) := by decide +kernel
theorem dX12_parting_21 : decode cX12_parting 21 = .ok (.bipush (-2), 2) := by decide +kernel
theorem dX12_parting_23 : decode cX12_parting 23 = .ok (.ireturn, 1) := by decide +kernel
theorem dX12_pattern_0 : decode cX12_pattern 0 = .ok (.aload_n 0, 1) := by decide +kernel
theorem dX12_pattern_1 : decode cX12_pattern 1 = .ok (.iconst 0, 1) := by decide +kernel
theorem dX12_pattern_2 : decode cX12_pattern 2 = .ok (.putfield 1, 3) := by decide +kernel
theorem dX12_pattern_5 : decode cX12_pattern 5 = .ok (.iload_n 1, 1) := by decide +kernel
theorem dX12_pattern_6 : decode cX12_pattern 6 = .ok (.iconst 0, 1) := by decide +kernel
theorem dX12_pattern_7 : decode cX12_pattern 7 = .ok (.iconst 5, 1) := by decide +kernel
theorem dX12_pattern_8 : decode cX12_pattern 8 = .ok (.invokestatic 7, 3) := by decide +kernel
theorem dX12_pattern_11 : decode cX12_pattern 11 = .ok (.ifCond .ne 6, 3) := by decide +kernel
