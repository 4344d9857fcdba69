theorem tw_237 : (.initialized "PatternWorkshop$Row" : Cond) ∈ TW := tw_in (tb_0 (List.mem_of_getElem? (i := 2) rfl)) (by decide +kernel)
theorem tw_238 : (.initialized "java/lang/Math" : Cond) ∈ TW := tw_in (tb_0 (List.mem_of_getElem? (i := 3) rfl)) (by decide +kernel)
theorem tw_239 : (.initialized "PatternWorkshop$Reader" : Cond) ∈ TW := tw_in (tb_0 (List.mem_of_getElem? (i := 4) rfl)) (by decide +kernel)
theorem tw_240 : (.initialized "PatternWorkshop$Tree" : Cond) ∈ TW := tw_in (tb_0 (List.mem_of_getElem? (i := 5) rfl)) (by decide +kernel)
theorem tw_241 : (.initialized "PatternWorkshop$Group" : Cond) ∈ TW := tw_in (tb_0 (List.mem_of_getElem? (i := 6) rfl)) (by decide +kernel)
theorem tw_242 : (.initialized "PatternWorkshop$Printer" : Cond) ∈ TW := tw_in (tb_0 (List.mem_of_getElem? (i := 7) rfl)) (by decide +kernel)
theorem tw_243 : (.initialized "PatternWorkshop$GoingBack" : Cond) ∈ TW := tw_in (tb_0 (List.mem_of_getElem? (i := 8) rfl)) (by decide +kernel)
theorem tw_244 : (.initialized "PatternWorkshop$Parallel" : Cond) ∈ TW := tw_in (tb_0 (List.mem_of_getElem? (i := 9) rfl)) (by decide +kernel)
theorem tw_245 : (.initialized "PatternWorkshop$Program" : Cond) ∈ TW := tw_in (tb_0 (List.mem_of_getElem? (i := 10) rfl)) (by decide +kernel)
theorem tw_246 : (.initialized "PatternWorkshop$Sets" : Cond) ∈ TW := tw_in (tb_0 (List.mem_of_getElem? (i := 11) rfl)) (by decide +kernel)
theorem tw_247 : (.initialized "PatternWorkshop$Alphabet" : Cond) ∈ TW := tw_in (tb_0 (List.mem_of_getElem? (i := 12) rfl)) (by decide +kernel)
theorem tw_248 : (.initialized "PatternWorkshop$Table" : Cond) ∈ TW := tw_in (tb_0 (List.mem_of_getElem? (i := 13) rfl)) (by decide +kernel)
theorem tw_264 : (.methodLink "PatternWorkshop" 1 ⟨"java/lang/Object", "<init>", "()V"⟩ : Cond) ∈ TW := tw_in (tb_0 (List.mem_of_getElem? (i := 29) rfl)) (by decide +kernel)
theorem tw_265 : (.instanceMethod ⟨"java/lang/Object", "<init>", "()V"⟩ : Cond) ∈ TW := tw_in (tb_0 (List.mem_of_getElem? (i := 30) rfl)) (by decide +kernel)
theorem tw_266 : (.code ⟨"java/lang/Object", "<init>", "()V"⟩ object_method_1_code 1 none : Cond) ∈ TW := tw_in (tb_0 (List.mem_of_getElem? (i := 31) rfl)) (by decide +kernel)
theorem tw_267 : (.classLink "PatternWorkshop" 7 "PatternWorkshop$Row" : Cond) ∈ TW := tw_in (tb_0 (List.mem_of_getElem? (i := 32) rfl)) (by decide +kernel)
theorem tw_268 : (.instantiable "PatternWorkshop$Row" 4 : Cond) ∈ TW := tw_in (tb_0 (List.mem_of_getElem? (i := 33) rfl)) (by decide +kernel)
theorem tw_269 : (.methodLink "PatternWorkshop" 11 ⟨"PatternWorkshop$Row", "<init>", "(I)V"⟩ : Cond) ∈ TW := tw_in (tb_0 (List.mem_of_getElem? (i := 34) rfl)) (by decide +kernel)
theorem tw_270 : (.instanceMethod ⟨"PatternWorkshop$Row", "<init>", "(I)V"⟩ : Cond) ∈ TW := tw_in (tb_0 (List.mem_of_getElem? (i := 35) rfl)) (by decide +kernel)
theorem tw_272 : (.methodLink "PatternWorkshop$Row" 3 ⟨"java/lang/Object", "<init>", "()V"⟩ : Cond) ∈ TW := tw_in (tb_0 (List.mem_of_getElem? (i := 37) rfl)) (by decide +kernel)
theorem tw_273 : (.methodLink "PatternWorkshop$Row" 9 ⟨"java/lang/Math", "max", "(II)I"⟩ : Cond) ∈ TW := tw_in (tb_0 (List.mem_of_getElem? (i := 38) rfl)) (by decide +kernel)
theorem tw_274 : (.static ⟨"java/lang/Math", "max", "(II)I"⟩ : Cond) ∈ TW := tw_in (tb_0 (List.mem_of_getElem? (i := 39) rfl)) (by decide +kernel)
theorem tw_275 : (.code ⟨"java/lang/Math", "max", "(II)I"⟩ prog_19_method_65_code 2 (some (.int)) : Cond) ∈ TW := tw_in (tb_0 (List.mem_of_getElem? (i := 40) rfl)) (by decide +kernel)
theorem tw_276 : (.fieldLink "PatternWorkshop$Row" 15 "PatternWorkshop$Row" "items" "[I" : Cond) ∈ TW := tw_in (tb_0 (List.mem_of_getElem? (i := 41) rfl)) (by decide +kernel)
theorem tw_296 : (.arrayClass .int : Cond) ∈ TW := tw_in (tb_0 (List.mem_of_getElem? (i := 61) rfl)) (by decide +kernel)
theorem tw_297 : (.classLink "PatternWorkshop" 18 "PatternWorkshop$Tree" : Cond) ∈ TW := tw_in (tb_0 (List.mem_of_getElem? (i := 62) rfl)) (by decide +kernel)
theorem tw_300 : (.classLink "PatternWorkshop" 40 "PatternWorkshop$Reader" : Cond) ∈ TW := tw_in (tb_0 (List.mem_of_getElem? (i := 65) rfl)) (by decide +kernel)
theorem tw_301 : (.instantiable "PatternWorkshop$Reader" 19 : Cond) ∈ TW := tw_in (tb_0 (List.mem_of_getElem? (i := 66) rfl)) (by decide +kernel)
theorem tw_302 : (.methodLink "PatternWorkshop" 42 ⟨"PatternWorkshop$Reader", "<init>", "()V"⟩ : Cond) ∈ TW := tw_in (tb_0 (List.mem_of_getElem? (i := 67) rfl)) (by decide +kernel)
theorem tw_303 : (.instanceMethod ⟨"PatternWorkshop$Reader", "<init>", "()V"⟩ : Cond) ∈ TW := tw_in (tb_0 (List.mem_of_getElem? (i := 68) rfl)) (by decide +kernel)
theorem tw_305 : (.methodLink "PatternWorkshop$Reader" 3 ⟨"java/lang/Object", "<init>", "()V"⟩ : Cond) ∈ TW := tw_in (tb_0 (List.mem_of_getElem? (i := 70) rfl)) (by decide +kernel)
theorem tw_306 : (.classLink "PatternWorkshop$Reader" 30 "PatternWorkshop$Group" : Cond) ∈ TW := tw_in (tb_0 (List.mem_of_getElem? (i := 71) rfl)) (by decide +kernel)
theorem tw_308 : (.classLink "PatternWorkshop$Reader" 36 "PatternWorkshop$Row" : Cond) ∈ TW := tw_in (tb_0 (List.mem_of_getElem? (i := 73) rfl)) (by decide +kernel)
theorem tw_309 : (.methodLink "PatternWorkshop$Reader" 38 ⟨"PatternWorkshop$Row", "<init>", "(I)V"⟩ : Cond) ∈ TW := tw_in (tb_0 (List.mem_of_getElem? (i := 74) rfl)) (by decide +kernel)
theorem tw_310 : (.classLink "PatternWorkshop$Reader" 45 "PatternWorkshop$Tree" : Cond) ∈ TW := tw_in (tb_0 (List.mem_of_getElem? (i := 75) rfl)) (by decide +kernel)
theorem tw_311 : (.instantiable "PatternWorkshop$Tree" 20 : Cond) ∈ TW := tw_in (tb_0 (List.mem_of_getElem? (i := 76) rfl)) (by decide +kernel)
theorem tw_312 : (.methodLink "PatternWorkshop$Reader" 47 ⟨"PatternWorkshop$Tree", "<init>", "(II)V"⟩ : Cond) ∈ TW := tw_in (tb_0 (List.mem_of_getElem? (i := 77) rfl)) (by decide +kernel)
theorem tw_313 : (.instanceMethod ⟨"PatternWorkshop$Tree", "<init>", "(II)V"⟩ : Cond) ∈ TW := tw_in (tb_0 (List.mem_of_getElem? (i := 78) rfl)) (by decide +kernel)
theorem tw_315 : (.methodLink "PatternWorkshop$Tree" 3 ⟨"java/lang/Object", "<init>", "()V"⟩ : Cond) ∈ TW := tw_in (tb_0 (List.mem_of_getElem? (i := 80) rfl)) (by decide +kernel)
theorem tw_316 : (.methodLink "PatternWorkshop$Tree" 9 ⟨"java/lang/Math", "max", "(II)I"⟩ : Cond) ∈ TW := tw_in (tb_0 (List.mem_of_getElem? (i := 81) rfl)) (by decide +kernel)
theorem tw_327 : (.fieldLink "PatternWorkshop$Tree" 15 "PatternWorkshop$Tree" "sort" "[I" : Cond) ∈ TW := tw_in (tb_0 (List.mem_of_getElem? (i := 92) rfl)) (by decide +kernel)
theorem tw_328 : (.fieldLink "PatternWorkshop$Tree" 21 "PatternWorkshop$Tree" "holder" "[I" : Cond) ∈ TW := tw_in (tb_0 (List.mem_of_getElem? (i := 93) rfl)) (by decide +kernel)
theorem tw_329 : (.fieldLink "PatternWorkshop$Tree" 24 "PatternWorkshop$Tree" "end" "[I" : Cond) ∈ TW := tw_in (tb_0 (List.mem_of_getElem? (i := 94) rfl)) (by decide +kernel)
theorem tw_330 : (.fieldLink "PatternWorkshop$Tree" 27 "PatternWorkshop$Tree" "before" "[I" : Cond) ∈ TW := tw_in (tb_0 (List.mem_of_getElem? (i := 95) rfl)) (by decide +kernel)
theorem tw_331 : (.fieldLink "PatternWorkshop$Tree" 30 "PatternWorkshop$Tree" "last" "[I" : Cond) ∈ TW := tw_in (tb_0 (List.mem_of_getElem? (i := 96) rfl)) (by decide +kernel)
theorem tw_332 : (.fieldLink "PatternWorkshop$Tree" 33 "PatternWorkshop$Tree" "parts" "[I" : Cond) ∈ TW := tw_in (tb_0 (List.mem_of_getElem? (i := 97) rfl)) (by decide +kernel)
theorem tw_333 : (.fieldLink "PatternWorkshop$Tree" 36 "PatternWorkshop$Tree" "value" "[I" : Cond) ∈ TW := tw_in (tb_0 (List.mem_of_getElem? (i := 98) rfl)) (by decide +kernel)
theorem tw_334 : (.fieldLink "PatternWorkshop$Tree" 39 "PatternWorkshop$Tree" "low" "[I" : Cond) ∈ TW := tw_in (tb_0 (List.mem_of_getElem? (i := 99) rfl)) (by decide +kernel)
theorem tw_335 : (.fieldLink "PatternWorkshop$Tree" 42 "PatternWorkshop$Tree" "high" "[I" : Cond) ∈ TW := tw_in (tb_0 (List.mem_of_getElem? (i := 100) rfl)) (by decide +kernel)
theorem tw_336 : (.fieldLink "PatternWorkshop$Tree" 45 "PatternWorkshop$Tree" "size" "[I" : Cond) ∈ TW := tw_in (tb_0 (List.mem_of_getElem? (i := 101) rfl)) (by decide +kernel)
theorem tw_337 : (.fieldLink "PatternWorkshop$Tree" 48 "PatternWorkshop$Tree" "positions" "[I" : Cond) ∈ TW := tw_in (tb_0 (List.mem_of_getElem? (i := 102) rfl)) (by decide +kernel)
theorem tw_338 : (.fieldLink "PatternWorkshop$Tree" 51 "PatternWorkshop$Tree" "mayBeEmpty" "[Z" : Cond) ∈ TW := tw_in (tb_0 (List.mem_of_getElem? (i := 103) rfl)) (by decide +kernel)
theorem tw_339 : (.fieldLink "PatternWorkshop$Tree" 55 "PatternWorkshop$Tree" "withinCase" "[Z" : Cond) ∈ TW := tw_in (tb_0 (List.mem_of_getElem? (i := 104) rfl)) (by decide +kernel)
theorem tw_340 : (.fieldLink "PatternWorkshop$Tree" 58 "PatternWorkshop$Tree" "marked" "[Z" : Cond) ∈ TW := tw_in (tb_0 (List.mem_of_getElem? (i := 105) rfl)) (by decide +kernel)
theorem tw_341 : (.fieldLink "PatternWorkshop$Tree" 61 "PatternWorkshop$Tree" "rangeBegin" "[I" : Cond) ∈ TW := tw_in (tb_0 (List.mem_of_getElem? (i := 106) rfl)) (by decide +kernel)
theorem tw_342 : (.fieldLink "PatternWorkshop$Tree" 64 "PatternWorkshop$Tree" "rangeEnd" "[I" : Cond) ∈ TW := tw_in (tb_0 (List.mem_of_getElem? (i := 107) rfl)) (by decide +kernel)
theorem tw_384 : (.arrayClass .boolean : Cond) ∈ TW := tw_in (tb_0 (List.mem_of_getElem? (i := 149) rfl)) (by decide +kernel)
theorem tw_385 : (.instantiable "PatternWorkshop$Group" 11 : Cond) ∈ TW := tw_in (tb_0 (List.mem_of_getElem? (i := 150) rfl)) (by decide +kernel)
theorem tw_387 : (.instanceMethod ⟨"PatternWorkshop$Group", "<init>", "()V"⟩ : Cond) ∈ TW := tw_in (tb_0 (List.mem_of_getElem? (i := 152) rfl)) (by decide +kernel)
theorem tw_389 : (.methodLink "PatternWorkshop$Group" 3 ⟨"java/lang/Object", "<init>", "()V"⟩ : Cond) ∈ TW := tw_in (tb_0 (List.mem_of_getElem? (i := 154) rfl)) (by decide +kernel)
theorem tw_439 : (.fieldLink "PatternWorkshop$Reader" 9 "PatternWorkshop$Reader" "sort" "[I" : Cond) ∈ TW := tw_in (tb_0 (List.mem_of_getElem? (i := 204) rfl)) (by decide +kernel)
theorem tw_440 : (.fieldLink "PatternWorkshop$Reader" 15 "PatternWorkshop$Reader" "value" "[I" : Cond) ∈ TW := tw_in (tb_0 (List.mem_of_getElem? (i := 205) rfl)) (by decide +kernel)
theorem tw_441 : (.fieldLink "PatternWorkshop$Reader" 18 "PatternWorkshop$Reader" "low" "[I" : Cond) ∈ TW := tw_in (tb_0 (List.mem_of_getElem? (i := 206) rfl)) (by decide +kernel)
theorem tw_442 : (.fieldLink "PatternWorkshop$Reader" 21 "PatternWorkshop$Reader" "high" "[I" : Cond) ∈ TW := tw_in (tb_0 (List.mem_of_getElem? (i := 207) rfl)) (by decide +kernel)
theorem tw_443 : (.fieldLink "PatternWorkshop$Reader" 24 "PatternWorkshop$Reader" "firstPart" "[I" : Cond) ∈ TW := tw_in (tb_0 (List.mem_of_getElem? (i := 208) rfl)) (by decide +kernel)
theorem tw_444 : (.fieldLink "PatternWorkshop$Reader" 27 "PatternWorkshop$Reader" "nextPart" "[I" : Cond) ∈ TW := tw_in (tb_0 (List.mem_of_getElem? (i := 209) rfl)) (by decide +kernel)
theorem tw_446 : (.fieldLink "PatternWorkshop$Reader" 32 "PatternWorkshop$Reader" "groups" "[LPatternWorkshop$Group;" : Cond) ∈ TW := tw_in (tb_0 (List.mem_of_getElem? (i := 211) rfl)) (by decide +kernel)
theorem tw_448 : (.fieldLink "PatternWorkshop$Reader" 41 "PatternWorkshop$Reader" "text" "LPatternWorkshop$Row;" : Cond) ∈ TW := tw_in (tb_0 (List.mem_of_getElem? (i := 213) rfl)) (by decide +kernel)
theorem tw_449 : (.fieldLink "PatternWorkshop$Reader" 50 "PatternWorkshop$Reader" "tree" "LPatternWorkshop$Tree;" : Cond) ∈ TW := tw_in (tb_0 (List.mem_of_getElem? (i := 214) rfl)) (by decide +kernel)
theorem tw_452 : (.fieldLink "PatternWorkshop$Reader" 54 "PatternWorkshop$Reader" "captureOfName" "[I" : Cond) ∈ TW := tw_in (tb_0 (List.mem_of_getElem? (i := 217) rfl)) (by decide +kernel)
theorem tw_453 : (.fieldLink "PatternWorkshop$Reader" 57 "PatternWorkshop$Reader" "partBegin" "[I" : Cond) ∈ TW := tw_in (tb_0 (List.mem_of_getElem? (i := 218) rfl)) (by decide +kernel)
theorem tw_454 : (.fieldLink "PatternWorkshop$Reader" 60 "PatternWorkshop$Reader" "partEnd" "[I" : Cond) ∈ TW := tw_in (tb_0 (List.mem_of_getElem? (i := 219) rfl)) (by decide +kernel)
theorem tw_495 : (.classLink "PatternWorkshop" 47 "PatternWorkshop$Printer" : Cond) ∈ TW := tw_in (tb_1 (List.mem_of_getElem? (i := 20) rfl)) (by decide +kernel)
theorem tw_496 : (.instantiable "PatternWorkshop$Printer" 2 : Cond) ∈ TW := tw_in (tb_1 (List.mem_of_getElem? (i := 21) rfl)) (by decide +kernel)
theorem tw_498 : (.instanceMethod ⟨"PatternWorkshop$Printer", "<init>", "()V"⟩ : Cond) ∈ TW := tw_in (tb_1 (List.mem_of_getElem? (i := 23) rfl)) (by decide +kernel)
theorem tw_500 : (.methodLink "PatternWorkshop$Printer" 3 ⟨"java/lang/Object", "<init>", "()V"⟩ : Cond) ∈ TW := tw_in (tb_1 (List.mem_of_getElem? (i := 25) rfl)) (by decide +kernel)
theorem tw_501 : (.classLink "PatternWorkshop$Printer" 9 "PatternWorkshop$Row" : Cond) ∈ TW := tw_in (tb_1 (List.mem_of_getElem? (i := 26) rfl)) (by decide +kernel)
theorem tw_502 : (.methodLink "PatternWorkshop$Printer" 11 ⟨"PatternWorkshop$Row", "<init>", "(I)V"⟩ : Cond) ∈ TW := tw_in (tb_1 (List.mem_of_getElem? (i := 27) rfl)) (by decide +kernel)
theorem tw_503 : (.fieldLink "PatternWorkshop$Printer" 14 "PatternWorkshop$Printer" "row" "LPatternWorkshop$Row;" : Cond) ∈ TW := tw_in (tb_1 (List.mem_of_getElem? (i := 28) rfl)) (by decide +kernel)
theorem tw_510 : (.classLink "PatternWorkshop" 54 "PatternWorkshop$GoingBack" : Cond) ∈ TW := tw_in (tb_1 (List.mem_of_getElem? (i := 35) rfl)) (by decide +kernel)
theorem tw_511 : (.instantiable "PatternWorkshop$GoingBack" 19 : Cond) ∈ TW := tw_in (tb_1 (List.mem_of_getElem? (i := 36) rfl)) (by decide +kernel)
theorem tw_513 : (.instanceMethod ⟨"PatternWorkshop$GoingBack", "<init>", "()V"⟩ : Cond) ∈ TW := tw_in (tb_1 (List.mem_of_getElem? (i := 38) rfl)) (by decide +kernel)
theorem tw_515 : (.methodLink "PatternWorkshop$GoingBack" 3 ⟨"java/lang/Object", "<init>", "()V"⟩ : Cond) ∈ TW := tw_in (tb_1 (List.mem_of_getElem? (i := 40) rfl)) (by decide +kernel)
theorem tw_516 : (.classLink "PatternWorkshop$GoingBack" 9 "PatternWorkshop$Tree" : Cond) ∈ TW := tw_in (tb_1 (List.mem_of_getElem? (i := 41) rfl)) (by decide +kernel)
theorem tw_517 : (.methodLink "PatternWorkshop$GoingBack" 11 ⟨"PatternWorkshop$Tree", "<init>", "(II)V"⟩ : Cond) ∈ TW := tw_in (tb_1 (List.mem_of_getElem? (i := 42) rfl)) (by decide +kernel)
theorem tw_518 : (.classLink "PatternWorkshop$GoingBack" 20 "PatternWorkshop$Row" : Cond) ∈ TW := tw_in (tb_1 (List.mem_of_getElem? (i := 43) rfl)) (by decide +kernel)
theorem tw_519 : (.methodLink "PatternWorkshop$GoingBack" 22 ⟨"PatternWorkshop$Row", "<init>", "(I)V"⟩ : Cond) ∈ TW := tw_in (tb_1 (List.mem_of_getElem? (i := 44) rfl)) (by decide +kernel)
theorem tw_522 : (.fieldLink "PatternWorkshop$GoingBack" 14 "PatternWorkshop$GoingBack" "tree" "LPatternWorkshop$Tree;" : Cond) ∈ TW := tw_in (tb_1 (List.mem_of_getElem? (i := 47) rfl)) (by decide +kernel)
theorem tw_523 : (.fieldLink "PatternWorkshop$GoingBack" 25 "PatternWorkshop$GoingBack" "subject" "LPatternWorkshop$Row;" : Cond) ∈ TW := tw_in (tb_1 (List.mem_of_getElem? (i := 48) rfl)) (by decide +kernel)
theorem tw_531 : (.fieldLink "PatternWorkshop$GoingBack" 29 "PatternWorkshop$GoingBack" "cells" "[I" : Cond) ∈ TW := tw_in (tb_1 (List.mem_of_getElem? (i := 56) rfl)) (by decide +kernel)
theorem tw_532 : (.fieldLink "PatternWorkshop$GoingBack" 33 "PatternWorkshop$GoingBack" "base" "[I" : Cond) ∈ TW := tw_in (tb_1 (List.mem_of_getElem? (i := 57) rfl)) (by decide +kernel)
theorem tw_533 : (.fieldLink "PatternWorkshop$GoingBack" 36 "PatternWorkshop$GoingBack" "entry" "[I" : Cond) ∈ TW := tw_in (tb_1 (List.mem_of_getElem? (i := 58) rfl)) (by decide +kernel)
theorem tw_534 : (.fieldLink "PatternWorkshop$GoingBack" 39 "PatternWorkshop$GoingBack" "from" "[I" : Cond) ∈ TW := tw_in (tb_1 (List.mem_of_getElem? (i := 59) rfl)) (by decide +kernel)
theorem tw_535 : (.fieldLink "PatternWorkshop$GoingBack" 42 "PatternWorkshop$GoingBack" "choices" "[I" : Cond) ∈ TW := tw_in (tb_1 (List.mem_of_getElem? (i := 60) rfl)) (by decide +kernel)
theorem tw_536 : (.fieldLink "PatternWorkshop$GoingBack" 45 "PatternWorkshop$GoingBack" "heights" "[I" : Cond) ∈ TW := tw_in (tb_1 (List.mem_of_getElem? (i := 61) rfl)) (by decide +kernel)
theorem tw_538 : (.fieldLink "PatternWorkshop$GoingBack" 48 "PatternWorkshop$GoingBack" "trail" "[I" : Cond) ∈ TW := tw_in (tb_1 (List.mem_of_getElem? (i := 63) rfl)) (by decide +kernel)
theorem tw_579 : (.classLink "PatternWorkshop" 61 "PatternWorkshop$Parallel" : Cond) ∈ TW := tw_in (tb_1 (List.mem_of_getElem? (i := 104) rfl)) (by decide +kernel)
theorem tw_580 : (.instantiable "PatternWorkshop$Parallel" 17 : Cond) ∈ TW := tw_in (tb_1 (List.mem_of_getElem? (i := 105) rfl)) (by decide +kernel)
theorem tw_582 : (.instanceMethod ⟨"PatternWorkshop$Parallel", "<init>", "()V"⟩ : Cond) ∈ TW := tw_in (tb_1 (List.mem_of_getElem? (i := 107) rfl)) (by decide +kernel)
theorem tw_584 : (.methodLink "PatternWorkshop$Parallel" 5 ⟨"java/lang/Object", "<init>", "()V"⟩ : Cond) ∈ TW := tw_in (tb_1 (List.mem_of_getElem? (i := 109) rfl)) (by decide +kernel)
theorem tw_585 : (.classLink "PatternWorkshop$Parallel" 11 "PatternWorkshop$Program" : Cond) ∈ TW := tw_in (tb_1 (List.mem_of_getElem? (i := 110) rfl)) (by decide +kernel)
theorem tw_586 : (.instantiable "PatternWorkshop$Program" 7 : Cond) ∈ TW := tw_in (tb_1 (List.mem_of_getElem? (i := 111) rfl)) (by decide +kernel)
theorem tw_588 : (.instanceMethod ⟨"PatternWorkshop$Program", "<init>", "()V"⟩ : Cond) ∈ TW := tw_in (tb_1 (List.mem_of_getElem? (i := 113) rfl)) (by decide +kernel)
theorem tw_590 : (.methodLink "PatternWorkshop$Program" 3 ⟨"java/lang/Object", "<init>", "()V"⟩ : Cond) ∈ TW := tw_in (tb_1 (List.mem_of_getElem? (i := 115) rfl)) (by decide +kernel)
theorem tw_591 : (.classLink "PatternWorkshop$Program" 9 "PatternWorkshop$Tree" : Cond) ∈ TW := tw_in (tb_1 (List.mem_of_getElem? (i := 116) rfl)) (by decide +kernel)
theorem tw_592 : (.methodLink "PatternWorkshop$Program" 11 ⟨"PatternWorkshop$Tree", "<init>", "(II)V"⟩ : Cond) ∈ TW := tw_in (tb_1 (List.mem_of_getElem? (i := 117) rfl)) (by decide +kernel)
theorem tw_597 : (.fieldLink "PatternWorkshop$Program" 14 "PatternWorkshop$Program" "tree" "LPatternWorkshop$Tree;" : Cond) ∈ TW := tw_in (tb_1 (List.mem_of_getElem? (i := 122) rfl)) (by decide +kernel)
theorem tw_598 : (.fieldLink "PatternWorkshop$Program" 20 "PatternWorkshop$Program" "kinds" "[I" : Cond) ∈ TW := tw_in (tb_1 (List.mem_of_getElem? (i := 123) rfl)) (by decide +kernel)

theorem tw_599 : (.fieldLink "PatternWorkshop$Program" 24 "PatternWorkshop$Program" "subjects" "[I" : Cond) ∈ TW := tw_in (tb_1 (List.mem_of_getElem? (i := 124) rfl)) (by decide +kernel)
theorem tw_600 : (.fieldLink "PatternWorkshop$Program" 27 "PatternWorkshop$Program" "nexts" "[I" : Cond) ∈ TW := tw_in (tb_1 (List.mem_of_getElem? (i := 125) rfl)) (by decide +kernel)
theorem tw_601 : (.fieldLink "PatternWorkshop$Program" 30 "PatternWorkshop$Program" "others" "[I" : Cond) ∈ TW := tw_in (tb_1 (List.mem_of_getElem? (i := 126) rfl)) (by decide +kernel)
theorem tw_617 : (.classLink "PatternWorkshop$Parallel" 18 "PatternWorkshop$Row" : Cond) ∈ TW := tw_in (tb_1 (List.mem_of_getElem? (i := 142) rfl)) (by decide +kernel)
theorem tw_618 : (.methodLink "PatternWorkshop$Parallel" 20 ⟨"PatternWorkshop$Row", "<init>", "(I)V"⟩ : Cond) ∈ TW := tw_in (tb_1 (List.mem_of_getElem? (i := 143) rfl)) (by decide +kernel)
theorem tw_619 : (.fieldLink "PatternWorkshop$Parallel" 14 "PatternWorkshop$Parallel" "program" "LPatternWorkshop$Program;" : Cond) ∈ TW := tw_in (tb_1 (List.mem_of_getElem? (i := 144) rfl)) (by decide +kernel)
theorem tw_620 : (.fieldLink "PatternWorkshop$Parallel" 23 "PatternWorkshop$Parallel" "subject" "LPatternWorkshop$Row;" : Cond) ∈ TW := tw_in (tb_1 (List.mem_of_getElem? (i := 145) rfl)) (by decide +kernel)
theorem tw_622 : (.fieldLink "PatternWorkshop$Parallel" 27 "PatternWorkshop$Parallel" "edges" "[Z" : Cond) ∈ TW := tw_in (tb_1 (List.mem_of_getElem? (i := 147) rfl)) (by decide +kernel)
theorem tw_623 : (.fieldLink "PatternWorkshop$Parallel" 31 "PatternWorkshop$Parallel" "nowAt" "[I" : Cond) ∈ TW := tw_in (tb_1 (List.mem_of_getElem? (i := 148) rfl)) (by decide +kernel)
theorem tw_624 : (.fieldLink "PatternWorkshop$Parallel" 35 "PatternWorkshop$Parallel" "nowCells" "[I" : Cond) ∈ TW := tw_in (tb_1 (List.mem_of_getElem? (i := 149) rfl)) (by decide +kernel)
theorem tw_626 : (.fieldLink "PatternWorkshop$Parallel" 38 "PatternWorkshop$Parallel" "nextAt" "[I" : Cond) ∈ TW := tw_in (tb_1 (List.mem_of_getElem? (i := 151) rfl)) (by decide +kernel)
theorem tw_627 : (.fieldLink "PatternWorkshop$Parallel" 41 "PatternWorkshop$Parallel" "nextCells" "[I" : Cond) ∈ TW := tw_in (tb_1 (List.mem_of_getElem? (i := 152) rfl)) (by decide +kernel)
theorem tw_629 : (.fieldLink "PatternWorkshop$Parallel" 44 "PatternWorkshop$Parallel" "seen" "[I" : Cond) ∈ TW := tw_in (tb_1 (List.mem_of_getElem? (i := 154) rfl)) (by decide +kernel)
theorem tw_630 : (.fieldLink "PatternWorkshop$Parallel" 47 "PatternWorkshop$Parallel" "waits" "[I" : Cond) ∈ TW := tw_in (tb_1 (List.mem_of_getElem? (i := 155) rfl)) (by decide +kernel)
theorem tw_632 : (.fieldLink "PatternWorkshop$Parallel" 50 "PatternWorkshop$Parallel" "cells" "[I" : Cond) ∈ TW := tw_in (tb_1 (List.mem_of_getElem? (i := 157) rfl)) (by decide +kernel)
theorem tw_633 : (.fieldLink "PatternWorkshop$Parallel" 53 "PatternWorkshop$Parallel" "stack" "[I" : Cond) ∈ TW := tw_in (tb_1 (List.mem_of_getElem? (i := 158) rfl)) (by decide +kernel)
theorem tw_634 : (.fieldLink "PatternWorkshop$Parallel" 56 "PatternWorkshop$Parallel" "kept" "[I" : Cond) ∈ TW := tw_in (tb_1 (List.mem_of_getElem? (i := 159) rfl)) (by decide +kernel)
theorem tw_671 : (.classLink "PatternWorkshop" 68 "PatternWorkshop$Sets" : Cond) ∈ TW := tw_in (tb_1 (List.mem_of_getElem? (i := 196) rfl)) (by decide +kernel)
theorem tw_672 : (.instantiable "PatternWorkshop$Sets" 12 : Cond) ∈ TW := tw_in (tb_1 (List.mem_of_getElem? (i := 197) rfl)) (by decide +kernel)
theorem tw_674 : (.instanceMethod ⟨"PatternWorkshop$Sets", "<init>", "()V"⟩ : Cond) ∈ TW := tw_in (tb_1 (List.mem_of_getElem? (i := 199) rfl)) (by decide +kernel)
theorem tw_676 : (.methodLink "PatternWorkshop$Sets" 3 ⟨"java/lang/Object", "<init>", "()V"⟩ : Cond) ∈ TW := tw_in (tb_1 (List.mem_of_getElem? (i := 201) rfl)) (by decide +kernel)
theorem tw_677 : (.classLink "PatternWorkshop$Sets" 9 "PatternWorkshop$Alphabet" : Cond) ∈ TW := tw_in (tb_1 (List.mem_of_getElem? (i := 202) rfl)) (by decide +kernel)
theorem tw_678 : (.instantiable "PatternWorkshop$Alphabet" 2 : Cond) ∈ TW := tw_in (tb_1 (List.mem_of_getElem? (i := 203) rfl)) (by decide +kernel)
theorem tw_680 : (.instanceMethod ⟨"PatternWorkshop$Alphabet", "<init>", "()V"⟩ : Cond) ∈ TW := tw_in (tb_1 (List.mem_of_getElem? (i := 205) rfl)) (by decide +kernel)
theorem tw_682 : (.methodLink "PatternWorkshop$Alphabet" 3 ⟨"java/lang/Object", "<init>", "()V"⟩ : Cond) ∈ TW := tw_in (tb_1 (List.mem_of_getElem? (i := 207) rfl)) (by decide +kernel)
theorem tw_687 : (.fieldLink "PatternWorkshop$Alphabet" 9 "PatternWorkshop$Alphabet" "begins" "[I" : Cond) ∈ TW := tw_in (tb_1 (List.mem_of_getElem? (i := 212) rfl)) (by decide +kernel)
theorem tw_693 : (.classLink "PatternWorkshop$Sets" 18 "PatternWorkshop$Table" : Cond) ∈ TW := tw_in (tb_1 (List.mem_of_getElem? (i := 218) rfl)) (by decide +kernel)
theorem tw_694 : (.instantiable "PatternWorkshop$Table" 18 : Cond) ∈ TW := tw_in (tb_1 (List.mem_of_getElem? (i := 219) rfl)) (by decide +kernel)
theorem tw_696 : (.instanceMethod ⟨"PatternWorkshop$Table", "<init>", "()V"⟩ : Cond) ∈ TW := tw_in (tb_1 (List.mem_of_getElem? (i := 221) rfl)) (by decide +kernel)
theorem tw_698 : (.methodLink "PatternWorkshop$Table" 3 ⟨"java/lang/Object", "<init>", "()V"⟩ : Cond) ∈ TW := tw_in (tb_1 (List.mem_of_getElem? (i := 223) rfl)) (by decide +kernel)
theorem tw_699 : (.classLink "PatternWorkshop$Table" 9 "PatternWorkshop$Program" : Cond) ∈ TW := tw_in (tb_1 (List.mem_of_getElem? (i := 224) rfl)) (by decide +kernel)
theorem tw_703 : (.fieldLink "PatternWorkshop$Table" 12 "PatternWorkshop$Table" "program" "LPatternWorkshop$Program;" : Cond) ∈ TW := tw_in (tb_1 (List.mem_of_getElem? (i := 228) rfl)) (by decide +kernel)
theorem tw_705 : (.fieldLink "PatternWorkshop$Table" 18 "PatternWorkshop$Table" "positionOf" "[I" : Cond) ∈ TW := tw_in (tb_1 (List.mem_of_getElem? (i := 230) rfl)) (by decide +kernel)
theorem tw_706 : (.fieldLink "PatternWorkshop$Table" 22 "PatternWorkshop$Table" "pcOf" "[I" : Cond) ∈ TW := tw_in (tb_1 (List.mem_of_getElem? (i := 231) rfl)) (by decide +kernel)
theorem tw_707 : (.fieldLink "PatternWorkshop$Table" 25 "PatternWorkshop$Table" "follow" "[J" : Cond) ∈ TW := tw_in (tb_1 (List.mem_of_getElem? (i := 232) rfl)) (by decide +kernel)
theorem tw_708 : (.fieldLink "PatternWorkshop$Table" 29 "PatternWorkshop$Table" "takers" "[J" : Cond) ∈ TW := tw_in (tb_1 (List.mem_of_getElem? (i := 233) rfl)) (by decide +kernel)
theorem tw_709 : (.fieldLink "PatternWorkshop$Table" 32 "PatternWorkshop$Table" "seen" "[I" : Cond) ∈ TW := tw_in (tb_1 (List.mem_of_getElem? (i := 234) rfl)) (by decide +kernel)
theorem tw_711 : (.fieldLink "PatternWorkshop$Table" 35 "PatternWorkshop$Table" "stack" "[I" : Cond) ∈ TW := tw_in (tb_1 (List.mem_of_getElem? (i := 236) rfl)) (by decide +kernel)
theorem tw_714 : (.fieldLink "PatternWorkshop$Table" 38 "PatternWorkshop$Table" "states" "[J" : Cond) ∈ TW := tw_in (tb_1 (List.mem_of_getElem? (i := 239) rfl)) (by decide +kernel)
theorem tw_715 : (.fieldLink "PatternWorkshop$Table" 41 "PatternWorkshop$Table" "ahead" "[J" : Cond) ∈ TW := tw_in (tb_2 (List.mem_of_getElem? (i := 0) rfl)) (by decide +kernel)
theorem tw_716 : (.fieldLink "PatternWorkshop$Table" 44 "PatternWorkshop$Table" "goes" "[I" : Cond) ∈ TW := tw_in (tb_2 (List.mem_of_getElem? (i := 1) rfl)) (by decide +kernel)
theorem tw_717 : (.fieldLink "PatternWorkshop$Table" 47 "PatternWorkshop$Table" "live" "[Z" : Cond) ∈ TW := tw_in (tb_2 (List.mem_of_getElem? (i := 2) rfl)) (by decide +kernel)
theorem tw_718 : (.fieldLink "PatternWorkshop$Table" 51 "PatternWorkshop$Table" "groups" "[I" : Cond) ∈ TW := tw_in (tb_2 (List.mem_of_getElem? (i := 3) rfl)) (by decide +kernel)
theorem tw_719 : (.fieldLink "PatternWorkshop$Table" 54 "PatternWorkshop$Table" "finer" "[I" : Cond) ∈ TW := tw_in (tb_2 (List.mem_of_getElem? (i := 4) rfl)) (by decide +kernel)
theorem tw_757 : (.arrayClass .long : Cond) ∈ TW := tw_in (tb_2 (List.mem_of_getElem? (i := 42) rfl)) (by decide +kernel)
theorem tw_758 : (.fieldLink "PatternWorkshop$Sets" 12 "PatternWorkshop$Sets" "alphabet" "LPatternWorkshop$Alphabet;" : Cond) ∈ TW := tw_in (tb_2 (List.mem_of_getElem? (i := 43) rfl)) (by decide +kernel)
theorem tw_760 : (.fieldLink "PatternWorkshop$Sets" 21 "PatternWorkshop$Sets" "one" "LPatternWorkshop$Table;" : Cond) ∈ TW := tw_in (tb_2 (List.mem_of_getElem? (i := 45) rfl)) (by decide +kernel)
theorem tw_762 : (.fieldLink "PatternWorkshop$Sets" 25 "PatternWorkshop$Sets" "other" "LPatternWorkshop$Table;" : Cond) ∈ TW := tw_in (tb_2 (List.mem_of_getElem? (i := 47) rfl)) (by decide +kernel)
theorem tw_767 : (.fieldLink "PatternWorkshop$Sets" 28 "PatternWorkshop$Sets" "met" "[I" : Cond) ∈ TW := tw_in (tb_2 (List.mem_of_getElem? (i := 52) rfl)) (by decide +kernel)
theorem tw_769 : (.fieldLink "PatternWorkshop$Sets" 32 "PatternWorkshop$Sets" "pairs" "[I" : Cond) ∈ TW := tw_in (tb_2 (List.mem_of_getElem? (i := 54) rfl)) (by decide +kernel)
theorem tw_770 : (.fieldLink "PatternWorkshop$Sets" 35 "PatternWorkshop$Sets" "cameFrom" "[I" : Cond) ∈ TW := tw_in (tb_2 (List.mem_of_getElem? (i := 55) rfl)) (by decide +kernel)
theorem tw_771 : (.fieldLink "PatternWorkshop$Sets" 38 "PatternWorkshop$Sets" "cameBy" "[I" : Cond) ∈ TW := tw_in (tb_2 (List.mem_of_getElem? (i := 56) rfl)) (by decide +kernel)
theorem tw_799 : (.methodLink "PatternWorkshop" 85 ⟨"PatternWorkshop$Tree", "<init>", "(II)V"⟩ : Cond) ∈ TW := tw_in (tb_2 (List.mem_of_getElem? (i := 84) rfl)) (by decide +kernel)
theorem tw_800 : (.fieldLink "PatternWorkshop" 14 "PatternWorkshop" "tape" "LPatternWorkshop$Row;" : Cond) ∈ TW := tw_in (tb_2 (List.mem_of_getElem? (i := 85) rfl)) (by decide +kernel)
theorem tw_801 : (.fieldLink "PatternWorkshop" 20 "PatternWorkshop" "patterns" "[LPatternWorkshop$Tree;" : Cond) ∈ TW := tw_in (tb_2 (List.mem_of_getElem? (i := 86) rfl)) (by decide +kernel)
theorem tw_802 : (.fieldLink "PatternWorkshop" 24 "PatternWorkshop" "subjects" "[LPatternWorkshop$Row;" : Cond) ∈ TW := tw_in (tb_2 (List.mem_of_getElem? (i := 87) rfl)) (by decide +kernel)
theorem tw_803 : (.fieldLink "PatternWorkshop" 28 "PatternWorkshop" "outRow" "LPatternWorkshop$Row;" : Cond) ∈ TW := tw_in (tb_2 (List.mem_of_getElem? (i := 88) rfl)) (by decide +kernel)
theorem tw_805 : (.fieldLink "PatternWorkshop" 31 "PatternWorkshop" "draft" "LPatternWorkshop$Row;" : Cond) ∈ TW := tw_in (tb_2 (List.mem_of_getElem? (i := 90) rfl)) (by decide +kernel)
theorem tw_806 : (.fieldLink "PatternWorkshop" 34 "PatternWorkshop" "spans" "LPatternWorkshop$Row;" : Cond) ∈ TW := tw_in (tb_2 (List.mem_of_getElem? (i := 91) rfl)) (by decide +kernel)
theorem tw_807 : (.fieldLink "PatternWorkshop" 37 "PatternWorkshop" "found" "LPatternWorkshop$Row;" : Cond) ∈ TW := tw_in (tb_2 (List.mem_of_getElem? (i := 92) rfl)) (by decide +kernel)
theorem tw_808 : (.fieldLink "PatternWorkshop" 43 "PatternWorkshop" "reader" "LPatternWorkshop$Reader;" : Cond) ∈ TW := tw_in (tb_2 (List.mem_of_getElem? (i := 93) rfl)) (by decide +kernel)
theorem tw_809 : (.fieldLink "PatternWorkshop" 50 "PatternWorkshop" "printer" "LPatternWorkshop$Printer;" : Cond) ∈ TW := tw_in (tb_2 (List.mem_of_getElem? (i := 94) rfl)) (by decide +kernel)
theorem tw_810 : (.fieldLink "PatternWorkshop" 57 "PatternWorkshop" "goingBack" "LPatternWorkshop$GoingBack;" : Cond) ∈ TW := tw_in (tb_2 (List.mem_of_getElem? (i := 95) rfl)) (by decide +kernel)
theorem tw_811 : (.fieldLink "PatternWorkshop" 64 "PatternWorkshop" "parallel" "LPatternWorkshop$Parallel;" : Cond) ∈ TW := tw_in (tb_2 (List.mem_of_getElem? (i := 96) rfl)) (by decide +kernel)
theorem tw_812 : (.fieldLink "PatternWorkshop" 71 "PatternWorkshop" "sets" "LPatternWorkshop$Sets;" : Cond) ∈ TW := tw_in (tb_2 (List.mem_of_getElem? (i := 97) rfl)) (by decide +kernel)
theorem tw_813 : (.fieldLink "PatternWorkshop" 75 "PatternWorkshop" "faultPlace" "I" : Cond) ∈ TW := tw_in (tb_2 (List.mem_of_getElem? (i := 98) rfl)) (by decide +kernel)
theorem tw_816 : (.fieldLink "PatternWorkshop" 79 "PatternWorkshop" "openSlot" "I" : Cond) ∈ TW := tw_in (tb_2 (List.mem_of_getElem? (i := 101) rfl)) (by decide +kernel)
theorem tw_817 : (.fieldLink "PatternWorkshop" 82 "PatternWorkshop" "openSubject" "I" : Cond) ∈ TW := tw_in (tb_2 (List.mem_of_getElem? (i := 102) rfl)) (by decide +kernel)
theorem tw_2134 : (.methodLink "PatternWorkshopModel" 18 ⟨"java/lang/Object", "<init>", "()V"⟩ : Cond) ∈ TW := tw_in (tb_7 (List.mem_of_getElem? (i := 219) rfl)) (by decide +kernel)
theorem tw_2135 : (.constant "PatternWorkshopModel" 161 65538 : Cond) ∈ TW := tw_in (tb_7 (List.mem_of_getElem? (i := 220) rfl)) (by decide +kernel)
theorem tw_2136 : (.constant "PatternWorkshopModel" 207 120000 : Cond) ∈ TW := tw_in (tb_7 (List.mem_of_getElem? (i := 221) rfl)) (by decide +kernel)
theorem tw_2137 : (.constant "PatternWorkshopModel" 214 200000 : Cond) ∈ TW := tw_in (tb_7 (List.mem_of_getElem? (i := 222) rfl)) (by decide +kernel)
theorem tw_2138 : (.constant "PatternWorkshopModel" 227 101000 : Cond) ∈ TW := tw_in (tb_7 (List.mem_of_getElem? (i := 223) rfl)) (by decide +kernel)
theorem tw_2139 : (.constant "PatternWorkshopModel" 283 61000 : Cond) ∈ TW := tw_in (tb_7 (List.mem_of_getElem? (i := 224) rfl)) (by decide +kernel)
theorem tw_2142 : (.fieldLink "PatternWorkshopModel" 24 "PatternWorkshopModel" "tape" "[I" : Cond) ∈ TW := tw_in (tb_7 (List.mem_of_getElem? (i := 227) rfl)) (by decide +kernel)
theorem tw_2144 : (.fieldLink "PatternWorkshopModel" 28 "PatternWorkshopModel" "faultPlace" "I" : Cond) ∈ TW := tw_in (tb_7 (List.mem_of_getElem? (i := 229) rfl)) (by decide +kernel)
theorem tw_2145 : (.fieldLink "PatternWorkshopModel" 31 "PatternWorkshopModel" "isThere" "[Z" : Cond) ∈ TW := tw_in (tb_7 (List.mem_of_getElem? (i := 230) rfl)) (by decide +kernel)
theorem tw_2146 : (.fieldLink "PatternWorkshopModel" 35 "PatternWorkshopModel" "many" "[I" : Cond) ∈ TW := tw_in (tb_7 (List.mem_of_getElem? (i := 231) rfl)) (by decide +kernel)
theorem tw_2147 : (.fieldLink "PatternWorkshopModel" 38 "PatternWorkshopModel" "captures" "[I" : Cond) ∈ TW := tw_in (tb_7 (List.mem_of_getElem? (i := 232) rfl)) (by decide +kernel)
theorem tw_2148 : (.fieldLink "PatternWorkshopModel" 41 "PatternWorkshopModel" "nameOf" "[I" : Cond) ∈ TW := tw_in (tb_7 (List.mem_of_getElem? (i := 233) rfl)) (by decide +kernel)
theorem tw_2149 : (.fieldLink "PatternWorkshopModel" 44 "PatternWorkshopModel" "sort" "[I" : Cond) ∈ TW := tw_in (tb_7 (List.mem_of_getElem? (i := 234) rfl)) (by decide +kernel)
theorem tw_2150 : (.fieldLink "PatternWorkshopModel" 47 "PatternWorkshopModel" "value" "[I" : Cond) ∈ TW := tw_in (tb_7 (List.mem_of_getElem? (i := 235) rfl)) (by decide +kernel)
theorem tw_2151 : (.fieldLink "PatternWorkshopModel" 50 "PatternWorkshopModel" "least" "[I" : Cond) ∈ TW := tw_in (tb_7 (List.mem_of_getElem? (i := 236) rfl)) (by decide +kernel)
theorem tw_2152 : (.fieldLink "PatternWorkshopModel" 53 "PatternWorkshopModel" "most" "[I" : Cond) ∈ TW := tw_in (tb_7 (List.mem_of_getElem? (i := 237) rfl)) (by decide +kernel)
theorem tw_2153 : (.fieldLink "PatternWorkshopModel" 56 "PatternWorkshopModel" "holder" "[I" : Cond) ∈ TW := tw_in (tb_7 (List.mem_of_getElem? (i := 238) rfl)) (by decide +kernel)
theorem tw_2154 : (.fieldLink "PatternWorkshopModel" 59 "PatternWorkshopModel" "parts" "[I" : Cond) ∈ TW := tw_in (tb_7 (List.mem_of_getElem? (i := 239) rfl)) (by decide +kernel)
theorem tw_2155 : (.fieldLink "PatternWorkshopModel" 62 "PatternWorkshopModel" "end" "[I" : Cond) ∈ TW := tw_in (tb_8 (List.mem_of_getElem? (i := 0) rfl)) (by decide +kernel)
theorem tw_2156 : (.fieldLink "PatternWorkshopModel" 65 "PatternWorkshopModel" "size" "[I" : Cond) ∈ TW := tw_in (tb_8 (List.mem_of_getElem? (i := 1) rfl)) (by decide +kernel)
theorem tw_2157 : (.fieldLink "PatternWorkshopModel" 68 "PatternWorkshopModel" "positions" "[I" : Cond) ∈ TW := tw_in (tb_8 (List.mem_of_getElem? (i := 2) rfl)) (by decide +kernel)
theorem tw_2158 : (.fieldLink "PatternWorkshopModel" 71 "PatternWorkshopModel" "firstPart" "[I" : Cond) ∈ TW := tw_in (tb_8 (List.mem_of_getElem? (i := 3) rfl)) (by decide +kernel)
theorem tw_2159 : (.fieldLink "PatternWorkshopModel" 74 "PatternWorkshopModel" "mayEmpty" "[Z" : Cond) ∈ TW := tw_in (tb_8 (List.mem_of_getElem? (i := 4) rfl)) (by decide +kernel)
theorem tw_2160 : (.fieldLink "PatternWorkshopModel" 77 "PatternWorkshopModel" "inCase" "[Z" : Cond) ∈ TW := tw_in (tb_8 (List.mem_of_getElem? (i := 5) rfl)) (by decide +kernel)
theorem tw_2161 : (.fieldLink "PatternWorkshopModel" 80 "PatternWorkshopModel" "partBegin" "[I" : Cond) ∈ TW := tw_in (tb_8 (List.mem_of_getElem? (i := 6) rfl)) (by decide +kernel)
theorem tw_2162 : (.fieldLink "PatternWorkshopModel" 83 "PatternWorkshopModel" "partEnd" "[I" : Cond) ∈ TW := tw_in (tb_8 (List.mem_of_getElem? (i := 7) rfl)) (by decide +kernel)
theorem tw_2163 : (.fieldLink "PatternWorkshopModel" 86 "PatternWorkshopModel" "newSort" "[I" : Cond) ∈ TW := tw_in (tb_8 (List.mem_of_getElem? (i := 8) rfl)) (by decide +kernel)
theorem tw_2164 : (.fieldLink "PatternWorkshopModel" 89 "PatternWorkshopModel" "newValue" "[I" : Cond) ∈ TW := tw_in (tb_8 (List.mem_of_getElem? (i := 9) rfl)) (by decide +kernel)
theorem tw_2165 : (.fieldLink "PatternWorkshopModel" 92 "PatternWorkshopModel" "newLeast" "[I" : Cond) ∈ TW := tw_in (tb_8 (List.mem_of_getElem? (i := 10) rfl)) (by decide +kernel)
theorem tw_2166 : (.fieldLink "PatternWorkshopModel" 95 "PatternWorkshopModel" "newMost" "[I" : Cond) ∈ TW := tw_in (tb_8 (List.mem_of_getElem? (i := 11) rfl)) (by decide +kernel)
theorem tw_2167 : (.fieldLink "PatternWorkshopModel" 98 "PatternWorkshopModel" "newFirst" "[I" : Cond) ∈ TW := tw_in (tb_8 (List.mem_of_getElem? (i := 12) rfl)) (by decide +kernel)
theorem tw_2168 : (.fieldLink "PatternWorkshopModel" 101 "PatternWorkshopModel" "newNext" "[I" : Cond) ∈ TW := tw_in (tb_8 (List.mem_of_getElem? (i := 13) rfl)) (by decide +kernel)
theorem tw_2169 : (.fieldLink "PatternWorkshopModel" 104 "PatternWorkshopModel" "newMany" "[I" : Cond) ∈ TW := tw_in (tb_8 (List.mem_of_getElem? (i := 14) rfl)) (by decide +kernel)
theorem tw_2170 : (.fieldLink "PatternWorkshopModel" 107 "PatternWorkshopModel" "newPart" "[I" : Cond) ∈ TW := tw_in (tb_8 (List.mem_of_getElem? (i := 15) rfl)) (by decide +kernel)
theorem tw_2172 : (.fieldLink "PatternWorkshopModel" 110 "PatternWorkshopModel" "newBegin" "[I" : Cond) ∈ TW := tw_in (tb_8 (List.mem_of_getElem? (i := 17) rfl)) (by decide +kernel)
theorem tw_2173 : (.fieldLink "PatternWorkshopModel" 113 "PatternWorkshopModel" "newEnd" "[I" : Cond) ∈ TW := tw_in (tb_8 (List.mem_of_getElem? (i := 18) rfl)) (by decide +kernel)
theorem tw_2180 : (.fieldLink "PatternWorkshopModel" 116 "PatternWorkshopModel" "newNames" "[I" : Cond) ∈ TW := tw_in (tb_8 (List.mem_of_getElem? (i := 25) rfl)) (by decide +kernel)
theorem tw_2182 : (.fieldLink "PatternWorkshopModel" 119 "PatternWorkshopModel" "groupSort" "[I" : Cond) ∈ TW := tw_in (tb_8 (List.mem_of_getElem? (i := 27) rfl)) (by decide +kernel)
theorem tw_2183 : (.fieldLink "PatternWorkshopModel" 122 "PatternWorkshopModel" "groupValue" "[I" : Cond) ∈ TW := tw_in (tb_8 (List.mem_of_getElem? (i := 28) rfl)) (by decide +kernel)
theorem tw_2184 : (.fieldLink "PatternWorkshopModel" 125 "PatternWorkshopModel" "rowFirst" "[I" : Cond) ∈ TW := tw_in (tb_8 (List.mem_of_getElem? (i := 29) rfl)) (by decide +kernel)
theorem tw_2185 : (.fieldLink "PatternWorkshopModel" 128 "PatternWorkshopModel" "rowLast" "[I" : Cond) ∈ TW := tw_in (tb_8 (List.mem_of_getElem? (i := 30) rfl)) (by decide +kernel)
theorem tw_2186 : (.fieldLink "PatternWorkshopModel" 131 "PatternWorkshopModel" "rowMany" "[I" : Cond) ∈ TW := tw_in (tb_8 (List.mem_of_getElem? (i := 31) rfl)) (by decide +kernel)
theorem tw_2187 : (.fieldLink "PatternWorkshopModel" 134 "PatternWorkshopModel" "rowsFirst" "[I" : Cond) ∈ TW := tw_in (tb_8 (List.mem_of_getElem? (i := 32) rfl)) (by decide +kernel)
theorem tw_2188 : (.fieldLink "PatternWorkshopModel" 137 "PatternWorkshopModel" "rowsLast" "[I" : Cond) ∈ TW := tw_in (tb_8 (List.mem_of_getElem? (i := 33) rfl)) (by decide +kernel)
theorem tw_2189 : (.fieldLink "PatternWorkshopModel" 140 "PatternWorkshopModel" "rowsMany" "[I" : Cond) ∈ TW := tw_in (tb_8 (List.mem_of_getElem? (i := 34) rfl)) (by decide +kernel)
theorem tw_2194 : (.fieldLink "PatternWorkshopModel" 143 "PatternWorkshopModel" "waiting" "[I" : Cond) ∈ TW := tw_in (tb_8 (List.mem_of_getElem? (i := 39) rfl)) (by decide +kernel)
theorem tw_2195 : (.fieldLink "PatternWorkshopModel" 146 "PatternWorkshopModel" "waitingHolder" "[I" : Cond) ∈ TW := tw_in (tb_8 (List.mem_of_getElem? (i := 40) rfl)) (by decide +kernel)
theorem tw_2196 : (.fieldLink "PatternWorkshopModel" 149 "PatternWorkshopModel" "printed" "[I" : Cond) ∈ TW := tw_in (tb_8 (List.mem_of_getElem? (i := 41) rfl)) (by decide +kernel)
theorem tw_2198 : (.fieldLink "PatternWorkshopModel" 152 "PatternWorkshopModel" "printedAlso" "[I" : Cond) ∈ TW := tw_in (tb_8 (List.mem_of_getElem? (i := 43) rfl)) (by decide +kernel)
theorem tw_2200 : (.fieldLink "PatternWorkshopModel" 155 "PatternWorkshopModel" "out" "[I" : Cond) ∈ TW := tw_in (tb_8 (List.mem_of_getElem? (i := 45) rfl)) (by decide +kernel)
theorem tw_2203 : (.fieldLink "PatternWorkshopModel" 158 "PatternWorkshopModel" "begun" "[Z" : Cond) ∈ TW := tw_in (tb_8 (List.mem_of_getElem? (i := 48) rfl)) (by decide +kernel)
theorem tw_2204 : (.fieldLink "PatternWorkshopModel" 162 "PatternWorkshopModel" "isBound" "[Z" : Cond) ∈ TW := tw_in (tb_8 (List.mem_of_getElem? (i := 49) rfl)) (by decide +kernel)
theorem tw_2205 : (.fieldLink "PatternWorkshopModel" 165 "PatternWorkshopModel" "bounds" "[I" : Cond) ∈ TW := tw_in (tb_8 (List.mem_of_getElem? (i := 50) rfl)) (by decide +kernel)
theorem tw_2207 : (.fieldLink "PatternWorkshopModel" 168 "PatternWorkshopModel" "isRisky" "[Z" : Cond) ∈ TW := tw_in (tb_8 (List.mem_of_getElem? (i := 52) rfl)) (by decide +kernel)
theorem tw_2208 : (.fieldLink "PatternWorkshopModel" 171 "PatternWorkshopModel" "isSubject" "[Z" : Cond) ∈ TW := tw_in (tb_8 (List.mem_of_getElem? (i := 53) rfl)) (by decide +kernel)
theorem tw_2209 : (.fieldLink "PatternWorkshopModel" 174 "PatternWorkshopModel" "long0" "[I" : Cond) ∈ TW := tw_in (tb_8 (List.mem_of_getElem? (i := 54) rfl)) (by decide +kernel)
theorem tw_2210 : (.fieldLink "PatternWorkshopModel" 177 "PatternWorkshopModel" "signs" "[I" : Cond) ∈ TW := tw_in (tb_8 (List.mem_of_getElem? (i := 55) rfl)) (by decide +kernel)
theorem tw_2211 : (.fieldLink "PatternWorkshopModel" 180 "PatternWorkshopModel" "act" "[I" : Cond) ∈ TW := tw_in (tb_8 (List.mem_of_getElem? (i := 56) rfl)) (by decide +kernel)
theorem tw_2212 : (.fieldLink "PatternWorkshopModel" 183 "PatternWorkshopModel" "actA" "[I" : Cond) ∈ TW := tw_in (tb_8 (List.mem_of_getElem? (i := 57) rfl)) (by decide +kernel)
theorem tw_2213 : (.fieldLink "PatternWorkshopModel" 186 "PatternWorkshopModel" "actB" "[I" : Cond) ∈ TW := tw_in (tb_8 (List.mem_of_getElem? (i := 58) rfl)) (by decide +kernel)
theorem tw_2215 : (.fieldLink "PatternWorkshopModel" 189 "PatternWorkshopModel" "labelAt" "[I" : Cond) ∈ TW := tw_in (tb_8 (List.mem_of_getElem? (i := 60) rfl)) (by decide +kernel)
theorem tw_2217 : (.fieldLink "PatternWorkshopModel" 192 "PatternWorkshopModel" "task" "[I" : Cond) ∈ TW := tw_in (tb_8 (List.mem_of_getElem? (i := 62) rfl)) (by decide +kernel)
theorem tw_2218 : (.fieldLink "PatternWorkshopModel" 195 "PatternWorkshopModel" "taskA" "[I" : Cond) ∈ TW := tw_in (tb_8 (List.mem_of_getElem? (i := 63) rfl)) (by decide +kernel)
theorem tw_2219 : (.fieldLink "PatternWorkshopModel" 198 "PatternWorkshopModel" "taskB" "[I" : Cond) ∈ TW := tw_in (tb_8 (List.mem_of_getElem? (i := 64) rfl)) (by decide +kernel)
theorem tw_2221 : (.fieldLink "PatternWorkshopModel" 201 "PatternWorkshopModel" "held" "[I" : Cond) ∈ TW := tw_in (tb_8 (List.mem_of_getElem? (i := 66) rfl)) (by decide +kernel)
theorem tw_2222 : (.fieldLink "PatternWorkshopModel" 204 "PatternWorkshopModel" "reg" "[I" : Cond) ∈ TW := tw_in (tb_8 (List.mem_of_getElem? (i := 67) rfl)) (by decide +kernel)
theorem tw_2223 : (.fieldLink "PatternWorkshopModel" 208 "PatternWorkshopModel" "trailOf" "[I" : Cond) ∈ TW := tw_in (tb_8 (List.mem_of_getElem? (i := 68) rfl)) (by decide +kernel)
theorem tw_2224 : (.fieldLink "PatternWorkshopModel" 211 "PatternWorkshopModel" "trailOld" "[I" : Cond) ∈ TW := tw_in (tb_8 (List.mem_of_getElem? (i := 69) rfl)) (by decide +kernel)
theorem tw_2226 : (.fieldLink "PatternWorkshopModel" 215 "PatternWorkshopModel" "choiceSort" "[I" : Cond) ∈ TW := tw_in (tb_8 (List.mem_of_getElem? (i := 71) rfl)) (by decide +kernel)
theorem tw_2227 : (.fieldLink "PatternWorkshopModel" 218 "PatternWorkshopModel" "choiceAct" "[I" : Cond) ∈ TW := tw_in (tb_8 (List.mem_of_getElem? (i := 72) rfl)) (by decide +kernel)
theorem tw_2228 : (.fieldLink "PatternWorkshopModel" 221 "PatternWorkshopModel" "choicePlace" "[I" : Cond) ∈ TW := tw_in (tb_8 (List.mem_of_getElem? (i := 73) rfl)) (by decide +kernel)
theorem tw_2229 : (.fieldLink "PatternWorkshopModel" 224 "PatternWorkshopModel" "choiceTrail" "[I" : Cond) ∈ TW := tw_in (tb_8 (List.mem_of_getElem? (i := 74) rfl)) (by decide +kernel)
theorem tw_2239 : (.fieldLink "PatternWorkshopModel" 228 "PatternWorkshopModel" "seen" "[I" : Cond) ∈ TW := tw_in (tb_8 (List.mem_of_getElem? (i := 84) rfl)) (by decide +kernel)
theorem tw_2241 : (.fieldLink "PatternWorkshopModel" 231 "PatternWorkshopModel" "found" "[I" : Cond) ∈ TW := tw_in (tb_8 (List.mem_of_getElem? (i := 86) rfl)) (by decide +kernel)
theorem tw_2247 : (.fieldLink "PatternWorkshopModel" 234 "PatternWorkshopModel" "span" "[I" : Cond) ∈ TW := tw_in (tb_8 (List.mem_of_getElem? (i := 92) rfl)) (by decide +kernel)
theorem tw_2250 : (.fieldLink "PatternWorkshopModel" 237 "PatternWorkshopModel" "finds" "[I" : Cond) ∈ TW := tw_in (tb_8 (List.mem_of_getElem? (i := 95) rfl)) (by decide +kernel)
theorem tw_2252 : (.fieldLink "PatternWorkshopModel" 240 "PatternWorkshopModel" "madeSigns" "[I" : Cond) ∈ TW := tw_in (tb_8 (List.mem_of_getElem? (i := 97) rfl)) (by decide +kernel)
theorem tw_2254 : (.fieldLink "PatternWorkshopModel" 243 "PatternWorkshopModel" "follows" "[J" : Cond) ∈ TW := tw_in (tb_8 (List.mem_of_getElem? (i := 99) rfl)) (by decide +kernel)
theorem tw_2255 : (.fieldLink "PatternWorkshopModel" 247 "PatternWorkshopModel" "endsAfter" "[Z" : Cond) ∈ TW := tw_in (tb_8 (List.mem_of_getElem? (i := 100) rfl)) (by decide +kernel)
theorem tw_2257 : (.fieldLink "PatternWorkshopModel" 250 "PatternWorkshopModel" "eaterOf" "[I" : Cond) ∈ TW := tw_in (tb_8 (List.mem_of_getElem? (i := 102) rfl)) (by decide +kernel)
theorem tw_2258 : (.fieldLink "PatternWorkshopModel" 253 "PatternWorkshopModel" "eaterNode" "[I" : Cond) ∈ TW := tw_in (tb_8 (List.mem_of_getElem? (i := 103) rfl)) (by decide +kernel)
theorem tw_2259 : (.fieldLink "PatternWorkshopModel" 256 "PatternWorkshopModel" "isGone" "[Z" : Cond) ∈ TW := tw_in (tb_8 (List.mem_of_getElem? (i := 104) rfl)) (by decide +kernel)
theorem tw_2260 : (.fieldLink "PatternWorkshopModel" 259 "PatternWorkshopModel" "walk" "[I" : Cond) ∈ TW := tw_in (tb_8 (List.mem_of_getElem? (i := 105) rfl)) (by decide +kernel)
theorem tw_2263 : (.fieldLink "PatternWorkshopModel" 262 "PatternWorkshopModel" "states" "[I" : Cond) ∈ TW := tw_in (tb_8 (List.mem_of_getElem? (i := 108) rfl)) (by decide +kernel)
theorem tw_2264 : (.fieldLink "PatternWorkshopModel" 265 "PatternWorkshopModel" "stateSet" "[J" : Cond) ∈ TW := tw_in (tb_8 (List.mem_of_getElem? (i := 109) rfl)) (by decide +kernel)
theorem tw_2265 : (.fieldLink "PatternWorkshopModel" 268 "PatternWorkshopModel" "isTaken" "[Z" : Cond) ∈ TW := tw_in (tb_8 (List.mem_of_getElem? (i := 110) rfl)) (by decide +kernel)
theorem tw_2266 : (.fieldLink "PatternWorkshopModel" 271 "PatternWorkshopModel" "isLive" "[Z" : Cond) ∈ TW := tw_in (tb_8 (List.mem_of_getElem? (i := 111) rfl)) (by decide +kernel)
theorem tw_2267 : (.fieldLink "PatternWorkshopModel" 274 "PatternWorkshopModel" "classes" "[I" : Cond) ∈ TW := tw_in (tb_8 (List.mem_of_getElem? (i := 112) rfl)) (by decide +kernel)
theorem tw_2268 : (.fieldLink "PatternWorkshopModel" 277 "PatternWorkshopModel" "classTakes" "[J" : Cond) ∈ TW := tw_in (tb_8 (List.mem_of_getElem? (i := 113) rfl)) (by decide +kernel)
theorem tw_2269 : (.fieldLink "PatternWorkshopModel" 280 "PatternWorkshopModel" "classOf" "[I" : Cond) ∈ TW := tw_in (tb_8 (List.mem_of_getElem? (i := 114) rfl)) (by decide +kernel)
theorem tw_2270 : (.fieldLink "PatternWorkshopModel" 284 "PatternWorkshopModel" "leads" "[I" : Cond) ∈ TW := tw_in (tb_8 (List.mem_of_getElem? (i := 115) rfl)) (by decide +kernel)
theorem tw_2271 : (.fieldLink "PatternWorkshopModel" 287 "PatternWorkshopModel" "group" "[I" : Cond) ∈ TW := tw_in (tb_8 (List.mem_of_getElem? (i := 116) rfl)) (by decide +kernel)
theorem tw_2272 : (.fieldLink "PatternWorkshopModel" 290 "PatternWorkshopModel" "newGroup" "[I" : Cond) ∈ TW := tw_in (tb_8 (List.mem_of_getElem? (i := 117) rfl)) (by decide +kernel)
theorem tw_2273 : (.fieldLink "PatternWorkshopModel" 293 "PatternWorkshopModel" "pairA" "[I" : Cond) ∈ TW := tw_in (tb_8 (List.mem_of_getElem? (i := 118) rfl)) (by decide +kernel)
theorem tw_2274 : (.fieldLink "PatternWorkshopModel" 296 "PatternWorkshopModel" "pairB" "[I" : Cond) ∈ TW := tw_in (tb_8 (List.mem_of_getElem? (i := 119) rfl)) (by decide +kernel)
theorem tw_2275 : (.fieldLink "PatternWorkshopModel" 299 "PatternWorkshopModel" "pairFrom" "[I" : Cond) ∈ TW := tw_in (tb_8 (List.mem_of_getElem? (i := 120) rfl)) (by decide +kernel)
theorem tw_2276 : (.fieldLink "PatternWorkshopModel" 302 "PatternWorkshopModel" "pairSign" "[I" : Cond) ∈ TW := tw_in (tb_8 (List.mem_of_getElem? (i := 121) rfl)) (by decide +kernel)
theorem tw_2277 : (.fieldLink "PatternWorkshopModel" 305 "PatternWorkshopModel" "isPair" "[Z" : Cond) ∈ TW := tw_in (tb_8 (List.mem_of_getElem? (i := 122) rfl)) (by decide +kernel)
theorem tw_2279 : (.fieldLink "PatternWorkshopModel" 308 "PatternWorkshopModel" "sortA" "[I" : Cond) ∈ TW := tw_in (tb_8 (List.mem_of_getElem? (i := 124) rfl)) (by decide +kernel)
theorem tw_2280 : (.fieldLink "PatternWorkshopModel" 311 "PatternWorkshopModel" "sortB" "[I" : Cond) ∈ TW := tw_in (tb_8 (List.mem_of_getElem? (i := 125) rfl)) (by decide +kernel)
theorem tw_2281 : (.fieldLink "PatternWorkshopModel" 314 "PatternWorkshopModel" "sortSign" "[I" : Cond) ∈ TW := tw_in (tb_8 (List.mem_of_getElem? (i := 126) rfl)) (by decide +kernel)
abbrev cX0_init : ByteArray := prog_2_method_1_code
def yX0_init : MethodName := ⟨RX0, "<init>", "()V"⟩
abbrev cX10_init : ByteArray := prog_12_method_1_code
def yX10_init : MethodName := ⟨RX10, "<init>", "(II)V"⟩
abbrev cX11_init : ByteArray := prog_1_method_1_code
def yX11_init : MethodName := ⟨RX11, "<init>", "()V"⟩
abbrev cX12_init : ByteArray := prog_14_method_7_code
def yX12_init : MethodName := ⟨RX12, "<init>", "()V"⟩
abbrev cX1_init : ByteArray := prog_3_method_1_code
def yX1_init : MethodName := ⟨RX1, "<init>", "()V"⟩
abbrev cX2_init : ByteArray := prog_4_method_1_code
def yX2_init : MethodName := ⟨RX2, "<init>", "()V"⟩
abbrev cX3_init : ByteArray := prog_5_method_1_code
def yX3_init : MethodName := ⟨RX3, "<init>", "()V"⟩
abbrev cX4_init : ByteArray := prog_6_method_1_code
def yX4_init : MethodName := ⟨RX4, "<init>", "()V"⟩
abbrev cX5_init : ByteArray := prog_7_method_1_code
def yX5_init : MethodName := ⟨RX5, "<init>", "()V"⟩
abbrev cX6_init : ByteArray := prog_8_method_1_code
def yX6_init : MethodName := ⟨RX6, "<init>", "()V"⟩
abbrev cX7_init : ByteArray := prog_9_method_1_code
def yX7_init : MethodName := ⟨RX7, "<init>", "(I)V"⟩
abbrev cX8_init : ByteArray := prog_10_method_1_code
def yX8_init : MethodName := ⟨RX8, "<init>", "()V"⟩
abbrev cX9_init : ByteArray := prog_11_method_1_code
def yX9_init : MethodName := ⟨RX9, "<init>", "()V"⟩
theorem tw_271 : (.code yX7_init cX7_init 2 none : Cond) ∈ TW := tw_in (tb_0 (List.mem_of_getElem? (i := 36) rfl)) (by decide +kernel)
theorem tw_304 : (.code yX6_init cX6_init 2 none : Cond) ∈ TW := tw_in (tb_0 (List.mem_of_getElem? (i := 69) rfl)) (by decide +kernel)
theorem tw_314 : (.code yX10_init cX10_init 4 none : Cond) ∈ TW := tw_in (tb_0 (List.mem_of_getElem? (i := 79) rfl)) (by decide +kernel)
theorem tw_388 : (.code yX2_init cX2_init 1 none : Cond) ∈ TW := tw_in (tb_0 (List.mem_of_getElem? (i := 153) rfl)) (by decide +kernel)
theorem tw_499 : (.code yX4_init cX4_init 1 none : Cond) ∈ TW := tw_in (tb_1 (List.mem_of_getElem? (i := 24) rfl)) (by decide +kernel)
theorem tw_514 : (.code yX1_init cX1_init 1 none : Cond) ∈ TW := tw_in (tb_1 (List.mem_of_getElem? (i := 39) rfl)) (by decide +kernel)
theorem tw_583 : (.code yX3_init cX3_init 1 none : Cond) ∈ TW := tw_in (tb_1 (List.mem_of_getElem? (i := 108) rfl)) (by decide +kernel)
theorem tw_589 : (.code yX5_init cX5_init 1 none : Cond) ∈ TW := tw_in (tb_1 (List.mem_of_getElem? (i := 114) rfl)) (by decide +kernel)
theorem tw_675 : (.code yX8_init cX8_init 1 none : Cond) ∈ TW := tw_in (tb_1 (List.mem_of_getElem? (i := 200) rfl)) (by decide +kernel)
theorem tw_681 : (.code yX0_init cX0_init 1 none : Cond) ∈ TW := tw_in (tb_1 (List.mem_of_getElem? (i := 206) rfl)) (by decide +kernel)
theorem tw_697 : (.code yX9_init cX9_init 1 none : Cond) ∈ TW := tw_in (tb_1 (List.mem_of_getElem? (i := 222) rfl)) (by decide +kernel)
theorem gw_X0_init : GoodIn TW (WS yX0_init cX0_init 1 none) := goodC tw_681
theorem gw_X10_init : GoodIn TW (WS yX10_init cX10_init 4 none) := goodC tw_314
theorem gw_X1_init : GoodIn TW (WS yX1_init cX1_init 1 none) := goodC tw_514
theorem gw_X2_init : GoodIn TW (WS yX2_init cX2_init 1 none) := goodC tw_388
theorem gw_X3_init : GoodIn TW (WS yX3_init cX3_init 1 none) := goodC tw_583
theorem gw_X4_init : GoodIn TW (WS yX4_init cX4_init 1 none) := goodC tw_499
theorem gw_X5_init : GoodIn TW (WS yX5_init cX5_init 1 none) := goodC tw_589
theorem gw_X6_init : GoodIn TW (WS yX6_init cX6_init 2 none) := goodC tw_304
theorem gw_X7_init : GoodIn TW (WS yX7_init cX7_init 2 none) := goodC tw_271
theorem gw_X8_init : GoodIn TW (WS yX8_init cX8_init 1 none) := goodC tw_675
theorem gw_X9_init : GoodIn TW (WS yX9_init cX9_init 1 none) := goodC tw_697
theorem dX0_init_0 : decode cX0_init 0 = .ok (.aload_n 0, 1) := by decide +kernel
theorem dX0_init_1 : decode cX0_init 1 = .ok (.invokespecial 3, 3) := by decide +kernel
theorem dX0_init_4 : decode cX0_init 4 = .ok (.aload_n 0, 1) := by decide +kernel
theorem dX0_init_5 : decode cX0_init 5 = .ok (.sipush 256, 3) := by decide +kernel
theorem dX0_init_8 : decode cX0_init 8 = .ok (.newarray .int, 2) := by decide +kernel
theorem dX0_init_10 : decode cX0_init 10 = .ok (.putfield 9, 3) := by decide +kernel
theorem dX0_init_13 : decode cX0_init 13 = .ok (.return_, 1) := by decide +kernel
theorem dX10_init_0 : decode cX10_init 0 = .ok (.aload_n 0, 1) := by decide +kernel
theorem dX10_init_1 : decode cX10_init 1 = .ok (.invokespecial 3, 3) := by decide +kernel
theorem dX10_init_4 : decode cX10_init 4 = .ok (.iload_n 1, 1) := by decide +kernel
theorem dX10_init_5 : decode cX10_init 5 = .ok (.iconst 0, 1) := by decide +kernel
theorem dX10_init_6 : decode cX10_init 6 = .ok (.invokestatic 9, 3) := by decide +kernel
theorem dX10_init_9 : decode cX10_init 9 = .ok (.istore_n 3, 1) := by decide +kernel
theorem dX10_init_10 : decode cX10_init 10 = .ok (.aload_n 0, 1) := by decide +kernel
theorem dX10_init_11 : decode cX10_init 11 = .ok (.iload_n 3, 1) := by decide +kernel
theorem dX10_init_12 : decode cX10_init 12 = .ok (.newarray .int, 2) := by decide +kernel
theorem dX10_init_14 : decode cX10_init 14 = .ok (.putfield 15, 3) := by decide +kernel
theorem dX10_init_17 : decode cX10_init 17 = .ok (.aload_n 0, 1) := by decide +kernel
theorem dX10_init_18 : decode cX10_init 18 = .ok (.iload_n 3, 1) := by decide +kernel
theorem dX10_init_19 : decode cX10_init 19 = .ok (.newarray .int, 2) := by decide +kernel
theorem dX10_init_21 : decode cX10_init 21 = .ok (.putfield 21, 3) := by decide +kernel
theorem dX10_init_24 : decode cX10_init 24 = .ok (.aload_n 0, 1) := by decide +kernel
theorem dX10_init_25 : decode cX10_init 25 = .ok (.iload_n 3, 1) := by decide +kernel
theorem dX10_init_26 : decode cX10_init 26 = .ok (.newarray .int, 2) := by decide +kernel
theorem dX10_init_28 : decode cX10_init 28 = .ok (.putfield 24, 3) := by decide +kernel
theorem dX10_init_31 : decode cX10_init 31 = .ok (.aload_n 0, 1) := by decide +kernel
theorem dX10_init_32 : decode cX10_init 32 = .ok (.iload_n 3, 1) := by decide +kernel
theorem dX10_init_33 : decode cX10_init 33 = .ok (.newarray .int, 2) := by decide +kernel
theorem dX10_init_35 : decode cX10_init 35 = .ok (.putfield 27, 3) := by decide +kernel
theorem dX10_init_38 : decode cX10_init 38 = .ok (.aload_n 0, 1) := by decide +kernel
theorem dX10_init_39 : decode cX10_init 39 = .ok (.iload_n 3, 1) := by decide +kernel
theorem dX10_init_40 : decode cX10_init 40 = .ok (.newarray .int, 2) := by decide +kernel
theorem dX10_init_42 : decode cX10_init 42 = .ok (.putfield 30, 3) := by decide +kernel
theorem dX10_init_45 : decode cX10_init 45 = .ok (.aload_n 0, 1) := by decide +kernel
theorem dX10_init_46 : decode cX10_init 46 = .ok (.iload_n 3, 1) := by decide +kernel
theorem dX10_init_47 : decode cX10_init 47 = .ok (.newarray .int, 2) := by decide +kernel
theorem dX10_init_49 : decode cX10_init 49 = .ok (.putfield 33, 3) := by decide +kernel
theorem dX10_init_52 : decode cX10_init 52 = .ok (.aload_n 0, 1) := by decide +kernel
theorem dX10_init_53 : decode cX10_init 53 = .ok (.iload_n 3, 1) := by decide +kernel
theorem dX10_init_54 : decode cX10_init 54 = .ok (.newarray .int, 2) := by decide +kernel
theorem dX10_init_56 : decode cX10_init 56 = .ok (.putfield 36, 3) := by decide +kernel
theorem dX10_init_59 : decode cX10_init 59 = .ok (.aload_n 0, 1) := by decide +kernel
theorem dX10_init_60 : decode cX10_init 60 = .ok (.iload_n 3, 1) := by decide +kernel
theorem dX10_init_61 : decode cX10_init 61 = .ok (.newarray .int, 2) := by decide +kernel
theorem dX10_init_63 : decode cX10_init 63 = .ok (.putfield 39, 3) := by decide +kernel
theorem dX10_init_66 : decode cX10_init 66 = .ok (.aload_n 0, 1) := by decide +kernel
theorem dX10_init_67 : decode cX10_init 67 = .ok (.iload_n 3, 1) := by decide +kernel
theorem dX10_init_68 : decode cX10_init 68 = .ok (.newarray .int, 2) := by decide +kernel
theorem dX10_init_70 : decode cX10_init 70 = .ok (.putfield 42, 3) := by decide +kernel
theorem dX10_init_73 : decode cX10_init 73 = .ok (.aload_n 0, 1) := by decide +kernel
theorem dX10_init_74 : decode cX10_init 74 = .ok (.iload_n 3, 1) := by decide +kernel
theorem dX10_init_75 : decode cX10_init 75 = .ok (.newarray .int, 2) := by decide +kernel
theorem dX10_init_77 : decode cX10_init 77 = .ok (.putfield 45, 3) := by decide +kernel
theorem dX10_init_80 : decode cX10_init 80 = .ok (.aload_n 0, 1) := by decide +kernel
theorem dX10_init_81 : decode cX10_init 81 = .ok (.iload_n 3, 1) := by decide +kernel
theorem dX10_init_82 : decode cX10_init 82 = .ok (.newarray .int, 2) := by decide +kernel
theorem dX10_init_84 : decode cX10_init 84 = .ok (.putfield 48, 3) := by decide +kernel
theorem dX10_init_87 : decode cX10_init 87 = .ok (.aload_n 0, 1) := by decide +kernel
theorem dX10_init_88 : decode cX10_init 88 = .ok (.iload_n 3, 1) := by decide +kernel
theorem dX10_init_89 : decode cX10_init 89 = .ok (.newarray .boolean, 2) := by decide +kernel
theorem dX10_init_91 : decode cX10_init 91 = .ok (.putfield 51, 3) := by decide +kernel
theorem dX10_init_94 : decode cX10_init 94 = .ok (.aload_n 0, 1) := by decide +kernel
theorem dX10_init_95 : decode cX10_init 95 = .ok (.iload_n 3, 1) := by decide +kernel
theorem dX10_init_96 : decode cX10_init 96 = .ok (.newarray .boolean, 2) := by decide +kernel
theorem dX10_init_98 : decode cX10_init 98 = .ok (.putfield 55, 3) := by decide +kernel
theorem dX10_init_101 : decode cX10_init 101 = .ok (.aload_n 0, 1) := by decide +kernel
theorem dX10_init_102 : decode cX10_init 102 = .ok (.iload_n 3, 1) := by decide +kernel
theorem dX10_init_103 : decode cX10_init 103 = .ok (.newarray .boolean, 2) := by decide +kernel
theorem dX10_init_105 : decode cX10_init 105 = .ok (.putfield 58, 3) := by decide +kernel
theorem dX10_init_108 : decode cX10_init 108 = .ok (.aload_n 0, 1) := by decide +kernel
theorem dX10_init_109 : decode cX10_init 109 = .ok (.iload_n 2, 1) := by decide +kernel
theorem dX10_init_110 : decode cX10_init 110 = .ok (.iconst 0, 1) := by decide +kernel
theorem dX10_init_111 : decode cX10_init 111 = .ok (.invokestatic 9, 3) := by decide +kernel
theorem dX10_init_114 : decode cX10_init 114 = .ok (.newarray .int, 2) := by decide +kernel
theorem dX10_init_116 : decode cX10_init 116 = .ok (.putfield 61, 3) := by decide +kernel
theorem dX10_init_119 : decode cX10_init 119 = .ok (.aload_n 0, 1) := by decide +kernel
theorem dX10_init_120 : decode cX10_init 120 = .ok (.iload_n 2, 1) := by decide +kernel
theorem dX10_init_121 : decode cX10_init 121 = .ok (.iconst 0, 1) := by decide +kernel
theorem dX10_init_122 : decode cX10_init 122 = .ok (.invokestatic 9, 3) := by decide +kernel
theorem dX10_init_125 : decode cX10_init 125 = .ok (.newarray .int, 2) := by decide +kernel
theorem dX10_init_127 : decode cX10_init 127 = .ok (.putfield 64, 3) := by decide +kernel
theorem dX10_init_130 : decode cX10_init 130 = .ok (.return_, 1) := by decide +kernel
theorem dX11_init_0 : decode cX11_init 0 = .ok (.aload_n 0, 1) := by decide +kernel
theorem dX11_init_1 : decode cX11_init 1 = .ok (.invokespecial 1, 3) := by decide +kernel
theorem dX11_init_4 : decode cX11_init 4 = .ok (.aload_n 0, 1) := by decide +kernel
theorem dX11_init_5 : decode cX11_init 5 = .ok (.new 7, 3) := by decide +kernel
theorem dX11_init_8 : decode cX11_init 8 = .ok (.dup, 1) := by decide +kernel
theorem dX11_init_9 : decode cX11_init 9 = .ok (.sipush 200, 3) := by decide +kernel
theorem dX11_init_12 : decode cX11_init 12 = .ok (.invokespecial 11, 3) := by decide +kernel
theorem dX11_init_15 : decode cX11_init 15 = .ok (.putfield 14, 3) := by decide +kernel
theorem dX11_init_18 : decode cX11_init 18 = .ok (.aload_n 0, 1) := by decide +kernel
theorem dX11_init_19 : decode cX11_init 19 = .ok (.bipush 6, 2) := by decide +kernel
theorem dX11_init_21 : decode cX11_init 21 = .ok (.anewarray 18, 3) := by decide +kernel
theorem dX11_init_24 : decode cX11_init 24 = .ok (.putfield 20, 3) := by decide +kernel
theorem dX11_init_27 : decode cX11_init 27 = .ok (.aload_n 0, 1) := by decide +kernel
theorem dX11_init_28 : decode cX11_init 28 = .ok (.iconst 4, 1) := by decide +kernel
theorem dX11_init_29 : decode cX11_init 29 = .ok (.anewarray 7, 3) := by decide +kernel
theorem dX11_init_32 : decode cX11_init 32 = .ok (.putfield 24, 3) := by decide +kernel
theorem dX11_init_35 : decode cX11_init 35 = .ok (.aload_n 0, 1) := by decide +kernel
theorem dX11_init_36 : decode cX11_init 36 = .ok (.new 7, 3) := by decide +kernel
theorem dX11_init_39 : decode cX11_init 39 = .ok (.dup, 1) := by decide +kernel
theorem dX11_init_40 : decode cX11_init 40 = .ok (.sipush 400, 3) := by decide +kernel
theorem dX11_init_43 : decode cX11_init 43 = .ok (.invokespecial 11, 3) := by decide +kernel
theorem dX11_init_46 : decode cX11_init 46 = .ok (.putfield 28, 3) := by decide +kernel
theorem dX11_init_49 : decode cX11_init 49 = .ok (.aload_n 0, 1) := by decide +kernel
theorem dX11_init_50 : decode cX11_init 50 = .ok (.new 7, 3) := by decide +kernel
theorem dX11_init_53 : decode cX11_init 53 = .ok (.dup, 1) := by decide +kernel
theorem dX11_init_54 : decode cX11_init 54 = .ok (.sipush 400, 3) := by decide +kernel
theorem dX11_init_57 : decode cX11_init 57 = .ok (.invokespecial 11, 3) := by decide +kernel
theorem dX11_init_60 : decode cX11_init 60 = .ok (.putfield 31, 3) := by decide +kernel
theorem dX11_init_63 : decode cX11_init 63 = .ok (.aload_n 0, 1) := by decide +kernel
theorem dX11_init_64 : decode cX11_init 64 = .ok (.new 7, 3) := by decide +kernel
theorem dX11_init_67 : decode cX11_init 67 = .ok (.dup, 1) := by decide +kernel
theorem dX11_init_68 : decode cX11_init 68 = .ok (.bipush 20, 2) := by decide +kernel
theorem dX11_init_70 : decode cX11_init 70 = .ok (.invokespecial 11, 3) := by decide +kernel
theorem dX11_init_73 : decode cX11_init 73 = .ok (.putfield 34, 3) := by decide +kernel
theorem dX11_init_76 : decode cX11_init 76 = .ok (.aload_n 0, 1) := by decide +kernel
theorem dX11_init_77 : decode cX11_init 77 = .ok (.new 7, 3) := by decide +kernel
theorem dX11_init_80 : decode cX11_init 80 = .ok (.dup, 1) := by decide +kernel
theorem dX11_init_81 : decode cX11_init 81 = .ok (.bipush 20, 2) := by decide +kernel
theorem dX11_init_83 : decode cX11_init 83 = .ok (.invokespecial 11, 3) := by decide +kernel
theorem dX11_init_86 : decode cX11_init 86 = .ok (.putfield 37, 3) := by decide +kernel
theorem dX11_init_89 : decode cX11_init 89 = .ok (.aload_n 0, 1) := by decide +kernel
theorem dX11_init_90 : decode cX11_init 90 = .ok (.new 40, 3) := by decide +kernel
theorem dX11_init_93 : decode cX11_init 93 = .ok (.dup, 1) := by decide +kernel
theorem dX11_init_94 : decode cX11_init 94 = .ok (.invokespecial 42, 3) := by decide +kernel
theorem dX11_init_97 : decode cX11_init 97 = .ok (.putfield 43, 3) := by decide +kernel
theorem dX11_init_100 : decode cX11_init 100 = .ok (.aload_n 0, 1) := by decide +kernel
theorem dX11_init_101 : decode cX11_init 101 = .ok (.new 47, 3) := by decide +kernel
theorem dX11_init_104 : decode cX11_init 104 = .ok (.dup, 1) := by decide +kernel
theorem dX11_init_105 : decode cX11_init 105 = .ok (.invokespecial 49, 3) := by decide +kernel
theorem dX11_init_108 : decode cX11_init 108 = .ok (.putfield 50, 3) := by decide +kernel
theorem dX11_init_111 : decode cX11_init 111 = .ok (.aload_n 0, 1) := by decide +kernel
theorem dX11_init_112 : decode cX11_init 112 = .ok (.new 54, 3) := by decide +kernel
theorem dX11_init_115 : decode cX11_init 115 = .ok (.dup, 1) := by decide +kernel
theorem dX11_init_116 : decode cX11_init 116 = .ok (.invokespecial 56, 3) := by decide +kernel
theorem dX11_init_119 : decode cX11_init 119 = .ok (.putfield 57, 3) := by decide +kernel
theorem dX11_init_122 : decode cX11_init 122 = .ok (.aload_n 0, 1) := by decide +kernel
theorem dX11_init_123 : decode cX11_init 123 = .ok (.new 61, 3) := by decide +kernel
theorem dX11_init_126 : decode cX11_init 126 = .ok (.dup, 1) := by decide +kernel
theorem dX11_init_127 : decode cX11_init 127 = .ok (.invokespecial 63, 3) := by decide +kernel
theorem dX11_init_130 : decode cX11_init 130 = .ok (.putfield 64, 3) := by decide +kernel
theorem dX11_init_133 : decode cX11_init 133 = .ok (.aload_n 0, 1) := by decide +kernel
theorem dX11_init_134 : decode cX11_init 134 = .ok (.new 68, 3) := by decide +kernel
theorem dX11_init_137 : decode cX11_init 137 = .ok (.dup, 1) := by decide +kernel
theorem dX11_init_138 : decode cX11_init 138 = .ok (.invokespecial 70, 3) := by decide +kernel
theorem dX11_init_141 : decode cX11_init 141 = .ok (.putfield 71, 3) := by decide +kernel
theorem dX11_init_144 : decode cX11_init 144 = .ok (.aload_n 0, 1) := by decide +kernel
theorem dX11_init_145 : decode cX11_init 145 = .ok (.iconst (-1), 1) := by decide +kernel
theorem dX11_init_146 : decode cX11_init 146 = .ok (.putfield 75, 3) := by decide +kernel
theorem dX11_init_149 : decode cX11_init 149 = .ok (.aload_n 0, 1) := by decide +kernel
theorem dX11_init_150 : decode cX11_init 150 = .ok (.iconst (-1), 1) := by decide +kernel
theorem dX11_init_151 : decode cX11_init 151 = .ok (.putfield 79, 3) := by decide +kernel
theorem dX11_init_154 : decode cX11_init 154 = .ok (.aload_n 0, 1) := by decide +kernel
theorem dX11_init_155 : decode cX11_init 155 = .ok (.iconst (-1), 1) := by decide +kernel
theorem dX11_init_156 : decode cX11_init 156 = .ok (.putfield 82, 3) := by decide +kernel
theorem dX11_init_159 : decode cX11_init 159 = .ok (.iconst 0, 1) := by decide +kernel
theorem dX11_init_160 : decode cX11_init 160 = .ok (.istore_n 1, 1) := by decide +kernel
theorem dX11_init_161 : decode cX11_init 161 = .ok (.iload_n 1, 1) := by decide +kernel
theorem dX11_init_162 : decode cX11_init 162 = .ok (.aload_n 0, 1) := by decide +kernel
theorem dX11_init_163 : decode cX11_init 163 = .ok (.getfield 20, 3) := by decide +kernel
theorem dX11_init_166 : decode cX11_init 166 = .ok (.arraylength, 1) := by decide +kernel
theorem dX11_init_167 : decode cX11_init 167 = .ok (.if_icmp .ge 28, 3) := by decide +kernel
theorem dX11_init_170 : decode cX11_init 170 = .ok (.aload_n 0, 1) := by decide +kernel
theorem dX11_init_171 : decode cX11_init 171 = .ok (.getfield 20, 3) := by decide +kernel
theorem dX11_init_174 : decode cX11_init 174 = .ok (.iload_n 1, 1) := by decide +kernel
theorem dX11_init_175 : decode cX11_init 175 = .ok (.new 18, 3) := by decide +kernel
theorem dX11_init_178 : decode cX11_init 178 = .ok (.dup, 1) := by decide +kernel
theorem dX11_init_179 : decode cX11_init 179 = .ok (.sipush 256, 3) := by decide +kernel
theorem dX11_init_182 : decode cX11_init 182 = .ok (.sipush 512, 3) := by decide +kernel
theorem dX11_init_185 : decode cX11_init 185 = .ok (.invokespecial 85, 3) := by decide +kernel
theorem dX11_init_188 : decode cX11_init 188 = .ok (.aastore, 1) := by decide +kernel
theorem dX11_init_189 : decode cX11_init 189 = .ok (.iinc 1 1, 3) := by decide +kernel
theorem dX11_init_192 : decode cX11_init 192 = .ok (.goto (-31), 3) := by decide +kernel
theorem dX11_init_195 : decode cX11_init 195 = .ok (.iconst 0, 1) := by decide +kernel
theorem dX11_init_196 : decode cX11_init 196 = .ok (.istore_n 1, 1) := by decide +kernel
theorem dX11_init_197 : decode cX11_init 197 = .ok (.iload_n 1, 1) := by decide +kernel
theorem dX11_init_198 : decode cX11_init 198 = .ok (.aload_n 0, 1) := by decide +kernel
theorem dX11_init_199 : decode cX11_init 199 = .ok (.getfield 24, 3) := by decide +kernel
theorem dX11_init_202 : decode cX11_init 202 = .ok (.arraylength, 1) := by decide +kernel
theorem dX11_init_203 : decode cX11_init 203 = .ok (.if_icmp .ge 24, 3) := by decide +kernel
theorem dX11_init_206 : decode cX11_init 206 = .ok (.aload_n 0, 1) := by decide +kernel
theorem dX11_init_207 : decode cX11_init 207 = .ok (.getfield 24, 3) := by decide +kernel
theorem dX11_init_210 : decode cX11_init 210 = .ok (.iload_n 1, 1) := by decide +kernel
theorem dX11_init_211 : decode cX11_init 211 = .ok (.new 7, 3) := by decide +kernel
theorem dX11_init_214 : decode cX11_init 214 = .ok (.dup, 1) := by decide +kernel
theorem dX11_init_215 : decode cX11_init 215 = .ok (.bipush 100, 2) := by decide +kernel
theorem dX11_init_217 : decode cX11_init 217 = .ok (.invokespecial 11, 3) := by decide +kernel
theorem dX11_init_220 : decode cX11_init 220 = .ok (.aastore, 1) := by decide +kernel
theorem dX11_init_221 : decode cX11_init 221 = .ok (.iinc 1 1, 3) := by decide +kernel
theorem dX11_init_224 : decode cX11_init 224 = .ok (.goto (-27), 3) := by decide +kernel
theorem dX11_init_227 : decode cX11_init 227 = .ok (.return_, 1) := by decide +kernel
theorem dX12_init_0 : decode cX12_init 0 = .ok (.aload_n 0, 1) := by decide +kernel
theorem dX12_init_1 : decode cX12_init 1 = .ok (.invokespecial 18, 3) := by decide +kernel
theorem dX12_init_4 : decode cX12_init 4 = .ok (.aload_n 0, 1) := by decide +kernel
theorem dX12_init_5 : decode cX12_init 5 = .ok (.sipush 200, 3) := by decide +kernel
theorem dX12_init_8 : decode cX12_init 8 = .ok (.newarray .int, 2) := by decide +kernel
theorem dX12_init_10 : decode cX12_init 10 = .ok (.putfield 24, 3) := by decide +kernel
theorem dX12_init_13 : decode cX12_init 13 = .ok (.aload_n 0, 1) := by decide +kernel
theorem dX12_init_14 : decode cX12_init 14 = .ok (.iconst (-1), 1) := by decide +kernel
theorem dX12_init_15 : decode cX12_init 15 = .ok (.putfield 28, 3) := by decide +kernel
theorem dX12_init_18 : decode cX12_init 18 = .ok (.aload_n 0, 1) := by decide +kernel
theorem dX12_init_19 : decode cX12_init 19 = .ok (.bipush 6, 2) := by decide +kernel
theorem dX12_init_21 : decode cX12_init 21 = .ok (.newarray .boolean, 2) := by decide +kernel
theorem dX12_init_23 : decode cX12_init 23 = .ok (.putfield 31, 3) := by decide +kernel
theorem dX12_init_26 : decode cX12_init 26 = .ok (.aload_n 0, 1) := by decide +kernel
theorem dX12_init_27 : decode cX12_init 27 = .ok (.bipush 6, 2) := by decide +kernel
theorem dX12_init_29 : decode cX12_init 29 = .ok (.newarray .int, 2) := by decide +kernel
theorem dX12_init_31 : decode cX12_init 31 = .ok (.putfield 35, 3) := by decide +kernel
theorem dX12_init_34 : decode cX12_init 34 = .ok (.aload_n 0, 1) := by decide +kernel
theorem dX12_init_35 : decode cX12_init 35 = .ok (.bipush 6, 2) := by decide +kernel
theorem dX12_init_37 : decode cX12_init 37 = .ok (.newarray .int, 2) := by decide +kernel
theorem dX12_init_39 : decode cX12_init 39 = .ok (.putfield 38, 3) := by decide +kernel
theorem dX12_init_42 : decode cX12_init 42 = .ok (.aload_n 0, 1) := by decide +kernel
theorem dX12_init_43 : decode cX12_init 43 = .ok (.bipush 60, 2) := by decide +kernel
theorem dX12_init_45 : decode cX12_init 45 = .ok (.newarray .int, 2) := by decide +kernel
theorem dX12_init_47 : decode cX12_init 47 = .ok (.putfield 41, 3) := by decide +kernel
theorem dX12_init_50 : decode cX12_init 50 = .ok (.aload_n 0, 1) := by decide +kernel
theorem dX12_init_51 : decode cX12_init 51 = .ok (.sipush 1320, 3) := by decide +kernel
theorem dX12_init_54 : decode cX12_init 54 = .ok (.newarray .int, 2) := by decide +kernel
theorem dX12_init_56 : decode cX12_init 56 = .ok (.putfield 44, 3) := by decide +kernel
theorem dX12_init_59 : decode cX12_init 59 = .ok (.aload_n 0, 1) := by decide +kernel
theorem dX12_init_60 : decode cX12_init 60 = .ok (.sipush 1320, 3) := by decide +kernel
theorem dX12_init_63 : decode cX12_init 63 = .ok (.newarray .int, 2) := by decide +kernel
theorem dX12_init_65 : decode cX12_init 65 = .ok (.putfield 47, 3) := by decide +kernel
theorem dX12_init_68 : decode cX12_init 68 = .ok (.aload_n 0, 1) := by decide +kernel
theorem dX12_init_69 : decode cX12_init 69 = .ok (.sipush 1320, 3) := by decide +kernel
theorem dX12_init_72 : decode cX12_init 72 = .ok (.newarray .int, 2) := by decide +kernel
theorem dX12_init_74 : decode cX12_init 74 = .ok (.putfield 50, 3) := by decide +kernel
theorem dX12_init_77 : decode cX12_init 77 = .ok (.aload_n 0, 1) := by decide +kernel
theorem dX12_init_78 : decode cX12_init 78 = .ok (.sipush 1320, 3) := by decide +kernel
theorem dX12_init_81 : decode cX12_init 81 = .ok (.newarray .int, 2) := by decide +kernel
theorem dX12_init_83 : decode cX12_init 83 = .ok (.putfield 53, 3) := by decide +kernel
theorem dX12_init_86 : decode cX12_init 86 = .ok (.aload_n 0, 1) := by decide +kernel
theorem dX12_init_87 : decode cX12_init 87 = .ok (.sipush 1320, 3) := by decide +kernel
theorem dX12_init_90 : decode cX12_init 90 = .ok (.newarray .int, 2) := by decide +kernel
theorem dX12_init_92 : decode cX12_init 92 = .ok (.putfield 56, 3) := by decide +kernel
theorem dX12_init_95 : decode cX12_init 95 = .ok (.aload_n 0, 1) := by decide +kernel
theorem dX12_init_96 : decode cX12_init 96 = .ok (.sipush 1320, 3) := by decide +kernel
theorem dX12_init_99 : decode cX12_init 99 = .ok (.newarray .int, 2) := by decide +kernel
theorem dX12_init_101 : decode cX12_init 101 = .ok (.putfield 59, 3) := by decide +kernel
theorem dX12_init_104 : decode cX12_init 104 = .ok (.aload_n 0, 1) := by decide +kernel
theorem dX12_init_105 : decode cX12_init 105 = .ok (.sipush 1320, 3) := by decide +kernel
theorem dX12_init_108 : decode cX12_init 108 = .ok (.newarray .int, 2) := by decide +kernel
theorem dX12_init_110 : decode cX12_init 110 = .ok (.putfield 62, 3) := by decide +kernel
theorem dX12_init_113 : decode cX12_init 113 = .ok (.aload_n 0, 1) := by decide +kernel
theorem dX12_init_114 : decode cX12_init 114 = .ok (.sipush 1320, 3) := by decide +kernel
theorem dX12_init_117 : decode cX12_init 117 = .ok (.newarray .int, 2) := by decide +kernel
theorem dX12_init_119 : decode cX12_init 119 = .ok (.putfield 65, 3) := by decide +kernel
theorem dX12_init_122 : decode cX12_init 122 = .ok (.aload_n 0, 1) := by decide +kernel
theorem dX12_init_123 : decode cX12_init 123 = .ok (.sipush 1320, 3) := by decide +kernel
theorem dX12_init_126 : decode cX12_init 126 = .ok (.newarray .int, 2) := by decide +kernel
theorem dX12_init_128 : decode cX12_init 128 = .ok (.putfield 68, 3) := by decide +kernel
theorem dX12_init_131 : decode cX12_init 131 = .ok (.aload_n 0, 1) := by decide +kernel
theorem dX12_init_132 : decode cX12_init 132 = .ok (.sipush 1320, 3) := by decide +kernel
theorem dX12_init_135 : decode cX12_init 135 = .ok (.newarray .int, 2) := by decide +kernel
theorem dX12_init_137 : decode cX12_init 137 = .ok (.putfield 71, 3) := by decide +kernel
theorem dX12_init_140 : decode cX12_init 140 = .ok (.aload_n 0, 1) := by decide +kernel
theorem dX12_init_141 : decode cX12_init 141 = .ok (.sipush 1320, 3) := by decide +kernel
theorem dX12_init_144 : decode cX12_init 144 = .ok (.newarray .boolean, 2) := by decide +kernel
theorem dX12_init_146 : decode cX12_init 146 = .ok (.putfield 74, 3) := by decide +kernel
theorem dX12_init_149 : decode cX12_init 149 = .ok (.aload_n 0, 1) := by decide +kernel
theorem dX12_init_150 : decode cX12_init 150 = .ok (.sipush 1320, 3) := by decide +kernel
theorem dX12_init_153 : decode cX12_init 153 = .ok (.newarray .boolean, 2) := by decide +kernel
theorem dX12_init_155 : decode cX12_init 155 = .ok (.putfield 77, 3) := by decide +kernel
theorem dX12_init_158 : decode cX12_init 158 = .ok (.aload_n 0, 1) := by decide +kernel
theorem dX12_init_159 : decode cX12_init 159 = .ok (.sipush 2520, 3) := by decide +kernel
theorem dX12_init_162 : decode cX12_init 162 = .ok (.newarray .int, 2) := by decide +kernel
theorem dX12_init_164 : decode cX12_init 164 = .ok (.putfield 80, 3) := by decide +kernel
theorem dX12_init_167 : decode cX12_init 167 = .ok (.aload_n 0, 1) := by decide +kernel
theorem dX12_init_168 : decode cX12_init 168 = .ok (.sipush 2520, 3) := by decide +kernel
theorem dX12_init_171 : decode cX12_init 171 = .ok (.newarray .int, 2) := by decide +kernel
theorem dX12_init_173 : decode cX12_init 173 = .ok (.putfield 83, 3) := by decide +kernel
theorem dX12_init_176 : decode cX12_init 176 = .ok (.aload_n 0, 1) := by decide +kernel
theorem dX12_init_177 : decode cX12_init 177 = .ok (.sipush 260, 3) := by decide +kernel
theorem dX12_init_180 : decode cX12_init 180 = .ok (.newarray .int, 2) := by decide +kernel
theorem dX12_init_182 : decode cX12_init 182 = .ok (.putfield 86, 3) := by decide +kernel
theorem dX12_init_185 : decode cX12_init 185 = .ok (.aload_n 0, 1) := by decide +kernel
theorem dX12_init_186 : decode cX12_init 186 = .ok (.sipush 260, 3) := by decide +kernel
theorem dX12_init_189 : decode cX12_init 189 = .ok (.newarray .int, 2) := by decide +kernel
theorem dX12_init_191 : decode cX12_init 191 = .ok (.putfield 89, 3) := by decide +kernel
theorem dX12_init_194 : decode cX12_init 194 = .ok (.aload_n 0, 1) := by decide +kernel
theorem dX12_init_195 : decode cX12_init 195 = .ok (.sipush 260, 3) := by decide +kernel
theorem dX12_init_198 : decode cX12_init 198 = .ok (.newarray .int, 2) := by decide +kernel
theorem dX12_init_200 : decode cX12_init 200 = .ok (.putfield 92, 3) := by decide +kernel
theorem dX12_init_203 : decode cX12_init 203 = .ok (.aload_n 0, 1) := by decide +kernel
theorem dX12_init_204 : decode cX12_init 204 = .ok (.sipush 260, 3) := by decide +kernel
theorem dX12_init_207 : decode cX12_init 207 = .ok (.newarray .int, 2) := by decide +kernel
theorem dX12_init_209 : decode cX12_init 209 = .ok (.putfield 95, 3) := by decide +kernel
theorem dX12_init_212 : decode cX12_init 212 = .ok (.aload_n 0, 1) := by decide +kernel
theorem dX12_init_213 : decode cX12_init 213 = .ok (.sipush 260, 3) := by decide +kernel
theorem dX12_init_216 : decode cX12_init 216 = .ok (.newarray .int, 2) := by decide +kernel
theorem dX12_init_218 : decode cX12_init 218 = .ok (.putfield 98, 3) := by decide +kernel
theorem dX12_init_221 : decode cX12_init 221 = .ok (.aload_n 0, 1) := by decide +kernel
theorem dX12_init_222 : decode cX12_init 222 = .ok (.sipush 260, 3) := by decide +kernel
theorem dX12_init_225 : decode cX12_init 225 = .ok (.newarray .int, 2) := by decide +kernel
theorem dX12_init_227 : decode cX12_init 227 = .ok (.putfield 101, 3) := by decide +kernel
theorem dX12_init_230 : decode cX12_init 230 = .ok (.aload_n 0, 1) := by decide +kernel
theorem dX12_init_231 : decode cX12_init 231 = .ok (.sipush 260, 3) := by decide +kernel
theorem dX12_init_234 : decode cX12_init 234 = .ok (.newarray .int, 2) := by decide +kernel
theorem dX12_init_236 : decode cX12_init 236 = .ok (.putfield 104, 3) := by decide +kernel
theorem dX12_init_239 : decode cX12_init 239 = .ok (.aload_n 0, 1) := by decide +kernel
theorem dX12_init_240 : decode cX12_init 240 = .ok (.sipush 260, 3) := by decide +kernel
theorem dX12_init_243 : decode cX12_init 243 = .ok (.newarray .int, 2) := by decide +kernel
theorem dX12_init_245 : decode cX12_init 245 = .ok (.putfield 107, 3) := by decide +kernel
theorem dX12_init_248 : decode cX12_init 248 = .ok (.aload_n 0, 1) := by decide +kernel
theorem dX12_init_249 : decode cX12_init 249 = .ok (.sipush 420, 3) := by decide +kernel
theorem dX12_init_252 : decode cX12_init 252 = .ok (.newarray .int, 2) := by decide +kernel
theorem dX12_init_254 : decode cX12_init 254 = .ok (.putfield 110, 3) := by decide +kernel
theorem dX12_init_257 : decode cX12_init 257 = .ok (.aload_n 0, 1) := by decide +kernel
theorem dX12_init_258 : decode cX12_init 258 = .ok (.sipush 420, 3) := by decide +kernel
theorem dX12_init_261 : decode cX12_init 261 = .ok (.newarray .int, 2) := by decide +kernel
theorem dX12_init_263 : decode cX12_init 263 = .ok (.putfield 113, 3) := by decide +kernel
theorem dX12_init_266 : decode cX12_init 266 = .ok (.aload_n 0, 1) := by decide +kernel
theorem dX12_init_267 : decode cX12_init 267 = .ok (.bipush 10, 2) := by decide +kernel
theorem dX12_init_269 : decode cX12_init 269 = .ok (.newarray .int, 2) := by decide +kernel
theorem dX12_init_271 : decode cX12_init 271 = .ok (.putfield 116, 3) := by decide +kernel
theorem dX12_init_274 : decode cX12_init 274 = .ok (.aload_n 0, 1) := by decide +kernel
theorem dX12_init_275 : decode cX12_init 275 = .ok (.bipush 12, 2) := by decide +kernel
theorem dX12_init_277 : decode cX12_init 277 = .ok (.newarray .int, 2) := by decide +kernel
theorem dX12_init_279 : decode cX12_init 279 = .ok (.putfield 119, 3) := by decide +kernel
theorem dX12_init_282 : decode cX12_init 282 = .ok (.aload_n 0, 1) := by decide +kernel
theorem dX12_init_283 : decode cX12_init 283 = .ok (.bipush 12, 2) := by decide +kernel
theorem dX12_init_285 : decode cX12_init 285 = .ok (.newarray .int, 2) := by decide +kernel
theorem dX12_init_287 : decode cX12_init 287 = .ok (.putfield 122, 3) := by decide +kernel
theorem dX12_init_290 : decode cX12_init 290 = .ok (.aload_n 0, 1) := by decide +kernel
theorem dX12_init_291 : decode cX12_init 291 = .ok (.bipush 12, 2) := by decide +kernel
theorem dX12_init_293 : decode cX12_init 293 = .ok (.newarray .int, 2) := by decide +kernel
theorem dX12_init_295 : decode cX12_init 295 = .ok (.putfield 125, 3) := by decide +kernel
theorem dX12_init_298 : decode cX12_init 298 = .ok (.aload_n 0, 1) := by decide +kernel
theorem dX12_init_299 : decode cX12_init 299 = .ok (.bipush 12, 2) := by decide +kernel
theorem dX12_init_301 : decode cX12_init 301 = .ok (.newarray .int, 2) := by decide +kernel
theorem dX12_init_303 : decode cX12_init 303 = .ok (.putfield 128, 3) := by decide +kernel
theorem dX12_init_306 : decode cX12_init 306 = .ok (.aload_n 0, 1) := by decide +kernel
theorem dX12_init_307 : decode cX12_init 307 = .ok (.bipush 12, 2) := by decide +kernel
theorem dX12_init_309 : decode cX12_init 309 = .ok (.newarray .int, 2) := by decide +kernel
theorem dX12_init_311 : decode cX12_init 311 = .ok (.putfield 131, 3) := by decide +kernel
theorem dX12_init_314 : decode cX12_init 314 = .ok (.aload_n 0, 1) := by decide +kernel
theorem dX12_init_315 : decode cX12_init 315 = .ok (.bipush 12, 2) := by decide +kernel
theorem dX12_init_317 : decode cX12_init 317 = .ok (.newarray .int, 2) := by decide +kernel
theorem dX12_init_319 : decode cX12_init 319 = .ok (.putfield 134, 3) := by decide +kernel
theorem dX12_init_322 : decode cX12_init 322 = .ok (.aload_n 0, 1) := by decide +kernel
theorem dX12_init_323 : decode cX12_init 323 = .ok (.bipush 12, 2) := by decide +kernel
theorem dX12_init_325 : decode cX12_init 325 = .ok (.newarray .int, 2) := by decide +kernel
theorem dX12_init_327 : decode cX12_init 327 = .ok (.putfield 137, 3) := by decide +kernel
theorem dX12_init_330 : decode cX12_init 330 = .ok (.aload_n 0, 1) := by decide +kernel
theorem dX12_init_331 : decode cX12_init 331 = .ok (.bipush 12, 2) := by decide +kernel
theorem dX12_init_333 : decode cX12_init 333 = .ok (.newarray .int, 2) := by decide +kernel
theorem dX12_init_335 : decode cX12_init 335 = .ok (.putfield 140, 3) := by decide +kernel
theorem dX12_init_338 : decode cX12_init 338 = .ok (.aload_n 0, 1) := by decide +kernel
theorem dX12_init_339 : decode cX12_init 339 = .ok (.sipush 520, 3) := by decide +kernel
theorem dX12_init_342 : decode cX12_init 342 = .ok (.newarray .int, 2) := by decide +kernel
theorem dX12_init_344 : decode cX12_init 344 = .ok (.putfield 143, 3) := by decide +kernel
theorem dX12_init_347 : decode cX12_init 347 = .ok (.aload_n 0, 1) := by decide +kernel
theorem dX12_init_348 : decode cX12_init 348 = .ok (.sipush 520, 3) := by decide +kernel
theorem dX12_init_351 : decode cX12_init 351 = .ok (.newarray .int, 2) := by decide +kernel
theorem dX12_init_353 : decode cX12_init 353 = .ok (.putfield 146, 3) := by decide +kernel
theorem dX12_init_356 : decode cX12_init 356 = .ok (.aload_n 0, 1) := by decide +kernel
theorem dX12_init_357 : decode cX12_init 357 = .ok (.sipush 4000, 3) := by decide +kernel
theorem dX12_init_360 : decode cX12_init 360 = .ok (.newarray .int, 2) := by decide +kernel
theorem dX12_init_362 : decode cX12_init 362 = .ok (.putfield 149, 3) := by decide +kernel
theorem dX12_init_365 : decode cX12_init 365 = .ok (.aload_n 0, 1) := by decide +kernel
theorem dX12_init_366 : decode cX12_init 366 = .ok (.sipush 4000, 3) := by decide +kernel
theorem dX12_init_369 : decode cX12_init 369 = .ok (.newarray .int, 2) := by decide +kernel
theorem dX12_init_371 : decode cX12_init 371 = .ok (.putfield 152, 3) := by decide +kernel
theorem dX12_init_374 : decode cX12_init 374 = .ok (.aload_n 0, 1) := by decide +kernel
theorem dX12_init_375 : decode cX12_init 375 = .ok (.sipush 500, 3) := by decide +kernel
theorem dX12_init_378 : decode cX12_init 378 = .ok (.newarray .int, 2) := by decide +kernel
theorem dX12_init_380 : decode cX12_init 380 = .ok (.putfield 155, 3) := by decide +kernel
theorem dX12_init_383 : decode cX12_init 383 = .ok (.aload_n 0, 1) := by decide +kernel
theorem dX12_init_384 : decode cX12_init 384 = .ok (.sipush 220, 3) := by decide +kernel
theorem dX12_init_387 : decode cX12_init 387 = .ok (.newarray .boolean, 2) := by decide +kernel
theorem dX12_init_389 : decode cX12_init 389 = .ok (.putfield 158, 3) := by decide +kernel
theorem dX12_init_392 : decode cX12_init 392 = .ok (.aload_n 0, 1) := by decide +kernel
theorem dX12_init_393 : decode cX12_init 393 = .ok (.ldc 161, 2) := by decide +kernel
theorem dX12_init_395 : decode cX12_init 395 = .ok (.newarray .boolean, 2) := by decide +kernel
theorem dX12_init_397 : decode cX12_init 397 = .ok (.putfield 162, 3) := by decide +kernel
theorem dX12_init_400 : decode cX12_init 400 = .ok (.aload_n 0, 1) := by decide +kernel
theorem dX12_init_401 : decode cX12_init 401 = .ok (.sipush 3000, 3) := by decide +kernel
theorem dX12_init_404 : decode cX12_init 404 = .ok (.newarray .int, 2) := by decide +kernel
theorem dX12_init_406 : decode cX12_init 406 = .ok (.putfield 165, 3) := by decide +kernel
theorem dX12_init_409 : decode cX12_init 409 = .ok (.aload_n 0, 1) := by decide +kernel
theorem dX12_init_410 : decode cX12_init 410 = .ok (.sipush 220, 3) := by decide +kernel
theorem dX12_init_413 : decode cX12_init 413 = .ok (.newarray .boolean, 2) := by decide +kernel
theorem dX12_init_415 : decode cX12_init 415 = .ok (.putfield 168, 3) := by decide +kernel
theorem dX12_init_418 : decode cX12_init 418 = .ok (.aload_n 0, 1) := by decide +kernel
theorem dX12_init_419 : decode cX12_init 419 = .ok (.iconst 4, 1) := by decide +kernel
theorem dX12_init_420 : decode cX12_init 420 = .ok (.newarray .boolean, 2) := by decide +kernel
theorem dX12_init_422 : decode cX12_init 422 = .ok (.putfield 171, 3) := by decide +kernel
theorem dX12_init_425 : decode cX12_init 425 = .ok (.aload_n 0, 1) := by decide +kernel
theorem dX12_init_426 : decode cX12_init 426 = .ok (.iconst 4, 1) := by decide +kernel
theorem dX12_init_427 : decode cX12_init 427 = .ok (.newarray .int, 2) := by decide +kernel
theorem dX12_init_429 : decode cX12_init 429 = .ok (.putfield 174, 3) := by decide +kernel
theorem dX12_init_432 : decode cX12_init 432 = .ok (.aload_n 0, 1) := by decide +kernel
theorem dX12_init_433 : decode cX12_init 433 = .ok (.sipush 400, 3) := by decide +kernel
theorem dX12_init_436 : decode cX12_init 436 = .ok (.newarray .int, 2) := by decide +kernel
theorem dX12_init_438 : decode cX12_init 438 = .ok (.putfield 177, 3) := by decide +kernel
theorem dX12_init_441 : decode cX12_init 441 = .ok (.aload_n 0, 1) := by decide +kernel
theorem dX12_init_442 : decode cX12_init 442 = .ok (.sipush 3000, 3) := by decide +kernel
theorem dX12_init_445 : decode cX12_init 445 = .ok (.newarray .int, 2) := by decide +kernel
theorem dX12_init_447 : decode cX12_init 447 = .ok (.putfield 180, 3) := by decide +kernel
theorem dX12_init_450 : decode cX12_init 450 = .ok (.aload_n 0, 1) := by decide +kernel
theorem dX12_init_451 : decode cX12_init 451 = .ok (.sipush 3000, 3) := by decide +kernel
theorem dX12_init_454 : decode cX12_init 454 = .ok (.newarray .int, 2) := by decide +kernel
theorem dX12_init_456 : decode cX12_init 456 = .ok (.putfield 183, 3) := by decide +kernel
theorem dX12_init_459 : decode cX12_init 459 = .ok (.aload_n 0, 1) := by decide +kernel
theorem dX12_init_460 : decode cX12_init 460 = .ok (.sipush 3000, 3) := by decide +kernel
theorem dX12_init_463 : decode cX12_init 463 = .ok (.newarray .int, 2) := by decide +kernel
theorem dX12_init_465 : decode cX12_init 465 = .ok (.putfield 186, 3) := by decide +kernel
theorem dX12_init_468 : decode cX12_init 468 = .ok (.aload_n 0, 1) := by decide +kernel
theorem dX12_init_469 : decode cX12_init 469 = .ok (.sipush 3000, 3) := by decide +kernel
theorem dX12_init_472 : decode cX12_init 472 = .ok (.newarray .int, 2) := by decide +kernel
theorem dX12_init_474 : decode cX12_init 474 = .ok (.putfield 189, 3) := by decide +kernel
theorem dX12_init_477 : decode cX12_init 477 = .ok (.aload_n 0, 1) := by decide +kernel
theorem dX12_init_478 : decode cX12_init 478 = .ok (.sipush 6000, 3) := by decide +kernel
theorem dX12_init_481 : decode cX12_init 481 = .ok (.newarray .int, 2) := by decide +kernel
theorem dX12_init_483 : decode cX12_init 483 = .ok (.putfield 192, 3) := by decide +kernel
theorem dX12_init_486 : decode cX12_init 486 = .ok (.aload_n 0, 1) := by decide +kernel
theorem dX12_init_487 : decode cX12_init 487 = .ok (.sipush 6000, 3) := by decide +kernel
theorem dX12_init_490 : decode cX12_init 490 = .ok (.newarray .int, 2) := by decide +kernel
theorem dX12_init_492 : decode cX12_init 492 = .ok (.putfield 195, 3) := by decide +kernel
theorem dX12_init_495 : decode cX12_init 495 = .ok (.aload_n 0, 1) := by decide +kernel
theorem dX12_init_496 : decode cX12_init 496 = .ok (.sipush 6000, 3) := by decide +kernel
theorem dX12_init_499 : decode cX12_init 499 = .ok (.newarray .int, 2) := by decide +kernel
theorem dX12_init_501 : decode cX12_init 501 = .ok (.putfield 198, 3) := by decide +kernel
theorem dX12_init_504 : decode cX12_init 504 = .ok (.aload_n 0, 1) := by decide +kernel
theorem dX12_init_505 : decode cX12_init 505 = .ok (.sipush 260, 3) := by decide +kernel
theorem dX12_init_508 : decode cX12_init 508 = .ok (.newarray .int, 2) := by decide +kernel
theorem dX12_init_510 : decode cX12_init 510 = .ok (.putfield 201, 3) := by decide +kernel
theorem dX12_init_513 : decode cX12_init 513 = .ok (.aload_n 0, 1) := by decide +kernel
theorem dX12_init_514 : decode cX12_init 514 = .ok (.sipush 1130, 3) := by decide +kernel
theorem dX12_init_517 : decode cX12_init 517 = .ok (.newarray .int, 2) := by decide +kernel
theorem dX12_init_519 : decode cX12_init 519 = .ok (.putfield 204, 3) := by decide +kernel
theorem dX12_init_522 : decode cX12_init 522 = .ok (.aload_n 0, 1) := by decide +kernel
theorem dX12_init_523 : decode cX12_init 523 = .ok (.ldc 207, 2) := by decide +kernel
theorem dX12_init_525 : decode cX12_init 525 = .ok (.newarray .int, 2) := by decide +kernel
theorem dX12_init_527 : decode cX12_init 527 = .ok (.putfield 208, 3) := by decide +kernel
theorem dX12_init_530 : decode cX12_init 530 = .ok (.aload_n 0, 1) := by decide +kernel
theorem dX12_init_531 : decode cX12_init 531 = .ok (.ldc 207, 2) := by decide +kernel
theorem dX12_init_533 : decode cX12_init 533 = .ok (.newarray .int, 2) := by decide +kernel
theorem dX12_init_535 : decode cX12_init 535 = .ok (.putfield 211, 3) := by decide +kernel
theorem dX12_init_538 : decode cX12_init 538 = .ok (.aload_n 0, 1) := by decide +kernel
theorem dX12_init_539 : decode cX12_init 539 = .ok (.ldc 214, 2) := by decide +kernel
theorem dX12_init_541 : decode cX12_init 541 = .ok (.newarray .int, 2) := by decide +kernel
theorem dX12_init_543 : decode cX12_init 543 = .ok (.putfield 215, 3) := by decide +kernel
theorem dX12_init_546 : decode cX12_init 546 = .ok (.aload_n 0, 1) := by decide +kernel
theorem dX12_init_547 : decode cX12_init 547 = .ok (.ldc 214, 2) := by decide +kernel
theorem dX12_init_549 : decode cX12_init 549 = .ok (.newarray .int, 2) := by decide +kernel
theorem dX12_init_551 : decode cX12_init 551 = .ok (.putfield 218, 3) := by decide +kernel
theorem dX12_init_554 : decode cX12_init 554 = .ok (.aload_n 0, 1) := by decide +kernel
theorem dX12_init_555 : decode cX12_init 555 = .ok (.ldc 214, 2) := by decide +kernel
theorem dX12_init_557 : decode cX12_init 557 = .ok (.newarray .int, 2) := by decide +kernel
theorem dX12_init_559 : decode cX12_init 559 = .ok (.putfield 221, 3) := by decide +kernel
theorem dX12_init_562 : decode cX12_init 562 = .ok (.aload_n 0, 1) := by decide +kernel
theorem dX12_init_563 : decode cX12_init 563 = .ok (.ldc 214, 2) := by decide +kernel
theorem dX12_init_565 : decode cX12_init 565 = .ok (.newarray .int, 2) := by decide +kernel
theorem dX12_init_567 : decode cX12_init 567 = .ok (.putfield 224, 3) := by decide +kernel
theorem dX12_init_570 : decode cX12_init 570 = .ok (.aload_n 0, 1) := by decide +kernel
theorem dX12_init_571 : decode cX12_init 571 = .ok (.ldc 227, 2) := by decide +kernel
theorem dX12_init_573 : decode cX12_init 573 = .ok (.newarray .int, 2) := by decide +kernel
theorem dX12_init_575 : decode cX12_init 575 = .ok (.putfield 228, 3) := by decide +kernel
theorem dX12_init_578 : decode cX12_init 578 = .ok (.aload_n 0, 1) := by decide +kernel
theorem dX12_init_579 : decode cX12_init 579 = .ok (.bipush 20, 2) := by decide +kernel
theorem dX12_init_581 : decode cX12_init 581 = .ok (.newarray .int, 2) := by decide +kernel
theorem dX12_init_583 : decode cX12_init 583 = .ok (.putfield 231, 3) := by decide +kernel
theorem dX12_init_586 : decode cX12_init 586 = .ok (.aload_n 0, 1) := by decide +kernel
theorem dX12_init_587 : decode cX12_init 587 = .ok (.bipush 20, 2) := by decide +kernel
theorem dX12_init_589 : decode cX12_init 589 = .ok (.newarray .int, 2) := by decide +kernel
theorem dX12_init_591 : decode cX12_init 591 = .ok (.putfield 234, 3) := by decide +kernel
theorem dX12_init_594 : decode cX12_init 594 = .ok (.aload_n 0, 1) := by decide +kernel
theorem dX12_init_595 : decode cX12_init 595 = .ok (.sipush 2100, 3) := by decide +kernel
theorem dX12_init_598 : decode cX12_init 598 = .ok (.newarray .int, 2) := by decide +kernel
theorem dX12_init_600 : decode cX12_init 600 = .ok (.putfield 237, 3) := by decide +kernel
theorem dX12_init_603 : decode cX12_init 603 = .ok (.aload_n 0, 1) := by decide +kernel
theorem dX12_init_604 : decode cX12_init 604 = .ok (.sipush 401, 3) := by decide +kernel
theorem dX12_init_607 : decode cX12_init 607 = .ok (.newarray .int, 2) := by decide +kernel
theorem dX12_init_609 : decode cX12_init 609 = .ok (.putfield 240, 3) := by decide +kernel
theorem dX12_init_612 : decode cX12_init 612 = .ok (.aload_n 0, 1) := by decide +kernel
theorem dX12_init_613 : decode cX12_init 613 = .ok (.bipush 64, 2) := by decide +kernel
theorem dX12_init_615 : decode cX12_init 615 = .ok (.newarray .long, 2) := by decide +kernel
theorem dX12_init_617 : decode cX12_init 617 = .ok (.putfield 243, 3) := by decide +kernel
theorem dX12_init_620 : decode cX12_init 620 = .ok (.aload_n 0, 1) := by decide +kernel
theorem dX12_init_621 : decode cX12_init 621 = .ok (.bipush 64, 2) := by decide +kernel
theorem dX12_init_623 : decode cX12_init 623 = .ok (.newarray .boolean, 2) := by decide +kernel
theorem dX12_init_625 : decode cX12_init 625 = .ok (.putfield 247, 3) := by decide +kernel
theorem dX12_init_628 : decode cX12_init 628 = .ok (.aload_n 0, 1) := by decide +kernel
theorem dX12_init_629 : decode cX12_init 629 = .ok (.sipush 3000, 3) := by decide +kernel
theorem dX12_init_632 : decode cX12_init 632 = .ok (.newarray .int, 2) := by decide +kernel
theorem dX12_init_634 : decode cX12_init 634 = .ok (.putfield 250, 3) := by decide +kernel
theorem dX12_init_637 : decode cX12_init 637 = .ok (.aload_n 0, 1) := by decide +kernel
theorem dX12_init_638 : decode cX12_init 638 = .ok (.bipush 64, 2) := by decide +kernel
theorem dX12_init_640 : decode cX12_init 640 = .ok (.newarray .int, 2) := by decide +kernel
theorem dX12_init_642 : decode cX12_init 642 = .ok (.putfield 253, 3) := by decide +kernel
theorem dX12_init_645 : decode cX12_init 645 = .ok (.aload_n 0, 1) := by decide +kernel
theorem dX12_init_646 : decode cX12_init 646 = .ok (.sipush 3000, 3) := by decide +kernel
theorem dX12_init_649 : decode cX12_init 649 = .ok (.newarray .boolean, 2) := by decide +kernel
theorem dX12_init_651 : decode cX12_init 651 = .ok (.putfield 256, 3) := by decide +kernel
theorem dX12_init_654 : decode cX12_init 654 = .ok (.aload_n 0, 1) := by decide +kernel
theorem dX12_init_655 : decode cX12_init 655 = .ok (.sipush 6100, 3) := by decide +kernel
theorem dX12_init_658 : decode cX12_init 658 = .ok (.newarray .int, 2) := by decide +kernel
theorem dX12_init_660 : decode cX12_init 660 = .ok (.putfield 259, 3) := by decide +kernel
theorem dX12_init_663 : decode cX12_init 663 = .ok (.aload_n 0, 1) := by decide +kernel
theorem dX12_init_664 : decode cX12_init 664 = .ok (.iconst 2, 1) := by decide +kernel
theorem dX12_init_665 : decode cX12_init 665 = .ok (.newarray .int, 2) := by decide +kernel
theorem dX12_init_667 : decode cX12_init 667 = .ok (.putfield 262, 3) := by decide +kernel
theorem dX12_init_670 : decode cX12_init 670 = .ok (.aload_n 0, 1) := by decide +kernel
theorem dX12_init_671 : decode cX12_init 671 = .ok (.bipush 122, 2) := by decide +kernel
theorem dX12_init_673 : decode cX12_init 673 = .ok (.newarray .long, 2) := by decide +kernel
theorem dX12_init_675 : decode cX12_init 675 = .ok (.putfield 265, 3) := by decide +kernel
theorem dX12_init_678 : decode cX12_init 678 = .ok (.aload_n 0, 1) := by decide +kernel
theorem dX12_init_679 : decode cX12_init 679 = .ok (.bipush 122, 2) := by decide +kernel
theorem dX12_init_681 : decode cX12_init 681 = .ok (.newarray .boolean, 2) := by decide +kernel
theorem dX12_init_683 : decode cX12_init 683 = .ok (.putfield 268, 3) := by decide +kernel
theorem dX12_init_686 : decode cX12_init 686 = .ok (.aload_n 0, 1) := by decide +kernel
theorem dX12_init_687 : decode cX12_init 687 = .ok (.bipush 122, 2) := by decide +kernel
theorem dX12_init_689 : decode cX12_init 689 = .ok (.newarray .boolean, 2) := by decide +kernel
theorem dX12_init_691 : decode cX12_init 691 = .ok (.putfield 271, 3) := by decide +kernel
theorem dX12_init_694 : decode cX12_init 694 = .ok (.aload_n 0, 1) := by decide +kernel
theorem dX12_init_695 : decode cX12_init 695 = .ok (.iconst 2, 1) := by decide +kernel
theorem dX12_init_696 : decode cX12_init 696 = .ok (.newarray .int, 2) := by decide +kernel
theorem dX12_init_698 : decode cX12_init 698 = .ok (.putfield 274, 3) := by decide +kernel
theorem dX12_init_701 : decode cX12_init 701 = .ok (.aload_n 0, 1) := by decide +kernel
theorem dX12_init_702 : decode cX12_init 702 = .ok (.sipush 1000, 3) := by decide +kernel
theorem dX12_init_705 : decode cX12_init 705 = .ok (.newarray .long, 2) := by decide +kernel
theorem dX12_init_707 : decode cX12_init 707 = .ok (.putfield 277, 3) := by decide +kernel
theorem dX12_init_710 : decode cX12_init 710 = .ok (.aload_n 0, 1) := by decide +kernel
theorem dX12_init_711 : decode cX12_init 711 = .ok (.sipush 6000, 3) := by decide +kernel
theorem dX12_init_714 : decode cX12_init 714 = .ok (.newarray .int, 2) := by decide +kernel
theorem dX12_init_716 : decode cX12_init 716 = .ok (.putfield 280, 3) := by decide +kernel
theorem dX12_init_719 : decode cX12_init 719 = .ok (.aload_n 0, 1) := by decide +kernel
theorem dX12_init_720 : decode cX12_init 720 = .ok (.ldc_w 283, 3) := by decide +kernel
theorem dX12_init_723 : decode cX12_init 723 = .ok (.newarray .int, 2) := by decide +kernel
theorem dX12_init_725 : decode cX12_init 725 = .ok (.putfield 284, 3) := by decide +kernel
theorem dX12_init_728 : decode cX12_init 728 = .ok (.aload_n 0, 1) := by decide +kernel
theorem dX12_init_729 : decode cX12_init 729 = .ok (.bipush 61, 2) := by decide +kernel
theorem dX12_init_731 : decode cX12_init 731 = .ok (.newarray .int, 2) := by decide +kernel
theorem dX12_init_733 : decode cX12_init 733 = .ok (.putfield 287, 3) := by decide +kernel
theorem dX12_init_736 : decode cX12_init 736 = .ok (.aload_n 0, 1) := by decide +kernel
theorem dX12_init_737 : decode cX12_init 737 = .ok (.bipush 61, 2) := by decide +kernel
theorem dX12_init_739 : decode cX12_init 739 = .ok (.newarray .int, 2) := by decide +kernel
theorem dX12_init_741 : decode cX12_init 741 = .ok (.putfield 290, 3) := by decide +kernel
theorem dX12_init_744 : decode cX12_init 744 = .ok (.aload_n 0, 1) := by decide +kernel
theorem dX12_init_745 : decode cX12_init 745 = .ok (.sipush 3800, 3) := by decide +kernel
theorem dX12_init_748 : decode cX12_init 748 = .ok (.newarray .int, 2) := by decide +kernel
theorem dX12_init_750 : decode cX12_init 750 = .ok (.putfield 293, 3) := by decide +kernel
theorem dX12_init_753 : decode cX12_init 753 = .ok (.aload_n 0, 1) := by decide +kernel
theorem dX12_init_754 : decode cX12_init 754 = .ok (.sipush 3800, 3) := by decide +kernel
theorem dX12_init_757 : decode cX12_init 757 = .ok (.newarray .int, 2) := by decide +kernel
theorem dX12_init_759 : decode cX12_init 759 = .ok (.putfield 296, 3) := by decide +kernel
theorem dX12_init_762 : decode cX12_init 762 = .ok (.aload_n 0, 1) := by decide +kernel
theorem dX12_init_763 : decode cX12_init 763 = .ok (.sipush 3800, 3) := by decide +kernel
theorem dX12_init_766 : decode cX12_init 766 = .ok (.newarray .int, 2) := by decide +kernel
theorem dX12_init_768 : decode cX12_init 768 = .ok (.putfield 299, 3) := by decide +kernel
theorem dX12_init_771 : decode cX12_init 771 = .ok (.aload_n 0, 1) := by decide +kernel
theorem dX12_init_772 : decode cX12_init 772 = .ok (.sipush 3800, 3) := by decide +kernel
theorem dX12_init_775 : decode cX12_init 775 = .ok (.newarray .int, 2) := by decide +kernel
theorem dX12_init_777 : decode cX12_init 777 = .ok (.putfield 302, 3) := by decide +kernel
theorem dX12_init_780 : decode cX12_init 780 = .ok (.aload_n 0, 1) := by decide +kernel
theorem dX12_init_781 : decode cX12_init 781 = .ok (.sipush 3800, 3) := by decide +kernel
theorem dX12_init_784 : decode cX12_init 784 = .ok (.newarray .boolean, 2) := by decide +kernel
theorem dX12_init_786 : decode cX12_init 786 = .ok (.putfield 305, 3) := by decide +kernel
theorem dX12_init_789 : decode cX12_init 789 = .ok (.aload_n 0, 1) := by decide +kernel
theorem dX12_init_790 : decode cX12_init 790 = .ok (.sipush 3000, 3) := by decide +kernel
theorem dX12_init_793 : decode cX12_init 793 = .ok (.newarray .int, 2) := by decide +kernel
theorem dX12_init_795 : decode cX12_init 795 = .ok (.putfield 308, 3) := by decide +kernel
theorem dX12_init_798 : decode cX12_init 798 = .ok (.aload_n 0, 1) := by decide +kernel
theorem dX12_init_799 : decode cX12_init 799 = .ok (.sipush 3000, 3) := by decide +kernel
theorem dX12_init_802 : decode cX12_init 802 = .ok (.newarray .int, 2) := by decide +kernel
theorem dX12_init_804 : decode cX12_init 804 = .ok (.putfield 311, 3) := by decide +kernel
theorem dX12_init_807 : decode cX12_init 807 = .ok (.aload_n 0, 1) := by decide +kernel
theorem dX12_init_808 : decode cX12_init 808 = .ok (.sipush 3000, 3) := by decide +kernel
theorem dX12_init_811 : decode cX12_init 811 = .ok (.newarray .int, 2) := by decide +kernel
theorem dX12_init_813 : decode cX12_init 813 = .ok (.putfield 314, 3) := by decide +kernel
theorem dX12_init_816 : decode cX12_init 816 = .ok (.return_, 1) := by decide +kernel
theorem dX1_init_0 : decode cX1_init 0 = .ok (.aload_n 0, 1) := by decide +kernel
theorem dX1_init_1 : decode cX1_init 1 = .ok (.invokespecial 3, 3) := by decide +kernel
theorem dX1_init_4 : decode cX1_init 4 = .ok (.aload_n 0, 1) := by decide +kernel
theorem dX1_init_5 : decode cX1_init 5 = .ok (.new 9, 3) := by decide +kernel
theorem dX1_init_8 : decode cX1_init 8 = .ok (.dup, 1) := by decide +kernel
theorem dX1_init_9 : decode cX1_init 9 = .ok (.iconst 0, 1) := by decide +kernel
theorem dX1_init_10 : decode cX1_init 10 = .ok (.iconst 0, 1) := by decide +kernel
theorem dX1_init_11 : decode cX1_init 11 = .ok (.invokespecial 11, 3) := by decide +kernel
theorem dX1_init_14 : decode cX1_init 14 = .ok (.putfield 14, 3) := by decide +kernel
theorem dX1_init_17 : decode cX1_init 17 = .ok (.aload_n 0, 1) := by decide +kernel
theorem dX1_init_18 : decode cX1_init 18 = .ok (.new 20, 3) := by decide +kernel
theorem dX1_init_21 : decode cX1_init 21 = .ok (.dup, 1) := by decide +kernel
theorem dX1_init_22 : decode cX1_init 22 = .ok (.iconst 0, 1) := by decide +kernel
theorem dX1_init_23 : decode cX1_init 23 = .ok (.invokespecial 22, 3) := by decide +kernel
theorem dX1_init_26 : decode cX1_init 26 = .ok (.putfield 25, 3) := by decide +kernel
theorem dX1_init_29 : decode cX1_init 29 = .ok (.aload_n 0, 1) := by decide +kernel
theorem dX1_init_30 : decode cX1_init 30 = .ok (.sipush 266, 3) := by decide +kernel
theorem dX1_init_33 : decode cX1_init 33 = .ok (.newarray .int, 2) := by decide +kernel
theorem dX1_init_35 : decode cX1_init 35 = .ok (.putfield 29, 3) := by decide +kernel
theorem dX1_init_38 : decode cX1_init 38 = .ok (.aload_n 0, 1) := by decide +kernel
theorem dX1_init_39 : decode cX1_init 39 = .ok (.sipush 256, 3) := by decide +kernel
theorem dX1_init_42 : decode cX1_init 42 = .ok (.newarray .int, 2) := by decide +kernel
theorem dX1_init_44 : decode cX1_init 44 = .ok (.putfield 33, 3) := by decide +kernel
theorem dX1_init_47 : decode cX1_init 47 = .ok (.aload_n 0, 1) := by decide +kernel
theorem dX1_init_48 : decode cX1_init 48 = .ok (.sipush 256, 3) := by decide +kernel
theorem dX1_init_51 : decode cX1_init 51 = .ok (.newarray .int, 2) := by decide +kernel
theorem dX1_init_53 : decode cX1_init 53 = .ok (.putfield 36, 3) := by decide +kernel
theorem dX1_init_56 : decode cX1_init 56 = .ok (.aload_n 0, 1) := by decide +kernel
theorem dX1_init_57 : decode cX1_init 57 = .ok (.sipush 256, 3) := by decide +kernel
theorem dX1_init_60 : decode cX1_init 60 = .ok (.newarray .int, 2) := by decide +kernel
theorem dX1_init_62 : decode cX1_init 62 = .ok (.putfield 39, 3) := by decide +kernel
theorem dX1_init_65 : decode cX1_init 65 = .ok (.aload_n 0, 1) := by decide +kernel
theorem dX1_init_66 : decode cX1_init 66 = .ok (.sipush 1024, 3) := by decide +kernel
theorem dX1_init_69 : decode cX1_init 69 = .ok (.newarray .int, 2) := by decide +kernel
theorem dX1_init_71 : decode cX1_init 71 = .ok (.putfield 42, 3) := by decide +kernel
theorem dX1_init_74 : decode cX1_init 74 = .ok (.aload_n 0, 1) := by decide +kernel
theorem dX1_init_75 : decode cX1_init 75 = .ok (.sipush 1024, 3) := by decide +kernel
theorem dX1_init_78 : decode cX1_init 78 = .ok (.newarray .int, 2) := by decide +kernel
theorem dX1_init_80 : decode cX1_init 80 = .ok (.putfield 45, 3) := by decide +kernel
theorem dX1_init_83 : decode cX1_init 83 = .ok (.aload_n 0, 1) := by decide +kernel
theorem dX1_init_84 : decode cX1_init 84 = .ok (.sipush 1024, 3) := by decide +kernel
theorem dX1_init_87 : decode cX1_init 87 = .ok (.newarray .int, 2) := by decide +kernel
theorem dX1_init_89 : decode cX1_init 89 = .ok (.putfield 48, 3) := by decide +kernel
theorem dX1_init_92 : decode cX1_init 92 = .ok (.return_, 1) := by decide +kernel
theorem dX2_init_0 : decode cX2_init 0 = .ok (.aload_n 0, 1) := by decide +kernel
theorem dX2_init_1 : decode cX2_init 1 = .ok (.invokespecial 3, 3) := by decide +kernel
theorem dX2_init_4 : decode cX2_init 4 = .ok (.return_, 1) := by decide +kernel
theorem dX3_init_0 : decode cX3_init 0 = .ok (.aload_n 0, 1) := by decide +kernel
theorem dX3_init_1 : decode cX3_init 1 = .ok (.invokespecial 5, 3) := by decide +kernel
theorem dX3_init_4 : decode cX3_init 4 = .ok (.aload_n 0, 1) := by decide +kernel
theorem dX3_init_5 : decode cX3_init 5 = .ok (.new 11, 3) := by decide +kernel
theorem dX3_init_8 : decode cX3_init 8 = .ok (.dup, 1) := by decide +kernel
theorem dX3_init_9 : decode cX3_init 9 = .ok (.invokespecial 13, 3) := by decide +kernel
theorem dX3_init_12 : decode cX3_init 12 = .ok (.putfield 14, 3) := by decide +kernel
theorem dX3_init_15 : decode cX3_init 15 = .ok (.aload_n 0, 1) := by decide +kernel
theorem dX3_init_16 : decode cX3_init 16 = .ok (.new 18, 3) := by decide +kernel
theorem dX3_init_19 : decode cX3_init 19 = .ok (.dup, 1) := by decide +kernel
theorem dX3_init_20 : decode cX3_init 20 = .ok (.iconst 0, 1) := by decide +kernel
theorem dX3_init_21 : decode cX3_init 21 = .ok (.invokespecial 20, 3) := by decide +kernel
theorem dX3_init_24 : decode cX3_init 24 = .ok (.putfield 23, 3) := by decide +kernel
theorem dX3_init_27 : decode cX3_init 27 = .ok (.aload_n 0, 1) := by decide +kernel
theorem dX3_init_28 : decode cX3_init 28 = .ok (.iconst 4, 1) := by decide +kernel
theorem dX3_init_29 : decode cX3_init 29 = .ok (.newarray .boolean, 2) := by decide +kernel
theorem dX3_init_31 : decode cX3_init 31 = .ok (.putfield 27, 3) := by decide +kernel
theorem dX3_init_34 : decode cX3_init 34 = .ok (.aload_n 0, 1) := by decide +kernel
theorem dX3_init_35 : decode cX3_init 35 = .ok (.sipush 256, 3) := by decide +kernel
theorem dX3_init_38 : decode cX3_init 38 = .ok (.newarray .int, 2) := by decide +kernel
theorem dX3_init_40 : decode cX3_init 40 = .ok (.putfield 31, 3) := by decide +kernel
theorem dX3_init_43 : decode cX3_init 43 = .ok (.aload_n 0, 1) := by decide +kernel
theorem dX3_init_44 : decode cX3_init 44 = .ok (.sipush 5120, 3) := by decide +kernel
theorem dX3_init_47 : decode cX3_init 47 = .ok (.newarray .int, 2) := by decide +kernel
theorem dX3_init_49 : decode cX3_init 49 = .ok (.putfield 35, 3) := by decide +kernel
theorem dX3_init_52 : decode cX3_init 52 = .ok (.aload_n 0, 1) := by decide +kernel
theorem dX3_init_53 : decode cX3_init 53 = .ok (.sipush 256, 3) := by decide +kernel
theorem dX3_init_56 : decode cX3_init 56 = .ok (.newarray .int, 2) := by decide +kernel
theorem dX3_init_58 : decode cX3_init 58 = .ok (.putfield 38, 3) := by decide +kernel
theorem dX3_init_61 : decode cX3_init 61 = .ok (.aload_n 0, 1) := by decide +kernel
theorem dX3_init_62 : decode cX3_init 62 = .ok (.sipush 5120, 3) := by decide +kernel
theorem dX3_init_65 : decode cX3_init 65 = .ok (.newarray .int, 2) := by decide +kernel
theorem dX3_init_67 : decode cX3_init 67 = .ok (.putfield 41, 3) := by decide +kernel
theorem dX3_init_70 : decode cX3_init 70 = .ok (.aload_n 0, 1) := by decide +kernel
theorem dX3_init_71 : decode cX3_init 71 = .ok (.sipush 5632, 3) := by decide +kernel
theorem dX3_init_74 : decode cX3_init 74 = .ok (.newarray .int, 2) := by decide +kernel
theorem dX3_init_76 : decode cX3_init 76 = .ok (.putfield 44, 3) := by decide +kernel
theorem dX3_init_79 : decode cX3_init 79 = .ok (.aload_n 0, 1) := by decide +kernel
theorem dX3_init_80 : decode cX3_init 80 = .ok (.sipush 512, 3) := by decide +kernel
theorem dX3_init_83 : decode cX3_init 83 = .ok (.newarray .int, 2) := by decide +kernel
theorem dX3_init_85 : decode cX3_init 85 = .ok (.putfield 47, 3) := by decide +kernel
theorem dX3_init_88 : decode cX3_init 88 = .ok (.aload_n 0, 1) := by decide +kernel
theorem dX3_init_89 : decode cX3_init 89 = .ok (.bipush 20, 2) := by decide +kernel
theorem dX3_init_91 : decode cX3_init 91 = .ok (.newarray .int, 2) := by decide +kernel
theorem dX3_init_93 : decode cX3_init 93 = .ok (.putfield 50, 3) := by decide +kernel
theorem dX3_init_96 : decode cX3_init 96 = .ok (.aload_n 0, 1) := by decide +kernel
theorem dX3_init_97 : decode cX3_init 97 = .ok (.sipush 11266, 3) := by decide +kernel
theorem dX3_init_100 : decode cX3_init 100 = .ok (.newarray .int, 2) := by decide +kernel
theorem dX3_init_102 : decode cX3_init 102 = .ok (.putfield 53, 3) := by decide +kernel
theorem dX3_init_105 : decode cX3_init 105 = .ok (.aload_n 0, 1) := by decide +kernel
theorem dX3_init_106 : decode cX3_init 106 = .ok (.sipush 11266, 3) := by decide +kernel
theorem dX3_init_109 : decode cX3_init 109 = .ok (.newarray .int, 2) := by decide +kernel
theorem dX3_init_111 : decode cX3_init 111 = .ok (.putfield 56, 3) := by decide +kernel
theorem dX3_init_114 : decode cX3_init 114 = .ok (.return_, 1) := by decide +kernel
theorem dX4_init_0 : decode cX4_init 0 = .ok (.aload_n 0, 1) := by decide +kernel
theorem dX4_init_1 : decode cX4_init 1 = .ok (.invokespecial 3, 3) := by decide +kernel
theorem dX4_init_4 : decode cX4_init 4 = .ok (.aload_n 0, 1) := by decide +kernel
theorem dX4_init_5 : decode cX4_init 5 = .ok (.new 9, 3) := by decide +kernel
theorem dX4_init_8 : decode cX4_init 8 = .ok (.dup, 1) := by decide +kernel
theorem dX4_init_9 : decode cX4_init 9 = .ok (.iconst 0, 1) := by decide +kernel
theorem dX4_init_10 : decode cX4_init 10 = .ok (.invokespecial 11, 3) := by decide +kernel
theorem dX4_init_13 : decode cX4_init 13 = .ok (.putfield 14, 3) := by decide +kernel
theorem dX4_init_16 : decode cX4_init 16 = .ok (.return_, 1) := by decide +kernel
theorem dX5_init_0 : decode cX5_init 0 = .ok (.aload_n 0, 1) := by decide +kernel
theorem dX5_init_1 : decode cX5_init 1 = .ok (.invokespecial 3, 3) := by decide +kernel
theorem dX5_init_4 : decode cX5_init 4 = .ok (.aload_n 0, 1) := by decide +kernel
theorem dX5_init_5 : decode cX5_init 5 = .ok (.new 9, 3) := by decide +kernel
theorem dX5_init_8 : decode cX5_init 8 = .ok (.dup, 1) := by decide +kernel
theorem dX5_init_9 : decode cX5_init 9 = .ok (.iconst 0, 1) := by decide +kernel
theorem dX5_init_10 : decode cX5_init 10 = .ok (.iconst 0, 1) := by decide +kernel
theorem dX5_init_11 : decode cX5_init 11 = .ok (.invokespecial 11, 3) := by decide +kernel
theorem dX5_init_14 : decode cX5_init 14 = .ok (.putfield 14, 3) := by decide +kernel
theorem dX5_init_17 : decode cX5_init 17 = .ok (.aload_n 0, 1) := by decide +kernel
theorem dX5_init_18 : decode cX5_init 18 = .ok (.sipush 512, 3) := by decide +kernel
theorem dX5_init_21 : decode cX5_init 21 = .ok (.newarray .int, 2) := by decide +kernel
theorem dX5_init_23 : decode cX5_init 23 = .ok (.putfield 20, 3) := by decide +kernel
theorem dX5_init_26 : decode cX5_init 26 = .ok (.aload_n 0, 1) := by decide +kernel
theorem dX5_init_27 : decode cX5_init 27 = .ok (.sipush 512, 3) := by decide +kernel
theorem dX5_init_30 : decode cX5_init 30 = .ok (.newarray .int, 2) := by decide +kernel
theorem dX5_init_32 : decode cX5_init 32 = .ok (.putfield 24, 3) := by decide +kernel
theorem dX5_init_35 : decode cX5_init 35 = .ok (.aload_n 0, 1) := by decide +kernel
theorem dX5_init_36 : decode cX5_init 36 = .ok (.sipush 512, 3) := by decide +kernel
theorem dX5_init_39 : decode cX5_init 39 = .ok (.newarray .int, 2) := by decide +kernel
theorem dX5_init_41 : decode cX5_init 41 = .ok (.putfield 27, 3) := by decide +kernel
theorem dX5_init_44 : decode cX5_init 44 = .ok (.aload_n 0, 1) := by decide +kernel
theorem dX5_init_45 : decode cX5_init 45 = .ok (.sipush 512, 3) := by decide +kernel
theorem dX5_init_48 : decode cX5_init 48 = .ok (.newarray .int, 2) := by decide +kernel
theorem dX5_init_50 : decode cX5_init 50 = .ok (.putfield 30, 3) := by decide +kernel
theorem dX5_init_53 : decode cX5_init 53 = .ok (.return_, 1) := by decide +kernel
theorem dX6_init_0 : decode cX6_init 0 = .ok (.aload_n 0, 1) := by decide +kernel
theorem dX6_init_1 : decode cX6_init 1 = .ok (.invokespecial 3, 3) := by decide +kernel
theorem dX6_init_4 : decode cX6_init 4 = .ok (.aload_n 0, 1) := by decide +kernel
theorem dX6_init_5 : decode cX6_init 5 = .ok (.sipush 256, 3) := by decide +kernel
theorem dX6_init_8 : decode cX6_init 8 = .ok (.newarray .int, 2) := by decide +kernel
theorem dX6_init_10 : decode cX6_init 10 = .ok (.putfield 9, 3) := by decide +kernel
theorem dX6_init_13 : decode cX6_init 13 = .ok (.aload_n 0, 1) := by decide +kernel
theorem dX6_init_14 : decode cX6_init 14 = .ok (.sipush 256, 3) := by decide +kernel
theorem dX6_init_17 : decode cX6_init 17 = .ok (.newarray .int, 2) := by decide +kernel
theorem dX6_init_19 : decode cX6_init 19 = .ok (.putfield 15, 3) := by decide +kernel
theorem dX6_init_22 : decode cX6_init 22 = .ok (.aload_n 0, 1) := by decide +kernel
theorem dX6_init_23 : decode cX6_init 23 = .ok (.sipush 256, 3) := by decide +kernel
theorem dX6_init_26 : decode cX6_init 26 = .ok (.newarray .int, 2) := by decide +kernel
theorem dX6_init_28 : decode cX6_init 28 = .ok (.putfield 18, 3) := by decide +kernel
theorem dX6_init_31 : decode cX6_init 31 = .ok (.aload_n 0, 1) := by decide +kernel
theorem dX6_init_32 : decode cX6_init 32 = .ok (.sipush 256, 3) := by decide +kernel
theorem dX6_init_35 : decode cX6_init 35 = .ok (.newarray .int, 2) := by decide +kernel
theorem dX6_init_37 : decode cX6_init 37 = .ok (.putfield 21, 3) := by decide +kernel
theorem dX6_init_40 : decode cX6_init 40 = .ok (.aload_n 0, 1) := by decide +kernel
theorem dX6_init_41 : decode cX6_init 41 = .ok (.sipush 256, 3) := by decide +kernel
theorem dX6_init_44 : decode cX6_init 44 = .ok (.newarray .int, 2) := by decide +kernel
theorem dX6_init_46 : decode cX6_init 46 = .ok (.putfield 24, 3) := by decide +kernel
theorem dX6_init_49 : decode cX6_init 49 = .ok (.aload_n 0, 1) := by decide +kernel
theorem dX6_init_50 : decode cX6_init 50 = .ok (.sipush 256, 3) := by decide +kernel
theorem dX6_init_53 : decode cX6_init 53 = .ok (.newarray .int, 2) := by decide +kernel
theorem dX6_init_55 : decode cX6_init 55 = .ok (.putfield 27, 3) := by decide +kernel
theorem dX6_init_58 : decode cX6_init 58 = .ok (.aload_n 0, 1) := by decide +kernel
theorem dX6_init_59 : decode cX6_init 59 = .ok (.bipush 10, 2) := by decide +kernel
theorem dX6_init_61 : decode cX6_init 61 = .ok (.anewarray 30, 3) := by decide +kernel
theorem dX6_init_64 : decode cX6_init 64 = .ok (.putfield 32, 3) := by decide +kernel
theorem dX6_init_67 : decode cX6_init 67 = .ok (.aload_n 0, 1) := by decide +kernel
theorem dX6_init_68 : decode cX6_init 68 = .ok (.new 36, 3) := by decide +kernel
theorem dX6_init_71 : decode cX6_init 71 = .ok (.dup, 1) := by decide +kernel
theorem dX6_init_72 : decode cX6_init 72 = .ok (.iconst 0, 1) := by decide +kernel
theorem dX6_init_73 : decode cX6_init 73 = .ok (.invokespecial 38, 3) := by decide +kernel
theorem dX6_init_76 : decode cX6_init 76 = .ok (.putfield 41, 3) := by decide +kernel
theorem dX6_init_79 : decode cX6_init 79 = .ok (.aload_n 0, 1) := by decide +kernel
theorem dX6_init_80 : decode cX6_init 80 = .ok (.new 45, 3) := by decide +kernel
theorem dX6_init_83 : decode cX6_init 83 = .ok (.dup, 1) := by decide +kernel
theorem dX6_init_84 : decode cX6_init 84 = .ok (.sipush 256, 3) := by decide +kernel
theorem dX6_init_87 : decode cX6_init 87 = .ok (.sipush 512, 3) := by decide +kernel
theorem dX6_init_90 : decode cX6_init 90 = .ok (.invokespecial 47, 3) := by decide +kernel
theorem dX6_init_93 : decode cX6_init 93 = .ok (.putfield 50, 3) := by decide +kernel
theorem dX6_init_96 : decode cX6_init 96 = .ok (.aload_n 0, 1) := by decide +kernel
theorem dX6_init_97 : decode cX6_init 97 = .ok (.bipush 26, 2) := by decide +kernel
theorem dX6_init_99 : decode cX6_init 99 = .ok (.newarray .int, 2) := by decide +kernel
theorem dX6_init_101 : decode cX6_init 101 = .ok (.putfield 54, 3) := by decide +kernel
theorem dX6_init_104 : decode cX6_init 104 = .ok (.aload_n 0, 1) := by decide +kernel
theorem dX6_init_105 : decode cX6_init 105 = .ok (.sipush 200, 3) := by decide +kernel
theorem dX6_init_108 : decode cX6_init 108 = .ok (.newarray .int, 2) := by decide +kernel
theorem dX6_init_110 : decode cX6_init 110 = .ok (.putfield 57, 3) := by decide +kernel
theorem dX6_init_113 : decode cX6_init 113 = .ok (.aload_n 0, 1) := by decide +kernel
theorem dX6_init_114 : decode cX6_init 114 = .ok (.sipush 200, 3) := by decide +kernel
theorem dX6_init_117 : decode cX6_init 117 = .ok (.newarray .int, 2) := by decide +kernel
theorem dX6_init_119 : decode cX6_init 119 = .ok (.putfield 60, 3) := by decide +kernel
theorem dX6_init_122 : decode cX6_init 122 = .ok (.iconst 0, 1) := by decide +kernel
theorem dX6_init_123 : decode cX6_init 123 = .ok (.istore_n 1, 1) := by decide +kernel
theorem dX6_init_124 : decode cX6_init 124 = .ok (.iload_n 1, 1) := by decide +kernel
theorem dX6_init_125 : decode cX6_init 125 = .ok (.aload_n 0, 1) := by decide +kernel
theorem dX6_init_126 : decode cX6_init 126 = .ok (.getfield 32, 3) := by decide +kernel
theorem dX6_init_129 : decode cX6_init 129 = .ok (.arraylength, 1) := by decide +kernel
theorem dX6_init_130 : decode cX6_init 130 = .ok (.if_icmp .ge 22, 3) := by decide +kernel
theorem dX6_init_133 : decode cX6_init 133 = .ok (.aload_n 0, 1) := by decide +kernel
theorem dX6_init_134 : decode cX6_init 134 = .ok (.getfield 32, 3) := by decide +kernel
theorem dX6_init_137 : decode cX6_init 137 = .ok (.iload_n 1, 1) := by decide +kernel
theorem dX6_init_138 : decode cX6_init 138 = .ok (.new 30, 3) := by decide +kernel
theorem dX6_init_141 : decode cX6_init 141 = .ok (.dup, 1) := by decide +kernel
theorem dX6_init_142 : decode cX6_init 142 = .ok (.invokespecial 63, 3) := by decide +kernel
theorem dX6_init_145 : decode cX6_init 145 = .ok (.aastore, 1) := by decide +kernel
theorem dX6_init_146 : decode cX6_init 146 = .ok (.iinc 1 1, 3) := by decide +kernel
theorem dX6_init_149 : decode cX6_init 149 = .ok (.goto (-25), 3) := by decide +kernel
theorem dX6_init_152 : decode cX6_init 152 = .ok (.return_, 1) := by decide +kernel
theorem dX7_init_0 : decode cX7_init 0 = .ok (.aload_n 0, 1) := by decide +kernel
theorem dX7_init_1 : decode cX7_init 1 = .ok (.invokespecial 3, 3) := by decide +kernel
theorem dX7_init_4 : decode cX7_init 4 = .ok (.aload_n 0, 1) := by decide +kernel
theorem dX7_init_5 : decode cX7_init 5 = .ok (.iload_n 1, 1) := by decide +kernel
theorem dX7_init_6 : decode cX7_init 6 = .ok (.iconst 0, 1) := by decide +kernel
theorem dX7_init_7 : decode cX7_init 7 = .ok (.invokestatic 9, 3) := by decide +kernel
theorem dX7_init_10 : decode cX7_init 10 = .ok (.newarray .int, 2) := by decide +kernel
theorem dX7_init_12 : decode cX7_init 12 = .ok (.putfield 15, 3) := by decide +kernel
theorem dX7_init_15 : decode cX7_init 15 = .ok (.return_, 1) := by decide +kernel
theorem dX8_init_0 : decode cX8_init 0 = .ok (.aload_n 0, 1) := by decide +kernel
theorem dX8_init_1 : decode cX8_init 1 = .ok (.invokespecial 3, 3) := by decide +kernel
theorem dX8_init_4 : decode cX8_init 4 = .ok (.aload_n 0, 1) := by decide +kernel
theorem dX8_init_5 : decode cX8_init 5 = .ok (.new 9, 3) := by decide +kernel
theorem dX8_init_8 : decode cX8_init 8 = .ok (.dup, 1) := by decide +kernel
theorem dX8_init_9 : decode cX8_init 9 = .ok (.invokespecial 11, 3) := by decide +kernel
theorem dX8_init_12 : decode cX8_init 12 = .ok (.putfield 12, 3) := by decide +kernel
theorem dX8_init_15 : decode cX8_init 15 = .ok (.aload_n 0, 1) := by decide +kernel
theorem dX8_init_16 : decode cX8_init 16 = .ok (.new 18, 3) := by decide +kernel
theorem dX8_init_19 : decode cX8_init 19 = .ok (.dup, 1) := by decide +kernel
theorem dX8_init_20 : decode cX8_init 20 = .ok (.invokespecial 20, 3) := by decide +kernel
theorem dX8_init_23 : decode cX8_init 23 = .ok (.putfield 21, 3) := by decide +kernel
theorem dX8_init_26 : decode cX8_init 26 = .ok (.aload_n 0, 1) := by decide +kernel
theorem dX8_init_27 : decode cX8_init 27 = .ok (.new 18, 3) := by decide +kernel
theorem dX8_init_30 : decode cX8_init 30 = .ok (.dup, 1) := by decide +kernel
theorem dX8_init_31 : decode cX8_init 31 = .ok (.invokespecial 20, 3) := by decide +kernel
theorem dX8_init_34 : decode cX8_init 34 = .ok (.putfield 25, 3) := by decide +kernel
theorem dX8_init_37 : decode cX8_init 37 = .ok (.aload_n 0, 1) := by decide +kernel
theorem dX8_init_38 : decode cX8_init 38 = .ok (.sipush 3600, 3) := by decide +kernel
theorem dX8_init_41 : decode cX8_init 41 = .ok (.newarray .int, 2) := by decide +kernel
theorem dX8_init_43 : decode cX8_init 43 = .ok (.putfield 28, 3) := by decide +kernel
theorem dX8_init_46 : decode cX8_init 46 = .ok (.aload_n 0, 1) := by decide +kernel
theorem dX8_init_47 : decode cX8_init 47 = .ok (.sipush 3600, 3) := by decide +kernel
theorem dX8_init_50 : decode cX8_init 50 = .ok (.newarray .int, 2) := by decide +kernel
theorem dX8_init_52 : decode cX8_init 52 = .ok (.putfield 32, 3) := by decide +kernel
theorem dX8_init_55 : decode cX8_init 55 = .ok (.aload_n 0, 1) := by decide +kernel
theorem dX8_init_56 : decode cX8_init 56 = .ok (.sipush 3600, 3) := by decide +kernel
theorem dX8_init_59 : decode cX8_init 59 = .ok (.newarray .int, 2) := by decide +kernel
theorem dX8_init_61 : decode cX8_init 61 = .ok (.putfield 35, 3) := by decide +kernel
theorem dX8_init_64 : decode cX8_init 64 = .ok (.aload_n 0, 1) := by decide +kernel
theorem dX8_init_65 : decode cX8_init 65 = .ok (.sipush 3600, 3) := by decide +kernel
theorem dX8_init_68 : decode cX8_init 68 = .ok (.newarray .int, 2) := by decide +kernel
theorem dX8_init_70 : decode cX8_init 70 = .ok (.putfield 38, 3) := by decide +kernel
theorem dX8_init_73 : decode cX8_init 73 = .ok (.return_, 1) := by decide +kernel
theorem dX9_init_0 : decode cX9_init 0 = .ok (.aload_n 0, 1) := by decide +kernel
theorem dX9_init_1 : decode cX9_init 1 = .ok (.invokespecial 3, 3) := by decide +kernel
theorem dX9_init_4 : decode cX9_init 4 = .ok (.aload_n 0, 1) := by decide +kernel
theorem dX9_init_5 : decode cX9_init 5 = .ok (.new 9, 3) := by decide +kernel
theorem dX9_init_8 : decode cX9_init 8 = .ok (.dup, 1) := by decide +kernel
theorem dX9_init_9 : decode cX9_init 9 = .ok (.invokespecial 11, 3) := by decide +kernel
theorem dX9_init_12 : decode cX9_init 12 = .ok (.putfield 12, 3) := by decide +kernel
theorem dX9_init_15 : decode cX9_init 15 = .ok (.aload_n 0, 1) := by decide +kernel
theorem dX9_init_16 : decode cX9_init 16 = .ok (.sipush 512, 3) := by decide +kernel
theorem dX9_init_19 : decode cX9_init 19 = .ok (.newarray .int, 2) := by decide +kernel
theorem dX9_init_21 : decode cX9_init 21 = .ok (.putfield 18, 3) := by decide +kernel
theorem dX9_init_24 : decode cX9_init 24 = .ok (.aload_n 0, 1) := by decide +kernel
theorem dX9_init_25 : decode cX9_init 25 = .ok (.bipush 60, 2) := by decide +kernel
theorem dX9_init_27 : decode cX9_init 27 = .ok (.newarray .int, 2) := by decide +kernel
theorem dX9_init_29 : decode cX9_init 29 = .ok (.putfield 22, 3) := by decide +kernel
theorem dX9_init_32 : decode cX9_init 32 = .ok (.aload_n 0, 1) := by decide +kernel
theorem dX9_init_33 : decode cX9_init 33 = .ok (.bipush 60, 2) := by decide +kernel
theorem dX9_init_35 : decode cX9_init 35 = .ok (.newarray .long, 2) := by decide +kernel
theorem dX9_init_37 : decode cX9_init 37 = .ok (.putfield 25, 3) := by decide +kernel
theorem dX9_init_40 : decode cX9_init 40 = .ok (.aload_n 0, 1) := by decide +kernel
theorem dX9_init_41 : decode cX9_init 41 = .ok (.sipush 256, 3) := by decide +kernel
theorem dX9_init_44 : decode cX9_init 44 = .ok (.newarray .long, 2) := by decide +kernel
theorem dX9_init_46 : decode cX9_init 46 = .ok (.putfield 29, 3) := by decide +kernel
theorem dX9_init_49 : decode cX9_init 49 = .ok (.aload_n 0, 1) := by decide +kernel
theorem dX9_init_50 : decode cX9_init 50 = .ok (.sipush 512, 3) := by decide +kernel
theorem dX9_init_53 : decode cX9_init 53 = .ok (.newarray .int, 2) := by decide +kernel
theorem dX9_init_55 : decode cX9_init 55 = .ok (.putfield 32, 3) := by decide +kernel
theorem dX9_init_58 : decode cX9_init 58 = .ok (.aload_n 0, 1) := by decide +kernel
theorem dX9_init_59 : decode cX9_init 59 = .ok (.sipush 512, 3) := by decide +kernel
theorem dX9_init_62 : decode cX9_init 62 = .ok (.newarray .int, 2) := by decide +kernel
theorem dX9_init_64 : decode cX9_init 64 = .ok (.putfield 35, 3) := by decide +kernel
theorem dX9_init_67 : decode cX9_init 67 = .ok (.aload_n 0, 1) := by decide +kernel
theorem dX9_init_68 : decode cX9_init 68 = .ok (.bipush 60, 2) := by decide +kernel
theorem dX9_init_70 : decode cX9_init 70 = .ok (.newarray .long, 2) := by decide +kernel
theorem dX9_init_72 : decode cX9_init 72 = .ok (.putfield 38, 3) := by decide +kernel
theorem dX9_init_75 : decode cX9_init 75 = .ok (.aload_n 0, 1) := by decide +kernel
theorem dX9_init_76 : decode cX9_init 76 = .ok (.bipush 60, 2) := by decide +kernel
theorem dX9_init_78 : decode cX9_init 78 = .ok (.newarray .long, 2) := by decide +kernel
theorem dX9_init_80 : decode cX9_init 80 = .ok (.putfield 41, 3) := by decide +kernel
theorem dX9_init_83 : decode cX9_init 83 = .ok (.aload_n 0, 1) := by decide +kernel
theorem dX9_init_84 : decode cX9_init 84 = .ok (.sipush 15360, 3) := by decide +kernel
theorem dX9_init_87 : decode cX9_init 87 = .ok (.newarray .int, 2) := by decide +kernel
theorem dX9_init_89 : decode cX9_init 89 = .ok (.putfield 44, 3) := by decide +kernel
theorem dX9_init_92 : decode cX9_init 92 = .ok (.aload_n 0, 1) := by decide +kernel
theorem dX9_init_93 : decode cX9_init 93 = .ok (.bipush 60, 2) := by decide +kernel
theorem dX9_init_95 : decode cX9_init 95 = .ok (.newarray .boolean, 2) := by decide +kernel
theorem dX9_init_97 : decode cX9_init 97 = .ok (.putfield 47, 3) := by decide +kernel
theorem dX9_init_100 : decode cX9_init 100 = .ok (.aload_n 0, 1) := by decide +kernel
theorem dX9_init_101 : decode cX9_init 101 = .ok (.bipush 60, 2) := by decide +kernel
theorem dX9_init_103 : decode cX9_init 103 = .ok (.newarray .int, 2) := by decide +kernel
theorem dX9_init_105 : decode cX9_init 105 = .ok (.putfield 51, 3) := by decide +kernel
theorem dX9_init_108 : decode cX9_init 108 = .ok (.aload_n 0, 1) := by decide +kernel
theorem dX9_init_109 : decode cX9_init 109 = .ok (.bipush 60, 2) := by decide +kernel
theorem dX9_init_111 : decode cX9_init 111 = .ok (.newarray .int, 2) := by decide +kernel
theorem dX9_init_113 : decode cX9_init 113 = .ok (.putfield 54, 3) := by decide +kernel
theorem dX9_init_116 : decode cX9_init 116 = .ok (.return_, 1) := by decide +kernel

theorem exn_1 {P : Nat → Prop} {b : Prop} (h : ∃ (a0 : Nat), P a0) (k : ∀ (a0 : Nat), P a0 → b) : b := by
  obtain ⟨a0, h9⟩ := h
  exact k a0 h9
theorem exn_8 {P : Nat → Nat → Nat → Nat → Nat → Nat → Nat → Nat → Prop} {b : Prop} (h : ∃ (a0 a1 a2 a3 a4 a5 a6 a7 : Nat), P a0 a1 a2 a3 a4 a5 a6 a7) (k : ∀ (a0 a1 a2 a3 a4 a5 a6 a7 : Nat), P a0 a1 a2 a3 a4 a5 a6 a7 → b) : b := by
  obtain ⟨a0, a1, a2, a3, a4, a5, a6, a7, h9⟩ := h
  exact k a0 a1 a2 a3 a4 a5 a6 a7 h9
theorem exk_1 {P : ClassId → Prop} {b : Prop} (h : ∃ (a0 : ClassId), P a0) (k : ∀ (a0 : ClassId), P a0 → b) : b := by
  obtain ⟨a0, h9⟩ := h
  exact k a0 h9
theorem exk_8 {P : ClassId → ClassId → ClassId → ClassId → ClassId → ClassId → ClassId → ClassId → Prop} {b : Prop} (h : ∃ (a0 a1 a2 a3 a4 a5 a6 a7 : ClassId), P a0 a1 a2 a3 a4 a5 a6 a7) (k : ∀ (a0 a1 a2 a3 a4 a5 a6 a7 : ClassId), P a0 a1 a2 a3 a4 a5 a6 a7 → b) : b := by
  obtain ⟨a0, a1, a2, a3, a4, a5, a6, a7, h9⟩ := h
  exact k a0 a1 a2 a3 a4 a5 a6 a7 h9
theorem exi_48 {P : Nat → Nat → Nat → Nat → Nat → Nat → Nat → Nat → Nat → Nat → Nat → Nat → Nat → Nat → Nat → Nat → Nat → Nat → Nat → Nat → Nat → Nat → Nat → Nat → Nat → Nat → Nat → Nat → Nat → Nat → Nat → Nat → Nat → Nat → Nat → Nat → Nat → Nat → Nat → Nat → Nat → Nat → Nat → Nat → Nat → Nat → Nat → Nat → Prop} (a0 a1 a2 a3 a4 a5 a6 a7 a8 a9 a10 a11 a12 a13 a14 a15 a16 a17 a18 a19 a20 a21 a22 a23 a24 a25 a26 a27 a28 a29 a30 a31 a32 a33 a34 a35 a36 a37 a38 a39 a40 a41 a42 a43 a44 a45 a46 a47 : Nat) (h : P a0 a1 a2 a3 a4 a5 a6 a7 a8 a9 a10 a11 a12 a13 a14 a15 a16 a17 a18 a19 a20 a21 a22 a23 a24 a25 a26 a27 a28 a29 a30 a31 a32 a33 a34 a35 a36 a37 a38 a39 a40 a41 a42 a43 a44 a45 a46 a47) : ∃ (a0 a1 a2 a3 a4 a5 a6 a7 a8 a9 a10 a11 a12 a13 a14 a15 a16 a17 a18 a19 a20 a21 a22 a23 a24 a25 a26 a27 a28 a29 a30 a31 a32 a33 a34 a35 a36 a37 a38 a39 a40 a41 a42 a43 a44 a45 a46 a47 : Nat), P a0 a1 a2 a3 a4 a5 a6 a7 a8 a9 a10 a11 a12 a13 a14 a15 a16 a17 a18 a19 a20 a21 a22 a23 a24 a25 a26 a27 a28 a29 a30 a31 a32 a33 a34 a35 a36 a37 a38 a39 a40 a41 a42 a43 a44 a45 a46 a47 := ⟨a0, a1, a2, a3, a4, a5, a6, a7, a8, a9, a10, a11, a12, a13, a14, a15, a16, a17, a18, a19, a20, a21, a22, a23, a24, a25, a26, a27, a28, a29, a30, a31, a32, a33, a34, a35, a36, a37, a38, a39, a40, a41, a42, a43, a44, a45, a46, a47, h⟩
theorem exi_8 {P : Nat → Nat → Nat → Nat → Nat → Nat → Nat → Nat → Prop} (a0 a1 a2 a3 a4 a5 a6 a7 : Nat) (h : P a0 a1 a2 a3 a4 a5 a6 a7) : ∃ (a0 a1 a2 a3 a4 a5 a6 a7 : Nat), P a0 a1 a2 a3 a4 a5 a6 a7 := ⟨a0, a1, a2, a3, a4, a5, a6, a7, h⟩
theorem exj_48 {P : ClassId → ClassId → ClassId → ClassId → ClassId → ClassId → ClassId → ClassId → ClassId → ClassId → ClassId → ClassId → ClassId → ClassId → ClassId → ClassId → ClassId → ClassId → ClassId → ClassId → ClassId → ClassId → ClassId → ClassId → ClassId → ClassId → ClassId → ClassId → ClassId → ClassId → ClassId → ClassId → ClassId → ClassId → ClassId → ClassId → ClassId → ClassId → ClassId → ClassId → ClassId → ClassId → ClassId → ClassId → ClassId → ClassId → ClassId → ClassId → Prop} (a0 a1 a2 a3 a4 a5 a6 a7 a8 a9 a10 a11 a12 a13 a14 a15 a16 a17 a18 a19 a20 a21 a22 a23 a24 a25 a26 a27 a28 a29 a30 a31 a32 a33 a34 a35 a36 a37 a38 a39 a40 a41 a42 a43 a44 a45 a46 a47 : ClassId) (h : P a0 a1 a2 a3 a4 a5 a6 a7 a8 a9 a10 a11 a12 a13 a14 a15 a16 a17 a18 a19 a20 a21 a22 a23 a24 a25 a26 a27 a28 a29 a30 a31 a32 a33 a34 a35 a36 a37 a38 a39 a40 a41 a42 a43 a44 a45 a46 a47) : ∃ (a0 a1 a2 a3 a4 a5 a6 a7 a8 a9 a10 a11 a12 a13 a14 a15 a16 a17 a18 a19 a20 a21 a22 a23 a24 a25 a26 a27 a28 a29 a30 a31 a32 a33 a34 a35 a36 a37 a38 a39 a40 a41 a42 a43 a44 a45 a46 a47 : ClassId), P a0 a1 a2 a3 a4 a5 a6 a7 a8 a9 a10 a11 a12 a13 a14 a15 a16 a17 a18 a19 a20 a21 a22 a23 a24 a25 a26 a27 a28 a29 a30 a31 a32 a33 a34 a35 a36 a37 a38 a39 a40 a41 a42 a43 a44 a45 a46 a47 := ⟨a0, a1, a2, a3, a4, a5, a6, a7, a8, a9, a10, a11, a12, a13, a14, a15, a16, a17, a18, a19, a20, a21, a22, a23, a24, a25, a26, a27, a28, a29, a30, a31, a32, a33, a34, a35, a36, a37, a38, a39, a40, a41, a42, a43, a44, a45, a46, a47, h⟩
theorem exj_8 {P : ClassId → ClassId → ClassId → ClassId → ClassId → ClassId → ClassId → ClassId → Prop} (a0 a1 a2 a3 a4 a5 a6 a7 : ClassId) (h : P a0 a1 a2 a3 a4 a5 a6 a7) : ∃ (a0 a1 a2 a3 a4 a5 a6 a7 : ClassId), P a0 a1 a2 a3 a4 a5 a6 a7 := ⟨a0, a1, a2, a3, a4, a5, a6, a7, h⟩
theorem exj_1 {P : ClassId → Prop} (a0 : ClassId) (h : P a0) : ∃ (a0 : ClassId), P a0 := ⟨a0, h⟩
