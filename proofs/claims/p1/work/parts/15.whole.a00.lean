theorem tw_259 : (.classLink "PatternWorkshopLaw" 8 "PatternWorkshop" : Cond) ∈ TW := tw_in (tb_0 (List.mem_of_getElem? (i := 24) rfl)) (by decide +kernel)
theorem tw_260 : (.instantiable "PatternWorkshop" 18 : Cond) ∈ TW := tw_in (tb_0 (List.mem_of_getElem? (i := 25) rfl)) (by decide +kernel)
theorem tw_261 : (.methodLink "PatternWorkshopLaw" 21 yX11_init : Cond) ∈ TW := tw_in (tb_0 (List.mem_of_getElem? (i := 26) rfl)) (by decide +kernel)
theorem tw_262 : (.instanceMethod yX11_init : Cond) ∈ TW := tw_in (tb_0 (List.mem_of_getElem? (i := 27) rfl)) (by decide +kernel)
theorem tw_1994 : (.instantiable "java/lang/NullPointerException" 8 : Cond) ∈ TW := tw_in (tb_7 (List.mem_of_getElem? (i := 79) rfl)) (by decide +kernel)
theorem tw_2072 : (.instantiable "java/lang/ArrayIndexOutOfBoundsException" 6 : Cond) ∈ TW := tw_in (tb_7 (List.mem_of_getElem? (i := 157) rfl)) (by decide +kernel)
theorem tw_2098 : (.instantiable "java/lang/String" 4 : Cond) ∈ TW := tw_in (tb_7 (List.mem_of_getElem? (i := 183) rfl)) (by decide +kernel)
theorem tw_2129 : (.classLink "PatternWorkshopLaw" 22 "PatternWorkshopModel" : Cond) ∈ TW := tw_in (tb_7 (List.mem_of_getElem? (i := 214) rfl)) (by decide +kernel)
theorem tw_2130 : (.instantiable "PatternWorkshopModel" 143 : Cond) ∈ TW := tw_in (tb_7 (List.mem_of_getElem? (i := 215) rfl)) (by decide +kernel)
theorem tw_2131 : (.methodLink "PatternWorkshopLaw" 24 yX12_init : Cond) ∈ TW := tw_in (tb_7 (List.mem_of_getElem? (i := 216) rfl)) (by decide +kernel)
theorem tw_2132 : (.instanceMethod yX12_init : Cond) ∈ TW := tw_in (tb_7 (List.mem_of_getElem? (i := 217) rfl)) (by decide +kernel)
theorem dL_law_0 : decode cL_law 0 = .ok (.new 8, 3) := by decide +kernel
theorem dL_law_3 : decode cL_law 3 = .ok (.dup, 1) := by decide +kernel
theorem dL_law_4 : decode cL_law 4 = .ok (.invokespecial 21, 3) := by decide +kernel
theorem dL_law_7 : decode cL_law 7 = .ok (.astore_n 1, 1) := by decide +kernel
theorem dL_law_8 : decode cL_law 8 = .ok (.new 22, 3) := by decide +kernel
theorem dL_law_11 : decode cL_law 11 = .ok (.dup, 1) := by decide +kernel
theorem dL_law_12 : decode cL_law 12 = .ok (.invokespecial 24, 3) := by decide +kernel
theorem dL_law_15 : decode cL_law 15 = .ok (.astore_n 2, 1) := by decide +kernel
theorem dL_law_16 : decode cL_law 16 = .ok (.iconst 1, 1) := by decide +kernel
theorem dL_law_17 : decode cL_law 17 = .ok (.newarray .long, 2) := by decide +kernel
theorem dL_law_19 : decode cL_law 19 = .ok (.astore_n 3, 1) := by decide +kernel
theorem dL_law_20 : decode cL_law 20 = .ok (.iconst 0, 1) := by decide +kernel
theorem dL_law_21 : decode cL_law 21 = .ok (.istore 4, 2) := by decide +kernel
