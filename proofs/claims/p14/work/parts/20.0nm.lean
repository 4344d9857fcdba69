theorem tw_259 : (.classLink "PatternWorkshopLaw" 8 "PatternWorkshop" : Cond) ∈ TW := tw_in (tb_0 (List.mem_of_getElem? (i := 24) rfl)) (by decide +kernel)
theorem tw_260 : (.instantiable "PatternWorkshop" 18 : Cond) ∈ TW := tw_in (tb_0 (List.mem_of_getElem? (i := 25) rfl)) (by decide +kernel)
theorem tw_261 : (.methodLink "PatternWorkshopLaw" 21 yX11_init : Cond) ∈ TW := tw_in (tb_0 (List.mem_of_getElem? (i := 26) rfl)) (by decide +kernel)
theorem tw_262 : (.instanceMethod yX11_init : Cond) ∈ TW := tw_in (tb_0 (List.mem_of_getElem? (i := 27) rfl)) (by decide +kernel)
theorem tw_263 : (.code yX11_init cX11_init 2 none : Cond) ∈ TW := tw_in (tb_0 (List.mem_of_getElem? (i := 28) rfl)) (by decide +kernel)
theorem tw_1994 : (.instantiable "java/lang/NullPointerException" 8 : Cond) ∈ TW := tw_in (tb_7 (List.mem_of_getElem? (i := 79) rfl)) (by decide +kernel)
theorem tw_2072 : (.instantiable "java/lang/ArrayIndexOutOfBoundsException" 6 : Cond) ∈ TW := tw_in (tb_7 (List.mem_of_getElem? (i := 157) rfl)) (by decide +kernel)
theorem tw_2098 : (.instantiable "java/lang/String" 4 : Cond) ∈ TW := tw_in (tb_7 (List.mem_of_getElem? (i := 183) rfl)) (by decide +kernel)
theorem tw_2129 : (.classLink "PatternWorkshopLaw" 22 "PatternWorkshopModel" : Cond) ∈ TW := tw_in (tb_7 (List.mem_of_getElem? (i := 214) rfl)) (by decide +kernel)
theorem tw_2130 : (.instantiable "PatternWorkshopModel" 143 : Cond) ∈ TW := tw_in (tb_7 (List.mem_of_getElem? (i := 215) rfl)) (by decide +kernel)
theorem tw_2131 : (.methodLink "PatternWorkshopLaw" 24 yX12_init : Cond) ∈ TW := tw_in (tb_7 (List.mem_of_getElem? (i := 216) rfl)) (by decide +kernel)
theorem tw_2132 : (.instanceMethod yX12_init : Cond) ∈ TW := tw_in (tb_7 (List.mem_of_getElem? (i := 217) rfl)) (by decide +kernel)
theorem tw_2133 : (.code yX12_init cX12_init 1 none : Cond) ∈ TW := tw_in (tb_7 (List.mem_of_getElem? (i := 218) rfl)) (by decide +kernel)
theorem gw_X11_init : GoodIn TW (WS yX11_init cX11_init 2 none) := goodC tw_263
theorem gw_X12_init : GoodIn TW (WS yX12_init cX12_init 1 none) := goodC tw_2133
theorem dL_law_0 : decode cL_law 0 = .ok (.new 8, 3) := by decide +kernel
theorem dL_law_3 : decode cL_law 3 = .ok (.dup, 1) := by decide +kernel
theorem dL_law_4 : decode cL_law 4 = .ok (.invokespecial 21, 3) := by decide +kernel
theorem dL_law_7 : decode cL_law 7 = .ok (.astore_n 1, 1) := by decide +kernel
theorem dL_law_8 : decode cL_law 8 = .ok (.new 22, 3) := by decide +kernel
theorem dL_law_11 : decode cL_law 11 = .ok (.dup, 1) := by decide +kernel
theorem dL_law_12 : decode cL_law 12 = .ok (.invokespecial 24, 3) := by decide +kernel
theorem dL_law_15 : decode cL_law 15 = .ok (.astore_n 2, 1) := by decide +kernel
theorem dL_law_16 : decode cL_law 16 = .ok (.iconst 1, 1) := by decide +kernel
theorem dL_law_17 : decode cL_law 17 = .ok (.newarray .long, 2) := by decide +kernel
theorem dL_law_19 : decode cL_law 19 = .ok (.astore_n 3, 1) := by decide +kernel
theorem dL_law_20 : decode cL_law 20 = .ok (.iconst 0, 1) := by decide +kernel
theorem dL_law_21 : decode cL_law 21 = .ok (.istore 4, 2) := by decide +kernel
theorem dL_law_23 : decode cL_law 23 = .ok (.iload 4, 2) := by decide +kernel
theorem dL_law_25 : decode cL_law 25 = .ok (.aload_n 0, 1) := by decide +kernel
theorem dL_law_26 : decode cL_law 26 = .ok (.arraylength, 1) := by decide +kernel
theorem dL_law_27 : decode cL_law 27 = .ok (.bipush 6, 2) := by decide +kernel
theorem dL_law_29 : decode cL_law 29 = .ok (.isub, 1) := by decide +kernel
theorem dL_law_30 : decode cL_law 30 = .ok (.if_icmp .gt 1373, 3) := by decide +kernel
theorem dL_law_33 : decode cL_law 33 = .ok (.aload_n 0, 1) := by decide +kernel
theorem dL_law_34 : decode cL_law 34 = .ok (.iload 4, 2) := by decide +kernel
theorem dL_law_36 : decode cL_law 36 = .ok (.iaload, 1) := by decide +kernel
theorem dL_law_37 : decode cL_law 37 = .ok (.bipush 31, 2) := by decide +kernel
theorem dL_law_39 : decode cL_law 39 = .ok (.iand, 1) := by decide +kernel
theorem dL_law_40 : decode cL_law 40 = .ok (.tableswitch 1357 0 30 #[140, 209, 234, 247, 272, 321, 398, 423, 460, 485, 522, 603, 628, 696, 769, 794, 847, 884, 933, 982, 1031, 1092, 1141, 1154, 1179, 1204, 1241, 1278, 1306, 1319, 1344], 140) := by decide +kernel
theorem dL_law_1397 : decode cL_law 1397 = .ok (.iinc 4 6, 3) := by decide +kernel
theorem dL_law_1400 : decode cL_law 1400 = .ok (.goto (-1377), 3) := by decide +kernel
theorem dL_law_1403 : decode cL_law 1403 = .ok (.iconst 1, 1) := by decide +kernel
theorem dL_law_1404 : decode cL_law 1404 = .ok (.ireturn, 1) := by decide +kernel
