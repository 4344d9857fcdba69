theorem tw_259 : (.classLink "PatternWorkshopLaw" 8 "PatternWorkshop" : Cond) ∈ TW := tw_in (tb_0 (List.mem_of_getElem? (i := 24) rfl)) (by decide +kernel)
theorem tw_260 : (.instantiable "PatternWorkshop" 18 : Cond) ∈ TW := tw_in (tb_0 (List.mem_of_getElem? (i := 25) rfl)) (by decide +kernel)
theorem tw_261 : (.methodLink "PatternWorkshopLaw" 21 yX11_init : Cond) ∈ TW := tw_in (tb_0 (List.mem_of_getElem? (i := 26) rfl)) (by decide +kernel)
theorem tw_262 : (.instanceMethod yX11_init : Cond) ∈ TW := tw_in (tb_0 (List.mem_of_getElem? (i := 27) rfl)) (by decide +kernel)
theorem tw_263 : (.code yX11_init cX11_init 2 none : Cond) ∈ TW := tw_in (tb_0 (List.mem_of_getElem? (i := 28) rfl)) (by decide +kernel)
theorem tw_1994 : (.instantiable "java/lang/NullPointerException" 8 : Cond) ∈ TW := tw_in (tb_7 (List.mem_of_getElem? (i := 79) rfl)) (by decide +kernel)
theorem tw_2072 : (.instantiable "java/lang/ArrayIndexOutOfBoundsException" 6 : Cond) ∈ TW := tw_in (tb_7 (List.mem_of_getElem? (i := 157) rfl)) (by decide +kernel)
theorem tw_2098 : (.instantiable "java/lang/String" 4 : Cond) ∈ TW := tw_in (tb_7 (List.mem_of_getElem? (i := 183) rfl)) (by decide +kernel)
theorem tw_2125 : (.classLink "PatternWorkshopLaw" 22 "PatternWorkshopModel" : Cond) ∈ TW := tw_in (tb_7 (List.mem_of_getElem? (i := 210) rfl)) (by decide +kernel)
theorem tw_2126 : (.instantiable "PatternWorkshopModel" 143 : Cond) ∈ TW := tw_in (tb_7 (List.mem_of_getElem? (i := 211) rfl)) (by decide +kernel)
theorem tw_2127 : (.methodLink "PatternWorkshopLaw" 24 yX12_init : Cond) ∈ TW := tw_in (tb_7 (List.mem_of_getElem? (i := 212) rfl)) (by decide +kernel)
theorem tw_2128 : (.instanceMethod yX12_init : Cond) ∈ TW := tw_in (tb_7 (List.mem_of_getElem? (i := 213) rfl)) (by decide +kernel)
theorem tw_2129 : (.code yX12_init cX12_init 1 none : Cond) ∈ TW := tw_in (tb_7 (List.mem_of_getElem? (i := 214) rfl)) (by decide +kernel)
theorem gw_X11_init : GoodIn TW (WS yX11_init cX11_init 2 none) := goodC tw_263
theorem gw_X12_init : GoodIn TW (WS yX12_init cX12_init 1 none) := goodC tw_2129
theorem dL_law_0 : decode cL_law 0 = .ok (.new 8, 3) := by decide +kernel
theorem dL_law_3 : decode cL_law 3 = .ok (.dup, 1) := by decide +kernel
theorem dL_law_4 : decode cL_law 4 = .ok (.invokespecial 21, 3) := by decide +kernel
theorem dL_law_7 : decode cL_law 7 = .ok (.astore_n 1, 1) := by decide +kernel
theorem dL_law_8 : decode cL_law 8 = .ok (.new 22, 3) := by decide +kernel
theorem dL_law_11 : decode cL_law 11 = .ok (.dup, 1) := by decide +kernel
theorem dL_law_12 : decode cL_law 12 = .ok (.invokespecial 24, 3) := by decide +kernel
theorem dL_law_15 : decode cL_law 15 = .ok (.astore_n 2, 1) := by decide +kernel
theorem dL_law_16 : decode cL_law 16 = .ok (.iconst 1, 1) := by decide +kernel
theorem dL_law_17 : decode cL_law 17 = .ok (.newarray .long, 2) := by decide +kernel
theorem dL_law_19 : decode cL_law 19 = .ok (.astore_n 3, 1) := by decide +kernel
theorem dL_law_20 : decode cL_law 20 = .ok (.iconst 0, 1) := by decide +kernel
theorem dL_law_21 : decode cL_law 21 = .ok (.istore 4, 2) := by decide +kernel
theorem dL_law_23 : decode cL_law 23 = .ok (.iload 4, 2) := by decide +kernel
theorem dL_law_25 : decode cL_law 25 = .ok (.aload_n 0, 1) := by decide +kernel
theorem dL_law_26 : decode cL_law 26 = .ok (.arraylength, 1) := by decide +kernel
theorem dL_law_27 : decode cL_law 27 = .ok (.bipush 6, 2) := by decide +kernel
theorem dL_law_29 : decode cL_law 29 = .ok (.isub, 1) := by decide +kernel
theorem dL_law_30 : decode cL_law 30 = .ok (.if_icmp .gt 1345, 3) := by decide +kernel
theorem dL_law_33 : decode cL_law 33 = .ok (.aload_n 0, 1) := by decide +kernel
theorem dL_law_34 : decode cL_law 34 = .ok (.iload 4, 2) := by decide +kernel
theorem dL_law_36 : decode cL_law 36 = .ok (.iaload, 1) := by decide +kernel
theorem dL_law_37 : decode cL_law 37 = .ok (.bipush 31, 2) := by decide +kernel
theorem dL_law_39 : decode cL_law 39 = .ok (.iand, 1) := by decide +kernel
theorem dL_law_40 : decode cL_law 40 = .ok (.tableswitch 1329 0 30 #[140, 209, 234, 247, 272, 321, 398, 423, 460, 485, 522, 603, 628, 668, 741, 766, 819, 856, 905, 954, 1003, 1064, 1113, 1126, 1151, 1176, 1213, 1250, 1278, 1291, 1316], 140) := by decide +kernel
theorem dL_law_1369 : decode cL_law 1369 = .ok (.iinc 4 6, 3) := by decide +kernel
theorem dL_law_1372 : decode cL_law 1372 = .ok (.goto (-1349), 3) := by decide +kernel
theorem dL_law_1375 : decode cL_law 1375 = .ok (.iconst 1, 1) := by decide +kernel
theorem dL_law_1376 : decode cL_law 1376 = .ok (.ireturn, 1) := by decide +kernel
