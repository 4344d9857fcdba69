theorem tw_235 : (.initialized "PatternWorkshopLaw" : Cond) ∈ TW := tw_in (tb_0 (List.mem_of_getElem? (i := 0) rfl)) (by decide +kernel)
theorem tw_1990 : (.methodLink "PatternWorkshopLaw" 81 yL_sign : Cond) ∈ TW := tw_in (tb_7 (List.mem_of_getElem? (i := 75) rfl)) (by decide +kernel)
theorem tw_1991 : (.static yL_sign : Cond) ∈ TW := tw_in (tb_7 (List.mem_of_getElem? (i := 76) rfl)) (by decide +kernel)
theorem tw_2118 : (.methodLink "PatternWorkshopLaw" 149 yL_out : Cond) ∈ TW := tw_in (tb_7 (List.mem_of_getElem? (i := 203) rfl)) (by decide +kernel)
theorem tw_2119 : (.static yL_out : Cond) ∈ TW := tw_in (tb_7 (List.mem_of_getElem? (i := 204) rfl)) (by decide +kernel)
theorem tw_2125 : (.methodLink "PatternWorkshopLaw" 87 yX12_thrown : Cond) ∈ TW := tw_in (tb_7 (List.mem_of_getElem? (i := 210) rfl)) (by decide +kernel)
theorem tw_2126 : (.instanceMethod yX12_thrown : Cond) ∈ TW := tw_in (tb_7 (List.mem_of_getElem? (i := 211) rfl)) (by decide +kernel)
theorem tw_2127 : (.selects "PatternWorkshopModel" yX12_thrown yX12_thrown : Cond) ∈ TW := tw_in (tb_7 (List.mem_of_getElem? (i := 212) rfl)) (by decide +kernel)
theorem tw_2822 : (.methodLink "PatternWorkshopLaw" 86 yX12_sign : Cond) ∈ TW := tw_in (tb_10 (List.mem_of_getElem? (i := 187) rfl)) (by decide +kernel)
theorem tw_2823 : (.instanceMethod yX12_sign : Cond) ∈ TW := tw_in (tb_10 (List.mem_of_getElem? (i := 188) rfl)) (by decide +kernel)
theorem tw_2824 : (.selects "PatternWorkshopModel" yX12_sign yX12_sign : Cond) ∈ TW := tw_in (tb_10 (List.mem_of_getElem? (i := 189) rfl)) (by decide +kernel)
theorem tw_3058 : (.methodLink "PatternWorkshopLaw" 152 yX12_out : Cond) ∈ TW := tw_in (tb_11 (List.mem_of_getElem? (i := 183) rfl)) (by decide +kernel)
theorem tw_3059 : (.instanceMethod yX12_out : Cond) ∈ TW := tw_in (tb_11 (List.mem_of_getElem? (i := 184) rfl)) (by decide +kernel)
theorem tw_3060 : (.selects "PatternWorkshopModel" yX12_out yX12_out : Cond) ∈ TW := tw_in (tb_11 (List.mem_of_getElem? (i := 185) rfl)) (by decide +kernel)
theorem dL_law_668 : decode cL_law 668 = .ok (.aload_n 1, 1) := by decide +kernel
theorem dL_law_669 : decode cL_law 669 = .ok (.aload_n 0, 1) := by decide +kernel
theorem dL_law_670 : decode cL_law 670 = .ok (.iload 4, 2) := by decide +kernel
theorem dL_law_672 : decode cL_law 672 = .ok (.iconst 1, 1) := by decide +kernel
theorem dL_law_673 : decode cL_law 673 = .ok (.iadd, 1) := by decide +kernel
theorem dL_law_674 : decode cL_law 674 = .ok (.iaload, 1) := by decide +kernel
theorem dL_law_675 : decode cL_law 675 = .ok (.aload_n 0, 1) := by decide +kernel
theorem dL_law_676 : decode cL_law 676 = .ok (.iload 4, 2) := by decide +kernel
theorem dL_law_678 : decode cL_law 678 = .ok (.iconst 2, 1) := by decide +kernel
theorem dL_law_679 : decode cL_law 679 = .ok (.iadd, 1) := by decide +kernel
theorem dL_law_680 : decode cL_law 680 = .ok (.iaload, 1) := by decide +kernel
theorem dL_law_681 : decode cL_law 681 = .ok (.aload_n 3, 1) := by decide +kernel
theorem dL_law_682 : decode cL_law 682 = .ok (.invokestatic 81, 3) := by decide +kernel
theorem dL_law_685 : decode cL_law 685 = .ok (.istore 5, 2) := by decide +kernel
theorem dL_law_687 : decode cL_law 687 = .ok (.aload_n 2, 1) := by decide +kernel
theorem dL_law_688 : decode cL_law 688 = .ok (.aload_n 0, 1) := by decide +kernel
theorem dL_law_689 : decode cL_law 689 = .ok (.iload 4, 2) := by decide +kernel
theorem dL_law_691 : decode cL_law 691 = .ok (.iconst 1, 1) := by decide +kernel
theorem dL_law_692 : decode cL_law 692 = .ok (.iadd, 1) := by decide +kernel
theorem dL_law_693 : decode cL_law 693 = .ok (.iaload, 1) := by decide +kernel
theorem dL_law_694 : decode cL_law 694 = .ok (.aload_n 0, 1) := by decide +kernel
theorem dL_law_695 : decode cL_law 695 = .ok (.iload 4, 2) := by decide +kernel
theorem dL_law_697 : decode cL_law 697 = .ok (.iconst 2, 1) := by decide +kernel
theorem dL_law_698 : decode cL_law 698 = .ok (.iadd, 1) := by decide +kernel
theorem dL_law_699 : decode cL_law 699 = .ok (.iaload, 1) := by decide +kernel
theorem dL_law_700 : decode cL_law 700 = .ok (.invokevirtual 86, 3) := by decide +kernel
theorem dL_law_703 : decode cL_law 703 = .ok (.istore 6, 2) := by decide +kernel
theorem dL_law_705 : decode cL_law 705 = .ok (.aload_n 2, 1) := by decide +kernel
theorem dL_law_706 : decode cL_law 706 = .ok (.invokevirtual 87, 3) := by decide +kernel
theorem dL_law_709 : decode cL_law 709 = .ok (.iload 5, 2) := by decide +kernel
theorem dL_law_711 : decode cL_law 711 = .ok (.if_icmp .eq 5, 3) := by decide +kernel
theorem dL_law_716 : decode cL_law 716 = .ok (.iload 5, 2) := by decide +kernel
theorem dL_law_718 : decode cL_law 718 = .ok (.ifCond .ne 15, 3) := by decide +kernel
theorem dL_law_733 : decode cL_law 733 = .ok (.goto 692, 3) := by decide +kernel
theorem dL_law_1318 : decode cL_law 1318 = .ok (.aload_n 1, 1) := by decide +kernel
theorem dL_law_1319 : decode cL_law 1319 = .ok (.aload_n 0, 1) := by decide +kernel
theorem dL_law_1320 : decode cL_law 1320 = .ok (.iload 4, 2) := by decide +kernel
theorem dL_law_1322 : decode cL_law 1322 = .ok (.iconst 1, 1) := by decide +kernel
theorem dL_law_1323 : decode cL_law 1323 = .ok (.iadd, 1) := by decide +kernel
theorem dL_law_1324 : decode cL_law 1324 = .ok (.iaload, 1) := by decide +kernel
theorem dL_law_1325 : decode cL_law 1325 = .ok (.aload_n 3, 1) := by decide +kernel
theorem dL_law_1326 : decode cL_law 1326 = .ok (.invokestatic 149, 3) := by decide +kernel
theorem dL_law_1329 : decode cL_law 1329 = .ok (.istore 5, 2) := by decide +kernel
theorem dL_law_1331 : decode cL_law 1331 = .ok (.aload_n 2, 1) := by decide +kernel
theorem dL_law_1332 : decode cL_law 1332 = .ok (.aload_n 0, 1) := by decide +kernel
theorem dL_law_1333 : decode cL_law 1333 = .ok (.iload 4, 2) := by decide +kernel
theorem dL_law_1335 : decode cL_law 1335 = .ok (.iconst 1, 1) := by decide +kernel
theorem dL_law_1336 : decode cL_law 1336 = .ok (.iadd, 1) := by decide +kernel
theorem dL_law_1337 : decode cL_law 1337 = .ok (.iaload, 1) := by decide +kernel
theorem dL_law_1338 : decode cL_law 1338 = .ok (.invokevirtual 152, 3) := by decide +kernel
theorem dL_law_1341 : decode cL_law 1341 = .ok (.istore 6, 2) := by decide +kernel
theorem dL_law_1343 : decode cL_law 1343 = .ok (.aload_n 2, 1) := by decide +kernel
theorem dL_law_1344 : decode cL_law 1344 = .ok (.invokevirtual 87, 3) := by decide +kernel
theorem dL_law_1347 : decode cL_law 1347 = .ok (.iload 5, 2) := by decide +kernel
theorem dL_law_1349 : decode cL_law 1349 = .ok (.if_icmp .eq 5, 3) := by decide +kernel
theorem dL_law_1354 : decode cL_law 1354 = .ok (.iload 5, 2) := by decide +kernel
theorem dL_law_1356 : decode cL_law 1356 = .ok (.ifCond .ne 15, 3) := by decide +kernel
theorem dL_law_1371 : decode cL_law 1371 = .ok (.goto 54, 3) := by decide +kernel
