abbrev cL_law : ByteArray := code
theorem tw_869 : (.methodLink "PatternWorkshopLaw" 32 yX11_pattern : Cond) ∈ TW := tw_in (tb_2 (List.mem_of_getElem? (i := 154) rfl)) (by decide +kernel)
theorem tw_870 : (.instanceMethod yX11_pattern : Cond) ∈ TW := tw_in (tb_2 (List.mem_of_getElem? (i := 155) rfl)) (by decide +kernel)
theorem tw_871 : (.selects "PatternWorkshop" yX11_pattern yX11_pattern : Cond) ∈ TW := tw_in (tb_2 (List.mem_of_getElem? (i := 156) rfl)) (by decide +kernel)
theorem tw_1140 : (.methodLink "PatternWorkshopLaw" 36 yX11_place : Cond) ∈ TW := tw_in (tb_3 (List.mem_of_getElem? (i := 185) rfl)) (by decide +kernel)
theorem tw_1141 : (.instanceMethod yX11_place : Cond) ∈ TW := tw_in (tb_3 (List.mem_of_getElem? (i := 186) rfl)) (by decide +kernel)
theorem tw_1142 : (.selects "PatternWorkshop" yX11_place yX11_place : Cond) ∈ TW := tw_in (tb_3 (List.mem_of_getElem? (i := 187) rfl)) (by decide +kernel)
theorem tw_1144 : (.methodLink "PatternWorkshopLaw" 41 yX11_forget : Cond) ∈ TW := tw_in (tb_3 (List.mem_of_getElem? (i := 189) rfl)) (by decide +kernel)
theorem tw_1145 : (.instanceMethod yX11_forget : Cond) ∈ TW := tw_in (tb_3 (List.mem_of_getElem? (i := 190) rfl)) (by decide +kernel)
theorem tw_1146 : (.selects "PatternWorkshop" yX11_forget yX11_forget : Cond) ∈ TW := tw_in (tb_3 (List.mem_of_getElem? (i := 191) rfl)) (by decide +kernel)
theorem tw_1152 : (.methodLink "PatternWorkshopLaw" 45 yX11_node : Cond) ∈ TW := tw_in (tb_3 (List.mem_of_getElem? (i := 197) rfl)) (by decide +kernel)
theorem tw_1153 : (.instanceMethod yX11_node : Cond) ∈ TW := tw_in (tb_3 (List.mem_of_getElem? (i := 198) rfl)) (by decide +kernel)
theorem tw_1154 : (.selects "PatternWorkshop" yX11_node yX11_node : Cond) ∈ TW := tw_in (tb_3 (List.mem_of_getElem? (i := 199) rfl)) (by decide +kernel)
theorem tw_1175 : (.methodLink "PatternWorkshopLaw" 50 yX11_part : Cond) ∈ TW := tw_in (tb_3 (List.mem_of_getElem? (i := 220) rfl)) (by decide +kernel)
theorem tw_1176 : (.instanceMethod yX11_part : Cond) ∈ TW := tw_in (tb_3 (List.mem_of_getElem? (i := 221) rfl)) (by decide +kernel)
theorem tw_1177 : (.selects "PatternWorkshop" yX11_part yX11_part : Cond) ∈ TW := tw_in (tb_3 (List.mem_of_getElem? (i := 222) rfl)) (by decide +kernel)
theorem tw_1188 : (.methodLink "PatternWorkshopLaw" 55 yX11_print : Cond) ∈ TW := tw_in (tb_3 (List.mem_of_getElem? (i := 233) rfl)) (by decide +kernel)
theorem tw_1189 : (.instanceMethod yX11_print : Cond) ∈ TW := tw_in (tb_3 (List.mem_of_getElem? (i := 234) rfl)) (by decide +kernel)
theorem tw_1190 : (.selects "PatternWorkshop" yX11_print yX11_print : Cond) ∈ TW := tw_in (tb_3 (List.mem_of_getElem? (i := 235) rfl)) (by decide +kernel)
theorem tw_1283 : (.methodLink "PatternWorkshopLaw" 59 yX11_begins : Cond) ∈ TW := tw_in (tb_4 (List.mem_of_getElem? (i := 88) rfl)) (by decide +kernel)
theorem tw_1284 : (.instanceMethod yX11_begins : Cond) ∈ TW := tw_in (tb_4 (List.mem_of_getElem? (i := 89) rfl)) (by decide +kernel)
theorem tw_1285 : (.selects "PatternWorkshop" yX11_begins yX11_begins : Cond) ∈ TW := tw_in (tb_4 (List.mem_of_getElem? (i := 90) rfl)) (by decide +kernel)
theorem tw_1321 : (.methodLink "PatternWorkshopLaw" 64 yX11_risky : Cond) ∈ TW := tw_in (tb_4 (List.mem_of_getElem? (i := 126) rfl)) (by decide +kernel)
theorem tw_1322 : (.instanceMethod yX11_risky : Cond) ∈ TW := tw_in (tb_4 (List.mem_of_getElem? (i := 127) rfl)) (by decide +kernel)
theorem tw_1323 : (.selects "PatternWorkshop" yX11_risky yX11_risky : Cond) ∈ TW := tw_in (tb_4 (List.mem_of_getElem? (i := 128) rfl)) (by decide +kernel)
theorem tw_1373 : (.methodLink "PatternWorkshopLaw" 68 yX11_dead : Cond) ∈ TW := tw_in (tb_4 (List.mem_of_getElem? (i := 178) rfl)) (by decide +kernel)
theorem tw_1374 : (.instanceMethod yX11_dead : Cond) ∈ TW := tw_in (tb_4 (List.mem_of_getElem? (i := 179) rfl)) (by decide +kernel)
theorem tw_1375 : (.selects "PatternWorkshop" yX11_dead yX11_dead : Cond) ∈ TW := tw_in (tb_4 (List.mem_of_getElem? (i := 180) rfl)) (by decide +kernel)
theorem tw_1418 : (.methodLink "PatternWorkshopLaw" 77 yX11_drop : Cond) ∈ TW := tw_in (tb_4 (List.mem_of_getElem? (i := 223) rfl)) (by decide +kernel)
theorem tw_1419 : (.instanceMethod yX11_drop : Cond) ∈ TW := tw_in (tb_4 (List.mem_of_getElem? (i := 224) rfl)) (by decide +kernel)
theorem tw_1420 : (.selects "PatternWorkshop" yX11_drop yX11_drop : Cond) ∈ TW := tw_in (tb_4 (List.mem_of_getElem? (i := 225) rfl)) (by decide +kernel)
theorem tw_1430 : (.methodLink "PatternWorkshopLaw" 90 yX11_find : Cond) ∈ TW := tw_in (tb_4 (List.mem_of_getElem? (i := 235) rfl)) (by decide +kernel)
theorem tw_1431 : (.instanceMethod yX11_find : Cond) ∈ TW := tw_in (tb_4 (List.mem_of_getElem? (i := 236) rfl)) (by decide +kernel)
theorem tw_1432 : (.selects "PatternWorkshop" yX11_find yX11_find : Cond) ∈ TW := tw_in (tb_4 (List.mem_of_getElem? (i := 237) rfl)) (by decide +kernel)
theorem tw_1755 : (.methodLink "PatternWorkshopLaw" 95 yX11_goOn : Cond) ∈ TW := tw_in (tb_6 (List.mem_of_getElem? (i := 80) rfl)) (by decide +kernel)
theorem tw_1756 : (.instanceMethod yX11_goOn : Cond) ∈ TW := tw_in (tb_6 (List.mem_of_getElem? (i := 81) rfl)) (by decide +kernel)
theorem tw_1757 : (.selects "PatternWorkshop" yX11_goOn yX11_goOn : Cond) ∈ TW := tw_in (tb_6 (List.mem_of_getElem? (i := 82) rfl)) (by decide +kernel)
theorem tw_1759 : (.methodLink "PatternWorkshopLaw" 99 yX11_span : Cond) ∈ TW := tw_in (tb_6 (List.mem_of_getElem? (i := 84) rfl)) (by decide +kernel)
theorem tw_1760 : (.instanceMethod yX11_span : Cond) ∈ TW := tw_in (tb_6 (List.mem_of_getElem? (i := 85) rfl)) (by decide +kernel)
theorem tw_1761 : (.selects "PatternWorkshop" yX11_span yX11_span : Cond) ∈ TW := tw_in (tb_6 (List.mem_of_getElem? (i := 86) rfl)) (by decide +kernel)
theorem tw_1767 : (.methodLink "PatternWorkshopLaw" 104 yX11_named : Cond) ∈ TW := tw_in (tb_6 (List.mem_of_getElem? (i := 92) rfl)) (by decide +kernel)
theorem tw_1768 : (.instanceMethod yX11_named : Cond) ∈ TW := tw_in (tb_6 (List.mem_of_getElem? (i := 93) rfl)) (by decide +kernel)
theorem tw_1769 : (.selects "PatternWorkshop" yX11_named yX11_named : Cond) ∈ TW := tw_in (tb_6 (List.mem_of_getElem? (i := 94) rfl)) (by decide +kernel)
theorem tw_1776 : (.methodLink "PatternWorkshopLaw" 108 yX11_whole : Cond) ∈ TW := tw_in (tb_6 (List.mem_of_getElem? (i := 101) rfl)) (by decide +kernel)
theorem tw_1777 : (.instanceMethod yX11_whole : Cond) ∈ TW := tw_in (tb_6 (List.mem_of_getElem? (i := 102) rfl)) (by decide +kernel)
theorem tw_1778 : (.selects "PatternWorkshop" yX11_whole yX11_whole : Cond) ∈ TW := tw_in (tb_6 (List.mem_of_getElem? (i := 103) rfl)) (by decide +kernel)
theorem tw_1780 : (.methodLink "PatternWorkshopLaw" 112 yX11_all : Cond) ∈ TW := tw_in (tb_6 (List.mem_of_getElem? (i := 105) rfl)) (by decide +kernel)
theorem tw_1781 : (.instanceMethod yX11_all : Cond) ∈ TW := tw_in (tb_6 (List.mem_of_getElem? (i := 106) rfl)) (by decide +kernel)
theorem tw_1782 : (.selects "PatternWorkshop" yX11_all yX11_all : Cond) ∈ TW := tw_in (tb_6 (List.mem_of_getElem? (i := 107) rfl)) (by decide +kernel)
theorem tw_1795 : (.methodLink "PatternWorkshopLaw" 116 yX11_replace : Cond) ∈ TW := tw_in (tb_6 (List.mem_of_getElem? (i := 120) rfl)) (by decide +kernel)
theorem tw_1796 : (.instanceMethod yX11_replace : Cond) ∈ TW := tw_in (tb_6 (List.mem_of_getElem? (i := 121) rfl)) (by decide +kernel)
theorem tw_1797 : (.selects "PatternWorkshop" yX11_replace yX11_replace : Cond) ∈ TW := tw_in (tb_6 (List.mem_of_getElem? (i := 122) rfl)) (by decide +kernel)
theorem tw_1822 : (.methodLink "PatternWorkshopLaw" 125 yX11_prefix : Cond) ∈ TW := tw_in (tb_6 (List.mem_of_getElem? (i := 147) rfl)) (by decide +kernel)
theorem tw_1823 : (.instanceMethod yX11_prefix : Cond) ∈ TW := tw_in (tb_6 (List.mem_of_getElem? (i := 148) rfl)) (by decide +kernel)
theorem tw_1824 : (.selects "PatternWorkshop" yX11_prefix yX11_prefix : Cond) ∈ TW := tw_in (tb_6 (List.mem_of_getElem? (i := 149) rfl)) (by decide +kernel)
theorem tw_1908 : (.methodLink "PatternWorkshopLaw" 129 yX11_steps : Cond) ∈ TW := tw_in (tb_6 (List.mem_of_getElem? (i := 233) rfl)) (by decide +kernel)
theorem tw_1909 : (.instanceMethod yX11_steps : Cond) ∈ TW := tw_in (tb_6 (List.mem_of_getElem? (i := 234) rfl)) (by decide +kernel)
theorem tw_1910 : (.selects "PatternWorkshop" yX11_steps yX11_steps : Cond) ∈ TW := tw_in (tb_6 (List.mem_of_getElem? (i := 235) rfl)) (by decide +kernel)
theorem tw_1912 : (.methodLink "PatternWorkshopLaw" 133 yX11_table : Cond) ∈ TW := tw_in (tb_6 (List.mem_of_getElem? (i := 237) rfl)) (by decide +kernel)
theorem tw_1913 : (.instanceMethod yX11_table : Cond) ∈ TW := tw_in (tb_6 (List.mem_of_getElem? (i := 238) rfl)) (by decide +kernel)
theorem tw_1914 : (.selects "PatternWorkshop" yX11_table yX11_table : Cond) ∈ TW := tw_in (tb_6 (List.mem_of_getElem? (i := 239) rfl)) (by decide +kernel)
theorem tw_1916 : (.methodLink "PatternWorkshopLaw" 137 yX11_least : Cond) ∈ TW := tw_in (tb_7 (List.mem_of_getElem? (i := 1) rfl)) (by decide +kernel)
theorem tw_1917 : (.instanceMethod yX11_least : Cond) ∈ TW := tw_in (tb_7 (List.mem_of_getElem? (i := 2) rfl)) (by decide +kernel)
theorem tw_1918 : (.selects "PatternWorkshop" yX11_least yX11_least : Cond) ∈ TW := tw_in (tb_7 (List.mem_of_getElem? (i := 3) rfl)) (by decide +kernel)
theorem tw_1937 : (.methodLink "PatternWorkshopLaw" 141 yX11_compare : Cond) ∈ TW := tw_in (tb_7 (List.mem_of_getElem? (i := 22) rfl)) (by decide +kernel)
theorem tw_1938 : (.instanceMethod yX11_compare : Cond) ∈ TW := tw_in (tb_7 (List.mem_of_getElem? (i := 23) rfl)) (by decide +kernel)
theorem tw_1939 : (.selects "PatternWorkshop" yX11_compare yX11_compare : Cond) ∈ TW := tw_in (tb_7 (List.mem_of_getElem? (i := 24) rfl)) (by decide +kernel)
theorem tw_1956 : (.methodLink "PatternWorkshopLaw" 145 yX11_parting : Cond) ∈ TW := tw_in (tb_7 (List.mem_of_getElem? (i := 41) rfl)) (by decide +kernel)
theorem tw_1957 : (.instanceMethod yX11_parting : Cond) ∈ TW := tw_in (tb_7 (List.mem_of_getElem? (i := 42) rfl)) (by decide +kernel)
theorem tw_1958 : (.selects "PatternWorkshop" yX11_parting yX11_parting : Cond) ∈ TW := tw_in (tb_7 (List.mem_of_getElem? (i := 43) rfl)) (by decide +kernel)
theorem tw_1970 : (.methodLink "PatternWorkshopLaw" 153 yX11_finding : Cond) ∈ TW := tw_in (tb_7 (List.mem_of_getElem? (i := 55) rfl)) (by decide +kernel)
theorem tw_1971 : (.instanceMethod yX11_finding : Cond) ∈ TW := tw_in (tb_7 (List.mem_of_getElem? (i := 56) rfl)) (by decide +kernel)
theorem tw_1972 : (.selects "PatternWorkshop" yX11_finding yX11_finding : Cond) ∈ TW := tw_in (tb_7 (List.mem_of_getElem? (i := 57) rfl)) (by decide +kernel)
theorem tw_1974 : (.methodLink "PatternWorkshopLaw" 157 yX11_told : Cond) ∈ TW := tw_in (tb_7 (List.mem_of_getElem? (i := 59) rfl)) (by decide +kernel)
theorem tw_1975 : (.instanceMethod yX11_told : Cond) ∈ TW := tw_in (tb_7 (List.mem_of_getElem? (i := 60) rfl)) (by decide +kernel)
theorem tw_1976 : (.selects "PatternWorkshop" yX11_told yX11_told : Cond) ∈ TW := tw_in (tb_7 (List.mem_of_getElem? (i := 61) rfl)) (by decide +kernel)
theorem tw_1986 : (.methodLink "PatternWorkshopLaw" 161 yX11_clear : Cond) ∈ TW := tw_in (tb_7 (List.mem_of_getElem? (i := 71) rfl)) (by decide +kernel)
theorem tw_1987 : (.instanceMethod yX11_clear : Cond) ∈ TW := tw_in (tb_7 (List.mem_of_getElem? (i := 72) rfl)) (by decide +kernel)
theorem tw_1988 : (.selects "PatternWorkshop" yX11_clear yX11_clear : Cond) ∈ TW := tw_in (tb_7 (List.mem_of_getElem? (i := 73) rfl)) (by decide +kernel)
theorem tw_2578 : (.methodLink "PatternWorkshopLaw" 35 yX12_pattern : Cond) ∈ TW := tw_in (tb_9 (List.mem_of_getElem? (i := 183) rfl)) (by decide +kernel)
theorem tw_2579 : (.instanceMethod yX12_pattern : Cond) ∈ TW := tw_in (tb_9 (List.mem_of_getElem? (i := 184) rfl)) (by decide +kernel)
theorem tw_2580 : (.selects "PatternWorkshopModel" yX12_pattern yX12_pattern : Cond) ∈ TW := tw_in (tb_9 (List.mem_of_getElem? (i := 185) rfl)) (by decide +kernel)
theorem tw_2698 : (.methodLink "PatternWorkshopLaw" 40 yX12_place : Cond) ∈ TW := tw_in (tb_10 (List.mem_of_getElem? (i := 63) rfl)) (by decide +kernel)
theorem tw_2699 : (.instanceMethod yX12_place : Cond) ∈ TW := tw_in (tb_10 (List.mem_of_getElem? (i := 64) rfl)) (by decide +kernel)
theorem tw_2700 : (.selects "PatternWorkshopModel" yX12_place yX12_place : Cond) ∈ TW := tw_in (tb_10 (List.mem_of_getElem? (i := 65) rfl)) (by decide +kernel)
theorem tw_2702 : (.methodLink "PatternWorkshopLaw" 44 yX12_forget : Cond) ∈ TW := tw_in (tb_10 (List.mem_of_getElem? (i := 67) rfl)) (by decide +kernel)
theorem tw_2703 : (.instanceMethod yX12_forget : Cond) ∈ TW := tw_in (tb_10 (List.mem_of_getElem? (i := 68) rfl)) (by decide +kernel)
theorem tw_2704 : (.selects "PatternWorkshopModel" yX12_forget yX12_forget : Cond) ∈ TW := tw_in (tb_10 (List.mem_of_getElem? (i := 69) rfl)) (by decide +kernel)
theorem tw_2710 : (.methodLink "PatternWorkshopLaw" 49 yX12_node : Cond) ∈ TW := tw_in (tb_10 (List.mem_of_getElem? (i := 75) rfl)) (by decide +kernel)
theorem tw_2711 : (.instanceMethod yX12_node : Cond) ∈ TW := tw_in (tb_10 (List.mem_of_getElem? (i := 76) rfl)) (by decide +kernel)
theorem tw_2712 : (.selects "PatternWorkshopModel" yX12_node yX12_node : Cond) ∈ TW := tw_in (tb_10 (List.mem_of_getElem? (i := 77) rfl)) (by decide +kernel)
theorem tw_2718 : (.methodLink "PatternWorkshopLaw" 54 yX12_part : Cond) ∈ TW := tw_in (tb_10 (List.mem_of_getElem? (i := 83) rfl)) (by decide +kernel)
theorem tw_2719 : (.instanceMethod yX12_part : Cond) ∈ TW := tw_in (tb_10 (List.mem_of_getElem? (i := 84) rfl)) (by decide +kernel)
theorem tw_2720 : (.selects "PatternWorkshopModel" yX12_part yX12_part : Cond) ∈ TW := tw_in (tb_10 (List.mem_of_getElem? (i := 85) rfl)) (by decide +kernel)
theorem tw_2722 : (.methodLink "PatternWorkshopLaw" 58 yX12_print : Cond) ∈ TW := tw_in (tb_10 (List.mem_of_getElem? (i := 87) rfl)) (by decide +kernel)
theorem tw_2723 : (.instanceMethod yX12_print : Cond) ∈ TW := tw_in (tb_10 (List.mem_of_getElem? (i := 88) rfl)) (by decide +kernel)
theorem tw_2724 : (.selects "PatternWorkshopModel" yX12_print yX12_print : Cond) ∈ TW := tw_in (tb_10 (List.mem_of_getElem? (i := 89) rfl)) (by decide +kernel)
theorem tw_2764 : (.methodLink "PatternWorkshopLaw" 71 yX12_dead : Cond) ∈ TW := tw_in (tb_10 (List.mem_of_getElem? (i := 129) rfl)) (by decide +kernel)
theorem tw_2765 : (.instanceMethod yX12_dead : Cond) ∈ TW := tw_in (tb_10 (List.mem_of_getElem? (i := 130) rfl)) (by decide +kernel)
theorem tw_2766 : (.selects "PatternWorkshopModel" yX12_dead yX12_dead : Cond) ∈ TW := tw_in (tb_10 (List.mem_of_getElem? (i := 131) rfl)) (by decide +kernel)
theorem tw_2772 : (.methodLink "PatternWorkshopLaw" 63 yX12_begins : Cond) ∈ TW := tw_in (tb_10 (List.mem_of_getElem? (i := 137) rfl)) (by decide +kernel)
theorem tw_2773 : (.instanceMethod yX12_begins : Cond) ∈ TW := tw_in (tb_10 (List.mem_of_getElem? (i := 138) rfl)) (by decide +kernel)
theorem tw_2774 : (.selects "PatternWorkshopModel" yX12_begins yX12_begins : Cond) ∈ TW := tw_in (tb_10 (List.mem_of_getElem? (i := 139) rfl)) (by decide +kernel)
theorem tw_2792 : (.methodLink "PatternWorkshopLaw" 67 yX12_risky : Cond) ∈ TW := tw_in (tb_10 (List.mem_of_getElem? (i := 157) rfl)) (by decide +kernel)
theorem tw_2793 : (.instanceMethod yX12_risky : Cond) ∈ TW := tw_in (tb_10 (List.mem_of_getElem? (i := 158) rfl)) (by decide +kernel)
theorem tw_2794 : (.selects "PatternWorkshopModel" yX12_risky yX12_risky : Cond) ∈ TW := tw_in (tb_10 (List.mem_of_getElem? (i := 159) rfl)) (by decide +kernel)
theorem tw_2814 : (.methodLink "PatternWorkshopLaw" 80 yX12_drop : Cond) ∈ TW := tw_in (tb_10 (List.mem_of_getElem? (i := 179) rfl)) (by decide +kernel)
theorem tw_2815 : (.instanceMethod yX12_drop : Cond) ∈ TW := tw_in (tb_10 (List.mem_of_getElem? (i := 180) rfl)) (by decide +kernel)
theorem tw_2816 : (.selects "PatternWorkshopModel" yX12_drop yX12_drop : Cond) ∈ TW := tw_in (tb_10 (List.mem_of_getElem? (i := 181) rfl)) (by decide +kernel)
theorem tw_2826 : (.methodLink "PatternWorkshopLaw" 94 yX12_find : Cond) ∈ TW := tw_in (tb_10 (List.mem_of_getElem? (i := 191) rfl)) (by decide +kernel)
theorem tw_2827 : (.instanceMethod yX12_find : Cond) ∈ TW := tw_in (tb_10 (List.mem_of_getElem? (i := 192) rfl)) (by decide +kernel)
theorem tw_2828 : (.selects "PatternWorkshopModel" yX12_find yX12_find : Cond) ∈ TW := tw_in (tb_10 (List.mem_of_getElem? (i := 193) rfl)) (by decide +kernel)
theorem tw_2950 : (.methodLink "PatternWorkshopLaw" 98 yX12_goOn : Cond) ∈ TW := tw_in (tb_11 (List.mem_of_getElem? (i := 75) rfl)) (by decide +kernel)
theorem tw_2951 : (.instanceMethod yX12_goOn : Cond) ∈ TW := tw_in (tb_11 (List.mem_of_getElem? (i := 76) rfl)) (by decide +kernel)
theorem tw_2952 : (.selects "PatternWorkshopModel" yX12_goOn yX12_goOn : Cond) ∈ TW := tw_in (tb_11 (List.mem_of_getElem? (i := 77) rfl)) (by decide +kernel)
theorem tw_2954 : (.methodLink "PatternWorkshopLaw" 103 yX12_span : Cond) ∈ TW := tw_in (tb_11 (List.mem_of_getElem? (i := 79) rfl)) (by decide +kernel)
theorem tw_2955 : (.instanceMethod yX12_span : Cond) ∈ TW := tw_in (tb_11 (List.mem_of_getElem? (i := 80) rfl)) (by decide +kernel)
theorem tw_2956 : (.selects "PatternWorkshopModel" yX12_span yX12_span : Cond) ∈ TW := tw_in (tb_11 (List.mem_of_getElem? (i := 81) rfl)) (by decide +kernel)
theorem tw_2958 : (.methodLink "PatternWorkshopLaw" 107 yX12_named : Cond) ∈ TW := tw_in (tb_11 (List.mem_of_getElem? (i := 83) rfl)) (by decide +kernel)
theorem tw_2959 : (.instanceMethod yX12_named : Cond) ∈ TW := tw_in (tb_11 (List.mem_of_getElem? (i := 84) rfl)) (by decide +kernel)
theorem tw_2960 : (.selects "PatternWorkshopModel" yX12_named yX12_named : Cond) ∈ TW := tw_in (tb_11 (List.mem_of_getElem? (i := 85) rfl)) (by decide +kernel)
theorem tw_2962 : (.methodLink "PatternWorkshopLaw" 111 yX12_whole : Cond) ∈ TW := tw_in (tb_11 (List.mem_of_getElem? (i := 87) rfl)) (by decide +kernel)
theorem tw_2963 : (.instanceMethod yX12_whole : Cond) ∈ TW := tw_in (tb_11 (List.mem_of_getElem? (i := 88) rfl)) (by decide +kernel)
theorem tw_2964 : (.selects "PatternWorkshopModel" yX12_whole yX12_whole : Cond) ∈ TW := tw_in (tb_11 (List.mem_of_getElem? (i := 89) rfl)) (by decide +kernel)
theorem tw_2966 : (.methodLink "PatternWorkshopLaw" 115 yX12_all : Cond) ∈ TW := tw_in (tb_11 (List.mem_of_getElem? (i := 91) rfl)) (by decide +kernel)
theorem tw_2967 : (.instanceMethod yX12_all : Cond) ∈ TW := tw_in (tb_11 (List.mem_of_getElem? (i := 92) rfl)) (by decide +kernel)
theorem tw_2968 : (.selects "PatternWorkshopModel" yX12_all yX12_all : Cond) ∈ TW := tw_in (tb_11 (List.mem_of_getElem? (i := 93) rfl)) (by decide +kernel)
theorem tw_2974 : (.methodLink "PatternWorkshopLaw" 119 yX12_replace : Cond) ∈ TW := tw_in (tb_11 (List.mem_of_getElem? (i := 99) rfl)) (by decide +kernel)
theorem tw_2975 : (.instanceMethod yX12_replace : Cond) ∈ TW := tw_in (tb_11 (List.mem_of_getElem? (i := 100) rfl)) (by decide +kernel)
theorem tw_2976 : (.selects "PatternWorkshopModel" yX12_replace yX12_replace : Cond) ∈ TW := tw_in (tb_11 (List.mem_of_getElem? (i := 101) rfl)) (by decide +kernel)
theorem tw_2994 : (.methodLink "PatternWorkshopLaw" 132 yX12_steps : Cond) ∈ TW := tw_in (tb_11 (List.mem_of_getElem? (i := 119) rfl)) (by decide +kernel)
theorem tw_2995 : (.instanceMethod yX12_steps : Cond) ∈ TW := tw_in (tb_11 (List.mem_of_getElem? (i := 120) rfl)) (by decide +kernel)
theorem tw_2996 : (.selects "PatternWorkshopModel" yX12_steps yX12_steps : Cond) ∈ TW := tw_in (tb_11 (List.mem_of_getElem? (i := 121) rfl)) (by decide +kernel)
theorem tw_2998 : (.methodLink "PatternWorkshopLaw" 136 yX12_table : Cond) ∈ TW := tw_in (tb_11 (List.mem_of_getElem? (i := 123) rfl)) (by decide +kernel)
theorem tw_2999 : (.instanceMethod yX12_table : Cond) ∈ TW := tw_in (tb_11 (List.mem_of_getElem? (i := 124) rfl)) (by decide +kernel)
theorem tw_3000 : (.selects "PatternWorkshopModel" yX12_table yX12_table : Cond) ∈ TW := tw_in (tb_11 (List.mem_of_getElem? (i := 125) rfl)) (by decide +kernel)
theorem tw_3014 : (.methodLink "PatternWorkshopLaw" 140 yX12_least : Cond) ∈ TW := tw_in (tb_11 (List.mem_of_getElem? (i := 139) rfl)) (by decide +kernel)
theorem tw_3015 : (.instanceMethod yX12_least : Cond) ∈ TW := tw_in (tb_11 (List.mem_of_getElem? (i := 140) rfl)) (by decide +kernel)
theorem tw_3016 : (.selects "PatternWorkshopModel" yX12_least yX12_least : Cond) ∈ TW := tw_in (tb_11 (List.mem_of_getElem? (i := 141) rfl)) (by decide +kernel)
theorem tw_3022 : (.methodLink "PatternWorkshopLaw" 128 yX12_prefix : Cond) ∈ TW := tw_in (tb_11 (List.mem_of_getElem? (i := 147) rfl)) (by decide +kernel)
theorem tw_3023 : (.instanceMethod yX12_prefix : Cond) ∈ TW := tw_in (tb_11 (List.mem_of_getElem? (i := 148) rfl)) (by decide +kernel)
theorem tw_3024 : (.selects "PatternWorkshopModel" yX12_prefix yX12_prefix : Cond) ∈ TW := tw_in (tb_11 (List.mem_of_getElem? (i := 149) rfl)) (by decide +kernel)
theorem tw_3030 : (.methodLink "PatternWorkshopLaw" 144 yX12_compare : Cond) ∈ TW := tw_in (tb_11 (List.mem_of_getElem? (i := 155) rfl)) (by decide +kernel)
theorem tw_3031 : (.instanceMethod yX12_compare : Cond) ∈ TW := tw_in (tb_11 (List.mem_of_getElem? (i := 156) rfl)) (by decide +kernel)
theorem tw_3032 : (.selects "PatternWorkshopModel" yX12_compare yX12_compare : Cond) ∈ TW := tw_in (tb_11 (List.mem_of_getElem? (i := 157) rfl)) (by decide +kernel)
theorem tw_3054 : (.methodLink "PatternWorkshopLaw" 148 yX12_parting : Cond) ∈ TW := tw_in (tb_11 (List.mem_of_getElem? (i := 179) rfl)) (by decide +kernel)
theorem tw_3055 : (.instanceMethod yX12_parting : Cond) ∈ TW := tw_in (tb_11 (List.mem_of_getElem? (i := 180) rfl)) (by decide +kernel)
theorem tw_3056 : (.selects "PatternWorkshopModel" yX12_parting yX12_parting : Cond) ∈ TW := tw_in (tb_11 (List.mem_of_getElem? (i := 181) rfl)) (by decide +kernel)
theorem tw_3062 : (.methodLink "PatternWorkshopLaw" 156 yX12_finding : Cond) ∈ TW := tw_in (tb_11 (List.mem_of_getElem? (i := 187) rfl)) (by decide +kernel)
theorem tw_3063 : (.instanceMethod yX12_finding : Cond) ∈ TW := tw_in (tb_11 (List.mem_of_getElem? (i := 188) rfl)) (by decide +kernel)
theorem tw_3064 : (.selects "PatternWorkshopModel" yX12_finding yX12_finding : Cond) ∈ TW := tw_in (tb_11 (List.mem_of_getElem? (i := 189) rfl)) (by decide +kernel)
theorem tw_3066 : (.methodLink "PatternWorkshopLaw" 160 yX12_told : Cond) ∈ TW := tw_in (tb_11 (List.mem_of_getElem? (i := 191) rfl)) (by decide +kernel)
theorem tw_3067 : (.instanceMethod yX12_told : Cond) ∈ TW := tw_in (tb_11 (List.mem_of_getElem? (i := 192) rfl)) (by decide +kernel)
theorem tw_3068 : (.selects "PatternWorkshopModel" yX12_told yX12_told : Cond) ∈ TW := tw_in (tb_11 (List.mem_of_getElem? (i := 193) rfl)) (by decide +kernel)
theorem tw_3070 : (.methodLink "PatternWorkshopLaw" 164 yX12_clear : Cond) ∈ TW := tw_in (tb_11 (List.mem_of_getElem? (i := 195) rfl)) (by decide +kernel)
theorem tw_3071 : (.instanceMethod yX12_clear : Cond) ∈ TW := tw_in (tb_11 (List.mem_of_getElem? (i := 196) rfl)) (by decide +kernel)
theorem tw_3072 : (.selects "PatternWorkshopModel" yX12_clear yX12_clear : Cond) ∈ TW := tw_in (tb_11 (List.mem_of_getElem? (i := 197) rfl)) (by decide +kernel)
theorem dL_law_23 : decode cL_law 23 = .ok (.iload 4, 2) := by decide +kernel
theorem dL_law_25 : decode cL_law 25 = .ok (.aload_n 0, 1) := by decide +kernel
theorem dL_law_26 : decode cL_law 26 = .ok (.arraylength, 1) := by decide +kernel
theorem dL_law_27 : decode cL_law 27 = .ok (.bipush 6, 2) := by decide +kernel
theorem dL_law_29 : decode cL_law 29 = .ok (.isub, 1) := by decide +kernel
theorem dL_law_30 : decode cL_law 30 = .ok (.if_icmp .gt 1401, 3) := by decide +kernel
theorem dL_law_249 : decode cL_law 249 = .ok (.aload_n 1, 1) := by decide +kernel
theorem dL_law_250 : decode cL_law 250 = .ok (.aload_n 0, 1) := by decide +kernel
theorem dL_law_251 : decode cL_law 251 = .ok (.iload 4, 2) := by decide +kernel
theorem dL_law_253 : decode cL_law 253 = .ok (.iconst 1, 1) := by decide +kernel
theorem dL_law_254 : decode cL_law 254 = .ok (.iadd, 1) := by decide +kernel
theorem dL_law_255 : decode cL_law 255 = .ok (.iaload, 1) := by decide +kernel
theorem dL_law_256 : decode cL_law 256 = .ok (.invokevirtual 32, 3) := by decide +kernel
theorem dL_law_259 : decode cL_law 259 = .ok (.aload_n 2, 1) := by decide +kernel
theorem dL_law_260 : decode cL_law 260 = .ok (.aload_n 0, 1) := by decide +kernel
theorem dL_law_261 : decode cL_law 261 = .ok (.iload 4, 2) := by decide +kernel
theorem dL_law_263 : decode cL_law 263 = .ok (.iconst 1, 1) := by decide +kernel
theorem dL_law_264 : decode cL_law 264 = .ok (.iadd, 1) := by decide +kernel
theorem dL_law_265 : decode cL_law 265 = .ok (.iaload, 1) := by decide +kernel
theorem dL_law_266 : decode cL_law 266 = .ok (.invokevirtual 35, 3) := by decide +kernel
theorem dL_law_269 : decode cL_law 269 = .ok (.if_icmp .eq 1156, 3) := by decide +kernel
theorem dL_law_274 : decode cL_law 274 = .ok (.aload_n 1, 1) := by decide +kernel
theorem dL_law_275 : decode cL_law 275 = .ok (.invokevirtual 36, 3) := by decide +kernel
theorem dL_law_278 : decode cL_law 278 = .ok (.aload_n 2, 1) := by decide +kernel
theorem dL_law_279 : decode cL_law 279 = .ok (.invokevirtual 40, 3) := by decide +kernel
theorem dL_law_282 : decode cL_law 282 = .ok (.if_icmp .eq 1143, 3) := by decide +kernel
theorem dL_law_287 : decode cL_law 287 = .ok (.aload_n 1, 1) := by decide +kernel
theorem dL_law_288 : decode cL_law 288 = .ok (.aload_n 0, 1) := by decide +kernel
theorem dL_law_289 : decode cL_law 289 = .ok (.iload 4, 2) := by decide +kernel
theorem dL_law_291 : decode cL_law 291 = .ok (.iconst 1, 1) := by decide +kernel
theorem dL_law_292 : decode cL_law 292 = .ok (.iadd, 1) := by decide +kernel
theorem dL_law_293 : decode cL_law 293 = .ok (.iaload, 1) := by decide +kernel
theorem dL_law_294 : decode cL_law 294 = .ok (.invokevirtual 41, 3) := by decide +kernel
theorem dL_law_297 : decode cL_law 297 = .ok (.aload_n 2, 1) := by decide +kernel
theorem dL_law_298 : decode cL_law 298 = .ok (.aload_n 0, 1) := by decide +kernel
theorem dL_law_299 : decode cL_law 299 = .ok (.iload 4, 2) := by decide +kernel
theorem dL_law_301 : decode cL_law 301 = .ok (.iconst 1, 1) := by decide +kernel
theorem dL_law_302 : decode cL_law 302 = .ok (.iadd, 1) := by decide +kernel
theorem dL_law_303 : decode cL_law 303 = .ok (.iaload, 1) := by decide +kernel
theorem dL_law_304 : decode cL_law 304 = .ok (.invokevirtual 44, 3) := by decide +kernel
theorem dL_law_307 : decode cL_law 307 = .ok (.if_icmp .eq 1118, 3) := by decide +kernel
theorem dL_law_312 : decode cL_law 312 = .ok (.aload_n 1, 1) := by decide +kernel
theorem dL_law_313 : decode cL_law 313 = .ok (.aload_n 0, 1) := by decide +kernel
theorem dL_law_314 : decode cL_law 314 = .ok (.iload 4, 2) := by decide +kernel
theorem dL_law_316 : decode cL_law 316 = .ok (.iconst 1, 1) := by decide +kernel
theorem dL_law_317 : decode cL_law 317 = .ok (.iadd, 1) := by decide +kernel
theorem dL_law_318 : decode cL_law 318 = .ok (.iaload, 1) := by decide +kernel
theorem dL_law_319 : decode cL_law 319 = .ok (.aload_n 0, 1) := by decide +kernel
theorem dL_law_320 : decode cL_law 320 = .ok (.iload 4, 2) := by decide +kernel
theorem dL_law_322 : decode cL_law 322 = .ok (.iconst 2, 1) := by decide +kernel
theorem dL_law_323 : decode cL_law 323 = .ok (.iadd, 1) := by decide +kernel
theorem dL_law_324 : decode cL_law 324 = .ok (.iaload, 1) := by decide +kernel
theorem dL_law_325 : decode cL_law 325 = .ok (.aload_n 0, 1) := by decide +kernel
theorem dL_law_326 : decode cL_law 326 = .ok (.iload 4, 2) := by decide +kernel
theorem dL_law_328 : decode cL_law 328 = .ok (.iconst 3, 1) := by decide +kernel
theorem dL_law_329 : decode cL_law 329 = .ok (.iadd, 1) := by decide +kernel
theorem dL_law_330 : decode cL_law 330 = .ok (.iaload, 1) := by decide +kernel
theorem dL_law_331 : decode cL_law 331 = .ok (.invokevirtual 45, 3) := by decide +kernel
theorem dL_law_334 : decode cL_law 334 = .ok (.aload_n 2, 1) := by decide +kernel
theorem dL_law_335 : decode cL_law 335 = .ok (.aload_n 0, 1) := by decide +kernel
theorem dL_law_336 : decode cL_law 336 = .ok (.iload 4, 2) := by decide +kernel
theorem dL_law_338 : decode cL_law 338 = .ok (.iconst 1, 1) := by decide +kernel
theorem dL_law_339 : decode cL_law 339 = .ok (.iadd, 1) := by decide +kernel
theorem dL_law_340 : decode cL_law 340 = .ok (.iaload, 1) := by decide +kernel
theorem dL_law_341 : decode cL_law 341 = .ok (.aload_n 0, 1) := by decide +kernel
theorem dL_law_342 : decode cL_law 342 = .ok (.iload 4, 2) := by decide +kernel
theorem dL_law_344 : decode cL_law 344 = .ok (.iconst 2, 1) := by decide +kernel
theorem dL_law_345 : decode cL_law 345 = .ok (.iadd, 1) := by decide +kernel
theorem dL_law_346 : decode cL_law 346 = .ok (.iaload, 1) := by decide +kernel
theorem dL_law_347 : decode cL_law 347 = .ok (.aload_n 0, 1) := by decide +kernel
theorem dL_law_348 : decode cL_law 348 = .ok (.iload 4, 2) := by decide +kernel
theorem dL_law_350 : decode cL_law 350 = .ok (.iconst 3, 1) := by decide +kernel
theorem dL_law_351 : decode cL_law 351 = .ok (.iadd, 1) := by decide +kernel
theorem dL_law_352 : decode cL_law 352 = .ok (.iaload, 1) := by decide +kernel
theorem dL_law_353 : decode cL_law 353 = .ok (.invokevirtual 49, 3) := by decide +kernel
theorem dL_law_356 : decode cL_law 356 = .ok (.if_icmp .eq 1069, 3) := by decide +kernel
theorem dL_law_361 : decode cL_law 361 = .ok (.aload_n 1, 1) := by decide +kernel
theorem dL_law_362 : decode cL_law 362 = .ok (.aload_n 0, 1) := by decide +kernel
theorem dL_law_363 : decode cL_law 363 = .ok (.iload 4, 2) := by decide +kernel
theorem dL_law_365 : decode cL_law 365 = .ok (.iconst 1, 1) := by decide +kernel
theorem dL_law_366 : decode cL_law 366 = .ok (.iadd, 1) := by decide +kernel
theorem dL_law_367 : decode cL_law 367 = .ok (.iaload, 1) := by decide +kernel
theorem dL_law_368 : decode cL_law 368 = .ok (.aload_n 0, 1) := by decide +kernel
theorem dL_law_369 : decode cL_law 369 = .ok (.iload 4, 2) := by decide +kernel
theorem dL_law_371 : decode cL_law 371 = .ok (.iconst 2, 1) := by decide +kernel
theorem dL_law_372 : decode cL_law 372 = .ok (.iadd, 1) := by decide +kernel
theorem dL_law_373 : decode cL_law 373 = .ok (.iaload, 1) := by decide +kernel
theorem dL_law_374 : decode cL_law 374 = .ok (.aload_n 0, 1) := by decide +kernel
theorem dL_law_375 : decode cL_law 375 = .ok (.iload 4, 2) := by decide +kernel
theorem dL_law_377 : decode cL_law 377 = .ok (.iconst 3, 1) := by decide +kernel
theorem dL_law_378 : decode cL_law 378 = .ok (.iadd, 1) := by decide +kernel
theorem dL_law_379 : decode cL_law 379 = .ok (.iaload, 1) := by decide +kernel
theorem dL_law_380 : decode cL_law 380 = .ok (.aload_n 0, 1) := by decide +kernel
theorem dL_law_381 : decode cL_law 381 = .ok (.iload 4, 2) := by decide +kernel
theorem dL_law_383 : decode cL_law 383 = .ok (.iconst 4, 1) := by decide +kernel
theorem dL_law_384 : decode cL_law 384 = .ok (.iadd, 1) := by decide +kernel
theorem dL_law_385 : decode cL_law 385 = .ok (.iaload, 1) := by decide +kernel
theorem dL_law_386 : decode cL_law 386 = .ok (.ifCond .eq 7, 3) := by decide +kernel
theorem dL_law_389 : decode cL_law 389 = .ok (.iconst 1, 1) := by decide +kernel
theorem dL_law_390 : decode cL_law 390 = .ok (.goto 4, 3) := by decide +kernel
theorem dL_law_393 : decode cL_law 393 = .ok (.iconst 0, 1) := by decide +kernel
theorem dL_law_394 : decode cL_law 394 = .ok (.invokevirtual 50, 3) := by decide +kernel
theorem dL_law_397 : decode cL_law 397 = .ok (.aload_n 2, 1) := by decide +kernel
theorem dL_law_398 : decode cL_law 398 = .ok (.aload_n 0, 1) := by decide +kernel
theorem dL_law_399 : decode cL_law 399 = .ok (.iload 4, 2) := by decide +kernel
theorem dL_law_401 : decode cL_law 401 = .ok (.iconst 1, 1) := by decide +kernel
theorem dL_law_402 : decode cL_law 402 = .ok (.iadd, 1) := by decide +kernel
theorem dL_law_403 : decode cL_law 403 = .ok (.iaload, 1) := by decide +kernel
theorem dL_law_404 : decode cL_law 404 = .ok (.aload_n 0, 1) := by decide +kernel
theorem dL_law_405 : decode cL_law 405 = .ok (.iload 4, 2) := by decide +kernel
theorem dL_law_407 : decode cL_law 407 = .ok (.iconst 2, 1) := by decide +kernel
theorem dL_law_408 : decode cL_law 408 = .ok (.iadd, 1) := by decide +kernel
theorem dL_law_409 : decode cL_law 409 = .ok (.iaload, 1) := by decide +kernel
theorem dL_law_410 : decode cL_law 410 = .ok (.aload_n 0, 1) := by decide +kernel
theorem dL_law_411 : decode cL_law 411 = .ok (.iload 4, 2) := by decide +kernel
theorem dL_law_413 : decode cL_law 413 = .ok (.iconst 3, 1) := by decide +kernel
theorem dL_law_414 : decode cL_law 414 = .ok (.iadd, 1) := by decide +kernel
theorem dL_law_415 : decode cL_law 415 = .ok (.iaload, 1) := by decide +kernel
theorem dL_law_416 : decode cL_law 416 = .ok (.aload_n 0, 1) := by decide +kernel
theorem dL_law_417 : decode cL_law 417 = .ok (.iload 4, 2) := by decide +kernel
theorem dL_law_419 : decode cL_law 419 = .ok (.iconst 4, 1) := by decide +kernel
theorem dL_law_420 : decode cL_law 420 = .ok (.iadd, 1) := by decide +kernel
theorem dL_law_421 : decode cL_law 421 = .ok (.iaload, 1) := by decide +kernel
theorem dL_law_422 : decode cL_law 422 = .ok (.ifCond .eq 7, 3) := by decide +kernel
theorem dL_law_425 : decode cL_law 425 = .ok (.iconst 1, 1) := by decide +kernel
theorem dL_law_426 : decode cL_law 426 = .ok (.goto 4, 3) := by decide +kernel
theorem dL_law_429 : decode cL_law 429 = .ok (.iconst 0, 1) := by decide +kernel
theorem dL_law_430 : decode cL_law 430 = .ok (.invokevirtual 54, 3) := by decide +kernel
theorem dL_law_433 : decode cL_law 433 = .ok (.if_icmp .eq 992, 3) := by decide +kernel
theorem dL_law_438 : decode cL_law 438 = .ok (.aload_n 1, 1) := by decide +kernel
theorem dL_law_439 : decode cL_law 439 = .ok (.aload_n 0, 1) := by decide +kernel
theorem dL_law_440 : decode cL_law 440 = .ok (.iload 4, 2) := by decide +kernel
theorem dL_law_442 : decode cL_law 442 = .ok (.iconst 1, 1) := by decide +kernel
theorem dL_law_443 : decode cL_law 443 = .ok (.iadd, 1) := by decide +kernel
theorem dL_law_444 : decode cL_law 444 = .ok (.iaload, 1) := by decide +kernel
theorem dL_law_445 : decode cL_law 445 = .ok (.invokevirtual 55, 3) := by decide +kernel
theorem dL_law_448 : decode cL_law 448 = .ok (.aload_n 2, 1) := by decide +kernel
theorem dL_law_449 : decode cL_law 449 = .ok (.aload_n 0, 1) := by decide +kernel
theorem dL_law_450 : decode cL_law 450 = .ok (.iload 4, 2) := by decide +kernel
theorem dL_law_452 : decode cL_law 452 = .ok (.iconst 1, 1) := by decide +kernel
theorem dL_law_453 : decode cL_law 453 = .ok (.iadd, 1) := by decide +kernel
theorem dL_law_454 : decode cL_law 454 = .ok (.iaload, 1) := by decide +kernel
theorem dL_law_455 : decode cL_law 455 = .ok (.invokevirtual 58, 3) := by decide +kernel
theorem dL_law_458 : decode cL_law 458 = .ok (.if_icmp .eq 967, 3) := by decide +kernel
theorem dL_law_463 : decode cL_law 463 = .ok (.aload_n 1, 1) := by decide +kernel
theorem dL_law_464 : decode cL_law 464 = .ok (.aload_n 0, 1) := by decide +kernel
theorem dL_law_465 : decode cL_law 465 = .ok (.iload 4, 2) := by decide +kernel
theorem dL_law_467 : decode cL_law 467 = .ok (.iconst 1, 1) := by decide +kernel
theorem dL_law_468 : decode cL_law 468 = .ok (.iadd, 1) := by decide +kernel
theorem dL_law_469 : decode cL_law 469 = .ok (.iaload, 1) := by decide +kernel
theorem dL_law_470 : decode cL_law 470 = .ok (.aload_n 0, 1) := by decide +kernel
theorem dL_law_471 : decode cL_law 471 = .ok (.iload 4, 2) := by decide +kernel
theorem dL_law_473 : decode cL_law 473 = .ok (.iconst 2, 1) := by decide +kernel
theorem dL_law_474 : decode cL_law 474 = .ok (.iadd, 1) := by decide +kernel
theorem dL_law_475 : decode cL_law 475 = .ok (.iaload, 1) := by decide +kernel
theorem dL_law_476 : decode cL_law 476 = .ok (.invokevirtual 59, 3) := by decide +kernel
theorem dL_law_479 : decode cL_law 479 = .ok (.aload_n 2, 1) := by decide +kernel
theorem dL_law_480 : decode cL_law 480 = .ok (.aload_n 0, 1) := by decide +kernel
theorem dL_law_481 : decode cL_law 481 = .ok (.iload 4, 2) := by decide +kernel
theorem dL_law_483 : decode cL_law 483 = .ok (.iconst 1, 1) := by decide +kernel
theorem dL_law_484 : decode cL_law 484 = .ok (.iadd, 1) := by decide +kernel
theorem dL_law_485 : decode cL_law 485 = .ok (.iaload, 1) := by decide +kernel
theorem dL_law_486 : decode cL_law 486 = .ok (.aload_n 0, 1) := by decide +kernel
theorem dL_law_487 : decode cL_law 487 = .ok (.iload 4, 2) := by decide +kernel
theorem dL_law_489 : decode cL_law 489 = .ok (.iconst 2, 1) := by decide +kernel
theorem dL_law_490 : decode cL_law 490 = .ok (.iadd, 1) := by decide +kernel
theorem dL_law_491 : decode cL_law 491 = .ok (.iaload, 1) := by decide +kernel
theorem dL_law_492 : decode cL_law 492 = .ok (.invokevirtual 63, 3) := by decide +kernel
theorem dL_law_495 : decode cL_law 495 = .ok (.if_icmp .eq 930, 3) := by decide +kernel
theorem dL_law_500 : decode cL_law 500 = .ok (.aload_n 1, 1) := by decide +kernel
theorem dL_law_501 : decode cL_law 501 = .ok (.aload_n 0, 1) := by decide +kernel
theorem dL_law_502 : decode cL_law 502 = .ok (.iload 4, 2) := by decide +kernel
theorem dL_law_504 : decode cL_law 504 = .ok (.iconst 1, 1) := by decide +kernel
theorem dL_law_505 : decode cL_law 505 = .ok (.iadd, 1) := by decide +kernel
theorem dL_law_506 : decode cL_law 506 = .ok (.iaload, 1) := by decide +kernel
theorem dL_law_507 : decode cL_law 507 = .ok (.invokevirtual 64, 3) := by decide +kernel
theorem dL_law_510 : decode cL_law 510 = .ok (.aload_n 2, 1) := by decide +kernel
theorem dL_law_511 : decode cL_law 511 = .ok (.aload_n 0, 1) := by decide +kernel
theorem dL_law_512 : decode cL_law 512 = .ok (.iload 4, 2) := by decide +kernel
theorem dL_law_514 : decode cL_law 514 = .ok (.iconst 1, 1) := by decide +kernel
theorem dL_law_515 : decode cL_law 515 = .ok (.iadd, 1) := by decide +kernel
theorem dL_law_516 : decode cL_law 516 = .ok (.iaload, 1) := by decide +kernel
theorem dL_law_517 : decode cL_law 517 = .ok (.invokevirtual 67, 3) := by decide +kernel
theorem dL_law_520 : decode cL_law 520 = .ok (.if_icmp .eq 905, 3) := by decide +kernel
theorem dL_law_525 : decode cL_law 525 = .ok (.aload_n 1, 1) := by decide +kernel
theorem dL_law_526 : decode cL_law 526 = .ok (.aload_n 0, 1) := by decide +kernel
theorem dL_law_527 : decode cL_law 527 = .ok (.iload 4, 2) := by decide +kernel
theorem dL_law_529 : decode cL_law 529 = .ok (.iconst 1, 1) := by decide +kernel
theorem dL_law_530 : decode cL_law 530 = .ok (.iadd, 1) := by decide +kernel
theorem dL_law_531 : decode cL_law 531 = .ok (.iaload, 1) := by decide +kernel
theorem dL_law_532 : decode cL_law 532 = .ok (.aload_n 0, 1) := by decide +kernel
theorem dL_law_533 : decode cL_law 533 = .ok (.iload 4, 2) := by decide +kernel
theorem dL_law_535 : decode cL_law 535 = .ok (.iconst 2, 1) := by decide +kernel
theorem dL_law_536 : decode cL_law 536 = .ok (.iadd, 1) := by decide +kernel
theorem dL_law_537 : decode cL_law 537 = .ok (.iaload, 1) := by decide +kernel
theorem dL_law_538 : decode cL_law 538 = .ok (.invokevirtual 68, 3) := by decide +kernel
theorem dL_law_541 : decode cL_law 541 = .ok (.aload_n 2, 1) := by decide +kernel
theorem dL_law_542 : decode cL_law 542 = .ok (.aload_n 0, 1) := by decide +kernel
theorem dL_law_543 : decode cL_law 543 = .ok (.iload 4, 2) := by decide +kernel
theorem dL_law_545 : decode cL_law 545 = .ok (.iconst 1, 1) := by decide +kernel
theorem dL_law_546 : decode cL_law 546 = .ok (.iadd, 1) := by decide +kernel
theorem dL_law_547 : decode cL_law 547 = .ok (.iaload, 1) := by decide +kernel
theorem dL_law_548 : decode cL_law 548 = .ok (.aload_n 0, 1) := by decide +kernel
theorem dL_law_549 : decode cL_law 549 = .ok (.iload 4, 2) := by decide +kernel
theorem dL_law_551 : decode cL_law 551 = .ok (.iconst 2, 1) := by decide +kernel
theorem dL_law_552 : decode cL_law 552 = .ok (.iadd, 1) := by decide +kernel
theorem dL_law_553 : decode cL_law 553 = .ok (.iaload, 1) := by decide +kernel
theorem dL_law_554 : decode cL_law 554 = .ok (.invokevirtual 71, 3) := by decide +kernel
theorem dL_law_557 : decode cL_law 557 = .ok (.if_icmp .eq 868, 3) := by decide +kernel
theorem dL_law_643 : decode cL_law 643 = .ok (.aload_n 1, 1) := by decide +kernel
theorem dL_law_644 : decode cL_law 644 = .ok (.aload_n 0, 1) := by decide +kernel
theorem dL_law_645 : decode cL_law 645 = .ok (.iload 4, 2) := by decide +kernel
theorem dL_law_647 : decode cL_law 647 = .ok (.iconst 1, 1) := by decide +kernel
theorem dL_law_648 : decode cL_law 648 = .ok (.iadd, 1) := by decide +kernel
theorem dL_law_649 : decode cL_law 649 = .ok (.iaload, 1) := by decide +kernel
theorem dL_law_650 : decode cL_law 650 = .ok (.invokevirtual 77, 3) := by decide +kernel
theorem dL_law_653 : decode cL_law 653 = .ok (.aload_n 2, 1) := by decide +kernel
theorem dL_law_654 : decode cL_law 654 = .ok (.aload_n 0, 1) := by decide +kernel
theorem dL_law_655 : decode cL_law 655 = .ok (.iload 4, 2) := by decide +kernel
theorem dL_law_657 : decode cL_law 657 = .ok (.iconst 1, 1) := by decide +kernel
theorem dL_law_658 : decode cL_law 658 = .ok (.iadd, 1) := by decide +kernel
theorem dL_law_659 : decode cL_law 659 = .ok (.iaload, 1) := by decide +kernel
theorem dL_law_660 : decode cL_law 660 = .ok (.invokevirtual 80, 3) := by decide +kernel
theorem dL_law_663 : decode cL_law 663 = .ok (.if_icmp .eq 762, 3) := by decide +kernel
theorem dL_law_736 : decode cL_law 736 = .ok (.aload_n 1, 1) := by decide +kernel
theorem dL_law_737 : decode cL_law 737 = .ok (.aload_n 0, 1) := by decide +kernel
theorem dL_law_738 : decode cL_law 738 = .ok (.iload 4, 2) := by decide +kernel
theorem dL_law_740 : decode cL_law 740 = .ok (.iconst 1, 1) := by decide +kernel
theorem dL_law_741 : decode cL_law 741 = .ok (.iadd, 1) := by decide +kernel
theorem dL_law_742 : decode cL_law 742 = .ok (.iaload, 1) := by decide +kernel
theorem dL_law_743 : decode cL_law 743 = .ok (.aload_n 0, 1) := by decide +kernel
theorem dL_law_744 : decode cL_law 744 = .ok (.iload 4, 2) := by decide +kernel
theorem dL_law_746 : decode cL_law 746 = .ok (.iconst 2, 1) := by decide +kernel
theorem dL_law_747 : decode cL_law 747 = .ok (.iadd, 1) := by decide +kernel
theorem dL_law_748 : decode cL_law 748 = .ok (.iaload, 1) := by decide +kernel
theorem dL_law_749 : decode cL_law 749 = .ok (.aload_n 0, 1) := by decide +kernel
theorem dL_law_750 : decode cL_law 750 = .ok (.iload 4, 2) := by decide +kernel
theorem dL_law_752 : decode cL_law 752 = .ok (.iconst 3, 1) := by decide +kernel
theorem dL_law_753 : decode cL_law 753 = .ok (.iadd, 1) := by decide +kernel
theorem dL_law_754 : decode cL_law 754 = .ok (.iaload, 1) := by decide +kernel
theorem dL_law_755 : decode cL_law 755 = .ok (.aload_n 0, 1) := by decide +kernel
theorem dL_law_756 : decode cL_law 756 = .ok (.iload 4, 2) := by decide +kernel
theorem dL_law_758 : decode cL_law 758 = .ok (.iconst 4, 1) := by decide +kernel
theorem dL_law_759 : decode cL_law 759 = .ok (.iadd, 1) := by decide +kernel
theorem dL_law_760 : decode cL_law 760 = .ok (.iaload, 1) := by decide +kernel
theorem dL_law_761 : decode cL_law 761 = .ok (.aload_n 0, 1) := by decide +kernel
theorem dL_law_762 : decode cL_law 762 = .ok (.iload 4, 2) := by decide +kernel
theorem dL_law_764 : decode cL_law 764 = .ok (.iconst 5, 1) := by decide +kernel
theorem dL_law_765 : decode cL_law 765 = .ok (.iadd, 1) := by decide +kernel
theorem dL_law_766 : decode cL_law 766 = .ok (.iaload, 1) := by decide +kernel
theorem dL_law_767 : decode cL_law 767 = .ok (.invokevirtual 90, 3) := by decide +kernel
theorem dL_law_770 : decode cL_law 770 = .ok (.aload_n 2, 1) := by decide +kernel
theorem dL_law_771 : decode cL_law 771 = .ok (.aload_n 0, 1) := by decide +kernel
theorem dL_law_772 : decode cL_law 772 = .ok (.iload 4, 2) := by decide +kernel
theorem dL_law_774 : decode cL_law 774 = .ok (.iconst 1, 1) := by decide +kernel
theorem dL_law_775 : decode cL_law 775 = .ok (.iadd, 1) := by decide +kernel
theorem dL_law_776 : decode cL_law 776 = .ok (.iaload, 1) := by decide +kernel
theorem dL_law_777 : decode cL_law 777 = .ok (.aload_n 0, 1) := by decide +kernel
theorem dL_law_778 : decode cL_law 778 = .ok (.iload 4, 2) := by decide +kernel
theorem dL_law_780 : decode cL_law 780 = .ok (.iconst 2, 1) := by decide +kernel
theorem dL_law_781 : decode cL_law 781 = .ok (.iadd, 1) := by decide +kernel
theorem dL_law_782 : decode cL_law 782 = .ok (.iaload, 1) := by decide +kernel
theorem dL_law_783 : decode cL_law 783 = .ok (.aload_n 0, 1) := by decide +kernel
theorem dL_law_784 : decode cL_law 784 = .ok (.iload 4, 2) := by decide +kernel
theorem dL_law_786 : decode cL_law 786 = .ok (.iconst 3, 1) := by decide +kernel
theorem dL_law_787 : decode cL_law 787 = .ok (.iadd, 1) := by decide +kernel
theorem dL_law_788 : decode cL_law 788 = .ok (.iaload, 1) := by decide +kernel
theorem dL_law_789 : decode cL_law 789 = .ok (.aload_n 0, 1) := by decide +kernel
theorem dL_law_790 : decode cL_law 790 = .ok (.iload 4, 2) := by decide +kernel
theorem dL_law_792 : decode cL_law 792 = .ok (.iconst 4, 1) := by decide +kernel
theorem dL_law_793 : decode cL_law 793 = .ok (.iadd, 1) := by decide +kernel
theorem dL_law_794 : decode cL_law 794 = .ok (.iaload, 1) := by decide +kernel
theorem dL_law_795 : decode cL_law 795 = .ok (.aload_n 0, 1) := by decide +kernel
theorem dL_law_796 : decode cL_law 796 = .ok (.iload 4, 2) := by decide +kernel
theorem dL_law_798 : decode cL_law 798 = .ok (.iconst 5, 1) := by decide +kernel
theorem dL_law_799 : decode cL_law 799 = .ok (.iadd, 1) := by decide +kernel
theorem dL_law_800 : decode cL_law 800 = .ok (.iaload, 1) := by decide +kernel
theorem dL_law_801 : decode cL_law 801 = .ok (.invokevirtual 94, 3) := by decide +kernel
theorem dL_law_804 : decode cL_law 804 = .ok (.if_icmp .eq 621, 3) := by decide +kernel
theorem dL_law_809 : decode cL_law 809 = .ok (.aload_n 1, 1) := by decide +kernel
theorem dL_law_810 : decode cL_law 810 = .ok (.aload_n 0, 1) := by decide +kernel
theorem dL_law_811 : decode cL_law 811 = .ok (.iload 4, 2) := by decide +kernel
theorem dL_law_813 : decode cL_law 813 = .ok (.iconst 1, 1) := by decide +kernel
theorem dL_law_814 : decode cL_law 814 = .ok (.iadd, 1) := by decide +kernel
theorem dL_law_815 : decode cL_law 815 = .ok (.iaload, 1) := by decide +kernel
theorem dL_law_816 : decode cL_law 816 = .ok (.invokevirtual 95, 3) := by decide +kernel
theorem dL_law_819 : decode cL_law 819 = .ok (.aload_n 2, 1) := by decide +kernel
theorem dL_law_820 : decode cL_law 820 = .ok (.aload_n 0, 1) := by decide +kernel
theorem dL_law_821 : decode cL_law 821 = .ok (.iload 4, 2) := by decide +kernel
theorem dL_law_823 : decode cL_law 823 = .ok (.iconst 1, 1) := by decide +kernel
theorem dL_law_824 : decode cL_law 824 = .ok (.iadd, 1) := by decide +kernel
theorem dL_law_825 : decode cL_law 825 = .ok (.iaload, 1) := by decide +kernel
theorem dL_law_826 : decode cL_law 826 = .ok (.invokevirtual 98, 3) := by decide +kernel
