theorem tw_1572 : (.methodLink "PatternWorkshop$Program" 47 yX5_subjectOf : Cond) ∈ TW := tw_in (tb_5 (List.mem_of_getElem? (i := 137) rfl)) (by decide +kernel)
theorem tw_1573 : (.methodLink "PatternWorkshop$Program" 51 yX10_takes : Cond) ∈ TW := tw_in (tb_5 (List.mem_of_getElem? (i := 138) rfl)) (by decide +kernel)
theorem tw_1574 : (.methodLink "PatternWorkshop$Parallel" 140 yX3_tell : Cond) ∈ TW := tw_in (tb_5 (List.mem_of_getElem? (i := 139) rfl)) (by decide +kernel)
theorem tw_1576 : (.instanceMethod yX3_tell : Cond) ∈ TW := tw_in (tb_5 (List.mem_of_getElem? (i := 141) rfl)) (by decide +kernel)
theorem tw_1577 : (.code yX3_tell cX3_tell 3 none : Cond) ∈ TW := tw_in (tb_5 (List.mem_of_getElem? (i := 142) rfl)) (by decide +kernel)
theorem tw_1578 : (.methodLink "PatternWorkshop$Parallel" 144 yX7_empty : Cond) ∈ TW := tw_in (tb_5 (List.mem_of_getElem? (i := 143) rfl)) (by decide +kernel)
theorem tw_1579 : (.methodLink "PatternWorkshop$Parallel" 147 yX7_add : Cond) ∈ TW := tw_in (tb_5 (List.mem_of_getElem? (i := 144) rfl)) (by decide +kernel)
theorem tw_1583 : (.code yX1_begin cX1_begin 5 none : Cond) ∈ TW := tw_in (tb_5 (List.mem_of_getElem? (i := 148) rfl)) (by decide +kernel)
theorem tw_1584 : (.methodLink "PatternWorkshop$GoingBack" 59 yX1_startAt : Cond) ∈ TW := tw_in (tb_5 (List.mem_of_getElem? (i := 149) rfl)) (by decide +kernel)
theorem tw_1586 : (.instanceMethod yX1_startAt : Cond) ∈ TW := tw_in (tb_5 (List.mem_of_getElem? (i := 151) rfl)) (by decide +kernel)
theorem tw_1587 : (.code yX1_startAt cX1_startAt 2 none : Cond) ∈ TW := tw_in (tb_5 (List.mem_of_getElem? (i := 152) rfl)) (by decide +kernel)
theorem tw_1588 : (.methodLink "PatternWorkshop$GoingBack" 80 yJ7_fill_53178 : Cond) ∈ TW := tw_in (tb_5 (List.mem_of_getElem? (i := 153) rfl)) (by decide +kernel)
theorem tw_1593 : (.methodLink "PatternWorkshop$GoingBack" 86 ⟨"java/lang/Math", "min", "(II)I"⟩ : Cond) ∈ TW := tw_in (tb_5 (List.mem_of_getElem? (i := 158) rfl)) (by decide +kernel)
theorem tw_1599 : (.methodLink "PatternWorkshop$GoingBack" 137 yX10_sortOf : Cond) ∈ TW := tw_in (tb_5 (List.mem_of_getElem? (i := 164) rfl)) (by decide +kernel)
theorem tw_1603 : (.code yX1_step cX1_step 1 (some (.boolean)) : Cond) ∈ TW := tw_in (tb_5 (List.mem_of_getElem? (i := 168) rfl)) (by decide +kernel)
theorem tw_1607 : (.code yX1_askSign cX1_askSign 2 none : Cond) ∈ TW := tw_in (tb_5 (List.mem_of_getElem? (i := 172) rfl)) (by decide +kernel)
theorem tw_1608 : (.methodLink "PatternWorkshop$GoingBack" 174 yX7_at : Cond) ∈ TW := tw_in (tb_5 (List.mem_of_getElem? (i := 173) rfl)) (by decide +kernel)
theorem tw_1609 : (.methodLink "PatternWorkshop$GoingBack" 177 yX10_takes : Cond) ∈ TW := tw_in (tb_5 (List.mem_of_getElem? (i := 174) rfl)) (by decide +kernel)
theorem tw_1613 : (.code yX1_askEdge cX1_askEdge 1 none : Cond) ∈ TW := tw_in (tb_5 (List.mem_of_getElem? (i := 178) rfl)) (by decide +kernel)
theorem tw_1614 : (.methodLink "PatternWorkshop$GoingBack" 181 yX10_valueOf : Cond) ∈ TW := tw_in (tb_5 (List.mem_of_getElem? (i := 179) rfl)) (by decide +kernel)
theorem tw_1619 : (.code yX1_askBack cX1_askBack 7 none : Cond) ∈ TW := tw_in (tb_5 (List.mem_of_getElem? (i := 184) rfl)) (by decide +kernel)
theorem tw_1620 : (.methodLink "PatternWorkshop$GoingBack" 130 yX1_captureBegin : Cond) ∈ TW := tw_in (tb_5 (List.mem_of_getElem? (i := 185) rfl)) (by decide +kernel)
theorem tw_1622 : (.instanceMethod yX1_captureBegin : Cond) ∈ TW := tw_in (tb_5 (List.mem_of_getElem? (i := 187) rfl)) (by decide +kernel)
theorem tw_1623 : (.code yX1_captureBegin cX1_captureBegin 3 (some (.int)) : Cond) ∈ TW := tw_in (tb_5 (List.mem_of_getElem? (i := 188) rfl)) (by decide +kernel)
theorem tw_1624 : (.methodLink "PatternWorkshop$GoingBack" 204 yX1_cell : Cond) ∈ TW := tw_in (tb_5 (List.mem_of_getElem? (i := 189) rfl)) (by decide +kernel)
theorem tw_1626 : (.instanceMethod yX1_cell : Cond) ∈ TW := tw_in (tb_5 (List.mem_of_getElem? (i := 191) rfl)) (by decide +kernel)
theorem tw_1627 : (.code yX1_cell cX1_cell 2 (some (.int)) : Cond) ∈ TW := tw_in (tb_5 (List.mem_of_getElem? (i := 192) rfl)) (by decide +kernel)
theorem tw_1628 : (.methodLink "PatternWorkshop$GoingBack" 134 yX1_captureEnd : Cond) ∈ TW := tw_in (tb_5 (List.mem_of_getElem? (i := 193) rfl)) (by decide +kernel)
theorem tw_1630 : (.instanceMethod yX1_captureEnd : Cond) ∈ TW := tw_in (tb_5 (List.mem_of_getElem? (i := 195) rfl)) (by decide +kernel)
theorem tw_1631 : (.code yX1_captureEnd cX1_captureEnd 3 (some (.int)) : Cond) ∈ TW := tw_in (tb_5 (List.mem_of_getElem? (i := 196) rfl)) (by decide +kernel)
theorem tw_1632 : (.methodLink "PatternWorkshop$GoingBack" 188 yX10_isWithinCase : Cond) ∈ TW := tw_in (tb_5 (List.mem_of_getElem? (i := 197) rfl)) (by decide +kernel)
theorem tw_1634 : (.methodLink "PatternWorkshop$GoingBack" 153 yX10_firstOf : Cond) ∈ TW := tw_in (tb_5 (List.mem_of_getElem? (i := 199) rfl)) (by decide +kernel)
theorem tw_1639 : (.methodLink "PatternWorkshop$GoingBack" 195 yX10_nextOf : Cond) ∈ TW := tw_in (tb_5 (List.mem_of_getElem? (i := 204) rfl)) (by decide +kernel)
theorem tw_1664 : (.code yX1_markBase cX1_markBase 1 none : Cond) ∈ TW := tw_in (tb_5 (List.mem_of_getElem? (i := 229) rfl)) (by decide +kernel)
theorem tw_1669 : (.constant "PatternWorkshop$GoingBack" 254 65536 : Cond) ∈ TW := tw_in (tb_5 (List.mem_of_getElem? (i := 234) rfl)) (by decide +kernel)
theorem tw_1674 : (.methodLink "PatternWorkshop$GoingBack" 219 yX1_looksBehind : Cond) ∈ TW := tw_in (tb_5 (List.mem_of_getElem? (i := 239) rfl)) (by decide +kernel)
theorem tw_1676 : (.instanceMethod yX1_looksBehind : Cond) ∈ TW := tw_in (tb_6 (List.mem_of_getElem? (i := 1) rfl)) (by decide +kernel)
theorem tw_1677 : (.code yX1_looksBehind cX1_looksBehind 1 (some (.boolean)) : Cond) ∈ TW := tw_in (tb_6 (List.mem_of_getElem? (i := 2) rfl)) (by decide +kernel)
theorem tw_1681 : (.code yX1_enterPart cX1_enterPart 2 none : Cond) ∈ TW := tw_in (tb_6 (List.mem_of_getElem? (i := 6) rfl)) (by decide +kernel)
theorem tw_1690 : (.code yX1_finish cX1_finish 1 none : Cond) ∈ TW := tw_in (tb_6 (List.mem_of_getElem? (i := 15) rfl)) (by decide +kernel)
theorem tw_1694 : (.code yX1_leavePartOfRow cX1_leavePartOfRow 3 none : Cond) ∈ TW := tw_in (tb_6 (List.mem_of_getElem? (i := 19) rfl)) (by decide +kernel)
theorem tw_1698 : (.code yX1_endTurn cX1_endTurn 3 none : Cond) ∈ TW := tw_in (tb_6 (List.mem_of_getElem? (i := 23) rfl)) (by decide +kernel)
theorem tw_1699 : (.methodLink "PatternWorkshop$GoingBack" 210 yX10_lowOf : Cond) ∈ TW := tw_in (tb_6 (List.mem_of_getElem? (i := 24) rfl)) (by decide +kernel)
theorem tw_1703 : (.code yX1_leaveLook cX1_leaveLook 2 none : Cond) ∈ TW := tw_in (tb_6 (List.mem_of_getElem? (i := 28) rfl)) (by decide +kernel)
theorem tw_1704 : (.methodLink "PatternWorkshop$GoingBack" 222 yX1_entryOf : Cond) ∈ TW := tw_in (tb_6 (List.mem_of_getElem? (i := 29) rfl)) (by decide +kernel)
theorem tw_1706 : (.instanceMethod yX1_entryOf : Cond) ∈ TW := tw_in (tb_6 (List.mem_of_getElem? (i := 31) rfl)) (by decide +kernel)
theorem tw_1707 : (.code yX1_entryOf cX1_entryOf 2 (some (.int)) : Cond) ∈ TW := tw_in (tb_6 (List.mem_of_getElem? (i := 32) rfl)) (by decide +kernel)
theorem tw_1708 : (.methodLink "PatternWorkshop$GoingBack" 216 yX1_cutToBase : Cond) ∈ TW := tw_in (tb_6 (List.mem_of_getElem? (i := 33) rfl)) (by decide +kernel)
theorem tw_1710 : (.instanceMethod yX1_cutToBase : Cond) ∈ TW := tw_in (tb_6 (List.mem_of_getElem? (i := 35) rfl)) (by decide +kernel)
theorem tw_1711 : (.code yX1_cutToBase cX1_cutToBase 1 none : Cond) ∈ TW := tw_in (tb_6 (List.mem_of_getElem? (i := 36) rfl)) (by decide +kernel)
theorem tw_1720 : (.code yX1_endLoop cX1_endLoop 1 none : Cond) ∈ TW := tw_in (tb_6 (List.mem_of_getElem? (i := 45) rfl)) (by decide +kernel)
theorem tw_1736 : (.code yX1_startFurther cX1_startFurther 1 none : Cond) ∈ TW := tw_in (tb_6 (List.mem_of_getElem? (i := 61) rfl)) (by decide +kernel)
theorem tw_1740 : (.code yX1_undo cX1_undo 3 none : Cond) ∈ TW := tw_in (tb_6 (List.mem_of_getElem? (i := 65) rfl)) (by decide +kernel)
theorem tw_1744 : (.code yX1_lookAgain cX1_lookAgain 1 none : Cond) ∈ TW := tw_in (tb_6 (List.mem_of_getElem? (i := 69) rfl)) (by decide +kernel)
theorem tw_1748 : (.code yX1_tell cX1_tell 3 none : Cond) ∈ TW := tw_in (tb_6 (List.mem_of_getElem? (i := 73) rfl)) (by decide +kernel)
theorem tw_1749 : (.methodLink "PatternWorkshop$GoingBack" 121 yX7_empty : Cond) ∈ TW := tw_in (tb_6 (List.mem_of_getElem? (i := 74) rfl)) (by decide +kernel)
theorem tw_1750 : (.methodLink "PatternWorkshop$GoingBack" 124 yX7_add : Cond) ∈ TW := tw_in (tb_6 (List.mem_of_getElem? (i := 75) rfl)) (by decide +kernel)
theorem tw_1775 : (.code yX10_captureNamed cX10_captureNamed 3 (some (.int)) : Cond) ∈ TW := tw_in (tb_6 (List.mem_of_getElem? (i := 100) rfl)) (by decide +kernel)
theorem tw_1833 : (.code yX8_make cX8_make 3 (some (.boolean)) : Cond) ∈ TW := tw_in (tb_6 (List.mem_of_getElem? (i := 158) rfl)) (by decide +kernel)
theorem tw_1834 : (.methodLink "PatternWorkshop$Sets" 41 yX0_gather : Cond) ∈ TW := tw_in (tb_6 (List.mem_of_getElem? (i := 159) rfl)) (by decide +kernel)
theorem tw_1835 : (.methodLink "PatternWorkshop$Sets" 45 yX9_make : Cond) ∈ TW := tw_in (tb_6 (List.mem_of_getElem? (i := 160) rfl)) (by decide +kernel)
theorem tw_1836 : (.instanceMethod yX9_make : Cond) ∈ TW := tw_in (tb_6 (List.mem_of_getElem? (i := 161) rfl)) (by decide +kernel)
theorem tw_1837 : (.selects "PatternWorkshop$Table" yX9_make yX9_make : Cond) ∈ TW := tw_in (tb_6 (List.mem_of_getElem? (i := 162) rfl)) (by decide +kernel)
theorem tw_1838 : (.code yX9_make cX9_make 5 (some (.boolean)) : Cond) ∈ TW := tw_in (tb_6 (List.mem_of_getElem? (i := 163) rfl)) (by decide +kernel)
theorem tw_1839 : (.methodLink "PatternWorkshop$Table" 57 yX5_write : Cond) ∈ TW := tw_in (tb_6 (List.mem_of_getElem? (i := 164) rfl)) (by decide +kernel)
theorem tw_1840 : (.methodLink "PatternWorkshop$Table" 67 ⟨"java/lang/Math", "min", "(II)I"⟩ : Cond) ∈ TW := tw_in (tb_6 (List.mem_of_getElem? (i := 165) rfl)) (by decide +kernel)
theorem tw_1841 : (.methodLink "PatternWorkshop$Table" 76 yX9_numberPositions : Cond) ∈ TW := tw_in (tb_6 (List.mem_of_getElem? (i := 166) rfl)) (by decide +kernel)
theorem tw_1843 : (.instanceMethod yX9_numberPositions : Cond) ∈ TW := tw_in (tb_6 (List.mem_of_getElem? (i := 168) rfl)) (by decide +kernel)
theorem tw_1844 : (.code yX9_numberPositions cX9_numberPositions 2 none : Cond) ∈ TW := tw_in (tb_6 (List.mem_of_getElem? (i := 169) rfl)) (by decide +kernel)
theorem tw_1845 : (.methodLink "PatternWorkshop$Table" 104 yX5_has : Cond) ∈ TW := tw_in (tb_6 (List.mem_of_getElem? (i := 170) rfl)) (by decide +kernel)
theorem tw_1846 : (.instanceMethod yX5_has : Cond) ∈ TW := tw_in (tb_6 (List.mem_of_getElem? (i := 171) rfl)) (by decide +kernel)
theorem tw_1847 : (.selects "PatternWorkshop$Program" yX5_has yX5_has : Cond) ∈ TW := tw_in (tb_6 (List.mem_of_getElem? (i := 172) rfl)) (by decide +kernel)
theorem tw_1848 : (.code yX5_has cX5_has 2 (some (.boolean)) : Cond) ∈ TW := tw_in (tb_6 (List.mem_of_getElem? (i := 173) rfl)) (by decide +kernel)
theorem tw_1849 : (.methodLink "PatternWorkshop$Table" 107 yX5_kindOf : Cond) ∈ TW := tw_in (tb_6 (List.mem_of_getElem? (i := 174) rfl)) (by decide +kernel)
theorem tw_1850 : (.methodLink "PatternWorkshop$Table" 82 yX5_nextOf : Cond) ∈ TW := tw_in (tb_6 (List.mem_of_getElem? (i := 175) rfl)) (by decide +kernel)
theorem tw_1851 : (.methodLink "PatternWorkshop$Table" 86 yX9_reach : Cond) ∈ TW := tw_in (tb_6 (List.mem_of_getElem? (i := 176) rfl)) (by decide +kernel)
theorem tw_1853 : (.instanceMethod yX9_reach : Cond) ∈ TW := tw_in (tb_6 (List.mem_of_getElem? (i := 178) rfl)) (by decide +kernel)
theorem tw_1854 : (.code yX9_reach cX9_reach 7 (some (.long)) : Cond) ∈ TW := tw_in (tb_6 (List.mem_of_getElem? (i := 179) rfl)) (by decide +kernel)
theorem tw_1855 : (.methodLink "PatternWorkshop$Table" 120 yX9_push : Cond) ∈ TW := tw_in (tb_6 (List.mem_of_getElem? (i := 180) rfl)) (by decide +kernel)
theorem tw_1857 : (.instanceMethod yX9_push : Cond) ∈ TW := tw_in (tb_6 (List.mem_of_getElem? (i := 182) rfl)) (by decide +kernel)
theorem tw_1858 : (.code yX9_push cX9_push 2 none : Cond) ∈ TW := tw_in (tb_6 (List.mem_of_getElem? (i := 183) rfl)) (by decide +kernel)
theorem tw_1859 : (.constantLong "PatternWorkshop$Table" 124 (-9223372036854775808) : Cond) ∈ TW := tw_in (tb_6 (List.mem_of_getElem? (i := 184) rfl)) (by decide +kernel)
theorem tw_1860 : (.methodLink "PatternWorkshop$Table" 126 yX5_otherOf : Cond) ∈ TW := tw_in (tb_6 (List.mem_of_getElem? (i := 185) rfl)) (by decide +kernel)
theorem tw_1861 : (.methodLink "PatternWorkshop$Table" 90 yX0_leastOf : Cond) ∈ TW := tw_in (tb_6 (List.mem_of_getElem? (i := 186) rfl)) (by decide +kernel)
theorem tw_1862 : (.methodLink "PatternWorkshop$Table" 93 yX9_takersOf : Cond) ∈ TW := tw_in (tb_6 (List.mem_of_getElem? (i := 187) rfl)) (by decide +kernel)
theorem tw_1864 : (.instanceMethod yX9_takersOf : Cond) ∈ TW := tw_in (tb_6 (List.mem_of_getElem? (i := 189) rfl)) (by decide +kernel)
theorem tw_1865 : (.code yX9_takersOf cX9_takersOf 5 (some (.long)) : Cond) ∈ TW := tw_in (tb_6 (List.mem_of_getElem? (i := 190) rfl)) (by decide +kernel)
theorem tw_1866 : (.methodLink "PatternWorkshop$Table" 110 yX5_takes : Cond) ∈ TW := tw_in (tb_6 (List.mem_of_getElem? (i := 191) rfl)) (by decide +kernel)
theorem tw_1867 : (.methodLink "PatternWorkshop$Table" 100 yX9_fillState : Cond) ∈ TW := tw_in (tb_6 (List.mem_of_getElem? (i := 192) rfl)) (by decide +kernel)
theorem tw_1869 : (.instanceMethod yX9_fillState : Cond) ∈ TW := tw_in (tb_6 (List.mem_of_getElem? (i := 194) rfl)) (by decide +kernel)
theorem tw_1870 : (.code yX9_fillState cX9_fillState 4 (some (.boolean)) : Cond) ∈ TW := tw_in (tb_6 (List.mem_of_getElem? (i := 195) rfl)) (by decide +kernel)
theorem tw_1871 : (.methodLink "PatternWorkshop$Table" 129 yX9_stateOf : Cond) ∈ TW := tw_in (tb_6 (List.mem_of_getElem? (i := 196) rfl)) (by decide +kernel)
theorem tw_1873 : (.instanceMethod yX9_stateOf : Cond) ∈ TW := tw_in (tb_6 (List.mem_of_getElem? (i := 198) rfl)) (by decide +kernel)
theorem tw_1874 : (.code yX9_stateOf cX9_stateOf 4 (some (.int)) : Cond) ∈ TW := tw_in (tb_6 (List.mem_of_getElem? (i := 199) rfl)) (by decide +kernel)
theorem tw_1875 : (.methodLink "PatternWorkshop$Table" 133 yX9_followOf : Cond) ∈ TW := tw_in (tb_6 (List.mem_of_getElem? (i := 200) rfl)) (by decide +kernel)
theorem tw_1877 : (.instanceMethod yX9_followOf : Cond) ∈ TW := tw_in (tb_6 (List.mem_of_getElem? (i := 202) rfl)) (by decide +kernel)
theorem tw_1878 : (.code yX9_followOf cX9_followOf 6 (some (.long)) : Cond) ∈ TW := tw_in (tb_6 (List.mem_of_getElem? (i := 203) rfl)) (by decide +kernel)
theorem tw_1882 : (.code yX8_longestBeginning cX8_longestBeginning 3 (some (.int)) : Cond) ∈ TW := tw_in (tb_6 (List.mem_of_getElem? (i := 207) rfl)) (by decide +kernel)
theorem tw_1883 : (.methodLink "PatternWorkshop$Sets" 49 yX9_longestBeginning : Cond) ∈ TW := tw_in (tb_6 (List.mem_of_getElem? (i := 208) rfl)) (by decide +kernel)
theorem tw_1884 : (.instanceMethod yX9_longestBeginning : Cond) ∈ TW := tw_in (tb_6 (List.mem_of_getElem? (i := 209) rfl)) (by decide +kernel)
theorem tw_1885 : (.selects "PatternWorkshop$Table" yX9_longestBeginning yX9_longestBeginning : Cond) ∈ TW := tw_in (tb_6 (List.mem_of_getElem? (i := 210) rfl)) (by decide +kernel)
theorem tw_1886 : (.code yX9_longestBeginning cX9_longestBeginning 7 (some (.int)) : Cond) ∈ TW := tw_in (tb_6 (List.mem_of_getElem? (i := 211) rfl)) (by decide +kernel)
theorem tw_1887 : (.methodLink "PatternWorkshop$Table" 137 yX9_markLive : Cond) ∈ TW := tw_in (tb_6 (List.mem_of_getElem? (i := 212) rfl)) (by decide +kernel)
theorem tw_1889 : (.instanceMethod yX9_markLive : Cond) ∈ TW := tw_in (tb_6 (List.mem_of_getElem? (i := 214) rfl)) (by decide +kernel)
theorem tw_1890 : (.code yX9_markLive cX9_markLive 4 none : Cond) ∈ TW := tw_in (tb_6 (List.mem_of_getElem? (i := 215) rfl)) (by decide +kernel)
theorem tw_1891 : (.methodLink "PatternWorkshop$Table" 152 yX9_ends : Cond) ∈ TW := tw_in (tb_6 (List.mem_of_getElem? (i := 216) rfl)) (by decide +kernel)
theorem tw_1892 : (.instanceMethod yX9_ends : Cond) ∈ TW := tw_in (tb_6 (List.mem_of_getElem? (i := 217) rfl)) (by decide +kernel)
theorem tw_1893 : (.selects "PatternWorkshop$Table" yX9_ends yX9_ends : Cond) ∈ TW := tw_in (tb_6 (List.mem_of_getElem? (i := 218) rfl)) (by decide +kernel)
theorem tw_1894 : (.code yX9_ends cX9_ends 2 (some (.boolean)) : Cond) ∈ TW := tw_in (tb_6 (List.mem_of_getElem? (i := 219) rfl)) (by decide +kernel)
theorem tw_1895 : (.methodLink "PatternWorkshop$Table" 155 yX9_leadsToLive : Cond) ∈ TW := tw_in (tb_6 (List.mem_of_getElem? (i := 220) rfl)) (by decide +kernel)
theorem tw_1897 : (.instanceMethod yX9_leadsToLive : Cond) ∈ TW := tw_in (tb_6 (List.mem_of_getElem? (i := 222) rfl)) (by decide +kernel)
theorem tw_1898 : (.code yX9_leadsToLive cX9_leadsToLive 4 (some (.boolean)) : Cond) ∈ TW := tw_in (tb_6 (List.mem_of_getElem? (i := 223) rfl)) (by decide +kernel)
theorem tw_1899 : (.methodLink "PatternWorkshop$Table" 149 yX9_next : Cond) ∈ TW := tw_in (tb_6 (List.mem_of_getElem? (i := 224) rfl)) (by decide +kernel)
theorem tw_1900 : (.instanceMethod yX9_next : Cond) ∈ TW := tw_in (tb_6 (List.mem_of_getElem? (i := 225) rfl)) (by decide +kernel)
theorem tw_1901 : (.selects "PatternWorkshop$Table" yX9_next yX9_next : Cond) ∈ TW := tw_in (tb_6 (List.mem_of_getElem? (i := 226) rfl)) (by decide +kernel)
theorem tw_1902 : (.code yX9_next cX9_next 4 (some (.int)) : Cond) ∈ TW := tw_in (tb_6 (List.mem_of_getElem? (i := 227) rfl)) (by decide +kernel)
theorem tw_1903 : (.methodLink "PatternWorkshop$Table" 143 yX7_at : Cond) ∈ TW := tw_in (tb_6 (List.mem_of_getElem? (i := 228) rfl)) (by decide +kernel)
theorem tw_1904 : (.methodLink "PatternWorkshop$Table" 146 yX0_classOf : Cond) ∈ TW := tw_in (tb_6 (List.mem_of_getElem? (i := 229) rfl)) (by decide +kernel)
theorem tw_1905 : (.instanceMethod yX0_classOf : Cond) ∈ TW := tw_in (tb_6 (List.mem_of_getElem? (i := 230) rfl)) (by decide +kernel)
theorem tw_1906 : (.selects "PatternWorkshop$Alphabet" yX0_classOf yX0_classOf : Cond) ∈ TW := tw_in (tb_6 (List.mem_of_getElem? (i := 231) rfl)) (by decide +kernel)
theorem tw_1907 : (.code yX0_classOf cX0_classOf 4 (some (.int)) : Cond) ∈ TW := tw_in (tb_6 (List.mem_of_getElem? (i := 232) rfl)) (by decide +kernel)
theorem tw_1923 : (.code yX9_fewestStates cX9_fewestStates 4 (some (.int)) : Cond) ∈ TW := tw_in (tb_7 (List.mem_of_getElem? (i := 8) rfl)) (by decide +kernel)
theorem tw_1924 : (.methodLink "PatternWorkshop$Table" 158 yX9_refine : Cond) ∈ TW := tw_in (tb_7 (List.mem_of_getElem? (i := 9) rfl)) (by decide +kernel)
theorem tw_1926 : (.instanceMethod yX9_refine : Cond) ∈ TW := tw_in (tb_7 (List.mem_of_getElem? (i := 11) rfl)) (by decide +kernel)
theorem tw_1927 : (.code yX9_refine cX9_refine 4 (some (.int)) : Cond) ∈ TW := tw_in (tb_7 (List.mem_of_getElem? (i := 12) rfl)) (by decide +kernel)
theorem tw_1928 : (.methodLink "PatternWorkshop$Table" 168 yX9_staysTogether : Cond) ∈ TW := tw_in (tb_7 (List.mem_of_getElem? (i := 13) rfl)) (by decide +kernel)
theorem tw_1930 : (.instanceMethod yX9_staysTogether : Cond) ∈ TW := tw_in (tb_7 (List.mem_of_getElem? (i := 15) rfl)) (by decide +kernel)
theorem tw_1931 : (.code yX9_staysTogether cX9_staysTogether 4 (some (.boolean)) : Cond) ∈ TW := tw_in (tb_7 (List.mem_of_getElem? (i := 16) rfl)) (by decide +kernel)
theorem tw_1932 : (.methodLink "PatternWorkshop$Table" 171 yX9_groupOf : Cond) ∈ TW := tw_in (tb_7 (List.mem_of_getElem? (i := 17) rfl)) (by decide +kernel)
theorem tw_1934 : (.instanceMethod yX9_groupOf : Cond) ∈ TW := tw_in (tb_7 (List.mem_of_getElem? (i := 19) rfl)) (by decide +kernel)
theorem tw_1935 : (.code yX9_groupOf cX9_groupOf 2 (some (.int)) : Cond) ∈ TW := tw_in (tb_7 (List.mem_of_getElem? (i := 20) rfl)) (by decide +kernel)
theorem tw_1936 : (.methodLink "PatternWorkshop$Table" 162 ⟨"java/lang/System", "arraycopy", "(Ljava/lang/Object;ILjava/lang/Object;II)V"⟩ : Cond) ∈ TW := tw_in (tb_7 (List.mem_of_getElem? (i := 21) rfl)) (by decide +kernel)
theorem tw_1944 : (.code yX8_walkBoth cX8_walkBoth 5 none : Cond) ∈ TW := tw_in (tb_7 (List.mem_of_getElem? (i := 29) rfl)) (by decide +kernel)
theorem tw_1945 : (.methodLink "PatternWorkshop$Sets" 70 yX8_meet : Cond) ∈ TW := tw_in (tb_7 (List.mem_of_getElem? (i := 30) rfl)) (by decide +kernel)
theorem tw_1947 : (.instanceMethod yX8_meet : Cond) ∈ TW := tw_in (tb_7 (List.mem_of_getElem? (i := 32) rfl)) (by decide +kernel)
theorem tw_1948 : (.code yX8_meet cX8_meet 4 none : Cond) ∈ TW := tw_in (tb_7 (List.mem_of_getElem? (i := 33) rfl)) (by decide +kernel)
theorem tw_1949 : (.methodLink "PatternWorkshop$Sets" 74 yX9_ends : Cond) ∈ TW := tw_in (tb_7 (List.mem_of_getElem? (i := 34) rfl)) (by decide +kernel)
theorem tw_1950 : (.methodLink "PatternWorkshop$Sets" 78 yX8_look : Cond) ∈ TW := tw_in (tb_7 (List.mem_of_getElem? (i := 35) rfl)) (by decide +kernel)
theorem tw_1952 : (.instanceMethod yX8_look : Cond) ∈ TW := tw_in (tb_7 (List.mem_of_getElem? (i := 37) rfl)) (by decide +kernel)
theorem tw_1953 : (.code yX8_look cX8_look 4 none : Cond) ∈ TW := tw_in (tb_7 (List.mem_of_getElem? (i := 38) rfl)) (by decide +kernel)
theorem tw_1954 : (.methodLink "PatternWorkshop$Sets" 85 yX9_next : Cond) ∈ TW := tw_in (tb_7 (List.mem_of_getElem? (i := 39) rfl)) (by decide +kernel)
theorem tw_1955 : (.methodLink "PatternWorkshop$Sets" 89 yX0_leastOf : Cond) ∈ TW := tw_in (tb_7 (List.mem_of_getElem? (i := 40) rfl)) (by decide +kernel)
theorem tw_1963 : (.code yX8_writeParting cX8_writeParting 3 none : Cond) ∈ TW := tw_in (tb_7 (List.mem_of_getElem? (i := 48) rfl)) (by decide +kernel)
theorem tw_1964 : (.methodLink "PatternWorkshop$Sets" 93 yX7_empty : Cond) ∈ TW := tw_in (tb_7 (List.mem_of_getElem? (i := 49) rfl)) (by decide +kernel)
theorem tw_1965 : (.methodLink "PatternWorkshop$Sets" 98 yX7_add : Cond) ∈ TW := tw_in (tb_7 (List.mem_of_getElem? (i := 50) rfl)) (by decide +kernel)
theorem tw_1966 : (.methodLink "PatternWorkshop$Sets" 102 yX7_turnRound : Cond) ∈ TW := tw_in (tb_7 (List.mem_of_getElem? (i := 51) rfl)) (by decide +kernel)
theorem tw_1967 : (.instanceMethod yX7_turnRound : Cond) ∈ TW := tw_in (tb_7 (List.mem_of_getElem? (i := 52) rfl)) (by decide +kernel)
theorem tw_1968 : (.selects "PatternWorkshop$Row" yX7_turnRound yX7_turnRound : Cond) ∈ TW := tw_in (tb_7 (List.mem_of_getElem? (i := 53) rfl)) (by decide +kernel)
theorem tw_1969 : (.code yX7_turnRound cX7_turnRound 4 none : Cond) ∈ TW := tw_in (tb_7 (List.mem_of_getElem? (i := 54) rfl)) (by decide +kernel)
theorem gw_J7_fill_53178 : GoodIn TW (WS yJ7_fill_53178 cJ7_fill_53178 4 none) := goodC tw_890
theorem gw_X0_addBegin : GoodIn TW (WS yX0_addBegin cX0_addBegin 5 none) := goodC tw_1344
theorem gw_X0_addParts : GoodIn TW (WS yX0_addParts cX0_addParts 4 none) := goodC tw_1351
theorem gw_X0_addRange : GoodIn TW (WS yX0_addRange cX0_addRange 4 none) := goodC tw_1340
theorem gw_X0_addTree : GoodIn TW (WS yX0_addTree cX0_addTree 3 none) := goodC tw_1332
theorem gw_X0_classOf : GoodIn TW (WS yX0_classOf cX0_classOf 4 (some (.int))) := goodC tw_1907
theorem gw_X0_gather : GoodIn TW (WS yX0_gather cX0_gather 3 none) := goodC tw_1328
theorem gw_X0_leastOf : GoodIn TW (WS yX0_leastOf cX0_leastOf 2 (some (.int))) := goodC tw_1362
theorem gw_X10_add : GoodIn TW (WS yX10_add cX10_add 7 (some (.int))) := goodC tw_1064
theorem gw_X10_addRange : GoodIn TW (WS yX10_addRange cX10_addRange 3 none) := goodC tw_1011
theorem gw_X10_beforeOf : GoodIn TW (WS yX10_beforeOf cX10_beforeOf 2 (some (.int))) := goodC tw_1388
theorem gw_X10_beginsWith : GoodIn TW (WS yX10_beginsWith cX10_beginsWith 3 (some (.boolean))) := goodC tw_1295
theorem gw_X10_captureNamed : GoodIn TW (WS yX10_captureNamed cX10_captureNamed 3 (some (.int))) := goodC tw_1775
theorem gw_X10_close : GoodIn TW (WS yX10_close cX10_close 2 none) := goodC tw_1076
theorem gw_X10_copies : GoodIn TW (WS yX10_copies cX10_copies 2 (some (.int))) := goodC tw_1100
theorem gw_X10_deadRow : GoodIn TW (WS yX10_deadRow cX10_deadRow 4 (some (.int))) := goodC tw_1380
theorem gw_X10_endOf : GoodIn TW (WS yX10_endOf cX10_endOf 2 (some (.int))) := goodC tw_1396
theorem gw_X10_firstOf : GoodIn TW (WS yX10_firstOf cX10_firstOf 2 (some (.int))) := goodC tw_1092
theorem gw_X10_firstRisky : GoodIn TW (WS yX10_firstRisky cX10_firstRisky 6 (some (.int))) := goodC tw_1358
theorem gw_X10_has : GoodIn TW (WS yX10_has cX10_has 2 (some (.boolean))) := goodC tw_1072
theorem gw_X10_hasInParts : GoodIn TW (WS yX10_hasInParts cX10_hasInParts 4 (some (.boolean))) := goodC tw_1307
theorem gw_X10_highOf : GoodIn TW (WS yX10_highOf cX10_highOf 2 (some (.int))) := goodC tw_1108
theorem gw_X10_holderOf : GoodIn TW (WS yX10_holderOf cX10_holderOf 2 (some (.int))) := goodC tw_1205
theorem gw_X10_isEndless : GoodIn TW (WS yX10_isEndless cX10_isEndless 2 (some (.boolean))) := goodC tw_1367
theorem gw_X10_isMarked : GoodIn TW (WS yX10_isMarked cX10_isMarked 2 (some (.boolean))) := goodC tw_1315
theorem gw_X10_isParallel : GoodIn TW (WS yX10_isParallel cX10_isParallel 3 (some (.boolean))) := goodC tw_1450
theorem gw_X10_isSaidAhead : GoodIn TW (WS yX10_isSaidAhead cX10_isSaidAhead 3 (some (.boolean))) := goodC tw_1384
theorem gw_X10_isTakenBy : GoodIn TW (WS yX10_isTakenBy cX10_isTakenBy 4 (some (.boolean))) := goodC tw_1446
theorem gw_X10_isTooLargeFor : GoodIn TW (WS yX10_isTooLargeFor cX10_isTooLargeFor 2 (some (.boolean))) := goodC tw_1454
theorem gw_X10_isWithinCase : GoodIn TW (WS yX10_isWithinCase cX10_isWithinCase 2 (some (.boolean))) := goodC tw_1084
theorem gw_X10_lastOf : GoodIn TW (WS yX10_lastOf cX10_lastOf 2 (some (.int))) := goodC tw_1068
theorem gw_X10_lowOf : GoodIn TW (WS yX10_lowOf cX10_lowOf 2 (some (.int))) := goodC tw_1112
theorem gw_X10_markBeginning : GoodIn TW (WS yX10_markBeginning cX10_markBeginning 3 none) := goodC tw_1291
theorem gw_X10_maybeEmpty : GoodIn TW (WS yX10_maybeEmpty cX10_maybeEmpty 4 (some (.boolean))) := goodC tw_1123
theorem gw_X10_measure : GoodIn TW (WS yX10_measure cX10_measure 2 none) := goodC tw_1080
theorem gw_X10_measureNode : GoodIn TW (WS yX10_measureNode cX10_measureNode 7 none) := goodC tw_1088
theorem gw_X10_nextOf : GoodIn TW (WS yX10_nextOf cX10_nextOf 3 (some (.int))) := goodC tw_1096
theorem gw_X10_nodeAlike : GoodIn TW (WS yX10_nodeAlike cX10_nodeAlike 3 (some (.boolean))) := goodC tw_1400
theorem gw_X10_outermostEndless : GoodIn TW (WS yX10_outermostEndless cX10_outermostEndless 4 (some (.int))) := goodC tw_1371
theorem gw_X10_partBegin : GoodIn TW (WS yX10_partBegin cX10_partBegin 4 (some (.int))) := goodC tw_1187
theorem gw_X10_partEnd : GoodIn TW (WS yX10_partEnd cX10_partEnd 4 (some (.int))) := goodC tw_1183
theorem gw_X10_partsOf : GoodIn TW (WS yX10_partsOf cX10_partsOf 2 (some (.int))) := goodC tw_1164
theorem gw_X10_printAlike : GoodIn TW (WS yX10_printAlike cX10_printAlike 5 (some (.boolean))) := goodC tw_1392
theorem gw_X10_rangeCount : GoodIn TW (WS yX10_rangeCount cX10_rangeCount 1 (some (.int))) := goodC tw_1007
theorem gw_X10_reset : GoodIn TW (WS yX10_reset cX10_reset 1 none) := goodC tw_887
theorem gw_X10_rowBegins : GoodIn TW (WS yX10_rowBegins cX10_rowBegins 3 (some (.boolean))) := goodC tw_1311
theorem gw_X10_sameParts : GoodIn TW (WS yX10_sameParts cX10_sameParts 4 (some (.boolean))) := goodC tw_1404
theorem gw_X10_somePartIsMarked : GoodIn TW (WS yX10_somePartIsMarked cX10_somePartIsMarked 3 (some (.boolean))) := goodC tw_1319
theorem gw_X10_sortOf : GoodIn TW (WS yX10_sortOf cX10_sortOf 2 (some (.int))) := goodC tw_1104
theorem gw_X10_takes : GoodIn TW (WS yX10_takes cX10_takes 4 (some (.boolean))) := goodC tw_1299
theorem gw_X10_takesOneSign : GoodIn TW (WS yX10_takesOneSign cX10_takesOneSign 2 (some (.boolean))) := goodC tw_1119
theorem gw_X10_tellOfAll : GoodIn TW (WS yX10_tellOfAll cX10_tellOfAll 3 (some (.int))) := goodC tw_1160
theorem gw_X10_valueOf : GoodIn TW (WS yX10_valueOf cX10_valueOf 2 (some (.int))) := goodC tw_1174
theorem gw_X11_edgeHolds : GoodIn TW (WS yX11_edgeHolds cX11_edgeHolds 4 (some (.boolean))) := goodC tw_1507
theorem gw_X11_isDigit : GoodIn TW (WS yX11_isDigit cX11_isDigit 1 (some (.boolean))) := goodC tw_991
theorem gw_X11_isLetter : GoodIn TW (WS yX11_isLetter cX11_isLetter 2 (some (.boolean))) := goodC tw_995
theorem gw_X11_isPlain : GoodIn TW (WS yX11_isPlain cX11_isPlain 1 (some (.boolean))) := goodC tw_1229
theorem gw_X11_isSmall : GoodIn TW (WS yX11_isSmall cX11_isSmall 1 (some (.boolean))) := goodC tw_957
theorem gw_X11_isTapeSign : GoodIn TW (WS yX11_isTapeSign cX11_isTapeSign 1 (some (.boolean))) := goodC tw_864
theorem gw_X11_isWordSign : GoodIn TW (WS yX11_isWordSign cX11_isWordSign 2 (some (.boolean))) := goodC tw_1511
theorem gw_X11_otherCase : GoodIn TW (WS yX11_otherCase cX11_otherCase 2 (some (.int))) := goodC tw_1303
theorem gw_X1_askBack : GoodIn TW (WS yX1_askBack cX1_askBack 7 none) := goodC tw_1619
theorem gw_X1_askEdge : GoodIn TW (WS yX1_askEdge cX1_askEdge 1 none) := goodC tw_1613
theorem gw_X1_askSign : GoodIn TW (WS yX1_askSign cX1_askSign 2 none) := goodC tw_1607
theorem gw_X1_begin : GoodIn TW (WS yX1_begin cX1_begin 5 none) := goodC tw_1583
theorem gw_X1_captureBegin : GoodIn TW (WS yX1_captureBegin cX1_captureBegin 3 (some (.int))) := goodC tw_1623
theorem gw_X1_captureEnd : GoodIn TW (WS yX1_captureEnd cX1_captureEnd 3 (some (.int))) := goodC tw_1631
theorem gw_X1_cell : GoodIn TW (WS yX1_cell cX1_cell 2 (some (.int))) := goodC tw_1627
theorem gw_X1_cutToBase : GoodIn TW (WS yX1_cutToBase cX1_cutToBase 1 none) := goodC tw_1711
theorem gw_X1_endLoop : GoodIn TW (WS yX1_endLoop cX1_endLoop 1 none) := goodC tw_1720
theorem gw_X1_endTurn : GoodIn TW (WS yX1_endTurn cX1_endTurn 3 none) := goodC tw_1698
theorem gw_X1_enterPart : GoodIn TW (WS yX1_enterPart cX1_enterPart 2 none) := goodC tw_1681
theorem gw_X1_entryOf : GoodIn TW (WS yX1_entryOf cX1_entryOf 2 (some (.int))) := goodC tw_1707
theorem gw_X1_finish : GoodIn TW (WS yX1_finish cX1_finish 1 none) := goodC tw_1690
theorem gw_X1_leaveLook : GoodIn TW (WS yX1_leaveLook cX1_leaveLook 2 none) := goodC tw_1703
theorem gw_X1_leavePartOfRow : GoodIn TW (WS yX1_leavePartOfRow cX1_leavePartOfRow 3 none) := goodC tw_1694
theorem gw_X1_lookAgain : GoodIn TW (WS yX1_lookAgain cX1_lookAgain 1 none) := goodC tw_1744
theorem gw_X1_looksBehind : GoodIn TW (WS yX1_looksBehind cX1_looksBehind 1 (some (.boolean))) := goodC tw_1677
theorem gw_X1_markBase : GoodIn TW (WS yX1_markBase cX1_markBase 1 none) := goodC tw_1664
theorem gw_X1_startAt : GoodIn TW (WS yX1_startAt cX1_startAt 2 none) := goodC tw_1587
theorem gw_X1_startFurther : GoodIn TW (WS yX1_startFurther cX1_startFurther 1 none) := goodC tw_1736
theorem gw_X1_step : GoodIn TW (WS yX1_step cX1_step 1 (some (.boolean))) := goodC tw_1603
theorem gw_X1_tell : GoodIn TW (WS yX1_tell cX1_tell 3 none) := goodC tw_1748
theorem gw_X1_undo : GoodIn TW (WS yX1_undo cX1_undo 3 none) := goodC tw_1740
theorem gw_X2_begin : GoodIn TW (WS yX2_begin cX2_begin 4 none) := goodC tw_898
theorem gw_X2_beginRow : GoodIn TW (WS yX2_beginRow cX2_beginRow 1 none) := goodC tw_902
theorem gw_X3_cellAt : GoodIn TW (WS yX3_cellAt cX3_cellAt 2 (some (.int))) := goodC tw_1551
theorem gw_X3_exchangeLists : GoodIn TW (WS yX3_exchangeLists cX3_exchangeLists 3 none) := goodC tw_1562
theorem gw_X3_goAlong : GoodIn TW (WS yX3_goAlong cX3_goAlong 6 (some (.boolean))) := goodC tw_1566
theorem gw_X3_isNew : GoodIn TW (WS yX3_isNew cX3_isNew 2 (some (.boolean))) := goodC tw_1527
theorem gw_X3_markEdges : GoodIn TW (WS yX3_markEdges cX3_markEdges 3 none) := goodC tw_1504
theorem gw_X3_push : GoodIn TW (WS yX3_push cX3_push 3 none) := goodC tw_1519
theorem gw_X3_run : GoodIn TW (WS yX3_run cX3_run 8 (some (.boolean))) := goodC tw_1462
theorem gw_X3_setCell : GoodIn TW (WS yX3_setCell cX3_setCell 3 none) := goodC tw_1523
theorem gw_X3_spread : GoodIn TW (WS yX3_spread cX3_spread 7 none) := goodC tw_1515
theorem gw_X3_spreadOne : GoodIn TW (WS yX3_spreadOne cX3_spreadOne 7 none) := goodC tw_1531
theorem gw_X3_stopAt : GoodIn TW (WS yX3_stopAt cX3_stopAt 3 none) := goodC tw_1555
theorem gw_X3_tell : GoodIn TW (WS yX3_tell cX3_tell 3 none) := goodC tw_1577
theorem gw_X4_isGrouped : GoodIn TW (WS yX4_isGrouped cX4_isGrouped 3 (some (.boolean))) := goodC tw_1208
theorem gw_X4_isMark : GoodIn TW (WS yX4_isMark cX4_isMark 1 (some (.boolean))) := goodC tw_1222
theorem gw_X4_markOfLook : GoodIn TW (WS yX4_markOfLook cX4_markOfLook 1 (some (.int))) := goodC tw_1252
theorem gw_X4_write : GoodIn TW (WS yX4_write cX4_write 3 none) := goodC tw_1195
theorem gw_X4_writeClosing : GoodIn TW (WS yX4_writeClosing cX4_writeClosing 3 none) := goodC tw_1258
theorem gw_X4_writeCode : GoodIn TW (WS yX4_writeCode cX4_writeCode 4 none) := goodC tw_1226
theorem gw_X4_writeEdge : GoodIn TW (WS yX4_writeEdge cX4_writeEdge 2 none) := goodC tw_1244
theorem gw_X4_writeLeaf : GoodIn TW (WS yX4_writeLeaf cX4_writeLeaf 4 none) := goodC tw_1213
theorem gw_X4_writeLoop : GoodIn TW (WS yX4_writeLoop cX4_writeLoop 3 none) := goodC tw_1263
theorem gw_X4_writeMember : GoodIn TW (WS yX4_writeMember cX4_writeMember 2 none) := goodC tw_1239
theorem gw_X4_writeNode : GoodIn TW (WS yX4_writeNode cX4_writeNode 6 none) := goodC tw_1200
theorem gw_X4_writeNumber : GoodIn TW (WS yX4_writeNumber cX4_writeNumber 2 none) := goodC tw_1267
theorem gw_X4_writeOpening : GoodIn TW (WS yX4_writeOpening cX4_writeOpening 3 none) := goodC tw_1248
theorem gw_X4_writeSet : GoodIn TW (WS yX4_writeSet cX4_writeSet 4 none) := goodC tw_1233
theorem gw_X4_writeSign : GoodIn TW (WS yX4_writeSign cX4_writeSign 2 none) := goodC tw_1218
theorem gw_X5_add : GoodIn TW (WS yX5_add cX5_add 6 (some (.int))) := goodC tw_1470
theorem gw_X5_aim : GoodIn TW (WS yX5_aim cX5_aim 5 none) := goodC tw_1496
theorem gw_X5_build : GoodIn TW (WS yX5_build cX5_build 6 (some (.int))) := goodC tw_1474
theorem gw_X5_buildChoice : GoodIn TW (WS yX5_buildChoice cX5_buildChoice 8 (some (.int))) := goodC tw_1486
theorem gw_X5_buildLoop : GoodIn TW (WS yX5_buildLoop cX5_buildLoop 10 (some (.int))) := goodC tw_1490
theorem gw_X5_buildRow : GoodIn TW (WS yX5_buildRow cX5_buildRow 7 (some (.int))) := goodC tw_1480
theorem gw_X5_has : GoodIn TW (WS yX5_has cX5_has 2 (some (.boolean))) := goodC tw_1848
theorem gw_X5_kindOf : GoodIn TW (WS yX5_kindOf cX5_kindOf 2 (some (.int))) := goodC tw_1539
theorem gw_X5_nextOf : GoodIn TW (WS yX5_nextOf cX5_nextOf 2 (some (.int))) := goodC tw_1535
theorem gw_X5_otherOf : GoodIn TW (WS yX5_otherOf cX5_otherOf 2 (some (.int))) := goodC tw_1547
theorem gw_X5_subjectOf : GoodIn TW (WS yX5_subjectOf cX5_subjectOf 2 (some (.int))) := goodC tw_1543
theorem gw_X5_takes : GoodIn TW (WS yX5_takes cX5_takes 3 (some (.boolean))) := goodC tw_1571
theorem gw_X5_write : GoodIn TW (WS yX5_write cX5_write 2 none) := goodC tw_1466
theorem gw_X6_addPart : GoodIn TW (WS yX6_addPart cX6_addPart 4 none) := goodC tw_999
theorem gw_X6_addPending : GoodIn TW (WS yX6_addPending cX6_addPending 2 none) := goodC tw_922
theorem gw_X6_blame : GoodIn TW (WS yX6_blame cX6_blame 3 none) := goodC tw_934
theorem gw_X6_choiceOf : GoodIn TW (WS yX6_choiceOf cX6_choiceOf 2 (some (.int))) := goodC tw_968
theorem gw_X6_closeRow : GoodIn TW (WS yX6_closeRow cX6_closeRow 3 none) := goodC tw_918
theorem gw_X6_countItem : GoodIn TW (WS yX6_countItem cX6_countItem 1 (some (.boolean))) := goodC tw_950
theorem gw_X6_here : GoodIn TW (WS yX6_here cX6_here 1 (some (.int))) := goodC tw_906
theorem gw_X6_lay : GoodIn TW (WS yX6_lay cX6_lay 6 none) := goodC tw_1060
theorem gw_X6_lookOfMark : GoodIn TW (WS yX6_lookOfMark cX6_lookOfMark 1 (some (.int))) := goodC tw_960
theorem gw_X6_make : GoodIn TW (WS yX6_make cX6_make 6 (some (.int))) := goodC tw_930
theorem gw_X6_makeRound : GoodIn TW (WS yX6_makeRound cX6_makeRound 7 (some (.int))) := goodC tw_926
theorem gw_X6_makeSet : GoodIn TW (WS yX6_makeSet cX6_makeSet 6 (some (.int))) := goodC tw_1003
theorem gw_X6_readHex : GoodIn TW (WS yX6_readHex cX6_readHex 4 (some (.int))) := goodC tw_988
theorem gw_X6_readMember : GoodIn TW (WS yX6_readMember cX6_readMember 2 (some (.int))) := goodC tw_984
theorem gw_X6_readMost : GoodIn TW (WS yX6_readMost cX6_readMost 3 (some (.int))) := goodC tw_1052
theorem gw_X6_readName : GoodIn TW (WS yX6_readName cX6_readName 2 (some (.int))) := goodC tw_954
theorem gw_X6_readNumber : GoodIn TW (WS yX6_readNumber cX6_readNumber 4 (some (.int))) := goodC tw_1048
theorem gw_X6_readPart : GoodIn TW (WS yX6_readPart cX6_readPart 4 none) := goodC tw_980
theorem gw_X6_sortOfMark : GoodIn TW (WS yX6_sortOfMark cX6_sortOfMark 1 (some (.int))) := goodC tw_946
theorem gw_X7_add : GoodIn TW (WS yX7_add cX7_add 2 none) := goodC tw_868
theorem gw_X7_addFrom : GoodIn TW (WS yX7_addFrom cX7_addFrom 5 none) := goodC tw_1280
theorem gw_X7_at : GoodIn TW (WS yX7_at cX7_at 2 (some (.int))) := goodC tw_910
theorem gw_X7_empty : GoodIn TW (WS yX7_empty cX7_empty 1 none) := goodC tw_1127
theorem gw_X7_take : GoodIn TW (WS yX7_take cX7_take 2 none) := goodC tw_1275
theorem gw_X7_turnRound : GoodIn TW (WS yX7_turnRound cX7_turnRound 4 none) := goodC tw_1969
theorem gw_X8_longestBeginning : GoodIn TW (WS yX8_longestBeginning cX8_longestBeginning 3 (some (.int))) := goodC tw_1882
theorem gw_X8_look : GoodIn TW (WS yX8_look cX8_look 4 none) := goodC tw_1953
theorem gw_X8_make : GoodIn TW (WS yX8_make cX8_make 3 (some (.boolean))) := goodC tw_1833
theorem gw_X8_meet : GoodIn TW (WS yX8_meet cX8_meet 4 none) := goodC tw_1948
theorem gw_X8_walkBoth : GoodIn TW (WS yX8_walkBoth cX8_walkBoth 5 none) := goodC tw_1944
theorem gw_X8_writeParting : GoodIn TW (WS yX8_writeParting cX8_writeParting 3 none) := goodC tw_1963
theorem gw_X9_ends : GoodIn TW (WS yX9_ends cX9_ends 2 (some (.boolean))) := goodC tw_1894
theorem gw_X9_fewestStates : GoodIn TW (WS yX9_fewestStates cX9_fewestStates 4 (some (.int))) := goodC tw_1923
theorem gw_X9_fillState : GoodIn TW (WS yX9_fillState cX9_fillState 4 (some (.boolean))) := goodC tw_1870
theorem gw_X9_followOf : GoodIn TW (WS yX9_followOf cX9_followOf 6 (some (.long))) := goodC tw_1878
theorem gw_X9_groupOf : GoodIn TW (WS yX9_groupOf cX9_groupOf 2 (some (.int))) := goodC tw_1935
theorem gw_X9_leadsToLive : GoodIn TW (WS yX9_leadsToLive cX9_leadsToLive 4 (some (.boolean))) := goodC tw_1898
theorem gw_X9_longestBeginning : GoodIn TW (WS yX9_longestBeginning cX9_longestBeginning 7 (some (.int))) := goodC tw_1886
theorem gw_X9_make : GoodIn TW (WS yX9_make cX9_make 5 (some (.boolean))) := goodC tw_1838
theorem gw_X9_markLive : GoodIn TW (WS yX9_markLive cX9_markLive 4 none) := goodC tw_1890
theorem gw_X9_next : GoodIn TW (WS yX9_next cX9_next 4 (some (.int))) := goodC tw_1902
theorem gw_X9_numberPositions : GoodIn TW (WS yX9_numberPositions cX9_numberPositions 2 none) := goodC tw_1844
theorem gw_X9_push : GoodIn TW (WS yX9_push cX9_push 2 none) := goodC tw_1858
theorem gw_X9_reach : GoodIn TW (WS yX9_reach cX9_reach 7 (some (.long))) := goodC tw_1854
theorem gw_X9_refine : GoodIn TW (WS yX9_refine cX9_refine 4 (some (.int))) := goodC tw_1927
theorem gw_X9_stateOf : GoodIn TW (WS yX9_stateOf cX9_stateOf 4 (some (.int))) := goodC tw_1874
theorem gw_X9_staysTogether : GoodIn TW (WS yX9_staysTogether cX9_staysTogether 4 (some (.boolean))) := goodC tw_1931
theorem gw_X9_takersOf : GoodIn TW (WS yX9_takersOf cX9_takersOf 5 (some (.long))) := goodC tw_1865
