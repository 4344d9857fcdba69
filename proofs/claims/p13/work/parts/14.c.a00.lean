abbrev cX11_all : ByteArray := prog_1_method_20_code
def yX11_all : MethodName := ⟨RX11, "all", "(III)I"⟩
abbrev cX11_draftFinds : ByteArray := prog_1_method_60_code
def yX11_draftFinds : MethodName := ⟨RX11, "draftFinds", "(LPatternWorkshop$Tree;LPatternWorkshop$Row;IZ)I"⟩
abbrev cX11_find : ByteArray := prog_1_method_15_code
def yX11_find : MethodName := ⟨RX11, "find", "(IIIII)I"⟩
abbrev cX11_first : ByteArray := prog_1_method_22_code
def yX11_first : MethodName := ⟨RX11, "first", "(IIII)I"⟩
abbrev cX11_goOn : ByteArray := prog_1_method_16_code
def yX11_goOn : MethodName := ⟨RX11, "goOn", "(I)I"⟩
abbrev cX11_replace : ByteArray := prog_1_method_21_code
def yX11_replace : MethodName := ⟨RX11, "replace", "(III)I"⟩
abbrev cX11_search : ByteArray := prog_1_method_57_code
def yX11_search : MethodName := ⟨RX11, "search", "(LPatternWorkshop$Tree;LPatternWorkshop$Row;IIIZ)I"⟩
abbrev cX11_searchSlots : ByteArray := prog_1_method_66_code
def yX11_searchSlots : MethodName := ⟨RX11, "searchSlots", "(ILPatternWorkshop$Row;II)I"⟩
abbrev cX11_whole : ByteArray := prog_1_method_19_code
def yX11_whole : MethodName := ⟨RX11, "whole", "(III)I"⟩
abbrev cX1_comeToLoop : ByteArray := prog_3_method_14_code
def yX1_comeToLoop : MethodName := ⟨RX1, "comeToLoop", "()V"⟩
abbrev cX1_enter : ByteArray := prog_3_method_7_code
def yX1_enter : MethodName := ⟨RX1, "enter", "()V"⟩
abbrev cX1_enterCut : ByteArray := prog_3_method_22_code
def yX1_enterCut : MethodName := ⟨RX1, "enterCut", "()V"⟩
abbrev cX1_enterLoop : ByteArray := prog_3_method_13_code
def yX1_enterLoop : MethodName := ⟨RX1, "enterLoop", "()V"⟩
abbrev cX1_enterRow : ByteArray := prog_3_method_12_code
def yX1_enterRow : MethodName := ⟨RX1, "enterRow", "(I)V"⟩
abbrev cX1_goBack : ByteArray := prog_3_method_29_code
def yX1_goBack : MethodName := ⟨RX1, "goBack", "()V"⟩
abbrev cX1_keepChoice : ByteArray := prog_3_method_31_code
def yX1_keepChoice : MethodName := ⟨RX1, "keepChoice", "(II)V"⟩
abbrev cX1_leave : ByteArray := prog_3_method_25_code
def yX1_leave : MethodName := ⟨RX1, "leave", "()V"⟩
abbrev cX1_proceed : ByteArray := prog_3_method_4_code
def yX1_proceed : MethodName := ⟨RX1, "proceed", "(ILPatternWorkshop$Row;)I"⟩
abbrev cX1_setCell : ByteArray := prog_3_method_33_code
def yX1_setCell : MethodName := ⟨RX1, "setCell", "(II)V"⟩
abbrev cX1_tryFrom : ByteArray := prog_3_method_23_code
def yX1_tryFrom : MethodName := ⟨RX1, "tryFrom", "()V"⟩
abbrev cX1_turn : ByteArray := prog_3_method_15_code
def yX1_turn : MethodName := ⟨RX1, "turn", "()V"⟩
theorem tw_70 : (.selects "PatternWorkshop" yX11_search yX11_search : Cond) ∈ TW := tw_of 70 (by decide +kernel) (by decide +kernel)
theorem tw_89 : (.selects "PatternWorkshop$GoingBack" yX1_enter yX1_enter : Cond) ∈ TW := tw_of 89 (by decide +kernel) (by decide +kernel)
theorem tw_90 : (.selects "PatternWorkshop$GoingBack" yX1_step yX1_step : Cond) ∈ TW := tw_of 90 (by decide +kernel) (by decide +kernel)
theorem tw_91 : (.selects "PatternWorkshop$GoingBack" yX1_askSign yX1_askSign : Cond) ∈ TW := tw_of 91 (by decide +kernel) (by decide +kernel)
theorem tw_92 : (.selects "PatternWorkshop$GoingBack" yX1_askEdge yX1_askEdge : Cond) ∈ TW := tw_of 92 (by decide +kernel) (by decide +kernel)
theorem tw_93 : (.selects "PatternWorkshop$GoingBack" yX1_askBack yX1_askBack : Cond) ∈ TW := tw_of 93 (by decide +kernel) (by decide +kernel)
theorem tw_97 : (.selects "PatternWorkshop$GoingBack" yX1_enterRow yX1_enterRow : Cond) ∈ TW := tw_of 97 (by decide +kernel) (by decide +kernel)
theorem tw_98 : (.selects "PatternWorkshop$GoingBack" yX1_keepChoice yX1_keepChoice : Cond) ∈ TW := tw_of 98 (by decide +kernel) (by decide +kernel)
theorem tw_99 : (.selects "PatternWorkshop$GoingBack" yX1_enterLoop yX1_enterLoop : Cond) ∈ TW := tw_of 99 (by decide +kernel) (by decide +kernel)
theorem tw_100 : (.selects "PatternWorkshop$GoingBack" yX1_markBase yX1_markBase : Cond) ∈ TW := tw_of 100 (by decide +kernel) (by decide +kernel)
theorem tw_101 : (.selects "PatternWorkshop$GoingBack" yX1_setCell yX1_setCell : Cond) ∈ TW := tw_of 101 (by decide +kernel) (by decide +kernel)
theorem tw_102 : (.selects "PatternWorkshop$GoingBack" yX1_enterCut yX1_enterCut : Cond) ∈ TW := tw_of 102 (by decide +kernel) (by decide +kernel)
theorem tw_104 : (.selects "PatternWorkshop$GoingBack" yX1_enterPart yX1_enterPart : Cond) ∈ TW := tw_of 104 (by decide +kernel) (by decide +kernel)
theorem tw_105 : (.selects "PatternWorkshop$GoingBack" yX1_leave yX1_leave : Cond) ∈ TW := tw_of 105 (by decide +kernel) (by decide +kernel)
theorem tw_106 : (.selects "PatternWorkshop$GoingBack" yX1_finish yX1_finish : Cond) ∈ TW := tw_of 106 (by decide +kernel) (by decide +kernel)
theorem tw_107 : (.selects "PatternWorkshop$GoingBack" yX1_leavePartOfRow yX1_leavePartOfRow : Cond) ∈ TW := tw_of 107 (by decide +kernel) (by decide +kernel)
theorem tw_108 : (.selects "PatternWorkshop$GoingBack" yX1_endTurn yX1_endTurn : Cond) ∈ TW := tw_of 108 (by decide +kernel) (by decide +kernel)
theorem tw_109 : (.selects "PatternWorkshop$GoingBack" yX1_leaveLook yX1_leaveLook : Cond) ∈ TW := tw_of 109 (by decide +kernel) (by decide +kernel)
theorem tw_112 : (.selects "PatternWorkshop$GoingBack" yX1_comeToLoop yX1_comeToLoop : Cond) ∈ TW := tw_of 112 (by decide +kernel) (by decide +kernel)
theorem tw_113 : (.selects "PatternWorkshop$GoingBack" yX1_endLoop yX1_endLoop : Cond) ∈ TW := tw_of 113 (by decide +kernel) (by decide +kernel)
theorem tw_114 : (.selects "PatternWorkshop$GoingBack" yX1_turn yX1_turn : Cond) ∈ TW := tw_of 114 (by decide +kernel) (by decide +kernel)
theorem tw_115 : (.selects "PatternWorkshop$GoingBack" yX1_tryFrom yX1_tryFrom : Cond) ∈ TW := tw_of 115 (by decide +kernel) (by decide +kernel)
theorem tw_116 : (.selects "PatternWorkshop$GoingBack" yX1_goBack yX1_goBack : Cond) ∈ TW := tw_of 116 (by decide +kernel) (by decide +kernel)
theorem tw_117 : (.selects "PatternWorkshop$GoingBack" yX1_startFurther yX1_startFurther : Cond) ∈ TW := tw_of 117 (by decide +kernel) (by decide +kernel)
theorem tw_118 : (.selects "PatternWorkshop$GoingBack" yX1_undo yX1_undo : Cond) ∈ TW := tw_of 118 (by decide +kernel) (by decide +kernel)
theorem tw_119 : (.selects "PatternWorkshop$GoingBack" yX1_lookAgain yX1_lookAgain : Cond) ∈ TW := tw_of 119 (by decide +kernel) (by decide +kernel)
theorem tw_120 : (.selects "PatternWorkshop$GoingBack" yX1_tell yX1_tell : Cond) ∈ TW := tw_of 120 (by decide +kernel) (by decide +kernel)
theorem tw_121 : (.selects "PatternWorkshop" yX11_keepSpans yX11_keepSpans : Cond) ∈ TW := tw_of 121 (by decide +kernel) (by decide +kernel)
theorem tw_123 : (.selects "PatternWorkshop" yX11_draftFinds yX11_draftFinds : Cond) ∈ TW := tw_of 123 (by decide +kernel) (by decide +kernel)
theorem tw_124 : (.selects "PatternWorkshop" yX11_draftReplacement yX11_draftReplacement : Cond) ∈ TW := tw_of 124 (by decide +kernel) (by decide +kernel)
theorem tw_125 : (.selects "PatternWorkshop" yX11_tapeTellsFor yX11_tapeTellsFor : Cond) ∈ TW := tw_of 125 (by decide +kernel) (by decide +kernel)
theorem tw_126 : (.selects "PatternWorkshop" yX11_areThere yX11_areThere : Cond) ∈ TW := tw_of 126 (by decide +kernel) (by decide +kernel)
theorem tw_127 : (.selects "PatternWorkshop" yX11_refusalOfSome yX11_refusalOfSome : Cond) ∈ TW := tw_of 127 (by decide +kernel) (by decide +kernel)
theorem tw_128 : (.selects "PatternWorkshop" yX11_searchSlots yX11_searchSlots : Cond) ∈ TW := tw_of 128 (by decide +kernel) (by decide +kernel)
theorem tw_521 : (.fieldLink "PatternWorkshop" 246 "PatternWorkshop$GoingBack" "steps" "I" : Cond) ∈ TW := tw_in (tb_1 (List.mem_of_getElem? (i := 46) rfl)) (by decide +kernel)
theorem tw_1433 : (.code yX11_find cX11_find 10 (some (.int)) : Cond) ∈ TW := tw_in (tb_4 (List.mem_of_getElem? (i := 238) rfl)) (by decide +kernel)
theorem tw_1434 : (.methodLink "PatternWorkshop" 225 yX11_isMachine : Cond) ∈ TW := tw_in (tb_4 (List.mem_of_getElem? (i := 239) rfl)) (by decide +kernel)
theorem tw_1435 : (.static yX11_isMachine : Cond) ∈ TW := tw_in (tb_5 (List.mem_of_getElem? (i := 0) rfl)) (by decide +kernel)
theorem tw_1437 : (.methodLink "PatternWorkshop" 228 yX11_isStepCount : Cond) ∈ TW := tw_in (tb_5 (List.mem_of_getElem? (i := 2) rfl)) (by decide +kernel)
theorem tw_1438 : (.static yX11_isStepCount : Cond) ∈ TW := tw_in (tb_5 (List.mem_of_getElem? (i := 3) rfl)) (by decide +kernel)
theorem tw_1455 : (.methodLink "PatternWorkshop" 235 yX11_search : Cond) ∈ TW := tw_in (tb_5 (List.mem_of_getElem? (i := 20) rfl)) (by decide +kernel)
theorem tw_1457 : (.instanceMethod yX11_search : Cond) ∈ TW := tw_in (tb_5 (List.mem_of_getElem? (i := 22) rfl)) (by decide +kernel)
theorem tw_1458 : (.code yX11_search cX11_search 8 (some (.int)) : Cond) ∈ TW := tw_in (tb_5 (List.mem_of_getElem? (i := 23) rfl)) (by decide +kernel)
theorem tw_1459 : (.methodLink "PatternWorkshop" 335 yX3_run : Cond) ∈ TW := tw_in (tb_5 (List.mem_of_getElem? (i := 24) rfl)) (by decide +kernel)
theorem tw_1460 : (.instanceMethod yX3_run : Cond) ∈ TW := tw_in (tb_5 (List.mem_of_getElem? (i := 25) rfl)) (by decide +kernel)
theorem tw_1461 : (.selects "PatternWorkshop$Parallel" yX3_run yX3_run : Cond) ∈ TW := tw_in (tb_5 (List.mem_of_getElem? (i := 26) rfl)) (by decide +kernel)
theorem tw_1580 : (.methodLink "PatternWorkshop" 339 yX1_begin : Cond) ∈ TW := tw_in (tb_5 (List.mem_of_getElem? (i := 145) rfl)) (by decide +kernel)
theorem tw_1581 : (.instanceMethod yX1_begin : Cond) ∈ TW := tw_in (tb_5 (List.mem_of_getElem? (i := 146) rfl)) (by decide +kernel)
theorem tw_1582 : (.selects "PatternWorkshop$GoingBack" yX1_begin yX1_begin : Cond) ∈ TW := tw_in (tb_5 (List.mem_of_getElem? (i := 147) rfl)) (by decide +kernel)
theorem tw_1589 : (.methodLink "PatternWorkshop" 242 yX1_proceed : Cond) ∈ TW := tw_in (tb_5 (List.mem_of_getElem? (i := 154) rfl)) (by decide +kernel)
theorem tw_1590 : (.instanceMethod yX1_proceed : Cond) ∈ TW := tw_in (tb_5 (List.mem_of_getElem? (i := 155) rfl)) (by decide +kernel)
theorem tw_1591 : (.selects "PatternWorkshop$GoingBack" yX1_proceed yX1_proceed : Cond) ∈ TW := tw_in (tb_5 (List.mem_of_getElem? (i := 156) rfl)) (by decide +kernel)
theorem tw_1592 : (.code yX1_proceed cX1_proceed 4 (some (.int)) : Cond) ∈ TW := tw_in (tb_5 (List.mem_of_getElem? (i := 157) rfl)) (by decide +kernel)
theorem tw_1594 : (.constant "PatternWorkshop$GoingBack" 98 1073741824 : Cond) ∈ TW := tw_in (tb_5 (List.mem_of_getElem? (i := 159) rfl)) (by decide +kernel)
theorem tw_1595 : (.methodLink "PatternWorkshop$GoingBack" 99 yX1_enter : Cond) ∈ TW := tw_in (tb_5 (List.mem_of_getElem? (i := 160) rfl)) (by decide +kernel)
theorem tw_1597 : (.instanceMethod yX1_enter : Cond) ∈ TW := tw_in (tb_5 (List.mem_of_getElem? (i := 162) rfl)) (by decide +kernel)
theorem tw_1598 : (.code yX1_enter cX1_enter 1 none : Cond) ∈ TW := tw_in (tb_5 (List.mem_of_getElem? (i := 163) rfl)) (by decide +kernel)
theorem tw_1600 : (.methodLink "PatternWorkshop$GoingBack" 140 yX1_step : Cond) ∈ TW := tw_in (tb_5 (List.mem_of_getElem? (i := 165) rfl)) (by decide +kernel)
theorem tw_1602 : (.instanceMethod yX1_step : Cond) ∈ TW := tw_in (tb_5 (List.mem_of_getElem? (i := 167) rfl)) (by decide +kernel)
theorem tw_1604 : (.methodLink "PatternWorkshop$GoingBack" 144 yX1_askSign : Cond) ∈ TW := tw_in (tb_5 (List.mem_of_getElem? (i := 169) rfl)) (by decide +kernel)
theorem tw_1606 : (.instanceMethod yX1_askSign : Cond) ∈ TW := tw_in (tb_5 (List.mem_of_getElem? (i := 171) rfl)) (by decide +kernel)
theorem tw_1610 : (.methodLink "PatternWorkshop$GoingBack" 147 yX1_askEdge : Cond) ∈ TW := tw_in (tb_5 (List.mem_of_getElem? (i := 175) rfl)) (by decide +kernel)
theorem tw_1612 : (.instanceMethod yX1_askEdge : Cond) ∈ TW := tw_in (tb_5 (List.mem_of_getElem? (i := 177) rfl)) (by decide +kernel)
theorem tw_1616 : (.methodLink "PatternWorkshop$GoingBack" 150 yX1_askBack : Cond) ∈ TW := tw_in (tb_5 (List.mem_of_getElem? (i := 181) rfl)) (by decide +kernel)
theorem tw_1618 : (.instanceMethod yX1_askBack : Cond) ∈ TW := tw_in (tb_5 (List.mem_of_getElem? (i := 183) rfl)) (by decide +kernel)
theorem tw_1635 : (.methodLink "PatternWorkshop$GoingBack" 156 yX1_enterRow : Cond) ∈ TW := tw_in (tb_5 (List.mem_of_getElem? (i := 200) rfl)) (by decide +kernel)
theorem tw_1637 : (.instanceMethod yX1_enterRow : Cond) ∈ TW := tw_in (tb_5 (List.mem_of_getElem? (i := 202) rfl)) (by decide +kernel)
theorem tw_1638 : (.code yX1_enterRow cX1_enterRow 3 none : Cond) ∈ TW := tw_in (tb_5 (List.mem_of_getElem? (i := 203) rfl)) (by decide +kernel)
theorem tw_1640 : (.methodLink "PatternWorkshop$GoingBack" 198 yX1_keepChoice : Cond) ∈ TW := tw_in (tb_5 (List.mem_of_getElem? (i := 205) rfl)) (by decide +kernel)
theorem tw_1642 : (.instanceMethod yX1_keepChoice : Cond) ∈ TW := tw_in (tb_5 (List.mem_of_getElem? (i := 207) rfl)) (by decide +kernel)
theorem tw_1643 : (.code yX1_keepChoice cX1_keepChoice 3 none : Cond) ∈ TW := tw_in (tb_5 (List.mem_of_getElem? (i := 208) rfl)) (by decide +kernel)
theorem tw_1644 : (.constant "PatternWorkshop$GoingBack" 249 262144 : Cond) ∈ TW := tw_in (tb_5 (List.mem_of_getElem? (i := 209) rfl)) (by decide +kernel)
theorem tw_1645 : (.methodLink "PatternWorkshop$GoingBack" 250 yJ7_copyOf_59c91 : Cond) ∈ TW := tw_in (tb_5 (List.mem_of_getElem? (i := 210) rfl)) (by decide +kernel)
theorem tw_1646 : (.static yJ7_copyOf_59c91 : Cond) ∈ TW := tw_in (tb_5 (List.mem_of_getElem? (i := 211) rfl)) (by decide +kernel)
theorem tw_1657 : (.methodLink "PatternWorkshop$GoingBack" 159 yX1_enterLoop : Cond) ∈ TW := tw_in (tb_5 (List.mem_of_getElem? (i := 222) rfl)) (by decide +kernel)
theorem tw_1659 : (.instanceMethod yX1_enterLoop : Cond) ∈ TW := tw_in (tb_5 (List.mem_of_getElem? (i := 224) rfl)) (by decide +kernel)
theorem tw_1660 : (.code yX1_enterLoop cX1_enterLoop 1 none : Cond) ∈ TW := tw_in (tb_5 (List.mem_of_getElem? (i := 225) rfl)) (by decide +kernel)
theorem tw_1661 : (.methodLink "PatternWorkshop$GoingBack" 201 yX1_markBase : Cond) ∈ TW := tw_in (tb_5 (List.mem_of_getElem? (i := 226) rfl)) (by decide +kernel)
theorem tw_1663 : (.instanceMethod yX1_markBase : Cond) ∈ TW := tw_in (tb_5 (List.mem_of_getElem? (i := 228) rfl)) (by decide +kernel)
theorem tw_1665 : (.methodLink "PatternWorkshop$GoingBack" 165 yX1_setCell : Cond) ∈ TW := tw_in (tb_5 (List.mem_of_getElem? (i := 230) rfl)) (by decide +kernel)
theorem tw_1667 : (.instanceMethod yX1_setCell : Cond) ∈ TW := tw_in (tb_5 (List.mem_of_getElem? (i := 232) rfl)) (by decide +kernel)
theorem tw_1668 : (.code yX1_setCell cX1_setCell 3 none : Cond) ∈ TW := tw_in (tb_5 (List.mem_of_getElem? (i := 233) rfl)) (by decide +kernel)
theorem tw_1670 : (.methodLink "PatternWorkshop$GoingBack" 162 yX1_enterCut : Cond) ∈ TW := tw_in (tb_5 (List.mem_of_getElem? (i := 235) rfl)) (by decide +kernel)
theorem tw_1672 : (.instanceMethod yX1_enterCut : Cond) ∈ TW := tw_in (tb_5 (List.mem_of_getElem? (i := 237) rfl)) (by decide +kernel)
theorem tw_1673 : (.code yX1_enterCut cX1_enterCut 1 none : Cond) ∈ TW := tw_in (tb_5 (List.mem_of_getElem? (i := 238) rfl)) (by decide +kernel)
theorem tw_1678 : (.methodLink "PatternWorkshop$GoingBack" 168 yX1_enterPart : Cond) ∈ TW := tw_in (tb_6 (List.mem_of_getElem? (i := 3) rfl)) (by decide +kernel)
theorem tw_1680 : (.instanceMethod yX1_enterPart : Cond) ∈ TW := tw_in (tb_6 (List.mem_of_getElem? (i := 5) rfl)) (by decide +kernel)
theorem tw_1682 : (.methodLink "PatternWorkshop$GoingBack" 102 yX1_leave : Cond) ∈ TW := tw_in (tb_6 (List.mem_of_getElem? (i := 7) rfl)) (by decide +kernel)
theorem tw_1684 : (.instanceMethod yX1_leave : Cond) ∈ TW := tw_in (tb_6 (List.mem_of_getElem? (i := 9) rfl)) (by decide +kernel)
theorem tw_1685 : (.code yX1_leave cX1_leave 3 none : Cond) ∈ TW := tw_in (tb_6 (List.mem_of_getElem? (i := 10) rfl)) (by decide +kernel)
theorem tw_1686 : (.methodLink "PatternWorkshop$GoingBack" 225 yX10_holderOf : Cond) ∈ TW := tw_in (tb_6 (List.mem_of_getElem? (i := 11) rfl)) (by decide +kernel)
theorem tw_1687 : (.methodLink "PatternWorkshop$GoingBack" 228 yX1_finish : Cond) ∈ TW := tw_in (tb_6 (List.mem_of_getElem? (i := 12) rfl)) (by decide +kernel)
theorem tw_1689 : (.instanceMethod yX1_finish : Cond) ∈ TW := tw_in (tb_6 (List.mem_of_getElem? (i := 14) rfl)) (by decide +kernel)
theorem tw_1691 : (.methodLink "PatternWorkshop$GoingBack" 231 yX1_leavePartOfRow : Cond) ∈ TW := tw_in (tb_6 (List.mem_of_getElem? (i := 16) rfl)) (by decide +kernel)
theorem tw_1693 : (.instanceMethod yX1_leavePartOfRow : Cond) ∈ TW := tw_in (tb_6 (List.mem_of_getElem? (i := 18) rfl)) (by decide +kernel)
theorem tw_1695 : (.methodLink "PatternWorkshop$GoingBack" 234 yX1_endTurn : Cond) ∈ TW := tw_in (tb_6 (List.mem_of_getElem? (i := 20) rfl)) (by decide +kernel)
theorem tw_1697 : (.instanceMethod yX1_endTurn : Cond) ∈ TW := tw_in (tb_6 (List.mem_of_getElem? (i := 22) rfl)) (by decide +kernel)
theorem tw_1700 : (.methodLink "PatternWorkshop$GoingBack" 237 yX1_leaveLook : Cond) ∈ TW := tw_in (tb_6 (List.mem_of_getElem? (i := 25) rfl)) (by decide +kernel)
theorem tw_1702 : (.instanceMethod yX1_leaveLook : Cond) ∈ TW := tw_in (tb_6 (List.mem_of_getElem? (i := 27) rfl)) (by decide +kernel)
theorem tw_1712 : (.methodLink "PatternWorkshop$GoingBack" 105 yX1_comeToLoop : Cond) ∈ TW := tw_in (tb_6 (List.mem_of_getElem? (i := 37) rfl)) (by decide +kernel)
theorem tw_1714 : (.instanceMethod yX1_comeToLoop : Cond) ∈ TW := tw_in (tb_6 (List.mem_of_getElem? (i := 39) rfl)) (by decide +kernel)
theorem tw_1715 : (.code yX1_comeToLoop cX1_comeToLoop 3 none : Cond) ∈ TW := tw_in (tb_6 (List.mem_of_getElem? (i := 40) rfl)) (by decide +kernel)
theorem tw_1716 : (.methodLink "PatternWorkshop$GoingBack" 207 yX10_highOf : Cond) ∈ TW := tw_in (tb_6 (List.mem_of_getElem? (i := 41) rfl)) (by decide +kernel)
theorem tw_1717 : (.methodLink "PatternWorkshop$GoingBack" 213 yX1_endLoop : Cond) ∈ TW := tw_in (tb_6 (List.mem_of_getElem? (i := 42) rfl)) (by decide +kernel)
theorem tw_1719 : (.instanceMethod yX1_endLoop : Cond) ∈ TW := tw_in (tb_6 (List.mem_of_getElem? (i := 44) rfl)) (by decide +kernel)
theorem tw_1721 : (.methodLink "PatternWorkshop$GoingBack" 108 yX1_turn : Cond) ∈ TW := tw_in (tb_6 (List.mem_of_getElem? (i := 46) rfl)) (by decide +kernel)
theorem tw_1723 : (.instanceMethod yX1_turn : Cond) ∈ TW := tw_in (tb_6 (List.mem_of_getElem? (i := 48) rfl)) (by decide +kernel)
theorem tw_1724 : (.code yX1_turn cX1_turn 2 none : Cond) ∈ TW := tw_in (tb_6 (List.mem_of_getElem? (i := 49) rfl)) (by decide +kernel)
theorem tw_1725 : (.methodLink "PatternWorkshop$GoingBack" 111 yX1_tryFrom : Cond) ∈ TW := tw_in (tb_6 (List.mem_of_getElem? (i := 50) rfl)) (by decide +kernel)
theorem tw_1727 : (.instanceMethod yX1_tryFrom : Cond) ∈ TW := tw_in (tb_6 (List.mem_of_getElem? (i := 52) rfl)) (by decide +kernel)
theorem tw_1728 : (.code yX1_tryFrom cX1_tryFrom 1 none : Cond) ∈ TW := tw_in (tb_6 (List.mem_of_getElem? (i := 53) rfl)) (by decide +kernel)
theorem tw_1729 : (.methodLink "PatternWorkshop$GoingBack" 114 yX1_goBack : Cond) ∈ TW := tw_in (tb_6 (List.mem_of_getElem? (i := 54) rfl)) (by decide +kernel)
theorem tw_1731 : (.instanceMethod yX1_goBack : Cond) ∈ TW := tw_in (tb_6 (List.mem_of_getElem? (i := 56) rfl)) (by decide +kernel)
theorem tw_1732 : (.code yX1_goBack cX1_goBack 2 none : Cond) ∈ TW := tw_in (tb_6 (List.mem_of_getElem? (i := 57) rfl)) (by decide +kernel)
theorem tw_1733 : (.methodLink "PatternWorkshop$GoingBack" 240 yX1_startFurther : Cond) ∈ TW := tw_in (tb_6 (List.mem_of_getElem? (i := 58) rfl)) (by decide +kernel)
theorem tw_1735 : (.instanceMethod yX1_startFurther : Cond) ∈ TW := tw_in (tb_6 (List.mem_of_getElem? (i := 60) rfl)) (by decide +kernel)
theorem tw_1737 : (.methodLink "PatternWorkshop$GoingBack" 243 yX1_undo : Cond) ∈ TW := tw_in (tb_6 (List.mem_of_getElem? (i := 62) rfl)) (by decide +kernel)
theorem tw_1739 : (.instanceMethod yX1_undo : Cond) ∈ TW := tw_in (tb_6 (List.mem_of_getElem? (i := 64) rfl)) (by decide +kernel)
theorem tw_1741 : (.methodLink "PatternWorkshop$GoingBack" 246 yX1_lookAgain : Cond) ∈ TW := tw_in (tb_6 (List.mem_of_getElem? (i := 66) rfl)) (by decide +kernel)
theorem tw_1743 : (.instanceMethod yX1_lookAgain : Cond) ∈ TW := tw_in (tb_6 (List.mem_of_getElem? (i := 68) rfl)) (by decide +kernel)
theorem tw_1745 : (.methodLink "PatternWorkshop$GoingBack" 117 yX1_tell : Cond) ∈ TW := tw_in (tb_6 (List.mem_of_getElem? (i := 70) rfl)) (by decide +kernel)
theorem tw_1747 : (.instanceMethod yX1_tell : Cond) ∈ TW := tw_in (tb_6 (List.mem_of_getElem? (i := 72) rfl)) (by decide +kernel)
theorem tw_1751 : (.methodLink "PatternWorkshop" 239 yX11_keepSpans : Cond) ∈ TW := tw_in (tb_6 (List.mem_of_getElem? (i := 76) rfl)) (by decide +kernel)
theorem tw_1753 : (.instanceMethod yX11_keepSpans : Cond) ∈ TW := tw_in (tb_6 (List.mem_of_getElem? (i := 78) rfl)) (by decide +kernel)
theorem tw_1758 : (.code yX11_goOn cX11_goOn 3 (some (.int)) : Cond) ∈ TW := tw_in (tb_6 (List.mem_of_getElem? (i := 83) rfl)) (by decide +kernel)
theorem tw_1779 : (.code yX11_whole cX11_whole 7 (some (.int)) : Cond) ∈ TW := tw_in (tb_6 (List.mem_of_getElem? (i := 104) rfl)) (by decide +kernel)
theorem tw_1783 : (.code yX11_all cX11_all 8 (some (.int)) : Cond) ∈ TW := tw_in (tb_6 (List.mem_of_getElem? (i := 108) rfl)) (by decide +kernel)
theorem tw_1784 : (.methodLink "PatternWorkshop" 265 yX11_draftFinds : Cond) ∈ TW := tw_in (tb_6 (List.mem_of_getElem? (i := 109) rfl)) (by decide +kernel)
theorem tw_1786 : (.instanceMethod yX11_draftFinds : Cond) ∈ TW := tw_in (tb_6 (List.mem_of_getElem? (i := 111) rfl)) (by decide +kernel)
theorem tw_1787 : (.code yX11_draftFinds cX11_draftFinds 11 (some (.int)) : Cond) ∈ TW := tw_in (tb_6 (List.mem_of_getElem? (i := 112) rfl)) (by decide +kernel)
theorem tw_1789 : (.methodLink "PatternWorkshop" 347 yX11_draftReplacement : Cond) ∈ TW := tw_in (tb_6 (List.mem_of_getElem? (i := 114) rfl)) (by decide +kernel)
theorem tw_1791 : (.instanceMethod yX11_draftReplacement : Cond) ∈ TW := tw_in (tb_6 (List.mem_of_getElem? (i := 116) rfl)) (by decide +kernel)
theorem tw_1794 : (.methodLink "PatternWorkshop" 350 ⟨"java/lang/Math", "max", "(II)I"⟩ : Cond) ∈ TW := tw_in (tb_6 (List.mem_of_getElem? (i := 119) rfl)) (by decide +kernel)
theorem tw_1798 : (.code yX11_replace cX11_replace 7 (some (.int)) : Cond) ∈ TW := tw_in (tb_6 (List.mem_of_getElem? (i := 123) rfl)) (by decide +kernel)
theorem tw_1799 : (.methodLink "PatternWorkshop" 269 yX11_tapeTellsFor : Cond) ∈ TW := tw_in (tb_6 (List.mem_of_getElem? (i := 124) rfl)) (by decide +kernel)
theorem tw_1801 : (.instanceMethod yX11_tapeTellsFor : Cond) ∈ TW := tw_in (tb_6 (List.mem_of_getElem? (i := 126) rfl)) (by decide +kernel)
theorem tw_1806 : (.code yX11_first cX11_first 7 (some (.int)) : Cond) ∈ TW := tw_in (tb_6 (List.mem_of_getElem? (i := 131) rfl)) (by decide +kernel)
theorem tw_1807 : (.methodLink "PatternWorkshop" 273 yX11_areThere : Cond) ∈ TW := tw_in (tb_6 (List.mem_of_getElem? (i := 132) rfl)) (by decide +kernel)
theorem tw_1809 : (.instanceMethod yX11_areThere : Cond) ∈ TW := tw_in (tb_6 (List.mem_of_getElem? (i := 134) rfl)) (by decide +kernel)
theorem tw_1814 : (.methodLink "PatternWorkshop" 276 yX11_refusalOfSome : Cond) ∈ TW := tw_in (tb_6 (List.mem_of_getElem? (i := 139) rfl)) (by decide +kernel)
theorem tw_1816 : (.instanceMethod yX11_refusalOfSome : Cond) ∈ TW := tw_in (tb_6 (List.mem_of_getElem? (i := 141) rfl)) (by decide +kernel)
theorem tw_1818 : (.methodLink "PatternWorkshop" 279 yX11_searchSlots : Cond) ∈ TW := tw_in (tb_6 (List.mem_of_getElem? (i := 143) rfl)) (by decide +kernel)
theorem tw_1820 : (.instanceMethod yX11_searchSlots : Cond) ∈ TW := tw_in (tb_6 (List.mem_of_getElem? (i := 145) rfl)) (by decide +kernel)
theorem tw_1821 : (.code yX11_searchSlots cX11_searchSlots 9 (some (.int)) : Cond) ∈ TW := tw_in (tb_6 (List.mem_of_getElem? (i := 146) rfl)) (by decide +kernel)
theorem gw_X11_all : GoodIn TW (WS yX11_all cX11_all 8 (some (.int))) := goodC tw_1783
theorem gw_X11_draftFinds : GoodIn TW (WS yX11_draftFinds cX11_draftFinds 11 (some (.int))) := goodC tw_1787
theorem gw_X11_find : GoodIn TW (WS yX11_find cX11_find 10 (some (.int))) := goodC tw_1433
theorem gw_X11_first : GoodIn TW (WS yX11_first cX11_first 7 (some (.int))) := goodC tw_1806
theorem gw_X11_goOn : GoodIn TW (WS yX11_goOn cX11_goOn 3 (some (.int))) := goodC tw_1758
theorem gw_X11_replace : GoodIn TW (WS yX11_replace cX11_replace 7 (some (.int))) := goodC tw_1798
theorem gw_X11_search : GoodIn TW (WS yX11_search cX11_search 8 (some (.int))) := goodC tw_1458
theorem gw_X11_searchSlots : GoodIn TW (WS yX11_searchSlots cX11_searchSlots 9 (some (.int))) := goodC tw_1821
theorem gw_X11_whole : GoodIn TW (WS yX11_whole cX11_whole 7 (some (.int))) := goodC tw_1779
theorem gw_X1_comeToLoop : GoodIn TW (WS yX1_comeToLoop cX1_comeToLoop 3 none) := goodC tw_1715
theorem gw_X1_enter : GoodIn TW (WS yX1_enter cX1_enter 1 none) := goodC tw_1598
theorem gw_X1_enterCut : GoodIn TW (WS yX1_enterCut cX1_enterCut 1 none) := goodC tw_1673
theorem gw_X1_enterLoop : GoodIn TW (WS yX1_enterLoop cX1_enterLoop 1 none) := goodC tw_1660
theorem gw_X1_enterRow : GoodIn TW (WS yX1_enterRow cX1_enterRow 3 none) := goodC tw_1638
theorem gw_X1_goBack : GoodIn TW (WS yX1_goBack cX1_goBack 2 none) := goodC tw_1732
theorem gw_X1_keepChoice : GoodIn TW (WS yX1_keepChoice cX1_keepChoice 3 none) := goodC tw_1643
theorem gw_X1_leave : GoodIn TW (WS yX1_leave cX1_leave 3 none) := goodC tw_1685
theorem gw_X1_proceed : GoodIn TW (WS yX1_proceed cX1_proceed 4 (some (.int))) := goodC tw_1592
theorem gw_X1_setCell : GoodIn TW (WS yX1_setCell cX1_setCell 3 none) := goodC tw_1668
theorem gw_X1_tryFrom : GoodIn TW (WS yX1_tryFrom cX1_tryFrom 1 none) := goodC tw_1728
theorem gw_X1_turn : GoodIn TW (WS yX1_turn cX1_turn 2 none) := goodC tw_1724
