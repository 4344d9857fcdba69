abbrev cX11_all : ByteArray := prog_1_method_20_code
def yX11_all : MethodName := ⟨RX11, "all", "(III)I"⟩
abbrev cX11_draftFinds : ByteArray := prog_1_method_60_code
def yX11_draftFinds : MethodName := ⟨RX11, "draftFinds", "(LPatternWorkshop$Tree;LPatternWorkshop$Row;IZ)I"⟩
abbrev cX11_find : ByteArray := prog_1_method_15_code
def yX11_find : MethodName := ⟨RX11, "find", "(IIIII)I"⟩
abbrev cX11_first : ByteArray := prog_1_method_22_code
def yX11_first : MethodName := ⟨RX11, "first", "(IIII)I"⟩
abbrev cX11_goOn : ByteArray := prog_1_method_16_code
def yX11_goOn : MethodName := ⟨RX11, "goOn", "(I)I"⟩
abbrev cX11_replace : ByteArray := prog_1_method_21_code
def yX11_replace : MethodName := ⟨RX11, "replace", "(III)I"⟩
abbrev cX11_search : ByteArray := prog_1_method_57_code
def yX11_search : MethodName := ⟨RX11, "search", "(LPatternWorkshop$Tree;LPatternWorkshop$Row;IIIZ)I"⟩
abbrev cX11_searchSlots : ByteArray := prog_1_method_66_code
def yX11_searchSlots : MethodName := ⟨RX11, "searchSlots", "(ILPatternWorkshop$Row;II)I"⟩
abbrev cX11_whole : ByteArray := prog_1_method_19_code
def yX11_whole : MethodName := ⟨RX11, "whole", "(III)I"⟩
abbrev cX1_comeToLoop : ByteArray := prog_3_method_14_code
def yX1_comeToLoop : MethodName := ⟨RX1, "comeToLoop", "()V"⟩
abbrev cX1_enter : ByteArray := prog_3_method_7_code
def yX1_enter : MethodName := ⟨RX1, "enter", "()V"⟩
abbrev cX1_enterCut : ByteArray := prog_3_method_22_code
def yX1_enterCut : MethodName := ⟨RX1, "enterCut", "()V"⟩
abbrev cX1_enterLoop : ByteArray := prog_3_method_13_code
def yX1_enterLoop : MethodName := ⟨RX1, "enterLoop", "()V"⟩
abbrev cX1_enterRow : ByteArray := prog_3_method_12_code
def yX1_enterRow : MethodName := ⟨RX1, "enterRow", "(I)V"⟩
abbrev cX1_goBack : ByteArray := prog_3_method_29_code
def yX1_goBack : MethodName := ⟨RX1, "goBack", "()V"⟩
abbrev cX1_keepChoice : ByteArray := prog_3_method_31_code
def yX1_keepChoice : MethodName := ⟨RX1, "keepChoice", "(II)V"⟩
abbrev cX1_leave : ByteArray := prog_3_method_25_code
def yX1_leave : MethodName := ⟨RX1, "leave", "()V"⟩
abbrev cX1_proceed : ByteArray := prog_3_method_4_code
def yX1_proceed : MethodName := ⟨RX1, "proceed", "(ILPatternWorkshop$Row;)I"⟩
abbrev cX1_setCell : ByteArray := prog_3_method_33_code
def yX1_setCell : MethodName := ⟨RX1, "setCell", "(II)V"⟩
abbrev cX1_tryFrom : ByteArray := prog_3_method_23_code
def yX1_tryFrom : MethodName := ⟨RX1, "tryFrom", "()V"⟩
abbrev cX1_turn : ByteArray := prog_3_method_15_code
def yX1_turn : MethodName := ⟨RX1, "turn", "()V"⟩
theorem tw_70 : (.selects "PatternWorkshop" yX11_search yX11_search : Cond) ∈ TW := tw_of 70 (by decide +kernel) (by decide +kernel)
theorem tw_89 : (.selects "PatternWorkshop$GoingBack" yX1_enter yX1_enter : Cond) ∈ TW := tw_of 89 (by decide +kernel) (by decide +kernel)
theorem tw_90 : (.selects "PatternWorkshop$GoingBack" yX1_step yX1_step : Cond) ∈ TW := tw_of 90 (by decide +kernel) (by decide +kernel)
theorem tw_91 : (.selects "PatternWorkshop$GoingBack" yX1_askSign yX1_askSign : Cond) ∈ TW := tw_of 91 (by decide +kernel) (by decide +kernel)
theorem tw_92 : (.selects "PatternWorkshop$GoingBack" yX1_askEdge yX1_askEdge : Cond) ∈ TW := tw_of 92 (by decide +kernel) (by decide +kernel)
theorem tw_93 : (.selects "PatternWorkshop$GoingBack" yX1_askBack yX1_askBack : Cond) ∈ TW := tw_of 93 (by decide +kernel) (by decide +kernel)
theorem tw_97 : (.selects "PatternWorkshop$GoingBack" yX1_enterRow yX1_enterRow : Cond) ∈ TW := tw_of 97 (by decide +kernel) (by decide +kernel)
theorem tw_98 : (.selects "PatternWorkshop$GoingBack" yX1_keepChoice yX1_keepChoice : Cond) ∈ TW := tw_of 98 (by decide +kernel) (by decide +kernel)
theorem tw_99 : (.selects "PatternWorkshop$GoingBack" yX1_enterLoop yX1_enterLoop : Cond) ∈ TW := tw_of 99 (by decide +kernel) (by decide +kernel)
theorem tw_100 : (.selects "PatternWorkshop$GoingBack" yX1_markBase yX1_markBase : Cond) ∈ TW := tw_of 100 (by decide +kernel) (by decide +kernel)
theorem tw_101 : (.selects "PatternWorkshop$GoingBack" yX1_setCell yX1_setCell : Cond) ∈ TW := tw_of 101 (by decide +kernel) (by decide +kernel)
theorem tw_102 : (.selects "PatternWorkshop$GoingBack" yX1_enterCut yX1_enterCut : Cond) ∈ TW := tw_of 102 (by decide +kernel) (by decide +kernel)
theorem tw_104 : (.selects "PatternWorkshop$GoingBack" yX1_enterPart yX1_enterPart : Cond) ∈ TW := tw_of 104 (by decide +kernel) (by decide +kernel)
theorem tw_105 : (.selects "PatternWorkshop$GoingBack" yX1_leave yX1_leave : Cond) ∈ TW := tw_of 105 (by decide +kernel) (by decide +kernel)
theorem tw_106 : (.selects "PatternWorkshop$GoingBack" yX1_finish yX1_finish : Cond) ∈ TW := tw_of 106 (by decide +kernel) (by decide +kernel)
theorem tw_107 : (.selects "PatternWorkshop$GoingBack" yX1_leavePartOfRow yX1_leavePartOfRow : Cond) ∈ TW := tw_of 107 (by decide +kernel) (by decide +kernel)
theorem tw_108 : (.selects "PatternWorkshop$GoingBack" yX1_endTurn yX1_endTurn : Cond) ∈ TW := tw_of 108 (by decide +kernel) (by decide +kernel)
theorem tw_109 : (.selects "PatternWorkshop$GoingBack" yX1_leaveLook yX1_leaveLook : Cond) ∈ TW := tw_of 109 (by decide +kernel) (by decide +kernel)
theorem tw_112 : (.selects "PatternWorkshop$GoingBack" yX1_comeToLoop yX1_comeToLoop : Cond) ∈ TW := tw_of 112 (by decide +kernel) (by decide +kernel)
theorem tw_113 : (.selects "PatternWorkshop$GoingBack" yX1_endLoop yX1_endLoop : Cond) ∈ TW := tw_of 113 (by decide +kernel) (by decide +kernel)
theorem tw_114 : (.selects "PatternWorkshop$GoingBack" yX1_turn yX1_turn : Cond) ∈ TW := tw_of 114 (by decide +kernel) (by decide +kernel)
theorem tw_115 : (.selects "PatternWorkshop$GoingBack" yX1_tryFrom yX1_tryFrom : Cond) ∈ TW := tw_of 115 (by decide +kernel) (by decide +kernel)
theorem tw_116 : (.selects "PatternWorkshop$GoingBack" yX1_goBack yX1_goBack : Cond) ∈ TW := tw_of 116 (by decide +kernel) (by decide +kernel)
theorem tw_117 : (.selects "PatternWorkshop$GoingBack" yX1_startFurther yX1_startFurther : Cond) ∈ TW := tw_of 117 (by decide +kernel) (by decide +kernel)
theorem tw_118 : (.selects "PatternWorkshop$GoingBack" yX1_undo yX1_undo : Cond) ∈ TW := tw_of 118 (by decide +kernel) (by decide +kernel)
theorem tw_119 : (.selects "PatternWorkshop$GoingBack" yX1_lookAgain yX1_lookAgain : Cond) ∈ TW := tw_of 119 (by decide +kernel) (by decide +kernel)
theorem tw_120 : (.selects "PatternWorkshop$GoingBack" yX1_tell yX1_tell : Cond) ∈ TW := tw_of 120 (by decide +kernel) (by decide +kernel)
theorem tw_121 : (.selects "PatternWorkshop" yX11_keepSpans yX11_keepSpans : Cond) ∈ TW := tw_of 121 (by decide +kernel) (by decide +kernel)
theorem tw_123 : (.selects "PatternWorkshop" yX11_draftFinds yX11_draftFinds : Cond) ∈ TW := tw_of 123 (by decide +kernel) (by decide +kernel)
theorem tw_124 : (.selects "PatternWorkshop" yX11_draftReplacement yX11_draftReplacement : Cond) ∈ TW := tw_of 124 (by decide +kernel) (by decide +kernel)
theorem tw_125 : (.selects "PatternWorkshop" yX11_tapeTellsFor yX11_tapeTellsFor : Cond) ∈ TW := tw_of 125 (by decide +kernel) (by decide +kernel)
theorem tw_126 : (.selects "PatternWorkshop" yX11_areThere yX11_areThere : Cond) ∈ TW := tw_of 126 (by decide +kernel) (by decide +kernel)
theorem tw_127 : (.selects "PatternWorkshop" yX11_refusalOfSome yX11_refusalOfSome : Cond) ∈ TW := tw_of 127 (by decide +kernel) (by decide +kernel)
theorem tw_128 : (.selects "PatternWorkshop" yX11_searchSlots yX11_searchSlots : Cond) ∈ TW := tw_of 128 (by decide +kernel) (by decide +kernel)
theorem tw_521 : (.fieldLink "PatternWorkshop" 246 "PatternWorkshop$GoingBack" "steps" "I" : Cond) ∈ TW := tw_in (tb_1 (List.mem_of_getElem? (i := 46) rfl)) (by decide +kernel)
theorem tw_1433 : (.code yX11_find cX11_find 10 (some (.int)) : Cond) ∈ TW := tw_in (tb_4 (List.mem_of_getElem? (i := 238) rfl)) (by decide +kernel)
theorem tw_1434 : (.methodLink "PatternWorkshop" 225 yX11_isMachine : Cond) ∈ TW := tw_in (tb_4 (List.mem_of_getElem? (i := 239) rfl)) (by decide +kernel)
theorem tw_1435 : (.static yX11_isMachine : Cond) ∈ TW := tw_in (tb_5 (List.mem_of_getElem? (i := 0) rfl)) (by decide +kernel)
theorem tw_1437 : (.methodLink "PatternWorkshop" 228 yX11_isStepCount : Cond) ∈ TW := tw_in (tb_5 (List.mem_of_getElem? (i := 2) rfl)) (by decide +kernel)
theorem tw_1438 : (.static yX11_isStepCount : Cond) ∈ TW := tw_in (tb_5 (List.mem_of_getElem? (i := 3) rfl)) (by decide +kernel)
theorem tw_1455 : (.methodLink "PatternWorkshop" 235 yX11_search : Cond) ∈ TW := tw_in (tb_5 (List.mem_of_getElem? (i := 20) rfl)) (by decide +kernel)
theorem tw_1457 : (.instanceMethod yX11_search : Cond) ∈ TW := tw_in (tb_5 (List.mem_of_getElem? (i := 22) rfl)) (by decide +kernel)
theorem tw_1458 : (.code yX11_search cX11_search 8 (some (.int)) : Cond) ∈ TW := tw_in (tb_5 (List.mem_of_getElem? (i := 23) rfl)) (by decide +kernel)
theorem tw_1459 : (.methodLink "PatternWorkshop" 335 yX3_run : Cond) ∈ TW := tw_in (tb_5 (List.mem_of_getElem? (i := 24) rfl)) (by decide +kernel)
theorem tw_1460 : (.instanceMethod yX3_run : Cond) ∈ TW := tw_in (tb_5 (List.mem_of_getElem? (i := 25) rfl)) (by decide +kernel)
theorem tw_1461 : (.selects "PatternWorkshop$Parallel" yX3_run yX3_run : Cond) ∈ TW := tw_in (tb_5 (List.mem_of_getElem? (i := 26) rfl)) (by decide +kernel)
theorem tw_1580 : (.methodLink "PatternWorkshop" 339 yX1_begin : Cond) ∈ TW := tw_in (tb_5 (List.mem_of_getElem? (i := 145) rfl)) (by decide +kernel)
theorem tw_1581 : (.instanceMethod yX1_begin : Cond) ∈ TW := tw_in (tb_5 (List.mem_of_getElem? (i := 146) rfl)) (by decide +kernel)
theorem tw_1582 : (.selects "PatternWorkshop$GoingBack" yX1_begin yX1_begin : Cond) ∈ TW := tw_in (tb_5 (List.mem_of_getElem? (i := 147) rfl)) (by decide +kernel)
theorem tw_1589 : (.methodLink "PatternWorkshop" 242 yX1_proceed : Cond) ∈ TW := tw_in (tb_5 (List.mem_of_getElem? (i := 154) rfl)) (by decide +kernel)
theorem tw_1590 : (.instanceMethod yX1_proceed : Cond) ∈ TW := tw_in (tb_5 (List.mem_of_getElem? (i := 155) rfl)) (by decide +kernel)
theorem tw_1591 : (.selects "PatternWorkshop$GoingBack" yX1_proceed yX1_proceed : Cond) ∈ TW := tw_in (tb_5 (List.mem_of_getElem? (i := 156) rfl)) (by decide +kernel)
theorem tw_1592 : (.code yX1_proceed cX1_proceed 4 (some (.int)) : Cond) ∈ TW := tw_in (tb_5 (List.mem_of_getElem? (i := 157) rfl)) (by decide +kernel)
theorem tw_1594 : (.constant "PatternWorkshop$GoingBack" 98 1073741824 : Cond) ∈ TW := tw_in (tb_5 (List.mem_of_getElem? (i := 159) rfl)) (by decide +kernel)
theorem tw_1595 : (.methodLink "PatternWorkshop$GoingBack" 99 yX1_enter : Cond) ∈ TW := tw_in (tb_5 (List.mem_of_getElem? (i := 160) rfl)) (by decide +kernel)
theorem tw_1597 : (.instanceMethod yX1_enter : Cond) ∈ TW := tw_in (tb_5 (List.mem_of_getElem? (i := 162) rfl)) (by decide +kernel)
theorem tw_1598 : (.code yX1_enter cX1_enter 1 none : Cond) ∈ TW := tw_in (tb_5 (List.mem_of_getElem? (i := 163) rfl)) (by decide +kernel)
theorem tw_1600 : (.methodLink "PatternWorkshop$GoingBack" 140 yX1_step : Cond) ∈ TW := tw_in (tb_5 (List.mem_of_getElem? (i := 165) rfl)) (by decide +kernel)
theorem tw_1602 : (.instanceMethod yX1_step : Cond) ∈ TW := tw_in (tb_5 (List.mem_of_getElem? (i := 167) rfl)) (by decide +kernel)
theorem tw_1604 : (.methodLink "PatternWorkshop$GoingBack" 144 yX1_askSign : Cond) ∈ TW := tw_in (tb_5 (List.mem_of_getElem? (i := 169) rfl)) (by decide +kernel)
theorem tw_1606 : (.instanceMethod yX1_askSign : Cond) ∈ TW := tw_in (tb_5 (List.mem_of_getElem? (i := 171) rfl)) (by decide +kernel)
theorem tw_1610 : (.methodLink "PatternWorkshop$GoingBack" 147 yX1_askEdge : Cond) ∈ TW := tw_in (tb_5 (List.mem_of_getElem? (i := 175) rfl)) (by decide +kernel)
theorem tw_1612 : (.instanceMethod yX1_askEdge : Cond) ∈ TW := tw_in (tb_5 (List.mem_of_getElem? (i := 177) rfl)) (by decide +kernel)
theorem tw_1616 : (.methodLink "PatternWorkshop$GoingBack" 150 yX1_askBack : Cond) ∈ TW := tw_in (tb_5 (List.mem_of_getElem? (i := 181) rfl)) (by decide +kernel)
theorem tw_1618 : (.instanceMethod yX1_askBack : Cond) ∈ TW := tw_in (tb_5 (List.mem_of_getElem? (i := 183) rfl)) (by decide +kernel)
theorem tw_1635 : (.methodLink "PatternWorkshop$GoingBack" 156 yX1_enterRow : Cond) ∈ TW := tw_in (tb_5 (List.mem_of_getElem? (i := 200) rfl)) (by decide +kernel)
theorem tw_1637 : (.instanceMethod yX1_enterRow : Cond) ∈ TW := tw_in (tb_5 (List.mem_of_getElem? (i := 202) rfl)) (by decide +kernel)
theorem tw_1638 : (.code yX1_enterRow cX1_enterRow 3 none : Cond) ∈ TW := tw_in (tb_5 (List.mem_of_getElem? (i := 203) rfl)) (by decide +kernel)
theorem tw_1640 : (.methodLink "PatternWorkshop$GoingBack" 198 yX1_keepChoice : Cond) ∈ TW := tw_in (tb_5 (List.mem_of_getElem? (i := 205) rfl)) (by decide +kernel)
theorem tw_1642 : (.instanceMethod yX1_keepChoice : Cond) ∈ TW := tw_in (tb_5 (List.mem_of_getElem? (i := 207) rfl)) (by decide +kernel)
theorem tw_1643 : (.code yX1_keepChoice cX1_keepChoice 3 none : Cond) ∈ TW := tw_in (tb_5 (List.mem_of_getElem? (i := 208) rfl)) (by decide +kernel)
theorem tw_1644 : (.constant "PatternWorkshop$GoingBack" 249 262144 : Cond) ∈ TW := tw_in (tb_5 (List.mem_of_getElem? (i := 209) rfl)) (by decide +kernel)
theorem tw_1645 : (.methodLink "PatternWorkshop$GoingBack" 250 yJ7_copyOf_59c91 : Cond) ∈ TW := tw_in (tb_5 (List.mem_of_getElem? (i := 210) rfl)) (by decide +kernel)
theorem tw_1646 : (.static yJ7_copyOf_59c91 : Cond) ∈ TW := tw_in (tb_5 (List.mem_of_getElem? (i := 211) rfl)) (by decide +kernel)
theorem tw_1657 : (.methodLink "PatternWorkshop$GoingBack" 159 yX1_enterLoop : Cond) ∈ TW := tw_in (tb_5 (List.mem_of_getElem? (i := 222) rfl)) (by decide +kernel)
theorem tw_1659 : (.instanceMethod yX1_enterLoop : Cond) ∈ TW := tw_in (tb_5 (List.mem_of_getElem? (i := 224) rfl)) (by decide +kernel)
theorem tw_1660 : (.code yX1_enterLoop cX1_enterLoop 1 none : Cond) ∈ TW := tw_in (tb_5 (List.mem_of_getElem? (i := 225) rfl)) (by decide +kernel)
theorem tw_1661 : (.methodLink "PatternWorkshop$GoingBack" 201 yX1_markBase : Cond) ∈ TW := tw_in (tb_5 (List.mem_of_getElem? (i := 226) rfl)) (by decide +kernel)
theorem tw_1663 : (.instanceMethod yX1_markBase : Cond) ∈ TW := tw_in (tb_5 (List.mem_of_getElem? (i := 228) rfl)) (by decide +kernel)
theorem tw_1665 : (.methodLink "PatternWorkshop$GoingBack" 165 yX1_setCell : Cond) ∈ TW := tw_in (tb_5 (List.mem_of_getElem? (i := 230) rfl)) (by decide +kernel)
theorem tw_1667 : (.instanceMethod yX1_setCell : Cond) ∈ TW := tw_in (tb_5 (List.mem_of_getElem? (i := 232) rfl)) (by decide +kernel)
theorem tw_1668 : (.code yX1_setCell cX1_setCell 3 none : Cond) ∈ TW := tw_in (tb_5 (List.mem_of_getElem? (i := 233) rfl)) (by decide +kernel)
theorem tw_1670 : (.methodLink "PatternWorkshop$GoingBack" 162 yX1_enterCut : Cond) ∈ TW := tw_in (tb_5 (List.mem_of_getElem? (i := 235) rfl)) (by decide +kernel)
theorem tw_1672 : (.instanceMethod yX1_enterCut : Cond) ∈ TW := tw_in (tb_5 (List.mem_of_getElem? (i := 237) rfl)) (by decide +kernel)
theorem tw_1673 : (.code yX1_enterCut cX1_enterCut 1 none : Cond) ∈ TW := tw_in (tb_5 (List.mem_of_getElem? (i := 238) rfl)) (by decide +kernel)
theorem tw_1678 : (.methodLink "PatternWorkshop$GoingBack" 168 yX1_enterPart : Cond) ∈ TW := tw_in (tb_6 (List.mem_of_getElem? (i := 3) rfl)) (by decide +kernel)
theorem tw_1680 : (.instanceMethod yX1_enterPart : Cond) ∈ TW := tw_in (tb_6 (List.mem_of_getElem? (i := 5) rfl)) (by decide +kernel)
theorem tw_1682 : (.methodLink "PatternWorkshop$GoingBack" 102 yX1_leave : Cond) ∈ TW := tw_in (tb_6 (List.mem_of_getElem? (i := 7) rfl)) (by decide +kernel)
theorem tw_1684 : (.instanceMethod yX1_leave : Cond) ∈ TW := tw_in (tb_6 (List.mem_of_getElem? (i := 9) rfl)) (by decide +kernel)
theorem tw_1685 : (.code yX1_leave cX1_leave 3 none : Cond) ∈ TW := tw_in (tb_6 (List.mem_of_getElem? (i := 10) rfl)) (by decide +kernel)
theorem tw_1686 : (.methodLink "PatternWorkshop$GoingBack" 225 yX10_holderOf : Cond) ∈ TW := tw_in (tb_6 (List.mem_of_getElem? (i := 11) rfl)) (by decide +kernel)
theorem tw_1687 : (.methodLink "PatternWorkshop$GoingBack" 228 yX1_finish : Cond) ∈ TW := tw_in (tb_6 (List.mem_of_getElem? (i := 12) rfl)) (by decide +kernel)
theorem tw_1689 : (.instanceMethod yX1_finish : Cond) ∈ TW := tw_in (tb_6 (List.mem_of_getElem? (i := 14) rfl)) (by decide +kernel)
theorem tw_1691 : (.methodLink "PatternWorkshop$GoingBack" 231 yX1_leavePartOfRow : Cond) ∈ TW := tw_in (tb_6 (List.mem_of_getElem? (i := 16) rfl)) (by decide +kernel)
theorem tw_1693 : (.instanceMethod yX1_leavePartOfRow : Cond) ∈ TW := tw_in (tb_6 (List.mem_of_getElem? (i := 18) rfl)) (by decide +kernel)
theorem tw_1695 : (.methodLink "PatternWorkshop$GoingBack" 234 yX1_endTurn : Cond) ∈ TW := tw_in (tb_6 (List.mem_of_getElem? (i := 20) rfl)) (by decide +kernel)
theorem tw_1697 : (.instanceMethod yX1_endTurn : Cond) ∈ TW := tw_in (tb_6 (List.mem_of_getElem? (i := 22) rfl)) (by decide +kernel)
theorem tw_1700 : (.methodLink "PatternWorkshop$GoingBack" 237 yX1_leaveLook : Cond) ∈ TW := tw_in (tb_6 (List.mem_of_getElem? (i := 25) rfl)) (by decide +kernel)
theorem tw_1702 : (.instanceMethod yX1_leaveLook : Cond) ∈ TW := tw_in (tb_6 (List.mem_of_getElem? (i := 27) rfl)) (by decide +kernel)
theorem tw_1712 : (.methodLink "PatternWorkshop$GoingBack" 105 yX1_comeToLoop : Cond) ∈ TW := tw_in (tb_6 (List.mem_of_getElem? (i := 37) rfl)) (by decide +kernel)
theorem tw_1714 : (.instanceMethod yX1_comeToLoop : Cond) ∈ TW := tw_in (tb_6 (List.mem_of_getElem? (i := 39) rfl)) (by decide +kernel)
theorem tw_1715 : (.code yX1_comeToLoop cX1_comeToLoop 3 none : Cond) ∈ TW := tw_in (tb_6 (List.mem_of_getElem? (i := 40) rfl)) (by decide +kernel)
theorem tw_1716 : (.methodLink "PatternWorkshop$GoingBack" 207 yX10_highOf : Cond) ∈ TW := tw_in (tb_6 (List.mem_of_getElem? (i := 41) rfl)) (by decide +kernel)
theorem tw_1717 : (.methodLink "PatternWorkshop$GoingBack" 213 yX1_endLoop : Cond) ∈ TW := tw_in (tb_6 (List.mem_of_getElem? (i := 42) rfl)) (by decide +kernel)
theorem tw_1719 : (.instanceMethod yX1_endLoop : Cond) ∈ TW := tw_in (tb_6 (List.mem_of_getElem? (i := 44) rfl)) (by decide +kernel)
theorem tw_1721 : (.methodLink "PatternWorkshop$GoingBack" 108 yX1_turn : Cond) ∈ TW := tw_in (tb_6 (List.mem_of_getElem? (i := 46) rfl)) (by decide +kernel)
theorem tw_1723 : (.instanceMethod yX1_turn : Cond) ∈ TW := tw_in (tb_6 (List.mem_of_getElem? (i := 48) rfl)) (by decide +kernel)
theorem tw_1724 : (.code yX1_turn cX1_turn 2 none : Cond) ∈ TW := tw_in (tb_6 (List.mem_of_getElem? (i := 49) rfl)) (by decide +kernel)
theorem tw_1725 : (.methodLink "PatternWorkshop$GoingBack" 111 yX1_tryFrom : Cond) ∈ TW := tw_in (tb_6 (List.mem_of_getElem? (i := 50) rfl)) (by decide +kernel)
theorem tw_1727 : (.instanceMethod yX1_tryFrom : Cond) ∈ TW := tw_in (tb_6 (List.mem_of_getElem? (i := 52) rfl)) (by decide +kernel)
theorem tw_1728 : (.code yX1_tryFrom cX1_tryFrom 1 none : Cond) ∈ TW := tw_in (tb_6 (List.mem_of_getElem? (i := 53) rfl)) (by decide +kernel)
theorem tw_1729 : (.methodLink "PatternWorkshop$GoingBack" 114 yX1_goBack : Cond) ∈ TW := tw_in (tb_6 (List.mem_of_getElem? (i := 54) rfl)) (by decide +kernel)
theorem tw_1731 : (.instanceMethod yX1_goBack : Cond) ∈ TW := tw_in (tb_6 (List.mem_of_getElem? (i := 56) rfl)) (by decide +kernel)
theorem tw_1732 : (.code yX1_goBack cX1_goBack 2 none : Cond) ∈ TW := tw_in (tb_6 (List.mem_of_getElem? (i := 57) rfl)) (by decide +kernel)
theorem tw_1733 : (.methodLink "PatternWorkshop$GoingBack" 240 yX1_startFurther : Cond) ∈ TW := tw_in (tb_6 (List.mem_of_getElem? (i := 58) rfl)) (by decide +kernel)
theorem tw_1735 : (.instanceMethod yX1_startFurther : Cond) ∈ TW := tw_in (tb_6 (List.mem_of_getElem? (i := 60) rfl)) (by decide +kernel)
theorem tw_1737 : (.methodLink "PatternWorkshop$GoingBack" 243 yX1_undo : Cond) ∈ TW := tw_in (tb_6 (List.mem_of_getElem? (i := 62) rfl)) (by decide +kernel)
theorem tw_1739 : (.instanceMethod yX1_undo : Cond) ∈ TW := tw_in (tb_6 (List.mem_of_getElem? (i := 64) rfl)) (by decide +kernel)
theorem tw_1741 : (.methodLink "PatternWorkshop$GoingBack" 246 yX1_lookAgain : Cond) ∈ TW := tw_in (tb_6 (List.mem_of_getElem? (i := 66) rfl)) (by decide +kernel)
theorem tw_1743 : (.instanceMethod yX1_lookAgain : Cond) ∈ TW := tw_in (tb_6 (List.mem_of_getElem? (i := 68) rfl)) (by decide +kernel)
theorem tw_1745 : (.methodLink "PatternWorkshop$GoingBack" 117 yX1_tell : Cond) ∈ TW := tw_in (tb_6 (List.mem_of_getElem? (i := 70) rfl)) (by decide +kernel)
theorem tw_1747 : (.instanceMethod yX1_tell : Cond) ∈ TW := tw_in (tb_6 (List.mem_of_getElem? (i := 72) rfl)) (by decide +kernel)
theorem tw_1751 : (.methodLink "PatternWorkshop" 239 yX11_keepSpans : Cond) ∈ TW := tw_in (tb_6 (List.mem_of_getElem? (i := 76) rfl)) (by decide +kernel)
theorem tw_1753 : (.instanceMethod yX11_keepSpans : Cond) ∈ TW := tw_in (tb_6 (List.mem_of_getElem? (i := 78) rfl)) (by decide +kernel)
theorem tw_1758 : (.code yX11_goOn cX11_goOn 3 (some (.int)) : Cond) ∈ TW := tw_in (tb_6 (List.mem_of_getElem? (i := 83) rfl)) (by decide +kernel)
theorem tw_1779 : (.code yX11_whole cX11_whole 7 (some (.int)) : Cond) ∈ TW := tw_in (tb_6 (List.mem_of_getElem? (i := 104) rfl)) (by decide +kernel)
theorem tw_1783 : (.code yX11_all cX11_all 8 (some (.int)) : Cond) ∈ TW := tw_in (tb_6 (List.mem_of_getElem? (i := 108) rfl)) (by decide +kernel)
theorem tw_1784 : (.methodLink "PatternWorkshop" 265 yX11_draftFinds : Cond) ∈ TW := tw_in (tb_6 (List.mem_of_getElem? (i := 109) rfl)) (by decide +kernel)
theorem tw_1786 : (.instanceMethod yX11_draftFinds : Cond) ∈ TW := tw_in (tb_6 (List.mem_of_getElem? (i := 111) rfl)) (by decide +kernel)
theorem tw_1787 : (.code yX11_draftFinds cX11_draftFinds 11 (some (.int)) : Cond) ∈ TW := tw_in (tb_6 (List.mem_of_getElem? (i := 112) rfl)) (by decide +kernel)
theorem tw_1789 : (.methodLink "PatternWorkshop" 347 yX11_draftReplacement : Cond) ∈ TW := tw_in (tb_6 (List.mem_of_getElem? (i := 114) rfl)) (by decide +kernel)
theorem tw_1791 : (.instanceMethod yX11_draftReplacement : Cond) ∈ TW := tw_in (tb_6 (List.mem_of_getElem? (i := 116) rfl)) (by decide +kernel)
theorem tw_1794 : (.methodLink "PatternWorkshop" 350 ⟨"java/lang/Math", "max", "(II)I"⟩ : Cond) ∈ TW := tw_in (tb_6 (List.mem_of_getElem? (i := 119) rfl)) (by decide +kernel)
theorem tw_1798 : (.code yX11_replace cX11_replace 7 (some (.int)) : Cond) ∈ TW := tw_in (tb_6 (List.mem_of_getElem? (i := 123) rfl)) (by decide +kernel)
theorem tw_1799 : (.methodLink "PatternWorkshop" 269 yX11_tapeTellsFor : Cond) ∈ TW := tw_in (tb_6 (List.mem_of_getElem? (i := 124) rfl)) (by decide +kernel)
theorem tw_1801 : (.instanceMethod yX11_tapeTellsFor : Cond) ∈ TW := tw_in (tb_6 (List.mem_of_getElem? (i := 126) rfl)) (by decide +kernel)
theorem tw_1806 : (.code yX11_first cX11_first 7 (some (.int)) : Cond) ∈ TW := tw_in (tb_6 (List.mem_of_getElem? (i := 131) rfl)) (by decide +kernel)
theorem tw_1807 : (.methodLink "PatternWorkshop" 273 yX11_areThere : Cond) ∈ TW := tw_in (tb_6 (List.mem_of_getElem? (i := 132) rfl)) (by decide +kernel)
theorem tw_1809 : (.instanceMethod yX11_areThere : Cond) ∈ TW := tw_in (tb_6 (List.mem_of_getElem? (i := 134) rfl)) (by decide +kernel)
theorem tw_1814 : (.methodLink "PatternWorkshop" 276 yX11_refusalOfSome : Cond) ∈ TW := tw_in (tb_6 (List.mem_of_getElem? (i := 139) rfl)) (by decide +kernel)
theorem tw_1816 : (.instanceMethod yX11_refusalOfSome : Cond) ∈ TW := tw_in (tb_6 (List.mem_of_getElem? (i := 141) rfl)) (by decide +kernel)
theorem tw_1818 : (.methodLink "PatternWorkshop" 279 yX11_searchSlots : Cond) ∈ TW := tw_in (tb_6 (List.mem_of_getElem? (i := 143) rfl)) (by decide +kernel)
theorem tw_1820 : (.instanceMethod yX11_searchSlots : Cond) ∈ TW := tw_in (tb_6 (List.mem_of_getElem? (i := 145) rfl)) (by decide +kernel)
theorem tw_1821 : (.code yX11_searchSlots cX11_searchSlots 9 (some (.int)) : Cond) ∈ TW := tw_in (tb_6 (List.mem_of_getElem? (i := 146) rfl)) (by decide +kernel)
theorem gw_X11_all : GoodIn TW (WS yX11_all cX11_all 8 (some (.int))) := goodC tw_1783
theorem gw_X11_draftFinds : GoodIn TW (WS yX11_draftFinds cX11_draftFinds 11 (some (.int))) := goodC tw_1787
theorem gw_X11_find : GoodIn TW (WS yX11_find cX11_find 10 (some (.int))) := goodC tw_1433
theorem gw_X11_first : GoodIn TW (WS yX11_first cX11_first 7 (some (.int))) := goodC tw_1806
theorem gw_X11_goOn : GoodIn TW (WS yX11_goOn cX11_goOn 3 (some (.int))) := goodC tw_1758
theorem gw_X11_replace : GoodIn TW (WS yX11_replace cX11_replace 7 (some (.int))) := goodC tw_1798
theorem gw_X11_search : GoodIn TW (WS yX11_search cX11_search 8 (some (.int))) := goodC tw_1458
theorem gw_X11_searchSlots : GoodIn TW (WS yX11_searchSlots cX11_searchSlots 9 (some (.int))) := goodC tw_1821
theorem gw_X11_whole : GoodIn TW (WS yX11_whole cX11_whole 7 (some (.int))) := goodC tw_1779
theorem gw_X1_comeToLoop : GoodIn TW (WS yX1_comeToLoop cX1_comeToLoop 3 none) := goodC tw_1715
theorem gw_X1_enter : GoodIn TW (WS yX1_enter cX1_enter 1 none) := goodC tw_1598
theorem gw_X1_enterCut : GoodIn TW (WS yX1_enterCut cX1_enterCut 1 none) := goodC tw_1673
theorem gw_X1_enterLoop : GoodIn TW (WS yX1_enterLoop cX1_enterLoop 1 none) := goodC tw_1660
theorem gw_X1_enterRow : GoodIn TW (WS yX1_enterRow cX1_enterRow 3 none) := goodC tw_1638
theorem gw_X1_goBack : GoodIn TW (WS yX1_goBack cX1_goBack 2 none) := goodC tw_1732
theorem gw_X1_keepChoice : GoodIn TW (WS yX1_keepChoice cX1_keepChoice 3 none) := goodC tw_1643
theorem gw_X1_leave : GoodIn TW (WS yX1_leave cX1_leave 3 none) := goodC tw_1685
theorem gw_X1_proceed : GoodIn TW (WS yX1_proceed cX1_proceed 4 (some (.int))) := goodC tw_1592
theorem gw_X1_setCell : GoodIn TW (WS yX1_setCell cX1_setCell 3 none) := goodC tw_1668
theorem gw_X1_tryFrom : GoodIn TW (WS yX1_tryFrom cX1_tryFrom 1 none) := goodC tw_1728
theorem gw_X1_turn : GoodIn TW (WS yX1_turn cX1_turn 2 none) := goodC tw_1724
theorem dX11_all_0 : decode cX11_all 0 = .ok (.aload_n 0, 1) := by decide +kernel
theorem dX11_all_1 : decode cX11_all 1 = .ok (.iload_n 1, 1) := by decide +kernel
theorem dX11_all_2 : decode cX11_all 2 = .ok (.invokevirtual 128, 3) := by decide +kernel
theorem dX11_all_5 : decode cX11_all 5 = .ok (.astore 4, 2) := by decide +kernel
theorem dX11_all_7 : decode cX11_all 7 = .ok (.aload 4, 2) := by decide +kernel
theorem dX11_all_9 : decode cX11_all 9 = .ok (.ifnonnull 6, 3) := by decide +kernel
theorem dX11_all_12 : decode cX11_all 12 = .ok (.bipush (-2), 2) := by decide +kernel
theorem dX11_all_14 : decode cX11_all 14 = .ok (.ireturn, 1) := by decide +kernel
theorem dX11_all_15 : decode cX11_all 15 = .ok (.aload_n 0, 1) := by decide +kernel
theorem dX11_all_16 : decode cX11_all 16 = .ok (.iload_n 2, 1) := by decide +kernel
theorem dX11_all_17 : decode cX11_all 17 = .ok (.invokevirtual 209, 3) := by decide +kernel
theorem dX11_all_20 : decode cX11_all 20 = .ok (.astore 5, 2) := by decide +kernel
theorem dX11_all_22 : decode cX11_all 22 = .ok (.aload 5, 2) := by decide +kernel
theorem dX11_all_24 : decode cX11_all 24 = .ok (.ifnonnull 9, 3) := by decide +kernel
theorem dX11_all_27 : decode cX11_all 27 = .ok (.aload_n 0, 1) := by decide +kernel
theorem dX11_all_28 : decode cX11_all 28 = .ok (.iload_n 2, 1) := by decide +kernel
theorem dX11_all_29 : decode cX11_all 29 = .ok (.invokevirtual 213, 3) := by decide +kernel
theorem dX11_all_32 : decode cX11_all 32 = .ok (.ireturn, 1) := by decide +kernel
theorem dX11_all_33 : decode cX11_all 33 = .ok (.iload_n 3, 1) := by decide +kernel
theorem dX11_all_34 : decode cX11_all 34 = .ok (.invokestatic 225, 3) := by decide +kernel
theorem dX11_all_37 : decode cX11_all 37 = .ok (.ifCond .ne 6, 3) := by decide +kernel
theorem dX11_all_40 : decode cX11_all 40 = .ok (.bipush (-4), 2) := by decide +kernel
theorem dX11_all_42 : decode cX11_all 42 = .ok (.ireturn, 1) := by decide +kernel
theorem dX11_all_43 : decode cX11_all 43 = .ok (.aload 4, 2) := by decide +kernel
theorem dX11_all_45 : decode cX11_all 45 = .ok (.iload_n 3, 1) := by decide +kernel
theorem dX11_all_46 : decode cX11_all 46 = .ok (.invokestatic 231, 3) := by decide +kernel
theorem dX11_all_49 : decode cX11_all 49 = .ok (.istore 6, 2) := by decide +kernel
theorem dX11_all_51 : decode cX11_all 51 = .ok (.iload 6, 2) := by decide +kernel
theorem dX11_all_53 : decode cX11_all 53 = .ok (.ifCond .eq 6, 3) := by decide +kernel
theorem dX11_all_56 : decode cX11_all 56 = .ok (.iload 6, 2) := by decide +kernel
theorem dX11_all_58 : decode cX11_all 58 = .ok (.ireturn, 1) := by decide +kernel
theorem dX11_all_59 : decode cX11_all 59 = .ok (.aload_n 0, 1) := by decide +kernel
theorem dX11_all_60 : decode cX11_all 60 = .ok (.aload 4, 2) := by decide +kernel
theorem dX11_all_62 : decode cX11_all 62 = .ok (.aload 5, 2) := by decide +kernel
theorem dX11_all_64 : decode cX11_all 64 = .ok (.iload_n 3, 1) := by decide +kernel
theorem dX11_all_65 : decode cX11_all 65 = .ok (.iconst 0, 1) := by decide +kernel
theorem dX11_all_66 : decode cX11_all 66 = .ok (.invokevirtual 265, 3) := by decide +kernel
theorem dX11_all_69 : decode cX11_all 69 = .ok (.istore 7, 2) := by decide +kernel
theorem dX11_all_71 : decode cX11_all 71 = .ok (.iload 7, 2) := by decide +kernel
theorem dX11_all_73 : decode cX11_all 73 = .ok (.ifCond .lt 8, 3) := by decide +kernel
theorem dX11_all_76 : decode cX11_all 76 = .ok (.aload_n 0, 1) := by decide +kernel
theorem dX11_all_77 : decode cX11_all 77 = .ok (.iconst 1, 1) := by decide +kernel
theorem dX11_all_78 : decode cX11_all 78 = .ok (.invokevirtual 174, 3) := by decide +kernel
theorem dX11_all_81 : decode cX11_all 81 = .ok (.iload 7, 2) := by decide +kernel
theorem dX11_all_83 : decode cX11_all 83 = .ok (.ireturn, 1) := by decide +kernel
theorem dX11_draftFinds_0 : decode cX11_draftFinds 0 = .ok (.aload_n 0, 1) := by decide +kernel
theorem dX11_draftFinds_1 : decode cX11_draftFinds 1 = .ok (.getfield 31, 3) := by decide +kernel
theorem dX11_draftFinds_4 : decode cX11_draftFinds 4 = .ok (.invokevirtual 109, 3) := by decide +kernel
theorem dX11_draftFinds_7 : decode cX11_draftFinds 7 = .ok (.iconst 0, 1) := by decide +kernel
theorem dX11_draftFinds_8 : decode cX11_draftFinds 8 = .ok (.istore 5, 2) := by decide +kernel
theorem dX11_draftFinds_10 : decode cX11_draftFinds 10 = .ok (.iconst 0, 1) := by decide +kernel
theorem dX11_draftFinds_11 : decode cX11_draftFinds 11 = .ok (.istore 6, 2) := by decide +kernel
theorem dX11_draftFinds_13 : decode cX11_draftFinds 13 = .ok (.iconst 0, 1) := by decide +kernel
theorem dX11_draftFinds_14 : decode cX11_draftFinds 14 = .ok (.istore 7, 2) := by decide +kernel
theorem dX11_draftFinds_16 : decode cX11_draftFinds 16 = .ok (.iload 7, 2) := by decide +kernel
theorem dX11_draftFinds_18 : decode cX11_draftFinds 18 = .ok (.aload_n 2, 1) := by decide +kernel
theorem dX11_draftFinds_19 : decode cX11_draftFinds 19 = .ok (.getfield 96, 3) := by decide +kernel
theorem dX11_draftFinds_22 : decode cX11_draftFinds 22 = .ok (.if_icmp .gt 135, 3) := by decide +kernel
theorem dX11_draftFinds_25 : decode cX11_draftFinds 25 = .ok (.aload_n 0, 1) := by decide +kernel
theorem dX11_draftFinds_26 : decode cX11_draftFinds 26 = .ok (.aload_n 1, 1) := by decide +kernel
theorem dX11_draftFinds_27 : decode cX11_draftFinds 27 = .ok (.aload_n 2, 1) := by decide +kernel
theorem dX11_draftFinds_28 : decode cX11_draftFinds 28 = .ok (.iload 7, 2) := by decide +kernel
theorem dX11_draftFinds_30 : decode cX11_draftFinds 30 = .ok (.iload_n 3, 1) := by decide +kernel
theorem dX11_draftFinds_31 : decode cX11_draftFinds 31 = .ok (.sipush 3000, 3) := by decide +kernel
theorem dX11_draftFinds_34 : decode cX11_draftFinds 34 = .ok (.iconst 0, 1) := by decide +kernel
theorem dX11_draftFinds_35 : decode cX11_draftFinds 35 = .ok (.invokevirtual 235, 3) := by decide +kernel
theorem dX11_draftFinds_38 : decode cX11_draftFinds 38 = .ok (.istore 8, 2) := by decide +kernel
theorem dX11_draftFinds_40 : decode cX11_draftFinds 40 = .ok (.iload 8, 2) := by decide +kernel
theorem dX11_draftFinds_42 : decode cX11_draftFinds 42 = .ok (.bipush (-8), 2) := by decide +kernel
theorem dX11_draftFinds_44 : decode cX11_draftFinds 44 = .ok (.if_icmp .ne 6, 3) := by decide +kernel
theorem dX11_draftFinds_47 : decode cX11_draftFinds 47 = .ok (.bipush (-8), 2) := by decide +kernel
theorem dX11_draftFinds_49 : decode cX11_draftFinds 49 = .ok (.ireturn, 1) := by decide +kernel
theorem dX11_draftFinds_50 : decode cX11_draftFinds 50 = .ok (.iload 8, 2) := by decide +kernel
theorem dX11_draftFinds_52 : decode cX11_draftFinds 52 = .ok (.iconst 1, 1) := by decide +kernel
theorem dX11_draftFinds_53 : decode cX11_draftFinds 53 = .ok (.if_icmp .eq 6, 3) := by decide +kernel
theorem dX11_draftFinds_56 : decode cX11_draftFinds 56 = .ok (.goto 101, 3) := by decide +kernel
theorem dX11_draftFinds_59 : decode cX11_draftFinds 59 = .ok (.iinc 5 1, 3) := by decide +kernel
theorem dX11_draftFinds_62 : decode cX11_draftFinds 62 = .ok (.aload_n 0, 1) := by decide +kernel
theorem dX11_draftFinds_63 : decode cX11_draftFinds 63 = .ok (.getfield 34, 3) := by decide +kernel
theorem dX11_draftFinds_66 : decode cX11_draftFinds 66 = .ok (.iconst 0, 1) := by decide +kernel
theorem dX11_draftFinds_67 : decode cX11_draftFinds 67 = .ok (.invokevirtual 222, 3) := by decide +kernel
theorem dX11_draftFinds_70 : decode cX11_draftFinds 70 = .ok (.istore 9, 2) := by decide +kernel
theorem dX11_draftFinds_72 : decode cX11_draftFinds 72 = .ok (.aload_n 0, 1) := by decide +kernel
theorem dX11_draftFinds_73 : decode cX11_draftFinds 73 = .ok (.getfield 34, 3) := by decide +kernel
theorem dX11_draftFinds_76 : decode cX11_draftFinds 76 = .ok (.iconst 1, 1) := by decide +kernel
theorem dX11_draftFinds_77 : decode cX11_draftFinds 77 = .ok (.invokevirtual 222, 3) := by decide +kernel
theorem dX11_draftFinds_80 : decode cX11_draftFinds 80 = .ok (.istore 10, 2) := by decide +kernel
theorem dX11_draftFinds_82 : decode cX11_draftFinds 82 = .ok (.iload 4, 2) := by decide +kernel
theorem dX11_draftFinds_84 : decode cX11_draftFinds 84 = .ok (.ifCond .eq 23, 3) := by decide +kernel
theorem dX11_draftFinds_87 : decode cX11_draftFinds 87 = .ok (.aload_n 0, 1) := by decide +kernel
theorem dX11_draftFinds_88 : decode cX11_draftFinds 88 = .ok (.getfield 31, 3) := by decide +kernel
theorem dX11_draftFinds_91 : decode cX11_draftFinds 91 = .ok (.aload_n 2, 1) := by decide +kernel
theorem dX11_draftFinds_92 : decode cX11_draftFinds 92 = .ok (.iload 6, 2) := by decide +kernel
theorem dX11_draftFinds_94 : decode cX11_draftFinds 94 = .ok (.iload 9, 2) := by decide +kernel
theorem dX11_draftFinds_96 : decode cX11_draftFinds 96 = .ok (.invokevirtual 343, 3) := by decide +kernel
theorem dX11_draftFinds_99 : decode cX11_draftFinds 99 = .ok (.aload_n 0, 1) := by decide +kernel
theorem dX11_draftFinds_100 : decode cX11_draftFinds 100 = .ok (.aload_n 2, 1) := by decide +kernel
theorem dX11_draftFinds_101 : decode cX11_draftFinds 101 = .ok (.invokevirtual 347, 3) := by decide +kernel
theorem dX11_draftFinds_104 : decode cX11_draftFinds 104 = .ok (.goto 21, 3) := by decide +kernel
theorem dX11_draftFinds_107 : decode cX11_draftFinds 107 = .ok (.aload_n 0, 1) := by decide +kernel
theorem dX11_draftFinds_108 : decode cX11_draftFinds 108 = .ok (.getfield 31, 3) := by decide +kernel
theorem dX11_draftFinds_111 : decode cX11_draftFinds 111 = .ok (.iload 9, 2) := by decide +kernel
theorem dX11_draftFinds_113 : decode cX11_draftFinds 113 = .ok (.invokevirtual 99, 3) := by decide +kernel
theorem dX11_draftFinds_116 : decode cX11_draftFinds 116 = .ok (.aload_n 0, 1) := by decide +kernel
theorem dX11_draftFinds_117 : decode cX11_draftFinds 117 = .ok (.getfield 31, 3) := by decide +kernel
theorem dX11_draftFinds_120 : decode cX11_draftFinds 120 = .ok (.iload 10, 2) := by decide +kernel
theorem dX11_draftFinds_122 : decode cX11_draftFinds 122 = .ok (.invokevirtual 99, 3) := by decide +kernel
theorem dX11_draftFinds_125 : decode cX11_draftFinds 125 = .ok (.iload 10, 2) := by decide +kernel
theorem dX11_draftFinds_127 : decode cX11_draftFinds 127 = .ok (.istore 6, 2) := by decide +kernel
theorem dX11_draftFinds_129 : decode cX11_draftFinds 129 = .ok (.iload 10, 2) := by decide +kernel
theorem dX11_draftFinds_131 : decode cX11_draftFinds 131 = .ok (.iload 9, 2) := by decide +kernel
theorem dX11_draftFinds_133 : decode cX11_draftFinds 133 = .ok (.if_icmp .le 8, 3) := by decide +kernel
theorem dX11_draftFinds_136 : decode cX11_draftFinds 136 = .ok (.iload 10, 2) := by decide +kernel
theorem dX11_draftFinds_138 : decode cX11_draftFinds 138 = .ok (.goto 7, 3) := by decide +kernel
theorem dX11_draftFinds_141 : decode cX11_draftFinds 141 = .ok (.iload 10, 2) := by decide +kernel
theorem dX11_draftFinds_143 : decode cX11_draftFinds 143 = .ok (.iconst 1, 1) := by decide +kernel
theorem dX11_draftFinds_144 : decode cX11_draftFinds 144 = .ok (.iadd, 1) := by decide +kernel
theorem dX11_draftFinds_145 : decode cX11_draftFinds 145 = .ok (.iload 7, 2) := by decide +kernel
theorem dX11_draftFinds_147 : decode cX11_draftFinds 147 = .ok (.iconst 1, 1) := by decide +kernel
theorem dX11_draftFinds_148 : decode cX11_draftFinds 148 = .ok (.iadd, 1) := by decide +kernel
theorem dX11_draftFinds_149 : decode cX11_draftFinds 149 = .ok (.invokestatic 350, 3) := by decide +kernel
theorem dX11_draftFinds_152 : decode cX11_draftFinds 152 = .ok (.istore 7, 2) := by decide +kernel
theorem dX11_draftFinds_154 : decode cX11_draftFinds 154 = .ok (.goto (-138), 3) := by decide +kernel
theorem dX11_draftFinds_157 : decode cX11_draftFinds 157 = .ok (.iload 4, 2) := by decide +kernel
theorem dX11_draftFinds_159 : decode cX11_draftFinds 159 = .ok (.ifCond .eq 17, 3) := by decide +kernel
theorem dX11_draftFinds_162 : decode cX11_draftFinds 162 = .ok (.aload_n 0, 1) := by decide +kernel
theorem dX11_draftFinds_163 : decode cX11_draftFinds 163 = .ok (.getfield 31, 3) := by decide +kernel
theorem dX11_draftFinds_166 : decode cX11_draftFinds 166 = .ok (.aload_n 2, 1) := by decide +kernel
theorem dX11_draftFinds_167 : decode cX11_draftFinds 167 = .ok (.iload 6, 2) := by decide +kernel
theorem dX11_draftFinds_169 : decode cX11_draftFinds 169 = .ok (.aload_n 2, 1) := by decide +kernel
theorem dX11_draftFinds_170 : decode cX11_draftFinds 170 = .ok (.getfield 96, 3) := by decide +kernel
theorem dX11_draftFinds_173 : decode cX11_draftFinds 173 = .ok (.invokevirtual 343, 3) := by decide +kernel
theorem dX11_draftFinds_176 : decode cX11_draftFinds 176 = .ok (.iload 5, 2) := by decide +kernel
theorem dX11_draftFinds_178 : decode cX11_draftFinds 178 = .ok (.ireturn, 1) := by decide +kernel
theorem dX11_find_0 : decode cX11_find 0 = .ok (.aload_n 0, 1) := by decide +kernel
theorem dX11_find_1 : decode cX11_find 1 = .ok (.iload_n 1, 1) := by decide +kernel
theorem dX11_find_2 : decode cX11_find 2 = .ok (.invokevirtual 128, 3) := by decide +kernel
theorem dX11_find_5 : decode cX11_find 5 = .ok (.astore 6, 2) := by decide +kernel
theorem dX11_find_7 : decode cX11_find 7 = .ok (.aload 6, 2) := by decide +kernel
theorem dX11_find_9 : decode cX11_find 9 = .ok (.ifnonnull 6, 3) := by decide +kernel
theorem dX11_find_12 : decode cX11_find 12 = .ok (.bipush (-2), 2) := by decide +kernel
theorem dX11_find_14 : decode cX11_find 14 = .ok (.ireturn, 1) := by decide +kernel
theorem dX11_find_15 : decode cX11_find 15 = .ok (.aload_n 0, 1) := by decide +kernel
theorem dX11_find_16 : decode cX11_find 16 = .ok (.iload_n 2, 1) := by decide +kernel
theorem dX11_find_17 : decode cX11_find 17 = .ok (.invokevirtual 209, 3) := by decide +kernel
theorem dX11_find_20 : decode cX11_find 20 = .ok (.astore 7, 2) := by decide +kernel
theorem dX11_find_22 : decode cX11_find 22 = .ok (.aload 7, 2) := by decide +kernel
theorem dX11_find_24 : decode cX11_find 24 = .ok (.ifnonnull 9, 3) := by decide +kernel
theorem dX11_find_27 : decode cX11_find 27 = .ok (.aload_n 0, 1) := by decide +kernel
theorem dX11_find_28 : decode cX11_find 28 = .ok (.iload_n 2, 1) := by decide +kernel
theorem dX11_find_29 : decode cX11_find 29 = .ok (.invokevirtual 213, 3) := by decide +kernel
theorem dX11_find_32 : decode cX11_find 32 = .ok (.ireturn, 1) := by decide +kernel
theorem dX11_find_33 : decode cX11_find 33 = .ok (.iload_n 3, 1) := by decide +kernel
theorem dX11_find_34 : decode cX11_find 34 = .ok (.ifCond .lt 33, 3) := by decide +kernel
theorem dX11_find_37 : decode cX11_find 37 = .ok (.iload_n 3, 1) := by decide +kernel
theorem dX11_find_38 : decode cX11_find 38 = .ok (.aload 7, 2) := by decide +kernel
theorem dX11_find_40 : decode cX11_find 40 = .ok (.getfield 96, 3) := by decide +kernel
theorem dX11_find_43 : decode cX11_find 43 = .ok (.if_icmp .gt 24, 3) := by decide +kernel
theorem dX11_find_46 : decode cX11_find 46 = .ok (.iload 4, 2) := by decide +kernel
theorem dX11_find_48 : decode cX11_find 48 = .ok (.invokestatic 225, 3) := by decide +kernel
theorem dX11_find_51 : decode cX11_find 51 = .ok (.ifCond .eq 16, 3) := by decide +kernel
theorem dX11_find_54 : decode cX11_find 54 = .ok (.iload 4, 2) := by decide +kernel
theorem dX11_find_56 : decode cX11_find 56 = .ok (.ifCond .ne 14, 3) := by decide +kernel
theorem dX11_find_59 : decode cX11_find 59 = .ok (.iload 5, 2) := by decide +kernel
theorem dX11_find_61 : decode cX11_find 61 = .ok (.invokestatic 228, 3) := by decide +kernel
theorem dX11_find_64 : decode cX11_find 64 = .ok (.ifCond .ne 6, 3) := by decide +kernel
theorem dX11_find_67 : decode cX11_find 67 = .ok (.bipush (-4), 2) := by decide +kernel
theorem dX11_find_69 : decode cX11_find 69 = .ok (.ireturn, 1) := by decide +kernel
theorem dX11_find_70 : decode cX11_find 70 = .ok (.aload 6, 2) := by decide +kernel
theorem dX11_find_72 : decode cX11_find 72 = .ok (.iload 4, 2) := by decide +kernel
theorem dX11_find_74 : decode cX11_find 74 = .ok (.invokestatic 231, 3) := by decide +kernel
theorem dX11_find_77 : decode cX11_find 77 = .ok (.istore 8, 2) := by decide +kernel
theorem dX11_find_79 : decode cX11_find 79 = .ok (.iload 8, 2) := by decide +kernel
theorem dX11_find_81 : decode cX11_find 81 = .ok (.ifCond .eq 6, 3) := by decide +kernel
theorem dX11_find_84 : decode cX11_find 84 = .ok (.iload 8, 2) := by decide +kernel
theorem dX11_find_86 : decode cX11_find 86 = .ok (.ireturn, 1) := by decide +kernel
theorem dX11_find_87 : decode cX11_find 87 = .ok (.aload_n 0, 1) := by decide +kernel
theorem dX11_find_88 : decode cX11_find 88 = .ok (.aload 6, 2) := by decide +kernel
theorem dX11_find_90 : decode cX11_find 90 = .ok (.aload 7, 2) := by decide +kernel
theorem dX11_find_92 : decode cX11_find 92 = .ok (.iload_n 3, 1) := by decide +kernel
theorem dX11_find_93 : decode cX11_find 93 = .ok (.iload 4, 2) := by decide +kernel
theorem dX11_find_95 : decode cX11_find 95 = .ok (.iload 5, 2) := by decide +kernel
theorem dX11_find_97 : decode cX11_find 97 = .ok (.iconst 0, 1) := by decide +kernel
theorem dX11_find_98 : decode cX11_find 98 = .ok (.invokevirtual 235, 3) := by decide +kernel
theorem dX11_find_101 : decode cX11_find 101 = .ok (.istore 9, 2) := by decide +kernel
theorem dX11_find_103 : decode cX11_find 103 = .ok (.iload 9, 2) := by decide +kernel
theorem dX11_find_105 : decode cX11_find 105 = .ok (.iconst 2, 1) := by decide +kernel
theorem dX11_find_106 : decode cX11_find 106 = .ok (.if_icmp .ne 13, 3) := by decide +kernel
theorem dX11_find_109 : decode cX11_find 109 = .ok (.aload_n 0, 1) := by decide +kernel
theorem dX11_find_110 : decode cX11_find 110 = .ok (.iload_n 1, 1) := by decide +kernel
theorem dX11_find_111 : decode cX11_find 111 = .ok (.putfield 79, 3) := by decide +kernel
theorem dX11_find_114 : decode cX11_find 114 = .ok (.aload_n 0, 1) := by decide +kernel
theorem dX11_find_115 : decode cX11_find 115 = .ok (.iload_n 2, 1) := by decide +kernel
theorem dX11_find_116 : decode cX11_find 116 = .ok (.putfield 82, 3) := by decide +kernel
theorem dX11_find_119 : decode cX11_find 119 = .ok (.aload_n 0, 1) := by decide +kernel
theorem dX11_find_120 : decode cX11_find 120 = .ok (.iload 9, 2) := by decide +kernel
theorem dX11_find_122 : decode cX11_find 122 = .ok (.invokevirtual 239, 3) := by decide +kernel
theorem dX11_find_125 : decode cX11_find 125 = .ok (.ireturn, 1) := by decide +kernel
theorem dX11_first_0 : decode cX11_first 0 = .ok (.iload_n 1, 1) := by decide +kernel
theorem dX11_first_1 : decode cX11_first 1 = .ok (.iconst 1, 1) := by decide +kernel
theorem dX11_first_2 : decode cX11_first 2 = .ok (.if_icmp .lt 17, 3) := by decide +kernel
theorem dX11_first_5 : decode cX11_first 5 = .ok (.iload_n 1, 1) := by decide +kernel
theorem dX11_first_6 : decode cX11_first 6 = .ok (.bipush 64, 2) := by decide +kernel
theorem dX11_first_8 : decode cX11_first 8 = .ok (.if_icmp .ge 11, 3) := by decide +kernel
theorem dX11_first_11 : decode cX11_first 11 = .ok (.aload_n 0, 1) := by decide +kernel
theorem dX11_first_12 : decode cX11_first 12 = .ok (.iload_n 1, 1) := by decide +kernel
theorem dX11_first_13 : decode cX11_first 13 = .ok (.invokevirtual 273, 3) := by decide +kernel
theorem dX11_first_16 : decode cX11_first 16 = .ok (.ifCond .ne 6, 3) := by decide +kernel
theorem dX11_first_19 : decode cX11_first 19 = .ok (.bipush (-2), 2) := by decide +kernel
theorem dX11_first_21 : decode cX11_first 21 = .ok (.ireturn, 1) := by decide +kernel
theorem dX11_first_22 : decode cX11_first 22 = .ok (.aload_n 0, 1) := by decide +kernel
theorem dX11_first_23 : decode cX11_first 23 = .ok (.iload_n 2, 1) := by decide +kernel
theorem dX11_first_24 : decode cX11_first 24 = .ok (.invokevirtual 209, 3) := by decide +kernel
theorem dX11_first_27 : decode cX11_first 27 = .ok (.astore 5, 2) := by decide +kernel
theorem dX11_first_29 : decode cX11_first 29 = .ok (.aload 5, 2) := by decide +kernel
theorem dX11_first_31 : decode cX11_first 31 = .ok (.ifnonnull 9, 3) := by decide +kernel
theorem dX11_first_34 : decode cX11_first 34 = .ok (.aload_n 0, 1) := by decide +kernel
theorem dX11_first_35 : decode cX11_first 35 = .ok (.iload_n 2, 1) := by decide +kernel
theorem dX11_first_36 : decode cX11_first 36 = .ok (.invokevirtual 213, 3) := by decide +kernel
theorem dX11_first_39 : decode cX11_first 39 = .ok (.ireturn, 1) := by decide +kernel
theorem dX11_first_40 : decode cX11_first 40 = .ok (.iload_n 3, 1) := by decide +kernel
theorem dX11_first_41 : decode cX11_first 41 = .ok (.ifCond .lt 20, 3) := by decide +kernel
theorem dX11_first_44 : decode cX11_first 44 = .ok (.iload_n 3, 1) := by decide +kernel
theorem dX11_first_45 : decode cX11_first 45 = .ok (.aload 5, 2) := by decide +kernel
theorem dX11_first_47 : decode cX11_first 47 = .ok (.getfield 96, 3) := by decide +kernel
theorem dX11_first_50 : decode cX11_first 50 = .ok (.if_icmp .gt 11, 3) := by decide +kernel
theorem dX11_first_53 : decode cX11_first 53 = .ok (.iload 4, 2) := by decide +kernel
theorem dX11_first_55 : decode cX11_first 55 = .ok (.invokestatic 225, 3) := by decide +kernel
theorem dX11_first_58 : decode cX11_first 58 = .ok (.ifCond .ne 6, 3) := by decide +kernel
theorem dX11_first_61 : decode cX11_first 61 = .ok (.bipush (-4), 2) := by decide +kernel
theorem dX11_first_63 : decode cX11_first 63 = .ok (.ireturn, 1) := by decide +kernel
theorem dX11_first_64 : decode cX11_first 64 = .ok (.aload_n 0, 1) := by decide +kernel
theorem dX11_first_65 : decode cX11_first 65 = .ok (.iload_n 1, 1) := by decide +kernel
theorem dX11_first_66 : decode cX11_first 66 = .ok (.iload 4, 2) := by decide +kernel
theorem dX11_first_68 : decode cX11_first 68 = .ok (.invokevirtual 276, 3) := by decide +kernel
theorem dX11_first_71 : decode cX11_first 71 = .ok (.istore 6, 2) := by decide +kernel
theorem dX11_first_73 : decode cX11_first 73 = .ok (.iload 6, 2) := by decide +kernel
theorem dX11_first_75 : decode cX11_first 75 = .ok (.ifCond .eq 8, 3) := by decide +kernel
theorem dX11_first_78 : decode cX11_first 78 = .ok (.iload 6, 2) := by decide +kernel
theorem dX11_first_80 : decode cX11_first 80 = .ok (.goto 13, 3) := by decide +kernel
theorem dX11_first_83 : decode cX11_first 83 = .ok (.aload_n 0, 1) := by decide +kernel
theorem dX11_first_84 : decode cX11_first 84 = .ok (.iload_n 1, 1) := by decide +kernel
theorem dX11_first_85 : decode cX11_first 85 = .ok (.aload 5, 2) := by decide +kernel
theorem dX11_first_87 : decode cX11_first 87 = .ok (.iload_n 3, 1) := by decide +kernel
theorem dX11_first_88 : decode cX11_first 88 = .ok (.iload 4, 2) := by decide +kernel
theorem dX11_first_90 : decode cX11_first 90 = .ok (.invokevirtual 279, 3) := by decide +kernel
theorem dX11_first_93 : decode cX11_first 93 = .ok (.ireturn, 1) := by decide +kernel
theorem dX11_goOn_0 : decode cX11_goOn 0 = .ok (.iload_n 1, 1) := by decide +kernel
theorem dX11_goOn_1 : decode cX11_goOn 1 = .ok (.invokestatic 228, 3) := by decide +kernel
theorem dX11_goOn_4 : decode cX11_goOn 4 = .ok (.ifCond .ne 6, 3) := by decide +kernel
theorem dX11_goOn_7 : decode cX11_goOn 7 = .ok (.bipush (-4), 2) := by decide +kernel
theorem dX11_goOn_9 : decode cX11_goOn 9 = .ok (.ireturn, 1) := by decide +kernel
theorem dX11_goOn_10 : decode cX11_goOn 10 = .ok (.aload_n 0, 1) := by decide +kernel
theorem dX11_goOn_11 : decode cX11_goOn 11 = .ok (.getfield 79, 3) := by decide +kernel
theorem dX11_goOn_14 : decode cX11_goOn 14 = .ok (.iconst (-1), 1) := by decide +kernel
theorem dX11_goOn_15 : decode cX11_goOn 15 = .ok (.if_icmp .ne 6, 3) := by decide +kernel
theorem dX11_goOn_18 : decode cX11_goOn 18 = .ok (.bipush (-5), 2) := by decide +kernel
theorem dX11_goOn_20 : decode cX11_goOn 20 = .ok (.ireturn, 1) := by decide +kernel
theorem dX11_goOn_21 : decode cX11_goOn 21 = .ok (.aload_n 0, 1) := by decide +kernel
theorem dX11_goOn_22 : decode cX11_goOn 22 = .ok (.getfield 57, 3) := by decide +kernel
theorem dX11_goOn_25 : decode cX11_goOn 25 = .ok (.iload_n 1, 1) := by decide +kernel
theorem dX11_goOn_26 : decode cX11_goOn 26 = .ok (.aload_n 0, 1) := by decide +kernel
theorem dX11_goOn_27 : decode cX11_goOn 27 = .ok (.getfield 34, 3) := by decide +kernel
theorem dX11_goOn_30 : decode cX11_goOn 30 = .ok (.invokevirtual 242, 3) := by decide +kernel
theorem dX11_goOn_33 : decode cX11_goOn 33 = .ok (.istore_n 2, 1) := by decide +kernel
theorem dX11_goOn_34 : decode cX11_goOn 34 = .ok (.aload_n 0, 1) := by decide +kernel
theorem dX11_goOn_35 : decode cX11_goOn 35 = .ok (.aload_n 0, 1) := by decide +kernel
theorem dX11_goOn_36 : decode cX11_goOn 36 = .ok (.getfield 57, 3) := by decide +kernel
theorem dX11_goOn_39 : decode cX11_goOn 39 = .ok (.getfield 246, 3) := by decide +kernel
theorem dX11_goOn_42 : decode cX11_goOn 42 = .ok (.putfield 249, 3) := by decide +kernel
theorem dX11_goOn_45 : decode cX11_goOn 45 = .ok (.iload_n 2, 1) := by decide +kernel
theorem dX11_goOn_46 : decode cX11_goOn 46 = .ok (.iconst 2, 1) := by decide +kernel
theorem dX11_goOn_47 : decode cX11_goOn 47 = .ok (.if_icmp .eq 7, 3) := by decide +kernel
theorem dX11_goOn_50 : decode cX11_goOn 50 = .ok (.aload_n 0, 1) := by decide +kernel
theorem dX11_goOn_51 : decode cX11_goOn 51 = .ok (.invokevirtual 252, 3) := by decide +kernel
theorem dX11_goOn_54 : decode cX11_goOn 54 = .ok (.aload_n 0, 1) := by decide +kernel
theorem dX11_goOn_55 : decode cX11_goOn 55 = .ok (.iload_n 2, 1) := by decide +kernel
theorem dX11_goOn_56 : decode cX11_goOn 56 = .ok (.invokevirtual 239, 3) := by decide +kernel
theorem dX11_goOn_59 : decode cX11_goOn 59 = .ok (.ireturn, 1) := by decide +kernel
theorem dX11_replace_0 : decode cX11_replace 0 = .ok (.aload_n 0, 1) := by decide +kernel
theorem dX11_replace_1 : decode cX11_replace 1 = .ok (.iload_n 1, 1) := by decide +kernel
theorem dX11_replace_2 : decode cX11_replace 2 = .ok (.invokevirtual 128, 3) := by decide +kernel
theorem dX11_replace_5 : decode cX11_replace 5 = .ok (.astore 4, 2) := by decide +kernel
theorem dX11_replace_7 : decode cX11_replace 7 = .ok (.aload 4, 2) := by decide +kernel
theorem dX11_replace_9 : decode cX11_replace 9 = .ok (.ifnonnull 6, 3) := by decide +kernel
theorem dX11_replace_12 : decode cX11_replace 12 = .ok (.bipush (-2), 2) := by decide +kernel
theorem dX11_replace_14 : decode cX11_replace 14 = .ok (.ireturn, 1) := by decide +kernel
theorem dX11_replace_15 : decode cX11_replace 15 = .ok (.aload_n 0, 1) := by decide +kernel
theorem dX11_replace_16 : decode cX11_replace 16 = .ok (.iload_n 2, 1) := by decide +kernel
theorem dX11_replace_17 : decode cX11_replace 17 = .ok (.invokevirtual 209, 3) := by decide +kernel
theorem dX11_replace_20 : decode cX11_replace 20 = .ok (.astore 5, 2) := by decide +kernel
theorem dX11_replace_22 : decode cX11_replace 22 = .ok (.aload 5, 2) := by decide +kernel
theorem dX11_replace_24 : decode cX11_replace 24 = .ok (.ifnonnull 9, 3) := by decide +kernel
theorem dX11_replace_27 : decode cX11_replace 27 = .ok (.aload_n 0, 1) := by decide +kernel
theorem dX11_replace_28 : decode cX11_replace 28 = .ok (.iload_n 2, 1) := by decide +kernel
theorem dX11_replace_29 : decode cX11_replace 29 = .ok (.invokevirtual 213, 3) := by decide +kernel
theorem dX11_replace_32 : decode cX11_replace 32 = .ok (.ireturn, 1) := by decide +kernel
theorem dX11_replace_33 : decode cX11_replace 33 = .ok (.iload_n 3, 1) := by decide +kernel
theorem dX11_replace_34 : decode cX11_replace 34 = .ok (.invokestatic 225, 3) := by decide +kernel
theorem dX11_replace_37 : decode cX11_replace 37 = .ok (.ifCond .ne 6, 3) := by decide +kernel
theorem dX11_replace_40 : decode cX11_replace 40 = .ok (.bipush (-4), 2) := by decide +kernel
theorem dX11_replace_42 : decode cX11_replace 42 = .ok (.ireturn, 1) := by decide +kernel
theorem dX11_replace_43 : decode cX11_replace 43 = .ok (.aload_n 0, 1) := by decide +kernel
theorem dX11_replace_44 : decode cX11_replace 44 = .ok (.aload 4, 2) := by decide +kernel
theorem dX11_replace_46 : decode cX11_replace 46 = .ok (.invokevirtual 269, 3) := by decide +kernel
theorem dX11_replace_49 : decode cX11_replace 49 = .ok (.ifCond .ne 6, 3) := by decide +kernel
theorem dX11_replace_52 : decode cX11_replace 52 = .ok (.bipush (-5), 2) := by decide +kernel
theorem dX11_replace_54 : decode cX11_replace 54 = .ok (.ireturn, 1) := by decide +kernel
theorem dX11_replace_55 : decode cX11_replace 55 = .ok (.aload 4, 2) := by decide +kernel
theorem dX11_replace_57 : decode cX11_replace 57 = .ok (.iload_n 3, 1) := by decide +kernel
theorem dX11_replace_58 : decode cX11_replace 58 = .ok (.invokestatic 231, 3) := by decide +kernel
theorem dX11_replace_61 : decode cX11_replace 61 = .ok (.istore 6, 2) := by decide +kernel
theorem dX11_replace_63 : decode cX11_replace 63 = .ok (.iload 6, 2) := by decide +kernel
theorem dX11_replace_65 : decode cX11_replace 65 = .ok (.ifCond .eq 6, 3) := by decide +kernel
theorem dX11_replace_68 : decode cX11_replace 68 = .ok (.iload 6, 2) := by decide +kernel
theorem dX11_replace_70 : decode cX11_replace 70 = .ok (.ireturn, 1) := by decide +kernel
theorem dX11_replace_71 : decode cX11_replace 71 = .ok (.aload_n 0, 1) := by decide +kernel
theorem dX11_replace_72 : decode cX11_replace 72 = .ok (.aload 4, 2) := by decide +kernel
theorem dX11_replace_74 : decode cX11_replace 74 = .ok (.aload 5, 2) := by decide +kernel
theorem dX11_replace_76 : decode cX11_replace 76 = .ok (.iload_n 3, 1) := by decide +kernel
theorem dX11_replace_77 : decode cX11_replace 77 = .ok (.iconst 1, 1) := by decide +kernel
theorem dX11_replace_78 : decode cX11_replace 78 = .ok (.invokevirtual 265, 3) := by decide +kernel
theorem dX11_replace_81 : decode cX11_replace 81 = .ok (.bipush (-8), 2) := by decide +kernel
theorem dX11_replace_83 : decode cX11_replace 83 = .ok (.if_icmp .ne 6, 3) := by decide +kernel
theorem dX11_replace_86 : decode cX11_replace 86 = .ok (.bipush (-8), 2) := by decide +kernel
theorem dX11_replace_88 : decode cX11_replace 88 = .ok (.ireturn, 1) := by decide +kernel
theorem dX11_replace_89 : decode cX11_replace 89 = .ok (.aload_n 0, 1) := by decide +kernel
theorem dX11_replace_90 : decode cX11_replace 90 = .ok (.getfield 31, 3) := by decide +kernel
theorem dX11_replace_93 : decode cX11_replace 93 = .ok (.getfield 171, 3) := by decide +kernel
theorem dX11_replace_96 : decode cX11_replace 96 = .ok (.ifCond .eq 11, 3) := by decide +kernel
theorem dX11_replace_99 : decode cX11_replace 99 = .ok (.aload_n 0, 1) := by decide +kernel
theorem dX11_replace_100 : decode cX11_replace 100 = .ok (.iconst 4, 1) := by decide +kernel
theorem dX11_replace_101 : decode cX11_replace 101 = .ok (.putfield 146, 3) := by decide +kernel
theorem dX11_replace_104 : decode cX11_replace 104 = .ok (.bipush (-9), 2) := by decide +kernel
theorem dX11_replace_106 : decode cX11_replace 106 = .ok (.ireturn, 1) := by decide +kernel
theorem dX11_replace_107 : decode cX11_replace 107 = .ok (.aload_n 0, 1) := by decide +kernel
theorem dX11_replace_108 : decode cX11_replace 108 = .ok (.getfield 14, 3) := by decide +kernel
theorem dX11_replace_111 : decode cX11_replace 111 = .ok (.invokevirtual 109, 3) := by decide +kernel
theorem dX11_replace_114 : decode cX11_replace 114 = .ok (.aload_n 0, 1) := by decide +kernel
theorem dX11_replace_115 : decode cX11_replace 115 = .ok (.iconst 0, 1) := by decide +kernel
theorem dX11_replace_116 : decode cX11_replace 116 = .ok (.invokevirtual 174, 3) := by decide +kernel
theorem dX11_replace_119 : decode cX11_replace 119 = .ok (.aload_n 0, 1) := by decide +kernel
theorem dX11_replace_120 : decode cX11_replace 120 = .ok (.getfield 28, 3) := by decide +kernel
theorem dX11_replace_123 : decode cX11_replace 123 = .ok (.getfield 96, 3) := by decide +kernel
theorem dX11_replace_126 : decode cX11_replace 126 = .ok (.ireturn, 1) := by decide +kernel
theorem dX11_search_0 : decode cX11_search 0 = .ok (.aload_n 0, 1) := by decide +kernel
theorem dX11_search_1 : decode cX11_search 1 = .ok (.invokevirtual 252, 3) := by decide +kernel
theorem dX11_search_4 : decode cX11_search 4 = .ok (.aload_n 0, 1) := by decide +kernel
theorem dX11_search_5 : decode cX11_search 5 = .ok (.iconst 0, 1) := by decide +kernel
theorem dX11_search_6 : decode cX11_search 6 = .ok (.putfield 249, 3) := by decide +kernel
theorem dX11_search_9 : decode cX11_search 9 = .ok (.iload 4, 2) := by decide +kernel
theorem dX11_search_11 : decode cX11_search 11 = .ok (.ifCond .eq 28, 3) := by decide +kernel
theorem dX11_search_14 : decode cX11_search 14 = .ok (.aload_n 0, 1) := by decide +kernel
theorem dX11_search_15 : decode cX11_search 15 = .ok (.getfield 64, 3) := by decide +kernel
theorem dX11_search_18 : decode cX11_search 18 = .ok (.aload_n 1, 1) := by decide +kernel
theorem dX11_search_19 : decode cX11_search 19 = .ok (.aload_n 2, 1) := by decide +kernel
theorem dX11_search_20 : decode cX11_search 20 = .ok (.iload_n 3, 1) := by decide +kernel
theorem dX11_search_21 : decode cX11_search 21 = .ok (.iload 6, 2) := by decide +kernel
theorem dX11_search_23 : decode cX11_search 23 = .ok (.aload_n 0, 1) := by decide +kernel
theorem dX11_search_24 : decode cX11_search 24 = .ok (.getfield 34, 3) := by decide +kernel
theorem dX11_search_27 : decode cX11_search 27 = .ok (.invokevirtual 335, 3) := by decide +kernel
theorem dX11_search_30 : decode cX11_search 30 = .ok (.ifCond .eq 7, 3) := by decide +kernel
theorem dX11_search_33 : decode cX11_search 33 = .ok (.iconst 1, 1) := by decide +kernel
theorem dX11_search_34 : decode cX11_search 34 = .ok (.goto 4, 3) := by decide +kernel
theorem dX11_search_37 : decode cX11_search 37 = .ok (.iconst 0, 1) := by decide +kernel
theorem dX11_search_38 : decode cX11_search 38 = .ok (.ireturn, 1) := by decide +kernel
theorem dX11_search_39 : decode cX11_search 39 = .ok (.aload_n 0, 1) := by decide +kernel
theorem dX11_search_40 : decode cX11_search 40 = .ok (.getfield 57, 3) := by decide +kernel
theorem dX11_search_43 : decode cX11_search 43 = .ok (.aload_n 1, 1) := by decide +kernel
theorem dX11_search_44 : decode cX11_search 44 = .ok (.aload_n 2, 1) := by decide +kernel
theorem dX11_search_45 : decode cX11_search 45 = .ok (.iload_n 3, 1) := by decide +kernel
theorem dX11_search_46 : decode cX11_search 46 = .ok (.iload 6, 2) := by decide +kernel
theorem dX11_search_48 : decode cX11_search 48 = .ok (.invokevirtual 339, 3) := by decide +kernel
theorem dX11_search_51 : decode cX11_search 51 = .ok (.aload_n 0, 1) := by decide +kernel
theorem dX11_search_52 : decode cX11_search 52 = .ok (.getfield 57, 3) := by decide +kernel
theorem dX11_search_55 : decode cX11_search 55 = .ok (.iload 5, 2) := by decide +kernel
theorem dX11_search_57 : decode cX11_search 57 = .ok (.aload_n 0, 1) := by decide +kernel
theorem dX11_search_58 : decode cX11_search 58 = .ok (.getfield 34, 3) := by decide +kernel
theorem dX11_search_61 : decode cX11_search 61 = .ok (.invokevirtual 242, 3) := by decide +kernel
theorem dX11_search_64 : decode cX11_search 64 = .ok (.istore 7, 2) := by decide +kernel
theorem dX11_search_66 : decode cX11_search 66 = .ok (.aload_n 0, 1) := by decide +kernel
theorem dX11_search_67 : decode cX11_search 67 = .ok (.aload_n 0, 1) := by decide +kernel
theorem dX11_search_68 : decode cX11_search 68 = .ok (.getfield 57, 3) := by decide +kernel
theorem dX11_search_71 : decode cX11_search 71 = .ok (.getfield 246, 3) := by decide +kernel
theorem dX11_search_74 : decode cX11_search 74 = .ok (.putfield 249, 3) := by decide +kernel
theorem dX11_search_77 : decode cX11_search 77 = .ok (.iload 7, 2) := by decide +kernel
theorem dX11_search_79 : decode cX11_search 79 = .ok (.ireturn, 1) := by decide +kernel
theorem dX11_searchSlots_0 : decode cX11_searchSlots 0 = .ok (.iconst (-1), 1) := by decide +kernel
theorem dX11_searchSlots_1 : decode cX11_searchSlots 1 = .ok (.istore 5, 2) := by decide +kernel
theorem dX11_searchSlots_3 : decode cX11_searchSlots 3 = .ok (.aload_n 2, 1) := by decide +kernel
theorem dX11_searchSlots_4 : decode cX11_searchSlots 4 = .ok (.getfield 96, 3) := by decide +kernel
theorem dX11_searchSlots_7 : decode cX11_searchSlots 7 = .ok (.iconst 1, 1) := by decide +kernel
theorem dX11_searchSlots_8 : decode cX11_searchSlots 8 = .ok (.iadd, 1) := by decide +kernel
theorem dX11_searchSlots_9 : decode cX11_searchSlots 9 = .ok (.istore 6, 2) := by decide +kernel
theorem dX11_searchSlots_11 : decode cX11_searchSlots 11 = .ok (.iconst 0, 1) := by decide +kernel
theorem dX11_searchSlots_12 : decode cX11_searchSlots 12 = .ok (.istore 7, 2) := by decide +kernel
theorem dX11_searchSlots_14 : decode cX11_searchSlots 14 = .ok (.iload 7, 2) := by decide +kernel
theorem dX11_searchSlots_16 : decode cX11_searchSlots 16 = .ok (.aload_n 0, 1) := by decide +kernel
theorem dX11_searchSlots_17 : decode cX11_searchSlots 17 = .ok (.getfield 20, 3) := by decide +kernel
theorem dX11_searchSlots_20 : decode cX11_searchSlots 20 = .ok (.arraylength, 1) := by decide +kernel
theorem dX11_searchSlots_21 : decode cX11_searchSlots 21 = .ok (.if_icmp .ge 85, 3) := by decide +kernel
theorem dX11_searchSlots_24 : decode cX11_searchSlots 24 = .ok (.iload_n 1, 1) := by decide +kernel
theorem dX11_searchSlots_25 : decode cX11_searchSlots 25 = .ok (.iload 7, 2) := by decide +kernel
theorem dX11_searchSlots_27 : decode cX11_searchSlots 27 = .ok (.invokestatic 361, 3) := by decide +kernel
theorem dX11_searchSlots_30 : decode cX11_searchSlots 30 = .ok (.ifCond .ne 6, 3) := by decide +kernel
theorem dX11_searchSlots_33 : decode cX11_searchSlots 33 = .ok (.goto 67, 3) := by decide +kernel
theorem dX11_searchSlots_36 : decode cX11_searchSlots 36 = .ok (.aload_n 0, 1) := by decide +kernel
theorem dX11_searchSlots_37 : decode cX11_searchSlots 37 = .ok (.aload_n 0, 1) := by decide +kernel
theorem dX11_searchSlots_38 : decode cX11_searchSlots 38 = .ok (.getfield 20, 3) := by decide +kernel
theorem dX11_searchSlots_41 : decode cX11_searchSlots 41 = .ok (.iload 7, 2) := by decide +kernel
theorem dX11_searchSlots_43 : decode cX11_searchSlots 43 = .ok (.aaload, 1) := by decide +kernel
theorem dX11_searchSlots_44 : decode cX11_searchSlots 44 = .ok (.aload_n 2, 1) := by decide +kernel
theorem dX11_searchSlots_45 : decode cX11_searchSlots 45 = .ok (.iload_n 3, 1) := by decide +kernel
theorem dX11_searchSlots_46 : decode cX11_searchSlots 46 = .ok (.iload 4, 2) := by decide +kernel
theorem dX11_searchSlots_48 : decode cX11_searchSlots 48 = .ok (.sipush 3000, 3) := by decide +kernel
theorem dX11_searchSlots_51 : decode cX11_searchSlots 51 = .ok (.iconst 0, 1) := by decide +kernel
theorem dX11_searchSlots_52 : decode cX11_searchSlots 52 = .ok (.invokevirtual 235, 3) := by decide +kernel
theorem dX11_searchSlots_55 : decode cX11_searchSlots 55 = .ok (.istore 8, 2) := by decide +kernel
theorem dX11_searchSlots_57 : decode cX11_searchSlots 57 = .ok (.iload 8, 2) := by decide +kernel
theorem dX11_searchSlots_59 : decode cX11_searchSlots 59 = .ok (.bipush (-8), 2) := by decide +kernel
theorem dX11_searchSlots_61 : decode cX11_searchSlots 61 = .ok (.if_icmp .ne 6, 3) := by decide +kernel
theorem dX11_searchSlots_64 : decode cX11_searchSlots 64 = .ok (.bipush (-8), 2) := by decide +kernel
theorem dX11_searchSlots_66 : decode cX11_searchSlots 66 = .ok (.ireturn, 1) := by decide +kernel
theorem dX11_searchSlots_67 : decode cX11_searchSlots 67 = .ok (.iload 8, 2) := by decide +kernel
theorem dX11_searchSlots_69 : decode cX11_searchSlots 69 = .ok (.iconst 1, 1) := by decide +kernel
theorem dX11_searchSlots_70 : decode cX11_searchSlots 70 = .ok (.if_icmp .ne 30, 3) := by decide +kernel
theorem dX11_searchSlots_73 : decode cX11_searchSlots 73 = .ok (.aload_n 0, 1) := by decide +kernel
theorem dX11_searchSlots_74 : decode cX11_searchSlots 74 = .ok (.getfield 34, 3) := by decide +kernel
theorem dX11_searchSlots_77 : decode cX11_searchSlots 77 = .ok (.iconst 0, 1) := by decide +kernel
theorem dX11_searchSlots_78 : decode cX11_searchSlots 78 = .ok (.invokevirtual 222, 3) := by decide +kernel
theorem dX11_searchSlots_81 : decode cX11_searchSlots 81 = .ok (.iload 6, 2) := by decide +kernel
theorem dX11_searchSlots_83 : decode cX11_searchSlots 83 = .ok (.if_icmp .ge 17, 3) := by decide +kernel
theorem dX11_searchSlots_86 : decode cX11_searchSlots 86 = .ok (.iload 7, 2) := by decide +kernel
theorem dX11_searchSlots_88 : decode cX11_searchSlots 88 = .ok (.istore 5, 2) := by decide +kernel
theorem dX11_searchSlots_90 : decode cX11_searchSlots 90 = .ok (.aload_n 0, 1) := by decide +kernel
theorem dX11_searchSlots_91 : decode cX11_searchSlots 91 = .ok (.getfield 34, 3) := by decide +kernel
theorem dX11_searchSlots_94 : decode cX11_searchSlots 94 = .ok (.iconst 0, 1) := by decide +kernel
theorem dX11_searchSlots_95 : decode cX11_searchSlots 95 = .ok (.invokevirtual 222, 3) := by decide +kernel
theorem dX11_searchSlots_98 : decode cX11_searchSlots 98 = .ok (.istore 6, 2) := by decide +kernel
theorem dX11_searchSlots_100 : decode cX11_searchSlots 100 = .ok (.iinc 7 1, 3) := by decide +kernel
theorem dX11_searchSlots_103 : decode cX11_searchSlots 103 = .ok (.goto (-89), 3) := by decide +kernel
theorem dX11_searchSlots_106 : decode cX11_searchSlots 106 = .ok (.iload 5, 2) := by decide +kernel
theorem dX11_searchSlots_108 : decode cX11_searchSlots 108 = .ok (.ireturn, 1) := by decide +kernel
theorem dX11_whole_0 : decode cX11_whole 0 = .ok (.aload_n 0, 1) := by decide +kernel
theorem dX11_whole_1 : decode cX11_whole 1 = .ok (.iload_n 1, 1) := by decide +kernel
theorem dX11_whole_2 : decode cX11_whole 2 = .ok (.invokevirtual 128, 3) := by decide +kernel
theorem dX11_whole_5 : decode cX11_whole 5 = .ok (.astore 4, 2) := by decide +kernel
theorem dX11_whole_7 : decode cX11_whole 7 = .ok (.aload 4, 2) := by decide +kernel
theorem dX11_whole_9 : decode cX11_whole 9 = .ok (.ifnonnull 6, 3) := by decide +kernel
theorem dX11_whole_12 : decode cX11_whole 12 = .ok (.bipush (-2), 2) := by decide +kernel
theorem dX11_whole_14 : decode cX11_whole 14 = .ok (.ireturn, 1) := by decide +kernel
theorem dX11_whole_15 : decode cX11_whole 15 = .ok (.aload_n 0, 1) := by decide +kernel
theorem dX11_whole_16 : decode cX11_whole 16 = .ok (.iload_n 2, 1) := by decide +kernel
theorem dX11_whole_17 : decode cX11_whole 17 = .ok (.invokevirtual 209, 3) := by decide +kernel
theorem dX11_whole_20 : decode cX11_whole 20 = .ok (.astore 5, 2) := by decide +kernel
theorem dX11_whole_22 : decode cX11_whole 22 = .ok (.aload 5, 2) := by decide +kernel
theorem dX11_whole_24 : decode cX11_whole 24 = .ok (.ifnonnull 9, 3) := by decide +kernel
theorem dX11_whole_27 : decode cX11_whole 27 = .ok (.aload_n 0, 1) := by decide +kernel
theorem dX11_whole_28 : decode cX11_whole 28 = .ok (.iload_n 2, 1) := by decide +kernel
theorem dX11_whole_29 : decode cX11_whole 29 = .ok (.invokevirtual 213, 3) := by decide +kernel
theorem dX11_whole_32 : decode cX11_whole 32 = .ok (.ireturn, 1) := by decide +kernel
theorem dX11_whole_33 : decode cX11_whole 33 = .ok (.iload_n 3, 1) := by decide +kernel
theorem dX11_whole_34 : decode cX11_whole 34 = .ok (.invokestatic 225, 3) := by decide +kernel
theorem dX11_whole_37 : decode cX11_whole 37 = .ok (.ifCond .ne 6, 3) := by decide +kernel
theorem dX11_whole_40 : decode cX11_whole 40 = .ok (.bipush (-4), 2) := by decide +kernel
theorem dX11_whole_42 : decode cX11_whole 42 = .ok (.ireturn, 1) := by decide +kernel
theorem dX11_whole_43 : decode cX11_whole 43 = .ok (.aload 4, 2) := by decide +kernel
theorem dX11_whole_45 : decode cX11_whole 45 = .ok (.iload_n 3, 1) := by decide +kernel
theorem dX11_whole_46 : decode cX11_whole 46 = .ok (.invokestatic 231, 3) := by decide +kernel
theorem dX11_whole_49 : decode cX11_whole 49 = .ok (.istore 6, 2) := by decide +kernel
theorem dX11_whole_51 : decode cX11_whole 51 = .ok (.iload 6, 2) := by decide +kernel
theorem dX11_whole_53 : decode cX11_whole 53 = .ok (.ifCond .eq 8, 3) := by decide +kernel
theorem dX11_whole_56 : decode cX11_whole 56 = .ok (.iload 6, 2) := by decide +kernel
theorem dX11_whole_58 : decode cX11_whole 58 = .ok (.goto 21, 3) := by decide +kernel
theorem dX11_whole_61 : decode cX11_whole 61 = .ok (.aload_n 0, 1) := by decide +kernel
theorem dX11_whole_62 : decode cX11_whole 62 = .ok (.aload_n 0, 1) := by decide +kernel
theorem dX11_whole_63 : decode cX11_whole 63 = .ok (.aload 4, 2) := by decide +kernel
theorem dX11_whole_65 : decode cX11_whole 65 = .ok (.aload 5, 2) := by decide +kernel
theorem dX11_whole_67 : decode cX11_whole 67 = .ok (.iconst 0, 1) := by decide +kernel
theorem dX11_whole_68 : decode cX11_whole 68 = .ok (.iload_n 3, 1) := by decide +kernel
theorem dX11_whole_69 : decode cX11_whole 69 = .ok (.sipush 3000, 3) := by decide +kernel
theorem dX11_whole_72 : decode cX11_whole 72 = .ok (.iconst 1, 1) := by decide +kernel
theorem dX11_whole_73 : decode cX11_whole 73 = .ok (.invokevirtual 235, 3) := by decide +kernel
theorem dX11_whole_76 : decode cX11_whole 76 = .ok (.invokevirtual 239, 3) := by decide +kernel
theorem dX11_whole_79 : decode cX11_whole 79 = .ok (.ireturn, 1) := by decide +kernel
theorem dX1_comeToLoop_0 : decode cX1_comeToLoop 0 = .ok (.aload_n 0, 1) := by decide +kernel
theorem dX1_comeToLoop_1 : decode cX1_comeToLoop 1 = .ok (.aload_n 0, 1) := by decide +kernel
theorem dX1_comeToLoop_2 : decode cX1_comeToLoop 2 = .ok (.getfield 68, 3) := by decide +kernel
theorem dX1_comeToLoop_5 : decode cX1_comeToLoop 5 = .ok (.invokevirtual 204, 3) := by decide +kernel
theorem dX1_comeToLoop_8 : decode cX1_comeToLoop 8 = .ok (.sipush 128, 3) := by decide +kernel
theorem dX1_comeToLoop_11 : decode cX1_comeToLoop 11 = .ok (.idiv, 1) := by decide +kernel
theorem dX1_comeToLoop_12 : decode cX1_comeToLoop 12 = .ok (.istore_n 1, 1) := by decide +kernel
theorem dX1_comeToLoop_13 : decode cX1_comeToLoop 13 = .ok (.aload_n 0, 1) := by decide +kernel
theorem dX1_comeToLoop_14 : decode cX1_comeToLoop 14 = .ok (.getfield 14, 3) := by decide +kernel
theorem dX1_comeToLoop_17 : decode cX1_comeToLoop 17 = .ok (.aload_n 0, 1) := by decide +kernel
theorem dX1_comeToLoop_18 : decode cX1_comeToLoop 18 = .ok (.getfield 68, 3) := by decide +kernel
theorem dX1_comeToLoop_21 : decode cX1_comeToLoop 21 = .ok (.invokevirtual 207, 3) := by decide +kernel
theorem dX1_comeToLoop_24 : decode cX1_comeToLoop 24 = .ok (.iconst (-1), 1) := by decide +kernel
theorem dX1_comeToLoop_25 : decode cX1_comeToLoop 25 = .ok (.if_icmp .eq 18, 3) := by decide +kernel
theorem dX1_comeToLoop_28 : decode cX1_comeToLoop 28 = .ok (.iload_n 1, 1) := by decide +kernel
theorem dX1_comeToLoop_29 : decode cX1_comeToLoop 29 = .ok (.aload_n 0, 1) := by decide +kernel
theorem dX1_comeToLoop_30 : decode cX1_comeToLoop 30 = .ok (.getfield 14, 3) := by decide +kernel
theorem dX1_comeToLoop_33 : decode cX1_comeToLoop 33 = .ok (.aload_n 0, 1) := by decide +kernel
theorem dX1_comeToLoop_34 : decode cX1_comeToLoop 34 = .ok (.getfield 68, 3) := by decide +kernel
theorem dX1_comeToLoop_37 : decode cX1_comeToLoop 37 = .ok (.invokevirtual 207, 3) := by decide +kernel
theorem dX1_comeToLoop_40 : decode cX1_comeToLoop 40 = .ok (.if_icmp .ge 7, 3) := by decide +kernel
theorem dX1_comeToLoop_43 : decode cX1_comeToLoop 43 = .ok (.iconst 1, 1) := by decide +kernel
theorem dX1_comeToLoop_44 : decode cX1_comeToLoop 44 = .ok (.goto 4, 3) := by decide +kernel
theorem dX1_comeToLoop_47 : decode cX1_comeToLoop 47 = .ok (.iconst 0, 1) := by decide +kernel
theorem dX1_comeToLoop_48 : decode cX1_comeToLoop 48 = .ok (.istore_n 2, 1) := by decide +kernel
theorem dX1_comeToLoop_49 : decode cX1_comeToLoop 49 = .ok (.iload_n 1, 1) := by decide +kernel
theorem dX1_comeToLoop_50 : decode cX1_comeToLoop 50 = .ok (.aload_n 0, 1) := by decide +kernel
theorem dX1_comeToLoop_51 : decode cX1_comeToLoop 51 = .ok (.getfield 14, 3) := by decide +kernel
theorem dX1_comeToLoop_54 : decode cX1_comeToLoop 54 = .ok (.aload_n 0, 1) := by decide +kernel
theorem dX1_comeToLoop_55 : decode cX1_comeToLoop 55 = .ok (.getfield 68, 3) := by decide +kernel
theorem dX1_comeToLoop_58 : decode cX1_comeToLoop 58 = .ok (.invokevirtual 210, 3) := by decide +kernel
theorem dX1_comeToLoop_61 : decode cX1_comeToLoop 61 = .ok (.if_icmp .ge 11, 3) := by decide +kernel
theorem dX1_comeToLoop_64 : decode cX1_comeToLoop 64 = .ok (.aload_n 0, 1) := by decide +kernel
theorem dX1_comeToLoop_65 : decode cX1_comeToLoop 65 = .ok (.iconst 4, 1) := by decide +kernel
theorem dX1_comeToLoop_66 : decode cX1_comeToLoop 66 = .ok (.putfield 71, 3) := by decide +kernel
theorem dX1_comeToLoop_69 : decode cX1_comeToLoop 69 = .ok (.goto 59, 3) := by decide +kernel
theorem dX1_comeToLoop_72 : decode cX1_comeToLoop 72 = .ok (.iload_n 2, 1) := by decide +kernel
theorem dX1_comeToLoop_73 : decode cX1_comeToLoop 73 = .ok (.ifCond .ne 10, 3) := by decide +kernel
theorem dX1_comeToLoop_76 : decode cX1_comeToLoop 76 = .ok (.aload_n 0, 1) := by decide +kernel
theorem dX1_comeToLoop_77 : decode cX1_comeToLoop 77 = .ok (.invokevirtual 213, 3) := by decide +kernel
theorem dX1_comeToLoop_80 : decode cX1_comeToLoop 80 = .ok (.goto 48, 3) := by decide +kernel
theorem dX1_comeToLoop_83 : decode cX1_comeToLoop 83 = .ok (.aload_n 0, 1) := by decide +kernel
theorem dX1_comeToLoop_84 : decode cX1_comeToLoop 84 = .ok (.getfield 14, 3) := by decide +kernel
theorem dX1_comeToLoop_87 : decode cX1_comeToLoop 87 = .ok (.aload_n 0, 1) := by decide +kernel
theorem dX1_comeToLoop_88 : decode cX1_comeToLoop 88 = .ok (.getfield 68, 3) := by decide +kernel
theorem dX1_comeToLoop_91 : decode cX1_comeToLoop 91 = .ok (.invokevirtual 181, 3) := by decide +kernel
theorem dX1_comeToLoop_94 : decode cX1_comeToLoop 94 = .ok (.iconst 1, 1) := by decide +kernel
theorem dX1_comeToLoop_95 : decode cX1_comeToLoop 95 = .ok (.if_icmp .ne 19, 3) := by decide +kernel
theorem dX1_comeToLoop_98 : decode cX1_comeToLoop 98 = .ok (.aload_n 0, 1) := by decide +kernel
theorem dX1_comeToLoop_99 : decode cX1_comeToLoop 99 = .ok (.iconst 2, 1) := by decide +kernel
theorem dX1_comeToLoop_100 : decode cX1_comeToLoop 100 = .ok (.aload_n 0, 1) := by decide +kernel
theorem dX1_comeToLoop_101 : decode cX1_comeToLoop 101 = .ok (.getfield 68, 3) := by decide +kernel
theorem dX1_comeToLoop_104 : decode cX1_comeToLoop 104 = .ok (.invokevirtual 198, 3) := by decide +kernel
theorem dX1_comeToLoop_107 : decode cX1_comeToLoop 107 = .ok (.aload_n 0, 1) := by decide +kernel
theorem dX1_comeToLoop_108 : decode cX1_comeToLoop 108 = .ok (.invokevirtual 213, 3) := by decide +kernel
theorem dX1_comeToLoop_111 : decode cX1_comeToLoop 111 = .ok (.goto 17, 3) := by decide +kernel
theorem dX1_comeToLoop_114 : decode cX1_comeToLoop 114 = .ok (.aload_n 0, 1) := by decide +kernel
theorem dX1_comeToLoop_115 : decode cX1_comeToLoop 115 = .ok (.iconst 1, 1) := by decide +kernel
theorem dX1_comeToLoop_116 : decode cX1_comeToLoop 116 = .ok (.aload_n 0, 1) := by decide +kernel
theorem dX1_comeToLoop_117 : decode cX1_comeToLoop 117 = .ok (.getfield 68, 3) := by decide +kernel
theorem dX1_comeToLoop_120 : decode cX1_comeToLoop 120 = .ok (.invokevirtual 198, 3) := by decide +kernel
theorem dX1_comeToLoop_123 : decode cX1_comeToLoop 123 = .ok (.aload_n 0, 1) := by decide +kernel
theorem dX1_comeToLoop_124 : decode cX1_comeToLoop 124 = .ok (.iconst 4, 1) := by decide +kernel
theorem dX1_comeToLoop_125 : decode cX1_comeToLoop 125 = .ok (.putfield 71, 3) := by decide +kernel
theorem dX1_comeToLoop_128 : decode cX1_comeToLoop 128 = .ok (.return_, 1) := by decide +kernel
theorem dX1_enter_0 : decode cX1_enter 0 = .ok (.aload_n 0, 1) := by decide +kernel
theorem dX1_enter_1 : decode cX1_enter 1 = .ok (.getfield 14, 3) := by decide +kernel
theorem dX1_enter_4 : decode cX1_enter 4 = .ok (.aload_n 0, 1) := by decide +kernel
theorem dX1_enter_5 : decode cX1_enter 5 = .ok (.getfield 68, 3) := by decide +kernel
theorem dX1_enter_8 : decode cX1_enter 8 = .ok (.invokevirtual 137, 3) := by decide +kernel
theorem dX1_enter_11 : decode cX1_enter 11 = .ok (.tableswitch 164 0 10 #[57, 57, 57, 71, 85, 164, 99, 124, 145, 131, 131], 57) := by decide +kernel
theorem dX1_enter_68 : decode cX1_enter 68 = .ok (.aload_n 0, 1) := by decide +kernel
theorem dX1_enter_69 : decode cX1_enter 69 = .ok (.invokevirtual 140, 3) := by decide +kernel
theorem dX1_enter_72 : decode cX1_enter 72 = .ok (.ifCond .eq 107, 3) := by decide +kernel
theorem dX1_enter_75 : decode cX1_enter 75 = .ok (.aload_n 0, 1) := by decide +kernel
theorem dX1_enter_76 : decode cX1_enter 76 = .ok (.invokevirtual 144, 3) := by decide +kernel
theorem dX1_enter_79 : decode cX1_enter 79 = .ok (.goto 100, 3) := by decide +kernel
theorem dX1_enter_82 : decode cX1_enter 82 = .ok (.aload_n 0, 1) := by decide +kernel
theorem dX1_enter_83 : decode cX1_enter 83 = .ok (.invokevirtual 140, 3) := by decide +kernel
theorem dX1_enter_86 : decode cX1_enter 86 = .ok (.ifCond .eq 93, 3) := by decide +kernel
theorem dX1_enter_89 : decode cX1_enter 89 = .ok (.aload_n 0, 1) := by decide +kernel
theorem dX1_enter_90 : decode cX1_enter 90 = .ok (.invokevirtual 147, 3) := by decide +kernel
theorem dX1_enter_93 : decode cX1_enter 93 = .ok (.goto 86, 3) := by decide +kernel
theorem dX1_enter_96 : decode cX1_enter 96 = .ok (.aload_n 0, 1) := by decide +kernel
theorem dX1_enter_97 : decode cX1_enter 97 = .ok (.invokevirtual 140, 3) := by decide +kernel
theorem dX1_enter_100 : decode cX1_enter 100 = .ok (.ifCond .eq 79, 3) := by decide +kernel
theorem dX1_enter_103 : decode cX1_enter 103 = .ok (.aload_n 0, 1) := by decide +kernel
theorem dX1_enter_104 : decode cX1_enter 104 = .ok (.invokevirtual 150, 3) := by decide +kernel
theorem dX1_enter_107 : decode cX1_enter 107 = .ok (.goto 72, 3) := by decide +kernel
theorem dX1_enter_110 : decode cX1_enter 110 = .ok (.aload_n 0, 1) := by decide +kernel
theorem dX1_enter_111 : decode cX1_enter 111 = .ok (.invokevirtual 140, 3) := by decide +kernel
theorem dX1_enter_114 : decode cX1_enter 114 = .ok (.ifCond .eq 65, 3) := by decide +kernel
theorem dX1_enter_117 : decode cX1_enter 117 = .ok (.aload_n 0, 1) := by decide +kernel
theorem dX1_enter_118 : decode cX1_enter 118 = .ok (.aload_n 0, 1) := by decide +kernel
theorem dX1_enter_119 : decode cX1_enter 119 = .ok (.getfield 14, 3) := by decide +kernel
theorem dX1_enter_122 : decode cX1_enter 122 = .ok (.aload_n 0, 1) := by decide +kernel
theorem dX1_enter_123 : decode cX1_enter 123 = .ok (.getfield 68, 3) := by decide +kernel
theorem dX1_enter_126 : decode cX1_enter 126 = .ok (.invokevirtual 153, 3) := by decide +kernel
theorem dX1_enter_129 : decode cX1_enter 129 = .ok (.invokevirtual 156, 3) := by decide +kernel
theorem dX1_enter_132 : decode cX1_enter 132 = .ok (.goto 47, 3) := by decide +kernel
theorem dX1_enter_135 : decode cX1_enter 135 = .ok (.aload_n 0, 1) := by decide +kernel
theorem dX1_enter_136 : decode cX1_enter 136 = .ok (.invokevirtual 159, 3) := by decide +kernel
theorem dX1_enter_139 : decode cX1_enter 139 = .ok (.goto 40, 3) := by decide +kernel
theorem dX1_enter_142 : decode cX1_enter 142 = .ok (.aload_n 0, 1) := by decide +kernel
theorem dX1_enter_143 : decode cX1_enter 143 = .ok (.invokevirtual 140, 3) := by decide +kernel
theorem dX1_enter_146 : decode cX1_enter 146 = .ok (.ifCond .eq 33, 3) := by decide +kernel
theorem dX1_enter_149 : decode cX1_enter 149 = .ok (.aload_n 0, 1) := by decide +kernel
theorem dX1_enter_150 : decode cX1_enter 150 = .ok (.invokevirtual 162, 3) := by decide +kernel
theorem dX1_enter_153 : decode cX1_enter 153 = .ok (.goto 26, 3) := by decide +kernel
theorem dX1_enter_156 : decode cX1_enter 156 = .ok (.aload_n 0, 1) := by decide +kernel
theorem dX1_enter_157 : decode cX1_enter 157 = .ok (.aload_n 0, 1) := by decide +kernel
theorem dX1_enter_158 : decode cX1_enter 158 = .ok (.getfield 68, 3) := by decide +kernel
theorem dX1_enter_161 : decode cX1_enter 161 = .ok (.aload_n 0, 1) := by decide +kernel
theorem dX1_enter_162 : decode cX1_enter 162 = .ok (.getfield 65, 3) := by decide +kernel
theorem dX1_enter_165 : decode cX1_enter 165 = .ok (.invokevirtual 165, 3) := by decide +kernel
theorem dX1_enter_168 : decode cX1_enter 168 = .ok (.aload_n 0, 1) := by decide +kernel
theorem dX1_enter_169 : decode cX1_enter 169 = .ok (.invokevirtual 168, 3) := by decide +kernel
theorem dX1_enter_172 : decode cX1_enter 172 = .ok (.goto 7, 3) := by decide +kernel
theorem dX1_enter_175 : decode cX1_enter 175 = .ok (.aload_n 0, 1) := by decide +kernel
theorem dX1_enter_176 : decode cX1_enter 176 = .ok (.invokevirtual 168, 3) := by decide +kernel
theorem dX1_enter_179 : decode cX1_enter 179 = .ok (.return_, 1) := by decide +kernel
theorem dX1_enterCut_0 : decode cX1_enterCut 0 = .ok (.aload_n 0, 1) := by decide +kernel
theorem dX1_enterCut_1 : decode cX1_enterCut 1 = .ok (.invokevirtual 201, 3) := by decide +kernel
theorem dX1_enterCut_4 : decode cX1_enterCut 4 = .ok (.aload_n 0, 1) := by decide +kernel
theorem dX1_enterCut_5 : decode cX1_enterCut 5 = .ok (.invokevirtual 219, 3) := by decide +kernel
theorem dX1_enterCut_8 : decode cX1_enterCut 8 = .ok (.ifCond .eq 9, 3) := by decide +kernel
theorem dX1_enterCut_11 : decode cX1_enterCut 11 = .ok (.aload_n 0, 1) := by decide +kernel
theorem dX1_enterCut_12 : decode cX1_enterCut 12 = .ok (.iconst 5, 1) := by decide +kernel
theorem dX1_enterCut_13 : decode cX1_enterCut 13 = .ok (.putfield 71, 3) := by decide +kernel
theorem dX1_enterCut_16 : decode cX1_enterCut 16 = .ok (.return_, 1) := by decide +kernel
theorem dX1_enterCut_17 : decode cX1_enterCut 17 = .ok (.aload_n 0, 1) := by decide +kernel
theorem dX1_enterCut_18 : decode cX1_enterCut 18 = .ok (.getfield 14, 3) := by decide +kernel
theorem dX1_enterCut_21 : decode cX1_enterCut 21 = .ok (.aload_n 0, 1) := by decide +kernel
theorem dX1_enterCut_22 : decode cX1_enterCut 22 = .ok (.getfield 68, 3) := by decide +kernel
theorem dX1_enterCut_25 : decode cX1_enterCut 25 = .ok (.invokevirtual 137, 3) := by decide +kernel
theorem dX1_enterCut_28 : decode cX1_enterCut 28 = .ok (.bipush 9, 2) := by decide +kernel
theorem dX1_enterCut_30 : decode cX1_enterCut 30 = .ok (.if_icmp .ne 27, 3) := by decide +kernel
theorem dX1_enterCut_33 : decode cX1_enterCut 33 = .ok (.aload_n 0, 1) := by decide +kernel
theorem dX1_enterCut_34 : decode cX1_enterCut 34 = .ok (.getfield 14, 3) := by decide +kernel
theorem dX1_enterCut_37 : decode cX1_enterCut 37 = .ok (.aload_n 0, 1) := by decide +kernel
theorem dX1_enterCut_38 : decode cX1_enterCut 38 = .ok (.getfield 68, 3) := by decide +kernel
theorem dX1_enterCut_41 : decode cX1_enterCut 41 = .ok (.invokevirtual 181, 3) := by decide +kernel
theorem dX1_enterCut_44 : decode cX1_enterCut 44 = .ok (.iconst 1, 1) := by decide +kernel
theorem dX1_enterCut_45 : decode cX1_enterCut 45 = .ok (.if_icmp .ne 12, 3) := by decide +kernel
theorem dX1_enterCut_48 : decode cX1_enterCut 48 = .ok (.aload_n 0, 1) := by decide +kernel
theorem dX1_enterCut_49 : decode cX1_enterCut 49 = .ok (.iconst 3, 1) := by decide +kernel
theorem dX1_enterCut_50 : decode cX1_enterCut 50 = .ok (.aload_n 0, 1) := by decide +kernel
theorem dX1_enterCut_51 : decode cX1_enterCut 51 = .ok (.getfield 68, 3) := by decide +kernel
theorem dX1_enterCut_54 : decode cX1_enterCut 54 = .ok (.invokevirtual 198, 3) := by decide +kernel
theorem dX1_enterCut_57 : decode cX1_enterCut 57 = .ok (.aload_n 0, 1) := by decide +kernel
theorem dX1_enterCut_58 : decode cX1_enterCut 58 = .ok (.invokevirtual 168, 3) := by decide +kernel
theorem dX1_enterCut_61 : decode cX1_enterCut 61 = .ok (.return_, 1) := by decide +kernel
theorem dX1_enterLoop_0 : decode cX1_enterLoop 0 = .ok (.aload_n 0, 1) := by decide +kernel
theorem dX1_enterLoop_1 : decode cX1_enterLoop 1 = .ok (.getfield 14, 3) := by decide +kernel
theorem dX1_enterLoop_4 : decode cX1_enterLoop 4 = .ok (.aload_n 0, 1) := by decide +kernel
theorem dX1_enterLoop_5 : decode cX1_enterLoop 5 = .ok (.getfield 68, 3) := by decide +kernel
theorem dX1_enterLoop_8 : decode cX1_enterLoop 8 = .ok (.invokevirtual 181, 3) := by decide +kernel
theorem dX1_enterLoop_11 : decode cX1_enterLoop 11 = .ok (.iconst 2, 1) := by decide +kernel
theorem dX1_enterLoop_12 : decode cX1_enterLoop 12 = .ok (.if_icmp .ne 15, 3) := by decide +kernel
theorem dX1_enterLoop_15 : decode cX1_enterLoop 15 = .ok (.aload_n 0, 1) := by decide +kernel
theorem dX1_enterLoop_16 : decode cX1_enterLoop 16 = .ok (.invokevirtual 140, 3) := by decide +kernel
theorem dX1_enterLoop_19 : decode cX1_enterLoop 19 = .ok (.ifCond .ne 4, 3) := by decide +kernel
theorem dX1_enterLoop_22 : decode cX1_enterLoop 22 = .ok (.return_, 1) := by decide +kernel
theorem dX1_enterLoop_23 : decode cX1_enterLoop 23 = .ok (.aload_n 0, 1) := by decide +kernel
theorem dX1_enterLoop_24 : decode cX1_enterLoop 24 = .ok (.invokevirtual 201, 3) := by decide +kernel
theorem dX1_enterLoop_27 : decode cX1_enterLoop 27 = .ok (.aload_n 0, 1) := by decide +kernel
theorem dX1_enterLoop_28 : decode cX1_enterLoop 28 = .ok (.aload_n 0, 1) := by decide +kernel
theorem dX1_enterLoop_29 : decode cX1_enterLoop 29 = .ok (.getfield 68, 3) := by decide +kernel
theorem dX1_enterLoop_32 : decode cX1_enterLoop 32 = .ok (.iconst 0, 1) := by decide +kernel
theorem dX1_enterLoop_33 : decode cX1_enterLoop 33 = .ok (.invokevirtual 165, 3) := by decide +kernel
theorem dX1_enterLoop_36 : decode cX1_enterLoop 36 = .ok (.aload_n 0, 1) := by decide +kernel
theorem dX1_enterLoop_37 : decode cX1_enterLoop 37 = .ok (.iconst 3, 1) := by decide +kernel
theorem dX1_enterLoop_38 : decode cX1_enterLoop 38 = .ok (.putfield 71, 3) := by decide +kernel
theorem dX1_enterLoop_41 : decode cX1_enterLoop 41 = .ok (.return_, 1) := by decide +kernel
theorem dX1_enterRow_0 : decode cX1_enterRow 0 = .ok (.aload_n 0, 1) := by decide +kernel
theorem dX1_enterRow_1 : decode cX1_enterRow 1 = .ok (.getfield 14, 3) := by decide +kernel
theorem dX1_enterRow_4 : decode cX1_enterRow 4 = .ok (.iload_n 1, 1) := by decide +kernel
theorem dX1_enterRow_5 : decode cX1_enterRow 5 = .ok (.invokevirtual 195, 3) := by decide +kernel
theorem dX1_enterRow_8 : decode cX1_enterRow 8 = .ok (.istore_n 2, 1) := by decide +kernel
theorem dX1_enterRow_9 : decode cX1_enterRow 9 = .ok (.iload_n 2, 1) := by decide +kernel
theorem dX1_enterRow_10 : decode cX1_enterRow 10 = .ok (.iconst (-1), 1) := by decide +kernel
theorem dX1_enterRow_11 : decode cX1_enterRow 11 = .ok (.if_icmp .eq 9, 3) := by decide +kernel
theorem dX1_enterRow_14 : decode cX1_enterRow 14 = .ok (.aload_n 0, 1) := by decide +kernel
theorem dX1_enterRow_15 : decode cX1_enterRow 15 = .ok (.iconst 0, 1) := by decide +kernel
theorem dX1_enterRow_16 : decode cX1_enterRow 16 = .ok (.iload_n 2, 1) := by decide +kernel
theorem dX1_enterRow_17 : decode cX1_enterRow 17 = .ok (.invokevirtual 198, 3) := by decide +kernel
theorem dX1_enterRow_20 : decode cX1_enterRow 20 = .ok (.aload_n 0, 1) := by decide +kernel
theorem dX1_enterRow_21 : decode cX1_enterRow 21 = .ok (.iload_n 1, 1) := by decide +kernel
theorem dX1_enterRow_22 : decode cX1_enterRow 22 = .ok (.putfield 68, 3) := by decide +kernel
theorem dX1_enterRow_25 : decode cX1_enterRow 25 = .ok (.aload_n 0, 1) := by decide +kernel
theorem dX1_enterRow_26 : decode cX1_enterRow 26 = .ok (.iconst 0, 1) := by decide +kernel
theorem dX1_enterRow_27 : decode cX1_enterRow 27 = .ok (.putfield 71, 3) := by decide +kernel
theorem dX1_enterRow_30 : decode cX1_enterRow 30 = .ok (.return_, 1) := by decide +kernel
theorem dX1_goBack_0 : decode cX1_goBack 0 = .ok (.aload_n 0, 1) := by decide +kernel
theorem dX1_goBack_1 : decode cX1_goBack 1 = .ok (.getfield 74, 3) := by decide +kernel
theorem dX1_goBack_4 : decode cX1_goBack 4 = .ok (.aload_n 0, 1) := by decide +kernel
theorem dX1_goBack_5 : decode cX1_goBack 5 = .ok (.getfield 42, 3) := by decide +kernel
theorem dX1_goBack_8 : decode cX1_goBack 8 = .ok (.arraylength, 1) := by decide +kernel
theorem dX1_goBack_9 : decode cX1_goBack 9 = .ok (.if_icmp .gt 23, 3) := by decide +kernel
theorem dX1_goBack_12 : decode cX1_goBack 12 = .ok (.aload_n 0, 1) := by decide +kernel
theorem dX1_goBack_13 : decode cX1_goBack 13 = .ok (.getfield 74, 3) := by decide +kernel
theorem dX1_goBack_16 : decode cX1_goBack 16 = .ok (.aload_n 0, 1) := by decide +kernel
theorem dX1_goBack_17 : decode cX1_goBack 17 = .ok (.getfield 45, 3) := by decide +kernel
theorem dX1_goBack_20 : decode cX1_goBack 20 = .ok (.arraylength, 1) := by decide +kernel
theorem dX1_goBack_21 : decode cX1_goBack 21 = .ok (.if_icmp .gt 11, 3) := by decide +kernel
theorem dX1_goBack_24 : decode cX1_goBack 24 = .ok (.aload_n 0, 1) := by decide +kernel
theorem dX1_goBack_25 : decode cX1_goBack 25 = .ok (.getfield 74, 3) := by decide +kernel
theorem dX1_goBack_28 : decode cX1_goBack 28 = .ok (.iconst 1, 1) := by decide +kernel
theorem dX1_goBack_29 : decode cX1_goBack 29 = .ok (.if_icmp .ge 8, 3) := by decide +kernel
theorem dX1_goBack_32 : decode cX1_goBack 32 = .ok (.aload_n 0, 1) := by decide +kernel
theorem dX1_goBack_33 : decode cX1_goBack 33 = .ok (.invokevirtual 240, 3) := by decide +kernel
theorem dX1_goBack_36 : decode cX1_goBack 36 = .ok (.return_, 1) := by decide +kernel
theorem dX1_goBack_37 : decode cX1_goBack 37 = .ok (.aload_n 0, 1) := by decide +kernel
theorem dX1_goBack_38 : decode cX1_goBack 38 = .ok (.dup, 1) := by decide +kernel
theorem dX1_goBack_39 : decode cX1_goBack 39 = .ok (.getfield 74, 3) := by decide +kernel
theorem dX1_goBack_42 : decode cX1_goBack 42 = .ok (.iconst 1, 1) := by decide +kernel
theorem dX1_goBack_43 : decode cX1_goBack 43 = .ok (.isub, 1) := by decide +kernel
theorem dX1_goBack_44 : decode cX1_goBack 44 = .ok (.putfield 74, 3) := by decide +kernel
theorem dX1_goBack_47 : decode cX1_goBack 47 = .ok (.aload_n 0, 1) := by decide +kernel
theorem dX1_goBack_48 : decode cX1_goBack 48 = .ok (.getfield 42, 3) := by decide +kernel
theorem dX1_goBack_51 : decode cX1_goBack 51 = .ok (.aload_n 0, 1) := by decide +kernel
theorem dX1_goBack_52 : decode cX1_goBack 52 = .ok (.getfield 74, 3) := by decide +kernel
theorem dX1_goBack_55 : decode cX1_goBack 55 = .ok (.iaload, 1) := by decide +kernel
theorem dX1_goBack_56 : decode cX1_goBack 56 = .ok (.istore_n 1, 1) := by decide +kernel
theorem dX1_goBack_57 : decode cX1_goBack 57 = .ok (.aload_n 0, 1) := by decide +kernel
theorem dX1_goBack_58 : decode cX1_goBack 58 = .ok (.aload_n 0, 1) := by decide +kernel
theorem dX1_goBack_59 : decode cX1_goBack 59 = .ok (.getfield 45, 3) := by decide +kernel
theorem dX1_goBack_62 : decode cX1_goBack 62 = .ok (.aload_n 0, 1) := by decide +kernel
theorem dX1_goBack_63 : decode cX1_goBack 63 = .ok (.getfield 74, 3) := by decide +kernel
theorem dX1_goBack_66 : decode cX1_goBack 66 = .ok (.iaload, 1) := by decide +kernel
theorem dX1_goBack_67 : decode cX1_goBack 67 = .ok (.invokevirtual 243, 3) := by decide +kernel
theorem dX1_goBack_70 : decode cX1_goBack 70 = .ok (.aload_n 0, 1) := by decide +kernel
theorem dX1_goBack_71 : decode cX1_goBack 71 = .ok (.iload_n 1, 1) := by decide +kernel
theorem dX1_goBack_72 : decode cX1_goBack 72 = .ok (.sipush 128, 3) := by decide +kernel
theorem dX1_goBack_75 : decode cX1_goBack 75 = .ok (.irem, 1) := by decide +kernel
theorem dX1_goBack_76 : decode cX1_goBack 76 = .ok (.putfield 65, 3) := by decide +kernel
theorem dX1_goBack_79 : decode cX1_goBack 79 = .ok (.aload_n 0, 1) := by decide +kernel
theorem dX1_goBack_80 : decode cX1_goBack 80 = .ok (.iload_n 1, 1) := by decide +kernel
theorem dX1_goBack_81 : decode cX1_goBack 81 = .ok (.sipush 128, 3) := by decide +kernel
theorem dX1_goBack_84 : decode cX1_goBack 84 = .ok (.idiv, 1) := by decide +kernel
theorem dX1_goBack_85 : decode cX1_goBack 85 = .ok (.iconst 4, 1) := by decide +kernel
theorem dX1_goBack_86 : decode cX1_goBack 86 = .ok (.idiv, 1) := by decide +kernel
theorem dX1_goBack_87 : decode cX1_goBack 87 = .ok (.putfield 68, 3) := by decide +kernel
theorem dX1_goBack_90 : decode cX1_goBack 90 = .ok (.iload_n 1, 1) := by decide +kernel
theorem dX1_goBack_91 : decode cX1_goBack 91 = .ok (.sipush 128, 3) := by decide +kernel
theorem dX1_goBack_94 : decode cX1_goBack 94 = .ok (.idiv, 1) := by decide +kernel
theorem dX1_goBack_95 : decode cX1_goBack 95 = .ok (.iconst 4, 1) := by decide +kernel
theorem dX1_goBack_96 : decode cX1_goBack 96 = .ok (.irem, 1) := by decide +kernel
theorem dX1_goBack_97 : decode cX1_goBack 97 = .ok (.tableswitch 53 0 2 #[27, 38, 45], 27) := by decide +kernel
theorem dX1_goBack_124 : decode cX1_goBack 124 = .ok (.aload_n 0, 1) := by decide +kernel
theorem dX1_goBack_125 : decode cX1_goBack 125 = .ok (.aload_n 0, 1) := by decide +kernel
theorem dX1_goBack_126 : decode cX1_goBack 126 = .ok (.getfield 68, 3) := by decide +kernel
theorem dX1_goBack_129 : decode cX1_goBack 129 = .ok (.invokevirtual 156, 3) := by decide +kernel
theorem dX1_goBack_132 : decode cX1_goBack 132 = .ok (.goto 22, 3) := by decide +kernel
theorem dX1_goBack_135 : decode cX1_goBack 135 = .ok (.aload_n 0, 1) := by decide +kernel
theorem dX1_goBack_136 : decode cX1_goBack 136 = .ok (.invokevirtual 213, 3) := by decide +kernel
theorem dX1_goBack_139 : decode cX1_goBack 139 = .ok (.goto 15, 3) := by decide +kernel
theorem dX1_goBack_142 : decode cX1_goBack 142 = .ok (.aload_n 0, 1) := by decide +kernel
theorem dX1_goBack_143 : decode cX1_goBack 143 = .ok (.iconst 4, 1) := by decide +kernel
theorem dX1_goBack_144 : decode cX1_goBack 144 = .ok (.putfield 71, 3) := by decide +kernel
theorem dX1_goBack_147 : decode cX1_goBack 147 = .ok (.goto 7, 3) := by decide +kernel
theorem dX1_goBack_150 : decode cX1_goBack 150 = .ok (.aload_n 0, 1) := by decide +kernel
theorem dX1_goBack_151 : decode cX1_goBack 151 = .ok (.invokevirtual 246, 3) := by decide +kernel
theorem dX1_goBack_154 : decode cX1_goBack 154 = .ok (.return_, 1) := by decide +kernel
theorem dX1_keepChoice_0 : decode cX1_keepChoice 0 = .ok (.aload_n 0, 1) := by decide +kernel
theorem dX1_keepChoice_1 : decode cX1_keepChoice 1 = .ok (.getfield 74, 3) := by decide +kernel
theorem dX1_keepChoice_4 : decode cX1_keepChoice 4 = .ok (.aload_n 0, 1) := by decide +kernel
theorem dX1_keepChoice_5 : decode cX1_keepChoice 5 = .ok (.getfield 42, 3) := by decide +kernel
theorem dX1_keepChoice_8 : decode cX1_keepChoice 8 = .ok (.arraylength, 1) := by decide +kernel
theorem dX1_keepChoice_9 : decode cX1_keepChoice 9 = .ok (.if_icmp .lt 47, 3) := by decide +kernel
theorem dX1_keepChoice_12 : decode cX1_keepChoice 12 = .ok (.aload_n 0, 1) := by decide +kernel
theorem dX1_keepChoice_13 : decode cX1_keepChoice 13 = .ok (.getfield 42, 3) := by decide +kernel
theorem dX1_keepChoice_16 : decode cX1_keepChoice 16 = .ok (.arraylength, 1) := by decide +kernel
theorem dX1_keepChoice_17 : decode cX1_keepChoice 17 = .ok (.ldc 249, 2) := by decide +kernel
theorem dX1_keepChoice_19 : decode cX1_keepChoice 19 = .ok (.if_icmp .ge 37, 3) := by decide +kernel
theorem dX1_keepChoice_22 : decode cX1_keepChoice 22 = .ok (.aload_n 0, 1) := by decide +kernel
theorem dX1_keepChoice_23 : decode cX1_keepChoice 23 = .ok (.aload_n 0, 1) := by decide +kernel
theorem dX1_keepChoice_24 : decode cX1_keepChoice 24 = .ok (.getfield 42, 3) := by decide +kernel
theorem dX1_keepChoice_27 : decode cX1_keepChoice 27 = .ok (.aload_n 0, 1) := by decide +kernel
theorem dX1_keepChoice_28 : decode cX1_keepChoice 28 = .ok (.getfield 42, 3) := by decide +kernel
theorem dX1_keepChoice_31 : decode cX1_keepChoice 31 = .ok (.arraylength, 1) := by decide +kernel
theorem dX1_keepChoice_32 : decode cX1_keepChoice 32 = .ok (.iconst 2, 1) := by decide +kernel
theorem dX1_keepChoice_33 : decode cX1_keepChoice 33 = .ok (.imul, 1) := by decide +kernel
theorem dX1_keepChoice_34 : decode cX1_keepChoice 34 = .ok (.invokestatic 250, 3) := by decide +kernel
theorem dX1_keepChoice_37 : decode cX1_keepChoice 37 = .ok (.putfield 42, 3) := by decide +kernel
theorem dX1_keepChoice_40 : decode cX1_keepChoice 40 = .ok (.aload_n 0, 1) := by decide +kernel
theorem dX1_keepChoice_41 : decode cX1_keepChoice 41 = .ok (.aload_n 0, 1) := by decide +kernel
theorem dX1_keepChoice_42 : decode cX1_keepChoice 42 = .ok (.getfield 45, 3) := by decide +kernel
theorem dX1_keepChoice_45 : decode cX1_keepChoice 45 = .ok (.aload_n 0, 1) := by decide +kernel
theorem dX1_keepChoice_46 : decode cX1_keepChoice 46 = .ok (.getfield 42, 3) := by decide +kernel
theorem dX1_keepChoice_49 : decode cX1_keepChoice 49 = .ok (.arraylength, 1) := by decide +kernel
theorem dX1_keepChoice_50 : decode cX1_keepChoice 50 = .ok (.invokestatic 250, 3) := by decide +kernel
theorem dX1_keepChoice_53 : decode cX1_keepChoice 53 = .ok (.putfield 45, 3) := by decide +kernel
theorem dX1_keepChoice_56 : decode cX1_keepChoice 56 = .ok (.aload_n 0, 1) := by decide +kernel
theorem dX1_keepChoice_57 : decode cX1_keepChoice 57 = .ok (.getfield 74, 3) := by decide +kernel
theorem dX1_keepChoice_60 : decode cX1_keepChoice 60 = .ok (.ifCond .lt 73, 3) := by decide +kernel
theorem dX1_keepChoice_63 : decode cX1_keepChoice 63 = .ok (.aload_n 0, 1) := by decide +kernel
theorem dX1_keepChoice_64 : decode cX1_keepChoice 64 = .ok (.getfield 74, 3) := by decide +kernel
theorem dX1_keepChoice_67 : decode cX1_keepChoice 67 = .ok (.aload_n 0, 1) := by decide +kernel
theorem dX1_keepChoice_68 : decode cX1_keepChoice 68 = .ok (.getfield 42, 3) := by decide +kernel
theorem dX1_keepChoice_71 : decode cX1_keepChoice 71 = .ok (.arraylength, 1) := by decide +kernel
theorem dX1_keepChoice_72 : decode cX1_keepChoice 72 = .ok (.if_icmp .ge 61, 3) := by decide +kernel
theorem dX1_keepChoice_75 : decode cX1_keepChoice 75 = .ok (.aload_n 0, 1) := by decide +kernel
theorem dX1_keepChoice_76 : decode cX1_keepChoice 76 = .ok (.getfield 74, 3) := by decide +kernel
theorem dX1_keepChoice_79 : decode cX1_keepChoice 79 = .ok (.aload_n 0, 1) := by decide +kernel
theorem dX1_keepChoice_80 : decode cX1_keepChoice 80 = .ok (.getfield 45, 3) := by decide +kernel
theorem dX1_keepChoice_83 : decode cX1_keepChoice 83 = .ok (.arraylength, 1) := by decide +kernel
theorem dX1_keepChoice_84 : decode cX1_keepChoice 84 = .ok (.if_icmp .ge 49, 3) := by decide +kernel
theorem dX1_keepChoice_87 : decode cX1_keepChoice 87 = .ok (.aload_n 0, 1) := by decide +kernel
theorem dX1_keepChoice_88 : decode cX1_keepChoice 88 = .ok (.getfield 42, 3) := by decide +kernel
theorem dX1_keepChoice_91 : decode cX1_keepChoice 91 = .ok (.aload_n 0, 1) := by decide +kernel
theorem dX1_keepChoice_92 : decode cX1_keepChoice 92 = .ok (.getfield 74, 3) := by decide +kernel
theorem dX1_keepChoice_95 : decode cX1_keepChoice 95 = .ok (.iload_n 2, 1) := by decide +kernel
theorem dX1_keepChoice_96 : decode cX1_keepChoice 96 = .ok (.iconst 4, 1) := by decide +kernel
theorem dX1_keepChoice_97 : decode cX1_keepChoice 97 = .ok (.imul, 1) := by decide +kernel
theorem dX1_keepChoice_98 : decode cX1_keepChoice 98 = .ok (.iload_n 1, 1) := by decide +kernel
theorem dX1_keepChoice_99 : decode cX1_keepChoice 99 = .ok (.iadd, 1) := by decide +kernel
theorem dX1_keepChoice_100 : decode cX1_keepChoice 100 = .ok (.sipush 128, 3) := by decide +kernel
theorem dX1_keepChoice_103 : decode cX1_keepChoice 103 = .ok (.imul, 1) := by decide +kernel
theorem dX1_keepChoice_104 : decode cX1_keepChoice 104 = .ok (.aload_n 0, 1) := by decide +kernel
theorem dX1_keepChoice_105 : decode cX1_keepChoice 105 = .ok (.getfield 65, 3) := by decide +kernel
theorem dX1_keepChoice_108 : decode cX1_keepChoice 108 = .ok (.iadd, 1) := by decide +kernel
theorem dX1_keepChoice_109 : decode cX1_keepChoice 109 = .ok (.iastore, 1) := by decide +kernel
theorem dX1_keepChoice_110 : decode cX1_keepChoice 110 = .ok (.aload_n 0, 1) := by decide +kernel
theorem dX1_keepChoice_111 : decode cX1_keepChoice 111 = .ok (.getfield 45, 3) := by decide +kernel
theorem dX1_keepChoice_114 : decode cX1_keepChoice 114 = .ok (.aload_n 0, 1) := by decide +kernel
theorem dX1_keepChoice_115 : decode cX1_keepChoice 115 = .ok (.getfield 74, 3) := by decide +kernel
theorem dX1_keepChoice_118 : decode cX1_keepChoice 118 = .ok (.aload_n 0, 1) := by decide +kernel
theorem dX1_keepChoice_119 : decode cX1_keepChoice 119 = .ok (.getfield 77, 3) := by decide +kernel
theorem dX1_keepChoice_122 : decode cX1_keepChoice 122 = .ok (.iastore, 1) := by decide +kernel
theorem dX1_keepChoice_123 : decode cX1_keepChoice 123 = .ok (.aload_n 0, 1) := by decide +kernel
theorem dX1_keepChoice_124 : decode cX1_keepChoice 124 = .ok (.dup, 1) := by decide +kernel
theorem dX1_keepChoice_125 : decode cX1_keepChoice 125 = .ok (.getfield 74, 3) := by decide +kernel
theorem dX1_keepChoice_128 : decode cX1_keepChoice 128 = .ok (.iconst 1, 1) := by decide +kernel
theorem dX1_keepChoice_129 : decode cX1_keepChoice 129 = .ok (.iadd, 1) := by decide +kernel
theorem dX1_keepChoice_130 : decode cX1_keepChoice 130 = .ok (.putfield 74, 3) := by decide +kernel
theorem dX1_keepChoice_133 : decode cX1_keepChoice 133 = .ok (.return_, 1) := by decide +kernel
theorem dX1_leave_0 : decode cX1_leave 0 = .ok (.aload_n 0, 1) := by decide +kernel
theorem dX1_leave_1 : decode cX1_leave 1 = .ok (.getfield 68, 3) := by decide +kernel
theorem dX1_leave_4 : decode cX1_leave 4 = .ok (.istore_n 1, 1) := by decide +kernel
theorem dX1_leave_5 : decode cX1_leave 5 = .ok (.aload_n 0, 1) := by decide +kernel
theorem dX1_leave_6 : decode cX1_leave 6 = .ok (.getfield 14, 3) := by decide +kernel
theorem dX1_leave_9 : decode cX1_leave 9 = .ok (.iload_n 1, 1) := by decide +kernel
theorem dX1_leave_10 : decode cX1_leave 10 = .ok (.invokevirtual 225, 3) := by decide +kernel
theorem dX1_leave_13 : decode cX1_leave 13 = .ok (.istore_n 2, 1) := by decide +kernel
theorem dX1_leave_14 : decode cX1_leave 14 = .ok (.iload_n 2, 1) := by decide +kernel
theorem dX1_leave_15 : decode cX1_leave 15 = .ok (.iconst (-1), 1) := by decide +kernel
theorem dX1_leave_16 : decode cX1_leave 16 = .ok (.if_icmp .ne 8, 3) := by decide +kernel
theorem dX1_leave_19 : decode cX1_leave 19 = .ok (.aload_n 0, 1) := by decide +kernel
theorem dX1_leave_20 : decode cX1_leave 20 = .ok (.invokevirtual 228, 3) := by decide +kernel
theorem dX1_leave_23 : decode cX1_leave 23 = .ok (.return_, 1) := by decide +kernel
theorem dX1_leave_24 : decode cX1_leave 24 = .ok (.aload_n 0, 1) := by decide +kernel
theorem dX1_leave_25 : decode cX1_leave 25 = .ok (.iload_n 2, 1) := by decide +kernel
theorem dX1_leave_26 : decode cX1_leave 26 = .ok (.putfield 68, 3) := by decide +kernel
theorem dX1_leave_29 : decode cX1_leave 29 = .ok (.aload_n 0, 1) := by decide +kernel
theorem dX1_leave_30 : decode cX1_leave 30 = .ok (.getfield 14, 3) := by decide +kernel
theorem dX1_leave_33 : decode cX1_leave 33 = .ok (.iload_n 2, 1) := by decide +kernel
theorem dX1_leave_34 : decode cX1_leave 34 = .ok (.invokevirtual 137, 3) := by decide +kernel
theorem dX1_leave_37 : decode cX1_leave 37 = .ok (.tableswitch 103 5 10 #[39, 103, 47, 54, 89, 96], 39) := by decide +kernel
theorem dX1_leave_76 : decode cX1_leave 76 = .ok (.aload_n 0, 1) := by decide +kernel
theorem dX1_leave_77 : decode cX1_leave 77 = .ok (.iload_n 1, 1) := by decide +kernel
theorem dX1_leave_78 : decode cX1_leave 78 = .ok (.invokevirtual 231, 3) := by decide +kernel
theorem dX1_leave_81 : decode cX1_leave 81 = .ok (.goto 59, 3) := by decide +kernel
theorem dX1_leave_84 : decode cX1_leave 84 = .ok (.aload_n 0, 1) := by decide +kernel
theorem dX1_leave_85 : decode cX1_leave 85 = .ok (.invokevirtual 234, 3) := by decide +kernel
theorem dX1_leave_88 : decode cX1_leave 88 = .ok (.goto 52, 3) := by decide +kernel
theorem dX1_leave_91 : decode cX1_leave 91 = .ok (.aload_n 0, 1) := by decide +kernel
theorem dX1_leave_92 : decode cX1_leave 92 = .ok (.sipush 256, 3) := by decide +kernel
theorem dX1_leave_95 : decode cX1_leave 95 = .ok (.aload_n 0, 1) := by decide +kernel
theorem dX1_leave_96 : decode cX1_leave 96 = .ok (.getfield 14, 3) := by decide +kernel
theorem dX1_leave_99 : decode cX1_leave 99 = .ok (.iload_n 2, 1) := by decide +kernel
theorem dX1_leave_100 : decode cX1_leave 100 = .ok (.invokevirtual 181, 3) := by decide +kernel
theorem dX1_leave_103 : decode cX1_leave 103 = .ok (.iadd, 1) := by decide +kernel
theorem dX1_leave_104 : decode cX1_leave 104 = .ok (.aload_n 0, 1) := by decide +kernel
theorem dX1_leave_105 : decode cX1_leave 105 = .ok (.iload_n 2, 1) := by decide +kernel
theorem dX1_leave_106 : decode cX1_leave 106 = .ok (.invokevirtual 204, 3) := by decide +kernel
theorem dX1_leave_109 : decode cX1_leave 109 = .ok (.sipush 128, 3) := by decide +kernel
theorem dX1_leave_112 : decode cX1_leave 112 = .ok (.imul, 1) := by decide +kernel
theorem dX1_leave_113 : decode cX1_leave 113 = .ok (.aload_n 0, 1) := by decide +kernel
theorem dX1_leave_114 : decode cX1_leave 114 = .ok (.getfield 65, 3) := by decide +kernel
theorem dX1_leave_117 : decode cX1_leave 117 = .ok (.iadd, 1) := by decide +kernel
theorem dX1_leave_118 : decode cX1_leave 118 = .ok (.iconst 1, 1) := by decide +kernel
theorem dX1_leave_119 : decode cX1_leave 119 = .ok (.iadd, 1) := by decide +kernel
theorem dX1_leave_120 : decode cX1_leave 120 = .ok (.invokevirtual 165, 3) := by decide +kernel
theorem dX1_leave_123 : decode cX1_leave 123 = .ok (.goto 17, 3) := by decide +kernel
theorem dX1_leave_126 : decode cX1_leave 126 = .ok (.aload_n 0, 1) := by decide +kernel
theorem dX1_leave_127 : decode cX1_leave 127 = .ok (.invokevirtual 237, 3) := by decide +kernel
theorem dX1_leave_130 : decode cX1_leave 130 = .ok (.goto 10, 3) := by decide +kernel
theorem dX1_leave_133 : decode cX1_leave 133 = .ok (.aload_n 0, 1) := by decide +kernel
theorem dX1_leave_134 : decode cX1_leave 134 = .ok (.invokevirtual 216, 3) := by decide +kernel
theorem dX1_leave_137 : decode cX1_leave 137 = .ok (.goto 3, 3) := by decide +kernel
theorem dX1_leave_140 : decode cX1_leave 140 = .ok (.return_, 1) := by decide +kernel
theorem dX1_proceed_0 : decode cX1_proceed 0 = .ok (.aload_n 0, 1) := by decide +kernel
theorem dX1_proceed_1 : decode cX1_proceed 1 = .ok (.sipush 3000, 3) := by decide +kernel
theorem dX1_proceed_4 : decode cX1_proceed 4 = .ok (.aload_n 0, 1) := by decide +kernel
theorem dX1_proceed_5 : decode cX1_proceed 5 = .ok (.getfield 55, 3) := by decide +kernel
theorem dX1_proceed_8 : decode cX1_proceed 8 = .ok (.iload_n 1, 1) := by decide +kernel
theorem dX1_proceed_9 : decode cX1_proceed 9 = .ok (.iadd, 1) := by decide +kernel
theorem dX1_proceed_10 : decode cX1_proceed 10 = .ok (.invokestatic 86, 3) := by decide +kernel
theorem dX1_proceed_13 : decode cX1_proceed 13 = .ok (.putfield 92, 3) := by decide +kernel
theorem dX1_proceed_16 : decode cX1_proceed 16 = .ok (.aload_n 0, 1) := by decide +kernel
theorem dX1_proceed_17 : decode cX1_proceed 17 = .ok (.iconst 0, 1) := by decide +kernel
theorem dX1_proceed_18 : decode cX1_proceed 18 = .ok (.putfield 95, 3) := by decide +kernel
theorem dX1_proceed_21 : decode cX1_proceed 21 = .ok (.iconst 0, 1) := by decide +kernel
theorem dX1_proceed_22 : decode cX1_proceed 22 = .ok (.istore_n 3, 1) := by decide +kernel
theorem dX1_proceed_23 : decode cX1_proceed 23 = .ok (.iload_n 3, 1) := by decide +kernel
theorem dX1_proceed_24 : decode cX1_proceed 24 = .ok (.ldc 98, 2) := by decide +kernel
theorem dX1_proceed_26 : decode cX1_proceed 26 = .ok (.if_icmp .ge 99, 3) := by decide +kernel
theorem dX1_proceed_29 : decode cX1_proceed 29 = .ok (.aload_n 0, 1) := by decide +kernel
theorem dX1_proceed_30 : decode cX1_proceed 30 = .ok (.getfield 95, 3) := by decide +kernel
theorem dX1_proceed_33 : decode cX1_proceed 33 = .ok (.ifCond .ne 92, 3) := by decide +kernel
theorem dX1_proceed_36 : decode cX1_proceed 36 = .ok (.aload_n 0, 1) := by decide +kernel
theorem dX1_proceed_37 : decode cX1_proceed 37 = .ok (.getfield 71, 3) := by decide +kernel
theorem dX1_proceed_40 : decode cX1_proceed 40 = .ok (.tableswitch 75 0 5 #[40, 47, 75, 54, 61, 68], 40) := by decide +kernel
theorem dX1_proceed_80 : decode cX1_proceed 80 = .ok (.aload_n 0, 1) := by decide +kernel
theorem dX1_proceed_81 : decode cX1_proceed 81 = .ok (.invokevirtual 99, 3) := by decide +kernel
theorem dX1_proceed_84 : decode cX1_proceed 84 = .ok (.goto 35, 3) := by decide +kernel
theorem dX1_proceed_87 : decode cX1_proceed 87 = .ok (.aload_n 0, 1) := by decide +kernel
theorem dX1_proceed_88 : decode cX1_proceed 88 = .ok (.invokevirtual 102, 3) := by decide +kernel
theorem dX1_proceed_91 : decode cX1_proceed 91 = .ok (.goto 28, 3) := by decide +kernel
theorem dX1_proceed_94 : decode cX1_proceed 94 = .ok (.aload_n 0, 1) := by decide +kernel
theorem dX1_proceed_95 : decode cX1_proceed 95 = .ok (.invokevirtual 105, 3) := by decide +kernel
theorem dX1_proceed_98 : decode cX1_proceed 98 = .ok (.goto 21, 3) := by decide +kernel
theorem dX1_proceed_101 : decode cX1_proceed 101 = .ok (.aload_n 0, 1) := by decide +kernel
theorem dX1_proceed_102 : decode cX1_proceed 102 = .ok (.invokevirtual 108, 3) := by decide +kernel
theorem dX1_proceed_105 : decode cX1_proceed 105 = .ok (.goto 14, 3) := by decide +kernel
theorem dX1_proceed_108 : decode cX1_proceed 108 = .ok (.aload_n 0, 1) := by decide +kernel
theorem dX1_proceed_109 : decode cX1_proceed 109 = .ok (.invokevirtual 111, 3) := by decide +kernel
theorem dX1_proceed_112 : decode cX1_proceed 112 = .ok (.goto 7, 3) := by decide +kernel
theorem dX1_proceed_115 : decode cX1_proceed 115 = .ok (.aload_n 0, 1) := by decide +kernel
theorem dX1_proceed_116 : decode cX1_proceed 116 = .ok (.invokevirtual 114, 3) := by decide +kernel
theorem dX1_proceed_119 : decode cX1_proceed 119 = .ok (.iinc 3 1, 3) := by decide +kernel
theorem dX1_proceed_122 : decode cX1_proceed 122 = .ok (.goto (-99), 3) := by decide +kernel
theorem dX1_proceed_125 : decode cX1_proceed 125 = .ok (.aload_n 0, 1) := by decide +kernel
theorem dX1_proceed_126 : decode cX1_proceed 126 = .ok (.getfield 95, 3) := by decide +kernel
theorem dX1_proceed_129 : decode cX1_proceed 129 = .ok (.iconst 3, 1) := by decide +kernel
theorem dX1_proceed_130 : decode cX1_proceed 130 = .ok (.if_icmp .ne 20, 3) := by decide +kernel
theorem dX1_proceed_133 : decode cX1_proceed 133 = .ok (.aload_n 0, 1) := by decide +kernel
theorem dX1_proceed_134 : decode cX1_proceed 134 = .ok (.getfield 55, 3) := by decide +kernel
theorem dX1_proceed_137 : decode cX1_proceed 137 = .ok (.sipush 3000, 3) := by decide +kernel
theorem dX1_proceed_140 : decode cX1_proceed 140 = .ok (.if_icmp .lt 8, 3) := by decide +kernel
theorem dX1_proceed_143 : decode cX1_proceed 143 = .ok (.bipush (-8), 2) := by decide +kernel
theorem dX1_proceed_145 : decode cX1_proceed 145 = .ok (.goto 4, 3) := by decide +kernel
theorem dX1_proceed_148 : decode cX1_proceed 148 = .ok (.iconst 2, 1) := by decide +kernel
theorem dX1_proceed_149 : decode cX1_proceed 149 = .ok (.ireturn, 1) := by decide +kernel
theorem dX1_proceed_150 : decode cX1_proceed 150 = .ok (.aload_n 0, 1) := by decide +kernel
theorem dX1_proceed_151 : decode cX1_proceed 151 = .ok (.getfield 95, 3) := by decide +kernel
theorem dX1_proceed_154 : decode cX1_proceed 154 = .ok (.iconst 1, 1) := by decide +kernel
theorem dX1_proceed_155 : decode cX1_proceed 155 = .ok (.if_icmp .eq 5, 3) := by decide +kernel
theorem dX1_proceed_158 : decode cX1_proceed 158 = .ok (.iconst 0, 1) := by decide +kernel
theorem dX1_proceed_159 : decode cX1_proceed 159 = .ok (.ireturn, 1) := by decide +kernel
theorem dX1_proceed_160 : decode cX1_proceed 160 = .ok (.aload_n 0, 1) := by decide +kernel
theorem dX1_proceed_161 : decode cX1_proceed 161 = .ok (.aload_n 2, 1) := by decide +kernel
theorem dX1_proceed_162 : decode cX1_proceed 162 = .ok (.invokevirtual 117, 3) := by decide +kernel
theorem dX1_proceed_165 : decode cX1_proceed 165 = .ok (.iconst 1, 1) := by decide +kernel
theorem dX1_proceed_166 : decode cX1_proceed 166 = .ok (.ireturn, 1) := by decide +kernel
theorem dX1_setCell_0 : decode cX1_setCell 0 = .ok (.iload_n 1, 1) := by decide +kernel
theorem dX1_setCell_1 : decode cX1_setCell 1 = .ok (.ifCond .lt 12, 3) := by decide +kernel
theorem dX1_setCell_4 : decode cX1_setCell 4 = .ok (.iload_n 1, 1) := by decide +kernel
theorem dX1_setCell_5 : decode cX1_setCell 5 = .ok (.aload_n 0, 1) := by decide +kernel
theorem dX1_setCell_6 : decode cX1_setCell 6 = .ok (.getfield 29, 3) := by decide +kernel
theorem dX1_setCell_9 : decode cX1_setCell 9 = .ok (.arraylength, 1) := by decide +kernel
theorem dX1_setCell_10 : decode cX1_setCell 10 = .ok (.if_icmp .lt 4, 3) := by decide +kernel
theorem dX1_setCell_13 : decode cX1_setCell 13 = .ok (.return_, 1) := by decide +kernel
theorem dX1_setCell_14 : decode cX1_setCell 14 = .ok (.aload_n 0, 1) := by decide +kernel
theorem dX1_setCell_15 : decode cX1_setCell 15 = .ok (.getfield 77, 3) := by decide +kernel
theorem dX1_setCell_18 : decode cX1_setCell 18 = .ok (.aload_n 0, 1) := by decide +kernel
theorem dX1_setCell_19 : decode cX1_setCell 19 = .ok (.getfield 48, 3) := by decide +kernel
theorem dX1_setCell_22 : decode cX1_setCell 22 = .ok (.arraylength, 1) := by decide +kernel
theorem dX1_setCell_23 : decode cX1_setCell 23 = .ok (.if_icmp .lt 31, 3) := by decide +kernel
theorem dX1_setCell_26 : decode cX1_setCell 26 = .ok (.aload_n 0, 1) := by decide +kernel
theorem dX1_setCell_27 : decode cX1_setCell 27 = .ok (.getfield 48, 3) := by decide +kernel
theorem dX1_setCell_30 : decode cX1_setCell 30 = .ok (.arraylength, 1) := by decide +kernel
theorem dX1_setCell_31 : decode cX1_setCell 31 = .ok (.ldc 249, 2) := by decide +kernel
theorem dX1_setCell_33 : decode cX1_setCell 33 = .ok (.if_icmp .ge 21, 3) := by decide +kernel
theorem dX1_setCell_36 : decode cX1_setCell 36 = .ok (.aload_n 0, 1) := by decide +kernel
theorem dX1_setCell_37 : decode cX1_setCell 37 = .ok (.aload_n 0, 1) := by decide +kernel
theorem dX1_setCell_38 : decode cX1_setCell 38 = .ok (.getfield 48, 3) := by decide +kernel
theorem dX1_setCell_41 : decode cX1_setCell 41 = .ok (.aload_n 0, 1) := by decide +kernel
theorem dX1_setCell_42 : decode cX1_setCell 42 = .ok (.getfield 48, 3) := by decide +kernel
theorem dX1_setCell_45 : decode cX1_setCell 45 = .ok (.arraylength, 1) := by decide +kernel
theorem dX1_setCell_46 : decode cX1_setCell 46 = .ok (.iconst 2, 1) := by decide +kernel
theorem dX1_setCell_47 : decode cX1_setCell 47 = .ok (.imul, 1) := by decide +kernel
theorem dX1_setCell_48 : decode cX1_setCell 48 = .ok (.invokestatic 250, 3) := by decide +kernel
theorem dX1_setCell_51 : decode cX1_setCell 51 = .ok (.putfield 48, 3) := by decide +kernel
theorem dX1_setCell_54 : decode cX1_setCell 54 = .ok (.aload_n 0, 1) := by decide +kernel
theorem dX1_setCell_55 : decode cX1_setCell 55 = .ok (.getfield 77, 3) := by decide +kernel
theorem dX1_setCell_58 : decode cX1_setCell 58 = .ok (.ifCond .lt 45, 3) := by decide +kernel
theorem dX1_setCell_61 : decode cX1_setCell 61 = .ok (.aload_n 0, 1) := by decide +kernel
theorem dX1_setCell_62 : decode cX1_setCell 62 = .ok (.getfield 77, 3) := by decide +kernel
theorem dX1_setCell_65 : decode cX1_setCell 65 = .ok (.aload_n 0, 1) := by decide +kernel
theorem dX1_setCell_66 : decode cX1_setCell 66 = .ok (.getfield 48, 3) := by decide +kernel
theorem dX1_setCell_69 : decode cX1_setCell 69 = .ok (.arraylength, 1) := by decide +kernel
theorem dX1_setCell_70 : decode cX1_setCell 70 = .ok (.if_icmp .ge 33, 3) := by decide +kernel
theorem dX1_setCell_73 : decode cX1_setCell 73 = .ok (.aload_n 0, 1) := by decide +kernel
theorem dX1_setCell_74 : decode cX1_setCell 74 = .ok (.getfield 48, 3) := by decide +kernel
theorem dX1_setCell_77 : decode cX1_setCell 77 = .ok (.aload_n 0, 1) := by decide +kernel
theorem dX1_setCell_78 : decode cX1_setCell 78 = .ok (.getfield 77, 3) := by decide +kernel
theorem dX1_setCell_81 : decode cX1_setCell 81 = .ok (.iload_n 1, 1) := by decide +kernel
theorem dX1_setCell_82 : decode cX1_setCell 82 = .ok (.ldc 254, 2) := by decide +kernel
theorem dX1_setCell_84 : decode cX1_setCell 84 = .ok (.imul, 1) := by decide +kernel
theorem dX1_setCell_85 : decode cX1_setCell 85 = .ok (.aload_n 0, 1) := by decide +kernel
theorem dX1_setCell_86 : decode cX1_setCell 86 = .ok (.getfield 29, 3) := by decide +kernel
theorem dX1_setCell_89 : decode cX1_setCell 89 = .ok (.iload_n 1, 1) := by decide +kernel
theorem dX1_setCell_90 : decode cX1_setCell 90 = .ok (.iaload, 1) := by decide +kernel
theorem dX1_setCell_91 : decode cX1_setCell 91 = .ok (.iadd, 1) := by decide +kernel
theorem dX1_setCell_92 : decode cX1_setCell 92 = .ok (.iastore, 1) := by decide +kernel
theorem dX1_setCell_93 : decode cX1_setCell 93 = .ok (.aload_n 0, 1) := by decide +kernel
theorem dX1_setCell_94 : decode cX1_setCell 94 = .ok (.dup, 1) := by decide +kernel
theorem dX1_setCell_95 : decode cX1_setCell 95 = .ok (.getfield 77, 3) := by decide +kernel
theorem dX1_setCell_98 : decode cX1_setCell 98 = .ok (.iconst 1, 1) := by decide +kernel
theorem dX1_setCell_99 : decode cX1_setCell 99 = .ok (.iadd, 1) := by decide +kernel
theorem dX1_setCell_100 : decode cX1_setCell 100 = .ok (.putfield 77, 3) := by decide +kernel
theorem dX1_setCell_103 : decode cX1_setCell 103 = .ok (.aload_n 0, 1) := by decide +kernel
theorem dX1_setCell_104 : decode cX1_setCell 104 = .ok (.getfield 29, 3) := by decide +kernel
theorem dX1_setCell_107 : decode cX1_setCell 107 = .ok (.iload_n 1, 1) := by decide +kernel
theorem dX1_setCell_108 : decode cX1_setCell 108 = .ok (.iload_n 2, 1) := by decide +kernel
theorem dX1_setCell_109 : decode cX1_setCell 109 = .ok (.iastore, 1) := by decide +kernel
theorem dX1_setCell_110 : decode cX1_setCell 110 = .ok (.return_, 1) := by decide +kernel
theorem dX1_tryFrom_0 : decode cX1_tryFrom 0 = .ok (.aload_n 0, 1) := by decide +kernel
theorem dX1_tryFrom_1 : decode cX1_tryFrom 1 = .ok (.invokevirtual 140, 3) := by decide +kernel
theorem dX1_tryFrom_4 : decode cX1_tryFrom 4 = .ok (.ifCond .eq 50, 3) := by decide +kernel
theorem dX1_tryFrom_7 : decode cX1_tryFrom 7 = .ok (.aload_n 0, 1) := by decide +kernel
theorem dX1_tryFrom_8 : decode cX1_tryFrom 8 = .ok (.iconst 3, 1) := by decide +kernel
theorem dX1_tryFrom_9 : decode cX1_tryFrom 9 = .ok (.aload_n 0, 1) := by decide +kernel
theorem dX1_tryFrom_10 : decode cX1_tryFrom 10 = .ok (.getfield 68, 3) := by decide +kernel
theorem dX1_tryFrom_13 : decode cX1_tryFrom 13 = .ok (.invokevirtual 198, 3) := by decide +kernel
theorem dX1_tryFrom_16 : decode cX1_tryFrom 16 = .ok (.aload_n 0, 1) := by decide +kernel
theorem dX1_tryFrom_17 : decode cX1_tryFrom 17 = .ok (.aload_n 0, 1) := by decide +kernel
theorem dX1_tryFrom_18 : decode cX1_tryFrom 18 = .ok (.getfield 68, 3) := by decide +kernel
theorem dX1_tryFrom_21 : decode cX1_tryFrom 21 = .ok (.ifCond .lt 25, 3) := by decide +kernel
theorem dX1_tryFrom_24 : decode cX1_tryFrom 24 = .ok (.aload_n 0, 1) := by decide +kernel
theorem dX1_tryFrom_25 : decode cX1_tryFrom 25 = .ok (.getfield 68, 3) := by decide +kernel
theorem dX1_tryFrom_28 : decode cX1_tryFrom 28 = .ok (.sipush 256, 3) := by decide +kernel
theorem dX1_tryFrom_31 : decode cX1_tryFrom 31 = .ok (.if_icmp .ge 15, 3) := by decide +kernel
theorem dX1_tryFrom_34 : decode cX1_tryFrom 34 = .ok (.aload_n 0, 1) := by decide +kernel
theorem dX1_tryFrom_35 : decode cX1_tryFrom 35 = .ok (.getfield 39, 3) := by decide +kernel
theorem dX1_tryFrom_38 : decode cX1_tryFrom 38 = .ok (.aload_n 0, 1) := by decide +kernel
theorem dX1_tryFrom_39 : decode cX1_tryFrom 39 = .ok (.getfield 68, 3) := by decide +kernel
theorem dX1_tryFrom_42 : decode cX1_tryFrom 42 = .ok (.iaload, 1) := by decide +kernel
theorem dX1_tryFrom_43 : decode cX1_tryFrom 43 = .ok (.goto 4, 3) := by decide +kernel
theorem dX1_tryFrom_46 : decode cX1_tryFrom 46 = .ok (.iconst 0, 1) := by decide +kernel
theorem dX1_tryFrom_47 : decode cX1_tryFrom 47 = .ok (.putfield 65, 3) := by decide +kernel
theorem dX1_tryFrom_50 : decode cX1_tryFrom 50 = .ok (.aload_n 0, 1) := by decide +kernel
theorem dX1_tryFrom_51 : decode cX1_tryFrom 51 = .ok (.invokevirtual 168, 3) := by decide +kernel
theorem dX1_tryFrom_54 : decode cX1_tryFrom 54 = .ok (.return_, 1) := by decide +kernel
theorem dX1_turn_0 : decode cX1_turn 0 = .ok (.aload_n 0, 1) := by decide +kernel
theorem dX1_turn_1 : decode cX1_turn 1 = .ok (.invokevirtual 140, 3) := by decide +kernel
theorem dX1_turn_4 : decode cX1_turn 4 = .ok (.ifCond .eq 40, 3) := by decide +kernel
theorem dX1_turn_7 : decode cX1_turn 7 = .ok (.aload_n 0, 1) := by decide +kernel
theorem dX1_turn_8 : decode cX1_turn 8 = .ok (.aload_n 0, 1) := by decide +kernel
theorem dX1_turn_9 : decode cX1_turn 9 = .ok (.getfield 68, 3) := by decide +kernel
theorem dX1_turn_12 : decode cX1_turn 12 = .ok (.invokevirtual 204, 3) := by decide +kernel
theorem dX1_turn_15 : decode cX1_turn 15 = .ok (.sipush 128, 3) := by decide +kernel
theorem dX1_turn_18 : decode cX1_turn 18 = .ok (.idiv, 1) := by decide +kernel
theorem dX1_turn_19 : decode cX1_turn 19 = .ok (.iconst 1, 1) := by decide +kernel
theorem dX1_turn_20 : decode cX1_turn 20 = .ok (.iadd, 1) := by decide +kernel
theorem dX1_turn_21 : decode cX1_turn 21 = .ok (.istore_n 1, 1) := by decide +kernel
theorem dX1_turn_22 : decode cX1_turn 22 = .ok (.aload_n 0, 1) := by decide +kernel
theorem dX1_turn_23 : decode cX1_turn 23 = .ok (.aload_n 0, 1) := by decide +kernel
theorem dX1_turn_24 : decode cX1_turn 24 = .ok (.getfield 68, 3) := by decide +kernel
theorem dX1_turn_27 : decode cX1_turn 27 = .ok (.iload_n 1, 1) := by decide +kernel
theorem dX1_turn_28 : decode cX1_turn 28 = .ok (.sipush 128, 3) := by decide +kernel
theorem dX1_turn_31 : decode cX1_turn 31 = .ok (.imul, 1) := by decide +kernel
theorem dX1_turn_32 : decode cX1_turn 32 = .ok (.aload_n 0, 1) := by decide +kernel
theorem dX1_turn_33 : decode cX1_turn 33 = .ok (.getfield 65, 3) := by decide +kernel
theorem dX1_turn_36 : decode cX1_turn 36 = .ok (.iadd, 1) := by decide +kernel
theorem dX1_turn_37 : decode cX1_turn 37 = .ok (.invokevirtual 165, 3) := by decide +kernel
theorem dX1_turn_40 : decode cX1_turn 40 = .ok (.aload_n 0, 1) := by decide +kernel
theorem dX1_turn_41 : decode cX1_turn 41 = .ok (.invokevirtual 168, 3) := by decide +kernel
theorem dX1_turn_44 : decode cX1_turn 44 = .ok (.return_, 1) := by decide +kernel
def w_X1_keepChoice_133 (nv_choices : Nat) (nv_heights : Nat) (h1 : Nat) (h2 : Nat) (Q : Int32 → Nat → (Nat → Int32) → Nat → Nat → (Nat → Int32) → Nat → Prop) (v_choiceCount_133 : Int32) (v_choices_133 : Nat → Int32) (v_heights_133 : Nat → Int32) : Prop :=
  Q  v_choiceCount_133 h1 v_choices_133 nv_choices h2 v_heights_133 nv_heights
def w_X1_keepChoice_56 (p1 : Int32) (p2 : Int32) (v_place : Int32) (v_trailCount : Int32) (nv_choices : Nat) (nv_heights : Nat) (h1 : Nat) (h2 : Nat) (Q : Int32 → Nat → (Nat → Int32) → Nat → Nat → (Nat → Int32) → Nat → Prop) (v_choiceCount_56 : Int32) (v_choices_56 : Nat → Int32) (v_heights_56 : Nat → Int32) : Prop :=
  ((v_choiceCount_56 < 0) → w_X1_keepChoice_133 nv_choices nv_heights h1 h2 Q v_choiceCount_56 v_choices_56 v_heights_56) ∧ ((¬ v_choiceCount_56 < 0) → ∀ x_6 : Int32, x_6 = Int32.ofNat nv_choices → nv_choices ≤ 524288 → ((x_6 ≤ v_choiceCount_56) → w_X1_keepChoice_133 nv_choices nv_heights h1 h2 Q v_choiceCount_56 v_choices_56 v_heights_56) ∧ ((¬ x_6 ≤ v_choiceCount_56) → ∀ x_9 : Int32, x_9 = Int32.ofNat nv_heights → nv_heights ≤ 524288 → ((x_9 ≤ v_choiceCount_56) → w_X1_keepChoice_133 nv_choices nv_heights h1 h2 Q v_choiceCount_56 v_choices_56 v_heights_56) ∧ ((¬ x_9 ≤ v_choiceCount_56) → ∀ x_13 : Int32, x_13 = p2 * (4 : Int32) → ∀ x_14 : Int32, x_14 = x_13 + p1 → ∀ x_15 : Int32, x_15 = x_14 * (128 : Int32) → ∀ x_16 : Int32, x_16 = x_15 + v_place → vp_in v_choiceCount_56 nv_choices ∧ ∀ g_18 : Nat → Int32, g_18 = upd v_choices_56 v_choiceCount_56.toNatClampNeg x_16 → vp_in v_choiceCount_56 nv_heights ∧ ∀ g_19 : Nat → Int32, g_19 = upd v_heights_56 v_choiceCount_56.toNatClampNeg v_trailCount → ∀ x_20 : Int32, x_20 = v_choiceCount_56 + (1 : Int32) → w_X1_keepChoice_133 nv_choices nv_heights h1 h2 Q x_20 g_18 g_19)))
def w_X1_keepChoice_200133 (Q : Int32 → Nat → (Nat → Int32) → Nat → Nat → (Nat → Int32) → Nat → Prop) (v_choiceCount_200133 : Int32) (v_choices_200133 : Nat → Int32) (v_heights_200133 : Nat → Int32) (hN34_200133 : Nat) (vN34_200133 : Nat → Int32) (nN34_200133 : Nat) (hN50_200133 : Nat) (vN50_200133 : Nat → Int32) (nN50_200133 : Nat) : Prop :=
  Q  v_choiceCount_200133 hN34_200133 vN34_200133 nN34_200133 hN50_200133 vN50_200133 nN50_200133
def w_X1_keepChoice (p1 : Int32) (p2 : Int32) (v_place : Int32) (v_choiceCount : Int32) (v_trailCount : Int32) (v_choices : Nat → Int32) (nv_choices : Nat) (v_heights : Nat → Int32) (nv_heights : Nat) (h1 : Nat) (h2 : Nat) (Q : Int32 → Nat → (Nat → Int32) → Nat → Nat → (Nat → Int32) → Nat → Prop) : Prop :=
  ∀ x_1 : Int32, x_1 = Int32.ofNat nv_choices → nv_choices ≤ 524288 → ((v_choiceCount < x_1) → w_X1_keepChoice_56 p1 p2 v_place v_trailCount nv_choices nv_heights h1 h2 Q v_choiceCount v_choices v_heights) ∧ ((¬ v_choiceCount < x_1) → ∀ x_24 : Int32, x_24 = Int32.ofNat nv_choices → nv_choices ≤ 524288 → ((262144 ≤ x_24) → w_X1_keepChoice_56 p1 p2 v_place v_trailCount nv_choices nv_heights h1 h2 Q v_choiceCount v_choices v_heights) ∧ ((¬ 262144 ≤ x_24) → ∀ x_28 : Int32, x_28 = Int32.ofNat nv_choices → nv_choices ≤ 524288 → ∀ x_30 : Int32, x_30 = x_28 * (2 : Int32) → ¬ x_30 < 0 ∧ x_30.toNatClampNeg = 2 * nv_choices ∧ nv_choices < 262144 ∧ ∀ (g_31 : Nat → Int32) (ra_31 : Nat), ∀ x_34 : Int32, x_34 = Int32.ofNat (2 * nv_choices) → (2 * nv_choices) ≤ 524288 → ¬ x_34 < 0 ∧ x_34.toNatClampNeg = 2 * nv_heights ∧ ∀ (g_36 : Nat → Int32) (ra_36 : Nat), ((v_choiceCount < 0) → w_X1_keepChoice_200133 Q v_choiceCount v_choices v_heights ra_31 g_31 (2 * nv_choices) ra_36 g_36 (2 * nv_heights)) ∧ ((¬ v_choiceCount < 0) → ∀ x_44 : Int32, x_44 = Int32.ofNat (2 * nv_choices) → (2 * nv_choices) ≤ 524288 → ((x_44 ≤ v_choiceCount) → w_X1_keepChoice_200133 Q v_choiceCount v_choices v_heights ra_31 g_31 (2 * nv_choices) ra_36 g_36 (2 * nv_heights)) ∧ ((¬ x_44 ≤ v_choiceCount) → ∀ x_47 : Int32, x_47 = Int32.ofNat (2 * nv_heights) → (2 * nv_heights) ≤ 524288 → ((x_47 ≤ v_choiceCount) → w_X1_keepChoice_200133 Q v_choiceCount v_choices v_heights ra_31 g_31 (2 * nv_choices) ra_36 g_36 (2 * nv_heights)) ∧ ((¬ x_47 ≤ v_choiceCount) → ∀ x_51 : Int32, x_51 = p2 * (4 : Int32) → ∀ x_52 : Int32, x_52 = x_51 + p1 → ∀ x_53 : Int32, x_53 = x_52 * (128 : Int32) → ∀ x_54 : Int32, x_54 = x_53 + v_place → vp_in v_choiceCount (2 * nv_choices) ∧ ∀ g_56 : Nat → Int32, g_56 = upd g_31 v_choiceCount.toNatClampNeg x_54 → vp_in v_choiceCount (2 * nv_heights) ∧ ∀ g_57 : Nat → Int32, g_57 = upd g_36 v_choiceCount.toNatClampNeg v_trailCount → ∀ x_58 : Int32, x_58 = v_choiceCount + (1 : Int32) → w_X1_keepChoice_200133 Q x_58 v_choices v_heights ra_31 g_56 (2 * nv_choices) ra_36 g_57 (2 * nv_heights))))))
set_option maxHeartbeats 4000000 in
set_option maxRecDepth 100000 in
theorem mt_X1_keepChoice (l : Launch) (dC : Nat → ClassId) (dI : Nat → Nat → Nat) (h0 h1 h2 h3 h4 h5 h6 h7 h8 h9 : Nat) (k0 k1 k2 : ClassId) (p1 : Int32) (p2 : Int32) (v_steps : Int32) (v_wholeOnly : Bool) (v_start : Int32) (v_mode : Int32) (v_node : Int32) (v_place : Int32) (v_limit : Int32) (v_verdict : Int32) (v_choiceCount : Int32) (v_trailCount : Int32) (v_choices : Nat → Int32) (nv_choices : Nat) (v_heights : Nat → Int32) (nv_heights : Nat) (v_trail : Nat → Int32) (nv_trail : Nat) (Q : Int32 → Nat → (Nat → Int32) → Nat → Nat → (Nat → Int32) → Nat → Prop) (w : w_X1_keepChoice p1 p2 v_place v_choiceCount v_trailCount v_choices nv_choices v_heights nv_heights h1 h2 Q) (sz : Nat) (su qc qs : Nat) (hL : gLn nv_choices nv_heights nv_trail qc qs) : Met l yX1_keepChoice (WS yX1_keepChoice cX1_keepChoice 3 none) ({ frames := 2, cells := qc, slots := qs, locals := 62 } : Room) (va_Pc [.ref h0, .int p1, .int p2] (fun U => U.heap.size = sz ∧ hsum U.heap = su ∧ va_P (dC, dI) vwCl [(h0, .inr (4, oX1 v_steps (.ref h4) (.ref h5) v_wholeOnly v_start v_mode v_node v_place v_limit v_verdict (.ref h6) (.ref h7) (.ref h8) (.ref h9) (.ref h1) (.ref h2) v_choiceCount (.ref h3) v_trailCount)), (h1, .inl (k0, nv_choices, .inl v_choices)), (h2, .inl (k1, nv_heights, .inl v_heights)), (h3, .inl (k2, nv_trail, .inl v_trail))] U.heap ∧ va_K (dC, dI) vwCl [(k0, .int), (k1, .int), (k2, .int)] U ∧ va_D (fun _ => True) [(h0, .inr (4, oX1 v_steps (.ref h4) (.ref h5) v_wholeOnly v_start v_mode v_node v_place v_limit v_verdict (.ref h6) (.ref h7) (.ref h8) (.ref h9) (.ref h1) (.ref h2) v_choiceCount (.ref h3) v_trailCount)), (h1, .inl (k0, nv_choices, .inl v_choices)), (h2, .inl (k1, nv_heights, .inl v_heights)), (h3, .inl (k2, nv_trail, .inl v_trail))])) (va_Qv (fun (u : Nat) => u = 0) (fun (_ : Nat) (t : State) => ∃ (ov_choiceCount : Int32), ∃ (oh1 : Nat), ∃ (ov_choices : Nat → Int32), ∃ (onv_choices : Nat), ∃ (oh2 : Nat), ∃ (ov_heights : Nat → Int32), ∃ (onv_heights : Nat), ∃ (q1 : Nat), ∃ (q2 : Nat), (Q ov_choiceCount oh1 ov_choices onv_choices oh2 ov_heights onv_heights) ∧ (gLn onv_choices onv_heights nv_trail q1 q2 ∧ q1 ≤ qc ∧ q2 ≤ qs ∧ t.heap.size + q1 ≤ sz + qc ∧ hsum t.heap + q2 ≤ su + qs) ∧ va_P (dC, dI) vwCl [(h0, .inr (4, oX1 v_steps (.ref h4) (.ref h5) v_wholeOnly v_start v_mode v_node v_place v_limit v_verdict (.ref h6) (.ref h7) (.ref h8) (.ref h9) (.ref oh1) (.ref oh2) ov_choiceCount (.ref h3) v_trailCount)), (oh1, .inl (k0, onv_choices, .inl ov_choices)), (oh2, .inl (k1, onv_heights, .inl ov_heights)), (h3, .inl (k2, nv_trail, .inl v_trail))] t.heap ∧ va_D (va_A [(h0, .inr (4, oX1 v_steps (.ref h4) (.ref h5) v_wholeOnly v_start v_mode v_node v_place v_limit v_verdict (.ref h6) (.ref h7) (.ref h8) (.ref h9) (.ref h1) (.ref h2) v_choiceCount (.ref h3) v_trailCount)), (h1, .inl (k0, nv_choices, .inl v_choices)), (h2, .inl (k1, nv_heights, .inl v_heights)), (h3, .inl (k2, nv_trail, .inl v_trail))] sz) [(h0, .inr (4, oX1 v_steps (.ref h4) (.ref h5) v_wholeOnly v_start v_mode v_node v_place v_limit v_verdict (.ref h6) (.ref h7) (.ref h8) (.ref h9) (.ref oh1) (.ref oh2) ov_choiceCount (.ref h3) v_trailCount)), (oh1, .inl (k0, onv_choices, .inl ov_choices)), (oh2, .inl (k1, onv_heights, .inl ov_heights)), (h3, .inl (k2, nv_trail, .inl v_trail))]) (va_A [(h0, .inr (4, oX1 v_steps (.ref h4) (.ref h5) v_wholeOnly v_start v_mode v_node v_place v_limit v_verdict (.ref h6) (.ref h7) (.ref h8) (.ref h9) (.ref h1) (.ref h2) v_choiceCount (.ref h3) v_trailCount)), (h1, .inl (k0, nv_choices, .inl v_choices)), (h2, .inl (k1, nv_heights, .inl v_heights)), (h3, .inl (k2, nv_trail, .inl v_trail))] sz)) qc qs (va_A [(h0, .inr (4, oX1 v_steps (.ref h4) (.ref h5) v_wholeOnly v_start v_mode v_node v_place v_limit v_verdict (.ref h6) (.ref h7) (.ref h8) (.ref h9) (.ref h1) (.ref h2) v_choiceCount (.ref h3) v_trailCount)), (h1, .inl (k0, nv_choices, .inl v_choices)), (h2, .inl (k1, nv_heights, .inl v_heights)), (h3, .inl (k2, nv_trail, .inl v_trail))] sz) := by
  refine Met.ofW (cc := cX1_keepChoice) (maxL := 3) (ret := none) (by decide) rfl ?_
  intro p e s m args below meth c s₁ B hml hv
  obtain ⟨rfl, hsz, hsu, hP, hK, hD0⟩ := hv
  have hx := B.exec
  have hb := B.bytes
  have hr := B.returns
  have hts := atoms_spec (ws := WS yX1_keepChoice cX1_keepChoice 3 none) B.pre
  have ht : ∀ w ∈ TW, w.before _ s = true := fun w h => hts w (List.mem_cons_of_mem _ h)
  have hown : s.vm.findClass "PatternWorkshop$GoingBack" = some m.cls := findClass_of_methodNamed B.named
  have hlocks := B.notSynchronized
  subst hsz
  subst hsu
  have hD := hD0.self (sz := s.heap.size)
  generalize hAe : va_A [(h0, .inr (4, oX1 v_steps (.ref h4) (.ref h5) v_wholeOnly v_start v_mode v_node v_place v_limit v_verdict (.ref h6) (.ref h7) (.ref h8) (.ref h9) (.ref h1) (.ref h2) v_choiceCount (.ref h3) v_trailCount)), (h1, .inl (k0, nv_choices, .inl v_choices)), (h2, .inl (k1, nv_heights, .inl v_heights)), (h3, .inl (k2, nv_trail, .inl v_trail))] s.heap.size = A at hD ⊢
  have hA : ∀ q : Nat, s.heap.size ≤ q → A q := fun q h => by rw [← hAe]; exact Or.inr h
  have hS : va_S A s.heap s.heap [] := va_S.rf
  have hP : va_P (dC, dI) vwCl [(h0, .inr (4, oX1 v_steps (.ref h4) (.ref h5) v_wholeOnly v_start v_mode v_node v_place v_limit v_verdict (.ref h6) (.ref h7) (.ref h8) (.ref h9) (.ref h1) (.ref h2) v_choiceCount (.ref h3) v_trailCount)), (h1, .inl (k0, nv_choices, .inl v_choices)), (h2, .inl (k1, nv_heights, .inl v_heights)), (h3, .inl (k2, nv_trail, .inl v_trail))] s.heap := hP
  have hl := lv_entry ([.ref h0, .int p1, .int p2]) (n := 3) (Nat.le_of_ble_eq_true rfl)
  rw [lg_entry_eq]
  generalize (lg_sl ([.ref h0, .int p1, .int p2]) ++ List.replicate (3 - (lg_sl ([.ref h0, .int p1, .int p2])).length) Slot.unset).toArray = ls at hl ⊢
  have hl : lv_has ls 3 [(0, .ref h0), (1, .int p1), (2, .int p2)] := hl
  clear hD0
  obtain ⟨QQ, hQQ⟩ : ∃ QQ, QQ = MQ below (va_Qv (fun (u : Nat) => u = 0) (fun (_ : Nat) (t : State) => ∃ (ov_choiceCount : Int32), ∃ (oh1 : Nat), ∃ (ov_choices : Nat → Int32), ∃ (onv_choices : Nat), ∃ (oh2 : Nat), ∃ (ov_heights : Nat → Int32), ∃ (onv_heights : Nat), ∃ (q1 : Nat), ∃ (q2 : Nat), (Q ov_choiceCount oh1 ov_choices onv_choices oh2 ov_heights onv_heights) ∧ (gLn onv_choices onv_heights nv_trail q1 q2 ∧ q1 ≤ qc ∧ q2 ≤ qs ∧ t.heap.size + q1 ≤ s.heap.size + qc ∧ hsum t.heap + q2 ≤ hsum s.heap + qs) ∧ va_P (dC, dI) vwCl [(h0, .inr (4, oX1 v_steps (.ref h4) (.ref h5) v_wholeOnly v_start v_mode v_node v_place v_limit v_verdict (.ref h6) (.ref h7) (.ref h8) (.ref h9) (.ref oh1) (.ref oh2) ov_choiceCount (.ref h3) v_trailCount)), (oh1, .inl (k0, onv_choices, .inl ov_choices)), (oh2, .inl (k1, onv_heights, .inl ov_heights)), (h3, .inl (k2, nv_trail, .inl v_trail))] t.heap ∧ va_D A [(h0, .inr (4, oX1 v_steps (.ref h4) (.ref h5) v_wholeOnly v_start v_mode v_node v_place v_limit v_verdict (.ref h6) (.ref h7) (.ref h8) (.ref h9) (.ref oh1) (.ref oh2) ov_choiceCount (.ref h3) v_trailCount)), (oh1, .inl (k0, onv_choices, .inl ov_choices)), (oh2, .inl (k1, onv_heights, .inl ov_heights)), (h3, .inl (k2, nv_trail, .inl v_trail))]) A) ([.ref h0, .int p1, .int p2]).toArray s qc qs A := ⟨_, rfl⟩
  show W p l e ({ frames := 2, cells := qc, slots := qs, locals := 62 } : Room) s m ([.ref h0, .int p1, .int p2]).toArray below meth c s.heap [] 0 0 (MQ below (va_Qv (fun (u : Nat) => u = 0) (fun (_ : Nat) (t : State) => ∃ (ov_choiceCount : Int32), ∃ (oh1 : Nat), ∃ (ov_choices : Nat → Int32), ∃ (onv_choices : Nat), ∃ (oh2 : Nat), ∃ (ov_heights : Nat → Int32), ∃ (onv_heights : Nat), ∃ (q1 : Nat), ∃ (q2 : Nat), (Q ov_choiceCount oh1 ov_choices onv_choices oh2 ov_heights onv_heights) ∧ (gLn onv_choices onv_heights nv_trail q1 q2 ∧ q1 ≤ qc ∧ q2 ≤ qs ∧ t.heap.size + q1 ≤ s.heap.size + qc ∧ hsum t.heap + q2 ≤ hsum s.heap + qs) ∧ va_P (dC, dI) vwCl [(h0, .inr (4, oX1 v_steps (.ref h4) (.ref h5) v_wholeOnly v_start v_mode v_node v_place v_limit v_verdict (.ref h6) (.ref h7) (.ref h8) (.ref h9) (.ref oh1) (.ref oh2) ov_choiceCount (.ref h3) v_trailCount)), (oh1, .inl (k0, onv_choices, .inl ov_choices)), (oh2, .inl (k1, onv_heights, .inl ov_heights)), (h3, .inl (k2, nv_trail, .inl v_trail))] t.heap ∧ va_D A [(h0, .inr (4, oX1 v_steps (.ref h4) (.ref h5) v_wholeOnly v_start v_mode v_node v_place v_limit v_verdict (.ref h6) (.ref h7) (.ref h8) (.ref h9) (.ref oh1) (.ref oh2) ov_choiceCount (.ref h3) v_trailCount)), (oh1, .inl (k0, onv_choices, .inl ov_choices)), (oh2, .inl (k1, onv_heights, .inl ov_heights)), (h3, .inl (k2, nv_trail, .inl v_trail))]) A) ([.ref h0, .int p1, .int p2]).toArray s qc qs A) (F0 m 0 ls [])
  rw [← hQQ]
  refine W_0 (qc := qc) (qs := qs) ?_
  have hq1 : qc ≤ qc := Nat.le_refl _
  have hq2 : qs ≤ qs := Nat.le_refl _
  unfold w_X1_keepChoice at w
  refine lv_aload_n hx hb dX1_keepChoice_0 rfl (lv_at hl 0 rfl) ?_
  refine va_get (D := (dC, dI)) (ci := 4) (v := .int v_choiceCount) (C := RX1) (T := TX1) (N := 19) hx hb ht inX1 hown hK hP 0 rfl rfl 16 (by decide) (ht _ tw_537) (fun _ h9 => h9) rfl dX1_keepChoice_1 ?_
  refine lv_aload_n hx hb dX1_keepChoice_4 rfl (lv_at hl 0 rfl) ?_
  refine va_get (D := (dC, dI)) (ci := 4) (v := .ref h1) (C := RX1) (T := TX1) (N := 19) hx hb ht inX1 hown hK hP 0 rfl rfl 14 (by decide) (ht _ tw_535) (fun _ h9 => h9) rfl dX1_keepChoice_5 ?_
  refine va_alen hx hb hK hP 1 0 rfl rfl rfl dX1_keepChoice_8 ?_
  refine lv_topi (fun x_1 ex_1 => ?_)
  have ex_1 : x_1 = Int32.ofNat nv_choices := ex_1
  have hn_2 : nv_choices ≤ 524288 := by have h9 := gLn_b hL; omega
  have k_56 : ∀ (v_choiceCount_56 : Int32) (v_choices_56 : Nat → Int32) (v_heights_56 : Nat → Int32), ∀ (H_b56 : Heap) (locs_b56 : List Loc) (ls_b56 : Array Slot) (q1_b56 q2_b56 : Nat), w_X1_keepChoice_56 p1 p2 v_place v_trailCount nv_choices nv_heights h1 h2 Q v_choiceCount_56 v_choices_56 v_heights_56 → va_P (dC, dI) vwCl [(h0, .inr (4, oX1 v_steps (.ref h4) (.ref h5) v_wholeOnly v_start v_mode v_node v_place v_limit v_verdict (.ref h6) (.ref h7) (.ref h8) (.ref h9) (.ref h1) (.ref h2) v_choiceCount_56 (.ref h3) v_trailCount)), (h1, .inl (k0, nv_choices, .inl v_choices_56)), (h2, .inl (k1, nv_heights, .inl v_heights_56)), (h3, .inl (k2, nv_trail, .inl v_trail))] H_b56 → va_D A [(h0, .inr (4, oX1 v_steps (.ref h4) (.ref h5) v_wholeOnly v_start v_mode v_node v_place v_limit v_verdict (.ref h6) (.ref h7) (.ref h8) (.ref h9) (.ref h1) (.ref h2) v_choiceCount_56 (.ref h3) v_trailCount)), (h1, .inl (k0, nv_choices, .inl v_choices_56)), (h2, .inl (k1, nv_heights, .inl v_heights_56)), (h3, .inl (k2, nv_trail, .inl v_trail))] → va_S A s.heap H_b56 locs_b56 → lv_has ls_b56 3 [(0, .ref h0), (1, .int p1), (2, .int p2)] → gLn nv_choices nv_heights nv_trail q1_b56 q2_b56 → q1_b56 ≤ qc → q2_b56 ≤ qs → W p l e ({ frames := 2, cells := qc, slots := qs, locals := 62 } : Room) s m ([.ref h0, .int p1, .int p2]).toArray below meth c H_b56 locs_b56 (qc - q1_b56) (qs - q2_b56) QQ (F0 m 56 ls_b56 []) := by
    intro v_choiceCount_56 v_choices_56 v_heights_56 H_b56 locs_b56 ls_b56 q1_b56 q2_b56 w_b56 hP_b56 hD_b56 hS_b56 hl_b56 hL_b56 hq1_b56 hq2_b56
    unfold w_X1_keepChoice_56 at w_b56
    refine lv_aload_n hx hb dX1_keepChoice_56 rfl (lv_at hl_b56 0 rfl) ?_
    refine va_get (D := (dC, dI)) (ci := 4) (v := .int v_choiceCount_56) (C := RX1) (T := TX1) (N := 19) hx hb ht inX1 hown hK hP_b56 0 rfl rfl 16 (by decide) (ht _ tw_537) (fun _ h9 => h9) rfl dX1_keepChoice_57 ?_
    have k_133 : ∀ (v_choiceCount_133 : Int32) (v_choices_133 : Nat → Int32) (v_heights_133 : Nat → Int32), ∀ (H_b133 : Heap) (locs_b133 : List Loc) (ls_b133 : Array Slot) (q1_b133 q2_b133 : Nat), w_X1_keepChoice_133 nv_choices nv_heights h1 h2 Q v_choiceCount_133 v_choices_133 v_heights_133 → va_P (dC, dI) vwCl [(h0, .inr (4, oX1 v_steps (.ref h4) (.ref h5) v_wholeOnly v_start v_mode v_node v_place v_limit v_verdict (.ref h6) (.ref h7) (.ref h8) (.ref h9) (.ref h1) (.ref h2) v_choiceCount_133 (.ref h3) v_trailCount)), (h1, .inl (k0, nv_choices, .inl v_choices_133)), (h2, .inl (k1, nv_heights, .inl v_heights_133)), (h3, .inl (k2, nv_trail, .inl v_trail))] H_b133 → va_D A [(h0, .inr (4, oX1 v_steps (.ref h4) (.ref h5) v_wholeOnly v_start v_mode v_node v_place v_limit v_verdict (.ref h6) (.ref h7) (.ref h8) (.ref h9) (.ref h1) (.ref h2) v_choiceCount_133 (.ref h3) v_trailCount)), (h1, .inl (k0, nv_choices, .inl v_choices_133)), (h2, .inl (k1, nv_heights, .inl v_heights_133)), (h3, .inl (k2, nv_trail, .inl v_trail))] → va_S A s.heap H_b133 locs_b133 → lv_has ls_b133 3 [] → gLn nv_choices nv_heights nv_trail q1_b133 q2_b133 → q1_b133 ≤ qc → q2_b133 ≤ qs → W p l e ({ frames := 2, cells := qc, slots := qs, locals := 62 } : Room) s m ([.ref h0, .int p1, .int p2]).toArray below meth c H_b133 locs_b133 (qc - q1_b133) (qs - q2_b133) QQ (F0 m 133 ls_b133 []) := by
      intro v_choiceCount_133 v_choices_133 v_heights_133 H_b133 locs_b133 ls_b133 q1_b133 q2_b133 w_b133 hP_b133 hD_b133 hS_b133 hl_b133 hL_b133 hq1_b133 hq2_b133
      unfold w_X1_keepChoice_133 at w_b133
      have hP_3 := vaPq hP_b133 (wsq := [(h0, .inr (4, oX1 v_steps (.ref h4) (.ref h5) v_wholeOnly v_start v_mode v_node v_place v_limit v_verdict (.ref h6) (.ref h7) (.ref h8) (.ref h9) (.ref h1) (.ref h2) v_choiceCount_133 (.ref h3) v_trailCount)), (h1, .inl (k0, nv_choices, .inl v_choices_133)), (h2, .inl (k1, nv_heights, .inl v_heights_133)), (h3, .inl (k2, nv_trail, .inl v_trail))]) [0, 1, 2, 3] rfl
      have hD_3 := vaDq hD_b133 (wsq := [(h0, .inr (4, oX1 v_steps (.ref h4) (.ref h5) v_wholeOnly v_start v_mode v_node v_place v_limit v_verdict (.ref h6) (.ref h7) (.ref h8) (.ref h9) (.ref h1) (.ref h2) v_choiceCount_133 (.ref h3) v_trailCount)), (h1, .inl (k0, nv_choices, .inl v_choices_133)), (h2, .inl (k1, nv_heights, .inl v_heights_133)), (h3, .inl (k2, nv_trail, .inl v_trail))]) [0, 1, 2, 3] (by decide) rfl
      refine W_gain (fun ga_4 gb_4 gc_4 gd_4 => ?_)
      refine W.widen (k := qc) (n := qs) (by omega) (by omega) ?_
      rw [hQQ]
      exact W.vret hx hb hr (fun t9 ht9 hW9 => ⟨⟨0, rfl, rfl, ⟨v_choiceCount_133, h1, v_choices_133, nv_choices, h2, v_heights_133, nv_heights, q1_b133, q2_b133, w_b133, ⟨hL_b133, hq1_b133, hq2_b133, by rw [ht9]; omega, by rw [ht9]; omega⟩, by rw [ht9]; exact hP_3, hD_3⟩⟩, hS_b133.F ht9⟩) hS_b133.2.2 dX1_keepChoice_133
    refine lv_if_lt (tgt := 133) hx hb dX1_keepChoice_60 (by decide) (fun c_5 => ?_) (fun c_5 => ?_)
    · exact k_133 v_choiceCount_56 v_choices_56 v_heights_56 _ _ _ _ _ (w_b56.1 c_5) hP_b56 hD_b56 hS_b56 (lv_sub hl_b56 [] rfl) hL_b56 hq1_b56 hq2_b56
    · refine lv_aload_n hx hb dX1_keepChoice_63 rfl (lv_at hl_b56 0 rfl) ?_
      refine va_get (D := (dC, dI)) (ci := 4) (v := .int v_choiceCount_56) (C := RX1) (T := TX1) (N := 19) hx hb ht inX1 hown hK hP_b56 0 rfl rfl 16 (by decide) (ht _ tw_537) (fun _ h9 => h9) rfl dX1_keepChoice_64 ?_
      refine lv_aload_n hx hb dX1_keepChoice_67 rfl (lv_at hl_b56 0 rfl) ?_
      refine va_get (D := (dC, dI)) (ci := 4) (v := .ref h1) (C := RX1) (T := TX1) (N := 19) hx hb ht inX1 hown hK hP_b56 0 rfl rfl 14 (by decide) (ht _ tw_535) (fun _ h9 => h9) rfl dX1_keepChoice_68 ?_
      refine va_alen hx hb hK hP_b56 1 0 rfl rfl rfl dX1_keepChoice_71 ?_
      refine lv_topi (fun x_6 ex_6 => ?_)
      have ex_6 : x_6 = Int32.ofNat nv_choices := ex_6
      have hn_7 : nv_choices ≤ 524288 := by have h9 := gLn_b hL_b56; omega
      refine lv_icmp_ge (tgt := 133) hx hb dX1_keepChoice_72 (by decide) (fun c_8 => ?_) (fun c_8 => ?_)
      · exact k_133 v_choiceCount_56 v_choices_56 v_heights_56 _ _ _ _ _ ((w_b56.2 c_5 x_6 ex_6 hn_7).1 c_8) hP_b56 hD_b56 hS_b56 (lv_sub hl_b56 [] rfl) hL_b56 hq1_b56 hq2_b56
      · refine lv_aload_n hx hb dX1_keepChoice_75 rfl (lv_at hl_b56 0 rfl) ?_
        refine va_get (D := (dC, dI)) (ci := 4) (v := .int v_choiceCount_56) (C := RX1) (T := TX1) (N := 19) hx hb ht inX1 hown hK hP_b56 0 rfl rfl 16 (by decide) (ht _ tw_537) (fun _ h9 => h9) rfl dX1_keepChoice_76 ?_
        refine lv_aload_n hx hb dX1_keepChoice_79 rfl (lv_at hl_b56 0 rfl) ?_
        refine va_get (D := (dC, dI)) (ci := 4) (v := .ref h2) (C := RX1) (T := TX1) (N := 19) hx hb ht inX1 hown hK hP_b56 0 rfl rfl 15 (by decide) (ht _ tw_536) (fun _ h9 => h9) rfl dX1_keepChoice_80 ?_
        refine va_alen hx hb hK hP_b56 2 1 rfl rfl rfl dX1_keepChoice_83 ?_
        refine lv_topi (fun x_9 ex_9 => ?_)
        have ex_9 : x_9 = Int32.ofNat nv_heights := ex_9
        have hn_10 : nv_heights ≤ 524288 := by have h9 := gLn_b hL_b56; omega
        have w_11 := (((w_b56.2 c_5 x_6 ex_6 hn_7).2 c_8) x_9 ex_9) hn_10
        refine lv_icmp_ge (tgt := 133) hx hb dX1_keepChoice_84 (by decide) (fun c_12 => ?_) (fun c_12 => ?_)
        · exact k_133 v_choiceCount_56 v_choices_56 v_heights_56 _ _ _ _ _ (w_11.1 c_12) hP_b56 hD_b56 hS_b56 (lv_sub hl_b56 [] rfl) hL_b56 hq1_b56 hq2_b56
        · refine lv_aload_n hx hb dX1_keepChoice_87 rfl (lv_at hl_b56 0 rfl) ?_
          refine va_get (D := (dC, dI)) (ci := 4) (v := .ref h1) (C := RX1) (T := TX1) (N := 19) hx hb ht inX1 hown hK hP_b56 0 rfl rfl 14 (by decide) (ht _ tw_535) (fun _ h9 => h9) rfl dX1_keepChoice_88 ?_
          refine lv_aload_n hx hb dX1_keepChoice_91 rfl (lv_at hl_b56 0 rfl) ?_
          refine va_get (D := (dC, dI)) (ci := 4) (v := .int v_choiceCount_56) (C := RX1) (T := TX1) (N := 19) hx hb ht inX1 hown hK hP_b56 0 rfl rfl 16 (by decide) (ht _ tw_537) (fun _ h9 => h9) rfl dX1_keepChoice_92 ?_
          refine lv_iload_n hx hb dX1_keepChoice_95 rfl (lv_at hl_b56 2 rfl) ?_
          refine lv_iconst (v := 4) hx hb dX1_keepChoice_96 (by decide) ?_
          refine lv_imul hx hb dX1_keepChoice_97 ?_
          refine lv_topi (fun x_13 ex_13 => ?_)
          have ex_13 : x_13 = p2 * (4 : Int32) := ex_13
          refine lv_iload_n hx hb dX1_keepChoice_98 rfl (lv_at hl_b56 1 rfl) ?_
          refine lv_iadd hx hb dX1_keepChoice_99 ?_
          refine lv_topi (fun x_14 ex_14 => ?_)
          have ex_14 : x_14 = x_13 + p1 := ex_14
          refine lv_sipush (v := 128) hx hb dX1_keepChoice_100 (by decide) ?_
          refine lv_imul hx hb dX1_keepChoice_103 ?_
          refine lv_topi (fun x_15 ex_15 => ?_)
          have ex_15 : x_15 = x_14 * (128 : Int32) := ex_15
          refine lv_aload_n hx hb dX1_keepChoice_104 rfl (lv_at hl_b56 0 rfl) ?_
          refine va_get (D := (dC, dI)) (ci := 4) (v := .int v_place) (C := RX1) (T := TX1) (N := 19) hx hb ht inX1 hown hK hP_b56 0 rfl rfl 7 (by decide) (ht _ tw_528) (fun _ h9 => h9) rfl dX1_keepChoice_105 ?_
          refine lv_iadd hx hb dX1_keepChoice_108 ?_
          refine lv_topi (fun x_16 ex_16 => ?_)
          have ex_16 : x_16 = x_15 + v_place := ex_16
          have w_17 := w_11.2 c_12 x_13 ex_13 x_14 ex_14 x_15 ex_15 x_16 ex_16
          refine va_iast hx hb hK hP_b56 hD_b56 hS_b56 1 0 rfl rfl (i := v_choiceCount_56) w_17.1 dX1_keepChoice_109 (fun H_18 locs_18 hP_18 hD_18 hS_18 => ?_)
          obtain ⟨g_18, hg_18⟩ : ∃ g : Nat → Int32, g = upd v_choices_56 v_choiceCount_56.toNatClampNeg x_16 := ⟨_, rfl⟩
          have hP_18 : va_P (dC, dI) vwCl [(h0, .inr (4, oX1 v_steps (.ref h4) (.ref h5) v_wholeOnly v_start v_mode v_node v_place v_limit v_verdict (.ref h6) (.ref h7) (.ref h8) (.ref h9) (.ref h1) (.ref h2) v_choiceCount_56 (.ref h3) v_trailCount)), (h1, .inl (k0, nv_choices, .inl g_18)), (h2, .inl (k1, nv_heights, .inl v_heights_56)), (h3, .inl (k2, nv_trail, .inl v_trail))] H_18 := by rw [hg_18]; exact hP_18
          have hD_18 : va_D A [(h0, .inr (4, oX1 v_steps (.ref h4) (.ref h5) v_wholeOnly v_start v_mode v_node v_place v_limit v_verdict (.ref h6) (.ref h7) (.ref h8) (.ref h9) (.ref h1) (.ref h2) v_choiceCount_56 (.ref h3) v_trailCount)), (h1, .inl (k0, nv_choices, .inl g_18)), (h2, .inl (k1, nv_heights, .inl v_heights_56)), (h3, .inl (k2, nv_trail, .inl v_trail))] := by rw [hg_18]; exact hD_18
          refine lv_aload_n hx hb dX1_keepChoice_110 rfl (lv_at hl_b56 0 rfl) ?_
          refine va_get (D := (dC, dI)) (ci := 4) (v := .ref h2) (C := RX1) (T := TX1) (N := 19) hx hb ht inX1 hown hK hP_18 0 rfl rfl 15 (by decide) (ht _ tw_536) (fun _ h9 => h9) rfl dX1_keepChoice_111 ?_
          refine lv_aload_n hx hb dX1_keepChoice_114 rfl (lv_at hl_b56 0 rfl) ?_
          refine va_get (D := (dC, dI)) (ci := 4) (v := .int v_choiceCount_56) (C := RX1) (T := TX1) (N := 19) hx hb ht inX1 hown hK hP_18 0 rfl rfl 16 (by decide) (ht _ tw_537) (fun _ h9 => h9) rfl dX1_keepChoice_115 ?_
          refine lv_aload_n hx hb dX1_keepChoice_118 rfl (lv_at hl_b56 0 rfl) ?_
          refine va_get (D := (dC, dI)) (ci := 4) (v := .int v_trailCount) (C := RX1) (T := TX1) (N := 19) hx hb ht inX1 hown hK hP_18 0 rfl rfl 18 (by decide) (ht _ tw_539) (fun _ h9 => h9) rfl dX1_keepChoice_119 ?_
          refine va_iast hx hb hK hP_18 hD_18 hS_18 2 1 rfl rfl (i := v_choiceCount_56) (w_17.2 g_18 hg_18).1 dX1_keepChoice_122 (fun H_19 locs_19 hP_19 hD_19 hS_19 => ?_)
          obtain ⟨g_19, hg_19⟩ : ∃ g : Nat → Int32, g = upd v_heights_56 v_choiceCount_56.toNatClampNeg v_trailCount := ⟨_, rfl⟩
          have hP_19 : va_P (dC, dI) vwCl [(h0, .inr (4, oX1 v_steps (.ref h4) (.ref h5) v_wholeOnly v_start v_mode v_node v_place v_limit v_verdict (.ref h6) (.ref h7) (.ref h8) (.ref h9) (.ref h1) (.ref h2) v_choiceCount_56 (.ref h3) v_trailCount)), (h1, .inl (k0, nv_choices, .inl g_18)), (h2, .inl (k1, nv_heights, .inl g_19)), (h3, .inl (k2, nv_trail, .inl v_trail))] H_19 := by rw [hg_19]; exact hP_19
          have hD_19 : va_D A [(h0, .inr (4, oX1 v_steps (.ref h4) (.ref h5) v_wholeOnly v_start v_mode v_node v_place v_limit v_verdict (.ref h6) (.ref h7) (.ref h8) (.ref h9) (.ref h1) (.ref h2) v_choiceCount_56 (.ref h3) v_trailCount)), (h1, .inl (k0, nv_choices, .inl g_18)), (h2, .inl (k1, nv_heights, .inl g_19)), (h3, .inl (k2, nv_trail, .inl v_trail))] := by rw [hg_19]; exact hD_19
          refine lv_aload_n hx hb dX1_keepChoice_123 rfl (lv_at hl_b56 0 rfl) ?_
          refine lv_dup hx hb dX1_keepChoice_124 rfl ?_
          refine va_get (D := (dC, dI)) (ci := 4) (v := .int v_choiceCount_56) (C := RX1) (T := TX1) (N := 19) hx hb ht inX1 hown hK hP_19 0 rfl rfl 16 (by decide) (ht _ tw_537) (fun _ h9 => h9) rfl dX1_keepChoice_125 ?_
          refine lv_iconst (v := 1) hx hb dX1_keepChoice_128 (by decide) ?_
          refine lv_iadd hx hb dX1_keepChoice_129 ?_
          refine lv_topi (fun x_20 ex_20 => ?_)
          have ex_20 : x_20 = v_choiceCount_56 + (1 : Int32) := ex_20
          refine va_put (D := (dC, dI)) (ci := 4) (v := .int x_20) (ty := .int) (C := RX1) (T := TX1) (N := 19) hx hb ht inX1 tyX1 tyX1_ok nmX1 hown hK hP_19 hD_19 hS_19 0 rfl rfl 16 (by decide) (ht _ tw_537) (fun _ h9 => h9) rfl (by decide +kernel) rfl rfl (Nat.le_of_ble_eq_true rfl) dX1_keepChoice_130 (fun H_21 locs_21 hP_21 hD_21 hS_21 => ?_)
          have hP_21 : va_P (dC, dI) vwCl [(h0, .inr (4, oX1 v_steps (.ref h4) (.ref h5) v_wholeOnly v_start v_mode v_node v_place v_limit v_verdict (.ref h6) (.ref h7) (.ref h8) (.ref h9) (.ref h1) (.ref h2) x_20 (.ref h3) v_trailCount)), (h1, .inl (k0, nv_choices, .inl g_18)), (h2, .inl (k1, nv_heights, .inl g_19)), (h3, .inl (k2, nv_trail, .inl v_trail))] H_21 := hP_21
          have hD_21 : va_D A [(h0, .inr (4, oX1 v_steps (.ref h4) (.ref h5) v_wholeOnly v_start v_mode v_node v_place v_limit v_verdict (.ref h6) (.ref h7) (.ref h8) (.ref h9) (.ref h1) (.ref h2) x_20 (.ref h3) v_trailCount)), (h1, .inl (k0, nv_choices, .inl g_18)), (h2, .inl (k1, nv_heights, .inl g_19)), (h3, .inl (k2, nv_trail, .inl v_trail))] := hD_21
          have w_22 := (((w_17.2 g_18 hg_18).2) g_19 hg_19) x_20 ex_20
          exact k_133 x_20 g_18 g_19 _ _ _ _ _ w_22 hP_21 hD_21 hS_21 (lv_sub hl_b56 [] rfl) hL_b56 hq1_b56 hq2_b56
  refine lv_icmp_lt (tgt := 56) hx hb dX1_keepChoice_9 (by decide) (fun c_23 => ?_) (fun c_23 => ?_)
  · exact k_56 v_choiceCount v_choices v_heights _ _ _ _ _ ((w x_1 ex_1 hn_2).1 c_23) hP hD hS (lv_sub hl [0, 1, 2] rfl) hL hq1 hq2
  · refine lv_aload_n hx hb dX1_keepChoice_12 rfl (lv_at hl 0 rfl) ?_
    refine va_get (D := (dC, dI)) (ci := 4) (v := .ref h1) (C := RX1) (T := TX1) (N := 19) hx hb ht inX1 hown hK hP 0 rfl rfl 14 (by decide) (ht _ tw_535) (fun _ h9 => h9) rfl dX1_keepChoice_13 ?_
    refine va_alen hx hb hK hP 1 0 rfl rfl rfl dX1_keepChoice_16 ?_
    refine lv_topi (fun x_24 ex_24 => ?_)
    have ex_24 : x_24 = Int32.ofNat nv_choices := ex_24
    have hn_25 : nv_choices ≤ 524288 := by have h9 := gLn_b hL; omega
    refine lv_ldc hx hb hown (ht _ tw_1644) dX1_keepChoice_17 ?_
    have w_26 := (((w x_1 ex_1 hn_2).2 c_23) x_24 ex_24) hn_25
    refine lv_icmp_ge (tgt := 56) hx hb dX1_keepChoice_19 (by decide) (fun c_27 => ?_) (fun c_27 => ?_)
    · exact k_56 v_choiceCount v_choices v_heights _ _ _ _ _ (w_26.1 c_27) hP hD hS (lv_sub hl [0, 1, 2] rfl) hL hq1 hq2
    · refine lv_aload_n hx hb dX1_keepChoice_22 rfl (lv_at hl 0 rfl) ?_
      refine lv_aload_n hx hb dX1_keepChoice_23 rfl (lv_at hl 0 rfl) ?_
      refine va_get (D := (dC, dI)) (ci := 4) (v := .ref h1) (C := RX1) (T := TX1) (N := 19) hx hb ht inX1 hown hK hP 0 rfl rfl 14 (by decide) (ht _ tw_535) (fun _ h9 => h9) rfl dX1_keepChoice_24 ?_
      refine lv_aload_n hx hb dX1_keepChoice_27 rfl (lv_at hl 0 rfl) ?_
      refine va_get (D := (dC, dI)) (ci := 4) (v := .ref h1) (C := RX1) (T := TX1) (N := 19) hx hb ht inX1 hown hK hP 0 rfl rfl 14 (by decide) (ht _ tw_535) (fun _ h9 => h9) rfl dX1_keepChoice_28 ?_
      refine va_alen hx hb hK hP 1 0 rfl rfl rfl dX1_keepChoice_31 ?_
      refine lv_topi (fun x_28 ex_28 => ?_)
      have ex_28 : x_28 = Int32.ofNat nv_choices := ex_28
      have hn_29 : nv_choices ≤ 524288 := by have h9 := gLn_b hL; omega
      refine lv_iconst (v := 2) hx hb dX1_keepChoice_32 (by decide) ?_
      refine lv_imul hx hb dX1_keepChoice_33 ?_
      refine lv_topi (fun x_30 ex_30 => ?_)
      have ex_30 : x_30 = x_28 * (2 : Int32) := ex_30
      have w_32 := (w_26.2 c_27 x_28 ex_28 hn_29 x_30 ex_30).2
      obtain ⟨hL_31, hc_31, hs_31⟩ := gLn_c hL w_32.2.1
      have hb_31 := gLn_b hL
      have hcp_31 := cpy_ok (n := nv_choices) (N := 2 * nv_choices) w_32.1 (w_26.2 c_27 x_28 ex_28 hn_29 x_30 ex_30).1 (by omega) (by omega)
      have hPc_31 := vaPq hP (wsq := [(h1, .inl (k0, nv_choices, .inl v_choices))]) [1] rfl
      have hDc_31 := vaDq hD (wsq := [(h1, .inl (k0, nv_choices, .inl v_choices))]) [1] (by decide) rfl
      have hKc_31 := vaKq hK (tysq := [(k0, .int)]) [0] rfl
      have hFc_31 := va_free (wc := [(h1, .inl (k0, nv_choices, .inl v_choices))]) hD hS hA [1] rfl
      refine va_callr (va_runS (As := [.ref h1, .int x_30]) (rest := [.ref h0]) ⟨hx, hb, hml, hown, ht⟩ (mt_copyOf l dC dI h1 k0 x_30 nv_choices (2 * nv_choices) v_choices hcp_31.1 (w_26.2 c_27 x_28 ex_28 hn_29 x_30 ex_30).1 w_32.1 (by omega) hcp_31.2.1 hcp_31.2.2.1 hcp_31.2.2.2 s.heap.size) (va_cwS 2 ht (goodSS tw_1645 tw_1646 tw_250 gw_J7_copyOf_59c91) rfl rfl rfl (by decide +kernel) ⟨Nat.le_of_ble_eq_true rfl, Nat.le_of_ble_eq_true rfl⟩) ⟨fun a U g mk q => by obtain ⟨q0, q1, qP, qK, qD⟩ := q; exact ⟨q0, q1, qP, va_K.moved (u := U) (U := U.calling g mk a) (Vm.Alike.refl U.vm) qK, qD⟩, fun U hU hW => ⟨rfl, by rw [hU], by rw [hU]; exact hPc_31, va_K.moved hW.alike hKc_31, hDc_31.weaken (fun _ _ _ _ => trivial)⟩⟩ rfl rfl hl.1 rfl (lv_room (Nat.le_of_ble_eq_true rfl)) dX1_keepChoice_34 ⟨by dsimp only; omega, by dsimp only; omega⟩) hS (fun q _ h => hFc_31 q h) hFc_31 (fun u_31 ra_31 t_31 H_31 locs_31 ht_31 hvm_31 hw_31 hB_31 hz_31 hk_31 hS_31 => ?_)
      obtain ⟨g_31, hP1_31, hD1_31⟩ := hB_31
      rw [ht_31] at hP1_31
      obtain ⟨hP_31, hD_31⟩ := va_join (wr := [(h0, .inr (4, oX1 v_steps (.ref h4) (.ref h5) v_wholeOnly v_start v_mode v_node v_place v_limit v_verdict (.ref h6) (.ref h7) (.ref h8) (.ref h9) (.ref h1) (.ref h2) v_choiceCount (.ref h3) v_trailCount)), (h2, .inl (k1, nv_heights, .inl v_heights)), (h3, .inl (k2, nv_trail, .inl v_trail))]) (w1 := [(h1, .inl (k0, nv_choices, .inl v_choices)), (ra_31, .inl (k0, (2 * nv_choices), .inl g_31))]) hP hD [1] [0, 2, 3] rfl rfl (by decide) (by decide) hk_31 hFc_31 hP1_31 hD1_31
      have hP_31 := vaPq hP_31 (wsq := [(h0, .inr (4, oX1 v_steps (.ref h4) (.ref h5) v_wholeOnly v_start v_mode v_node v_place v_limit v_verdict (.ref h6) (.ref h7) (.ref h8) (.ref h9) (.ref h1) (.ref h2) v_choiceCount (.ref h3) v_trailCount)), (h1, .inl (k0, nv_choices, .inl v_choices)), (h2, .inl (k1, nv_heights, .inl v_heights)), (h3, .inl (k2, nv_trail, .inl v_trail)), (ra_31, .inl (k0, (2 * nv_choices), .inl g_31))]) [0, 3, 1, 2, 4] rfl
      have hD_31 := vaDq hD_31 (wsq := [(h0, .inr (4, oX1 v_steps (.ref h4) (.ref h5) v_wholeOnly v_start v_mode v_node v_place v_limit v_verdict (.ref h6) (.ref h7) (.ref h8) (.ref h9) (.ref h1) (.ref h2) v_choiceCount (.ref h3) v_trailCount)), (h1, .inl (k0, nv_choices, .inl v_choices)), (h2, .inl (k1, nv_heights, .inl v_heights)), (h3, .inl (k2, nv_trail, .inl v_trail)), (ra_31, .inl (k0, (2 * nv_choices), .inl g_31))]) [0, 3, 1, 2, 4] (by decide) rfl
      clear hPc_31 hDc_31 hKc_31 hFc_31 hP1_31 hD1_31 hk_31 hz_31
      refine W_eqc (c2 := qc - (qc - 1)) (s2 := qs - (qs - 2 * nv_choices)) (by omega) (by omega) ?_
      have hq1_31 : (qc - 1) ≤ qc := by omega
      have hq2_31 : (qs - 2 * nv_choices) ≤ qs := by omega
      refine va_put (D := (dC, dI)) (ci := 4) (v := .ref ra_31) (ty := .array .int) (C := RX1) (T := TX1) (N := 19) hx hb ht inX1 tyX1 tyX1_ok nmX1 hown hK hP_31 hD_31 hS_31 0 rfl rfl 14 (by decide) (ht _ tw_535) (fun _ h9 => h9) rfl (by decide +kernel) rfl rfl (Nat.le_of_ble_eq_true rfl) dX1_keepChoice_37 (fun H_33 locs_33 hP_33 hD_33 hS_33 => ?_)
      have hP_33 : va_P (dC, dI) vwCl [(h0, .inr (4, oX1 v_steps (.ref h4) (.ref h5) v_wholeOnly v_start v_mode v_node v_place v_limit v_verdict (.ref h6) (.ref h7) (.ref h8) (.ref h9) (.ref ra_31) (.ref h2) v_choiceCount (.ref h3) v_trailCount)), (h1, .inl (k0, nv_choices, .inl v_choices)), (h2, .inl (k1, nv_heights, .inl v_heights)), (h3, .inl (k2, nv_trail, .inl v_trail)), (ra_31, .inl (k0, (2 * nv_choices), .inl g_31))] H_33 := hP_33
      have hD_33 : va_D A [(h0, .inr (4, oX1 v_steps (.ref h4) (.ref h5) v_wholeOnly v_start v_mode v_node v_place v_limit v_verdict (.ref h6) (.ref h7) (.ref h8) (.ref h9) (.ref ra_31) (.ref h2) v_choiceCount (.ref h3) v_trailCount)), (h1, .inl (k0, nv_choices, .inl v_choices)), (h2, .inl (k1, nv_heights, .inl v_heights)), (h3, .inl (k2, nv_trail, .inl v_trail)), (ra_31, .inl (k0, (2 * nv_choices), .inl g_31))] := hD_33
      refine lv_aload_n hx hb dX1_keepChoice_40 rfl (lv_at hl 0 rfl) ?_
      refine lv_aload_n hx hb dX1_keepChoice_41 rfl (lv_at hl 0 rfl) ?_
      refine va_get (D := (dC, dI)) (ci := 4) (v := .ref h2) (C := RX1) (T := TX1) (N := 19) hx hb ht inX1 hown hK hP_33 0 rfl rfl 15 (by decide) (ht _ tw_536) (fun _ h9 => h9) rfl dX1_keepChoice_42 ?_
      refine lv_aload_n hx hb dX1_keepChoice_45 rfl (lv_at hl 0 rfl) ?_
      refine va_get (D := (dC, dI)) (ci := 4) (v := .ref ra_31) (C := RX1) (T := TX1) (N := 19) hx hb ht inX1 hown hK hP_33 0 rfl rfl 14 (by decide) (ht _ tw_535) (fun _ h9 => h9) rfl dX1_keepChoice_46 ?_
      refine va_alen hx hb hK hP_33 4 0 rfl rfl rfl dX1_keepChoice_49 ?_
      refine lv_topi (fun x_34 ex_34 => ?_)
      have ex_34 : x_34 = Int32.ofNat (2 * nv_choices) := ex_34
      have hn_35 : (2 * nv_choices) ≤ 524288 := by have h9 := gLn_b hL; omega
      have hcp_36 := cpy_ok (n := nv_heights) (N := 2 * nv_heights) ((w_32.2.2 g_31 ra_31 x_34 ex_34 hn_35).2).1 (w_32.2.2 g_31 ra_31 x_34 ex_34 hn_35).1 (by omega) (by omega)
      have hPc_36 := vaPq hP_33 (wsq := [(h2, .inl (k1, nv_heights, .inl v_heights))]) [2] rfl
      have hDc_36 := vaDq hD_33 (wsq := [(h2, .inl (k1, nv_heights, .inl v_heights))]) [2] (by decide) rfl
      have hKc_36 := vaKq hK (tysq := [(k1, .int)]) [1] rfl
      have hFc_36 := va_free (wc := [(h2, .inl (k1, nv_heights, .inl v_heights))]) hD_33 hS_33 hA [2] rfl
      refine va_callr (va_runS (As := [.ref h2, .int x_34]) (rest := [.ref h0]) ⟨hx, hb, hml, hown, ht⟩ (mt_copyOf l dC dI h2 k1 x_34 nv_heights (2 * nv_heights) v_heights hcp_36.1 (w_32.2.2 g_31 ra_31 x_34 ex_34 hn_35).1 ((w_32.2.2 g_31 ra_31 x_34 ex_34 hn_35).2).1 (by omega) hcp_36.2.1 hcp_36.2.2.1 hcp_36.2.2.2 H_33.size) (va_cwS 2 ht (goodSS tw_1645 tw_1646 tw_250 gw_J7_copyOf_59c91) rfl rfl rfl (by decide +kernel) ⟨Nat.le_of_ble_eq_true rfl, Nat.le_of_ble_eq_true rfl⟩) ⟨fun a U g mk q => by obtain ⟨q0, q1, qP, qK, qD⟩ := q; exact ⟨q0, q1, qP, va_K.moved (u := U) (U := U.calling g mk a) (Vm.Alike.refl U.vm) qK, qD⟩, fun U hU hW => ⟨rfl, by rw [hU], by rw [hU]; exact hPc_36, va_K.moved hW.alike hKc_36, hDc_36.weaken (fun _ _ _ _ => trivial)⟩⟩ rfl rfl hl.1 rfl (lv_room (Nat.le_of_ble_eq_true rfl)) dX1_keepChoice_50 ⟨by dsimp only; omega, by dsimp only; omega⟩) hS_33 (fun q _ h => hFc_36 q h) hFc_36 (fun u_36 ra_36 t_36 H_36 locs_36 ht_36 hvm_36 hw_36 hB_36 hz_36 hk_36 hS_36 => ?_)
      obtain ⟨g_36, hP1_36, hD1_36⟩ := hB_36
      rw [ht_36] at hP1_36
      obtain ⟨hP_36, hD_36⟩ := va_join (wr := [(h0, .inr (4, oX1 v_steps (.ref h4) (.ref h5) v_wholeOnly v_start v_mode v_node v_place v_limit v_verdict (.ref h6) (.ref h7) (.ref h8) (.ref h9) (.ref ra_31) (.ref h2) v_choiceCount (.ref h3) v_trailCount)), (h1, .inl (k0, nv_choices, .inl v_choices)), (h3, .inl (k2, nv_trail, .inl v_trail)), (ra_31, .inl (k0, (2 * nv_choices), .inl g_31))]) (w1 := [(h2, .inl (k1, nv_heights, .inl v_heights)), (ra_36, .inl (k1, (2 * nv_heights), .inl g_36))]) hP_33 hD_33 [2] [0, 1, 3, 4] rfl rfl (by decide) (by decide) hk_36 hFc_36 hP1_36 hD1_36
      have hP_36 := vaPq hP_36 (wsq := [(h0, .inr (4, oX1 v_steps (.ref h4) (.ref h5) v_wholeOnly v_start v_mode v_node v_place v_limit v_verdict (.ref h6) (.ref h7) (.ref h8) (.ref h9) (.ref ra_31) (.ref h2) v_choiceCount (.ref h3) v_trailCount)), (h1, .inl (k0, nv_choices, .inl v_choices)), (h2, .inl (k1, nv_heights, .inl v_heights)), (h3, .inl (k2, nv_trail, .inl v_trail)), (ra_31, .inl (k0, (2 * nv_choices), .inl g_31)), (ra_36, .inl (k1, (2 * nv_heights), .inl g_36))]) [0, 1, 4, 2, 3, 5] rfl
      have hD_36 := vaDq hD_36 (wsq := [(h0, .inr (4, oX1 v_steps (.ref h4) (.ref h5) v_wholeOnly v_start v_mode v_node v_place v_limit v_verdict (.ref h6) (.ref h7) (.ref h8) (.ref h9) (.ref ra_31) (.ref h2) v_choiceCount (.ref h3) v_trailCount)), (h1, .inl (k0, nv_choices, .inl v_choices)), (h2, .inl (k1, nv_heights, .inl v_heights)), (h3, .inl (k2, nv_trail, .inl v_trail)), (ra_31, .inl (k0, (2 * nv_choices), .inl g_31)), (ra_36, .inl (k1, (2 * nv_heights), .inl g_36))]) [0, 1, 4, 2, 3, 5] (by decide) rfl
      clear hPc_36 hDc_36 hKc_36 hFc_36 hP1_36 hD1_36 hk_36 hz_36
      refine W_eqc (c2 := qc - (qc - 2)) (s2 := qs - (qs - 4 * nv_choices)) (by omega) (by omega) ?_
      have hq1_36 : (qc - 2) ≤ qc := by omega
      have hq2_36 : (qs - 4 * nv_choices) ≤ qs := by omega
      refine va_put (D := (dC, dI)) (ci := 4) (v := .ref ra_36) (ty := .array .int) (C := RX1) (T := TX1) (N := 19) hx hb ht inX1 tyX1 tyX1_ok nmX1 hown hK hP_36 hD_36 hS_36 0 rfl rfl 15 (by decide) (ht _ tw_536) (fun _ h9 => h9) rfl (by decide +kernel) rfl rfl (Nat.le_of_ble_eq_true rfl) dX1_keepChoice_53 (fun H_37 locs_37 hP_37 hD_37 hS_37 => ?_)
      have hP_37 : va_P (dC, dI) vwCl [(h0, .inr (4, oX1 v_steps (.ref h4) (.ref h5) v_wholeOnly v_start v_mode v_node v_place v_limit v_verdict (.ref h6) (.ref h7) (.ref h8) (.ref h9) (.ref ra_31) (.ref ra_36) v_choiceCount (.ref h3) v_trailCount)), (h1, .inl (k0, nv_choices, .inl v_choices)), (h2, .inl (k1, nv_heights, .inl v_heights)), (h3, .inl (k2, nv_trail, .inl v_trail)), (ra_31, .inl (k0, (2 * nv_choices), .inl g_31)), (ra_36, .inl (k1, (2 * nv_heights), .inl g_36))] H_37 := hP_37
      have hD_37 : va_D A [(h0, .inr (4, oX1 v_steps (.ref h4) (.ref h5) v_wholeOnly v_start v_mode v_node v_place v_limit v_verdict (.ref h6) (.ref h7) (.ref h8) (.ref h9) (.ref ra_31) (.ref ra_36) v_choiceCount (.ref h3) v_trailCount)), (h1, .inl (k0, nv_choices, .inl v_choices)), (h2, .inl (k1, nv_heights, .inl v_heights)), (h3, .inl (k2, nv_trail, .inl v_trail)), (ra_31, .inl (k0, (2 * nv_choices), .inl g_31)), (ra_36, .inl (k1, (2 * nv_heights), .inl g_36))] := hD_37
      refine lv_aload_n hx hb dX1_keepChoice_56 rfl (lv_at hl 0 rfl) ?_
      refine va_get (D := (dC, dI)) (ci := 4) (v := .int v_choiceCount) (C := RX1) (T := TX1) (N := 19) hx hb ht inX1 hown hK hP_37 0 rfl rfl 16 (by decide) (ht _ tw_537) (fun _ h9 => h9) rfl dX1_keepChoice_57 ?_
      have k_200133 : ∀ (v_choiceCount_200133 : Int32) (v_choices_200133 : Nat → Int32) (v_heights_200133 : Nat → Int32) (hN34_200133 : Nat) (vN34_200133 : Nat → Int32) (nN34_200133 : Nat) (hN50_200133 : Nat) (vN50_200133 : Nat → Int32) (nN50_200133 : Nat), ∀ (H_b200133 : Heap) (locs_b200133 : List Loc) (ls_b200133 : Array Slot) (q1_b200133 q2_b200133 : Nat), w_X1_keepChoice_200133 Q v_choiceCount_200133 v_choices_200133 v_heights_200133 hN34_200133 vN34_200133 nN34_200133 hN50_200133 vN50_200133 nN50_200133 → va_P (dC, dI) vwCl [(h0, .inr (4, oX1 v_steps (.ref h4) (.ref h5) v_wholeOnly v_start v_mode v_node v_place v_limit v_verdict (.ref h6) (.ref h7) (.ref h8) (.ref h9) (.ref hN34_200133) (.ref hN50_200133) v_choiceCount_200133 (.ref h3) v_trailCount)), (h1, .inl (k0, nv_choices, .inl v_choices_200133)), (h2, .inl (k1, nv_heights, .inl v_heights_200133)), (h3, .inl (k2, nv_trail, .inl v_trail)), (hN34_200133, .inl (k0, nN34_200133, .inl vN34_200133)), (hN50_200133, .inl (k1, nN50_200133, .inl vN50_200133))] H_b200133 → va_D A [(h0, .inr (4, oX1 v_steps (.ref h4) (.ref h5) v_wholeOnly v_start v_mode v_node v_place v_limit v_verdict (.ref h6) (.ref h7) (.ref h8) (.ref h9) (.ref hN34_200133) (.ref hN50_200133) v_choiceCount_200133 (.ref h3) v_trailCount)), (h1, .inl (k0, nv_choices, .inl v_choices_200133)), (h2, .inl (k1, nv_heights, .inl v_heights_200133)), (h3, .inl (k2, nv_trail, .inl v_trail)), (hN34_200133, .inl (k0, nN34_200133, .inl vN34_200133)), (hN50_200133, .inl (k1, nN50_200133, .inl vN50_200133))] → va_S A s.heap H_b200133 locs_b200133 → lv_has ls_b200133 3 [] → gLn nN34_200133 nN50_200133 nv_trail q1_b200133 q2_b200133 → q1_b200133 ≤ qc → q2_b200133 ≤ qs → W p l e ({ frames := 2, cells := qc, slots := qs, locals := 62 } : Room) s m ([.ref h0, .int p1, .int p2]).toArray below meth c H_b200133 locs_b200133 (qc - q1_b200133) (qs - q2_b200133) QQ (F0 m 133 ls_b200133 []) := by
        intro v_choiceCount_200133 v_choices_200133 v_heights_200133 hN34_200133 vN34_200133 nN34_200133 hN50_200133 vN50_200133 nN50_200133 H_b200133 locs_b200133 ls_b200133 q1_b200133 q2_b200133 w_b200133 hP_b200133 hD_b200133 hS_b200133 hl_b200133 hL_b200133 hq1_b200133 hq2_b200133
        unfold w_X1_keepChoice_200133 at w_b200133
        have ek_39 : k0 = k0 := va_kk hK 0 0 rfl rfl
        have ek_40 : k1 = k1 := va_kk hK 1 1 rfl rfl
        have hP_38 := vaPq hP_b200133 (wsq := [(h0, .inr (4, oX1 v_steps (.ref h4) (.ref h5) v_wholeOnly v_start v_mode v_node v_place v_limit v_verdict (.ref h6) (.ref h7) (.ref h8) (.ref h9) (.ref hN34_200133) (.ref hN50_200133) v_choiceCount_200133 (.ref h3) v_trailCount)), (hN34_200133, .inl (k0, nN34_200133, .inl vN34_200133)), (hN50_200133, .inl (k1, nN50_200133, .inl vN50_200133)), (h3, .inl (k2, nv_trail, .inl v_trail))]) [0, 4, 5, 3] rfl
        have hD_38 := vaDq hD_b200133 (wsq := [(h0, .inr (4, oX1 v_steps (.ref h4) (.ref h5) v_wholeOnly v_start v_mode v_node v_place v_limit v_verdict (.ref h6) (.ref h7) (.ref h8) (.ref h9) (.ref hN34_200133) (.ref hN50_200133) v_choiceCount_200133 (.ref h3) v_trailCount)), (hN34_200133, .inl (k0, nN34_200133, .inl vN34_200133)), (hN50_200133, .inl (k1, nN50_200133, .inl vN50_200133)), (h3, .inl (k2, nv_trail, .inl v_trail))]) [0, 4, 5, 3] (by decide) rfl
        try subst ek_39
        try subst ek_40
        refine W_gain (fun ga_41 gb_41 gc_41 gd_41 => ?_)
        refine W.widen (k := qc) (n := qs) (by omega) (by omega) ?_
        rw [hQQ]
        exact W.vret hx hb hr (fun t9 ht9 hW9 => ⟨⟨0, rfl, rfl, ⟨v_choiceCount_200133, hN34_200133, vN34_200133, nN34_200133, hN50_200133, vN50_200133, nN50_200133, q1_b200133, q2_b200133, w_b200133, ⟨hL_b200133, hq1_b200133, hq2_b200133, by rw [ht9]; omega, by rw [ht9]; omega⟩, by rw [ht9]; exact hP_38, hD_38⟩⟩, hS_b200133.F ht9⟩) hS_b200133.2.2 dX1_keepChoice_133
      have w_42 := (((w_32.2.2 g_31 ra_31 x_34 ex_34 hn_35).2).2) g_36 ra_36
      refine lv_if_lt (tgt := 133) hx hb dX1_keepChoice_60 (by decide) (fun c_43 => ?_) (fun c_43 => ?_)
      · exact k_200133 v_choiceCount v_choices v_heights ra_31 g_31 (2 * nv_choices) ra_36 g_36 (2 * nv_heights) _ _ _ _ _ (w_42.1 c_43) hP_37 hD_37 hS_37 (lv_sub hl [] rfl) hL_31 hq1_36 hq2_36
      · refine lv_aload_n hx hb dX1_keepChoice_63 rfl (lv_at hl 0 rfl) ?_
        refine va_get (D := (dC, dI)) (ci := 4) (v := .int v_choiceCount) (C := RX1) (T := TX1) (N := 19) hx hb ht inX1 hown hK hP_37 0 rfl rfl 16 (by decide) (ht _ tw_537) (fun _ h9 => h9) rfl dX1_keepChoice_64 ?_
        refine lv_aload_n hx hb dX1_keepChoice_67 rfl (lv_at hl 0 rfl) ?_
        refine va_get (D := (dC, dI)) (ci := 4) (v := .ref ra_31) (C := RX1) (T := TX1) (N := 19) hx hb ht inX1 hown hK hP_37 0 rfl rfl 14 (by decide) (ht _ tw_535) (fun _ h9 => h9) rfl dX1_keepChoice_68 ?_
        refine va_alen hx hb hK hP_37 4 0 rfl rfl rfl dX1_keepChoice_71 ?_
        refine lv_topi (fun x_44 ex_44 => ?_)
        have ex_44 : x_44 = Int32.ofNat (2 * nv_choices) := ex_44
        have hn_45 : (2 * nv_choices) ≤ 524288 := by have h9 := gLn_b hL_31; omega
        refine lv_icmp_ge (tgt := 133) hx hb dX1_keepChoice_72 (by decide) (fun c_46 => ?_) (fun c_46 => ?_)
        · exact k_200133 v_choiceCount v_choices v_heights ra_31 g_31 (2 * nv_choices) ra_36 g_36 (2 * nv_heights) _ _ _ _ _ ((w_42.2 c_43 x_44 ex_44 hn_45).1 c_46) hP_37 hD_37 hS_37 (lv_sub hl [] rfl) hL_31 hq1_36 hq2_36
        · refine lv_aload_n hx hb dX1_keepChoice_75 rfl (lv_at hl 0 rfl) ?_
          refine va_get (D := (dC, dI)) (ci := 4) (v := .int v_choiceCount) (C := RX1) (T := TX1) (N := 19) hx hb ht inX1 hown hK hP_37 0 rfl rfl 16 (by decide) (ht _ tw_537) (fun _ h9 => h9) rfl dX1_keepChoice_76 ?_
          refine lv_aload_n hx hb dX1_keepChoice_79 rfl (lv_at hl 0 rfl) ?_
          refine va_get (D := (dC, dI)) (ci := 4) (v := .ref ra_36) (C := RX1) (T := TX1) (N := 19) hx hb ht inX1 hown hK hP_37 0 rfl rfl 15 (by decide) (ht _ tw_536) (fun _ h9 => h9) rfl dX1_keepChoice_80 ?_
          refine va_alen hx hb hK hP_37 5 1 rfl rfl rfl dX1_keepChoice_83 ?_
          refine lv_topi (fun x_47 ex_47 => ?_)
          have ex_47 : x_47 = Int32.ofNat (2 * nv_heights) := ex_47
          have hn_48 : (2 * nv_heights) ≤ 524288 := by have h9 := gLn_b hL_31; omega
          have w_49 := (((w_42.2 c_43 x_44 ex_44 hn_45).2 c_46) x_47 ex_47) hn_48
          refine lv_icmp_ge (tgt := 133) hx hb dX1_keepChoice_84 (by decide) (fun c_50 => ?_) (fun c_50 => ?_)
          · exact k_200133 v_choiceCount v_choices v_heights ra_31 g_31 (2 * nv_choices) ra_36 g_36 (2 * nv_heights) _ _ _ _ _ (w_49.1 c_50) hP_37 hD_37 hS_37 (lv_sub hl [] rfl) hL_31 hq1_36 hq2_36
          · refine lv_aload_n hx hb dX1_keepChoice_87 rfl (lv_at hl 0 rfl) ?_
            refine va_get (D := (dC, dI)) (ci := 4) (v := .ref ra_31) (C := RX1) (T := TX1) (N := 19) hx hb ht inX1 hown hK hP_37 0 rfl rfl 14 (by decide) (ht _ tw_535) (fun _ h9 => h9) rfl dX1_keepChoice_88 ?_
            refine lv_aload_n hx hb dX1_keepChoice_91 rfl (lv_at hl 0 rfl) ?_
            refine va_get (D := (dC, dI)) (ci := 4) (v := .int v_choiceCount) (C := RX1) (T := TX1) (N := 19) hx hb ht inX1 hown hK hP_37 0 rfl rfl 16 (by decide) (ht _ tw_537) (fun _ h9 => h9) rfl dX1_keepChoice_92 ?_
            refine lv_iload_n hx hb dX1_keepChoice_95 rfl (lv_at hl 2 rfl) ?_
            refine lv_iconst (v := 4) hx hb dX1_keepChoice_96 (by decide) ?_
            refine lv_imul hx hb dX1_keepChoice_97 ?_
            refine lv_topi (fun x_51 ex_51 => ?_)
            have ex_51 : x_51 = p2 * (4 : Int32) := ex_51
            refine lv_iload_n hx hb dX1_keepChoice_98 rfl (lv_at hl 1 rfl) ?_
            refine lv_iadd hx hb dX1_keepChoice_99 ?_
            refine lv_topi (fun x_52 ex_52 => ?_)
            have ex_52 : x_52 = x_51 + p1 := ex_52
            refine lv_sipush (v := 128) hx hb dX1_keepChoice_100 (by decide) ?_
            refine lv_imul hx hb dX1_keepChoice_103 ?_
            refine lv_topi (fun x_53 ex_53 => ?_)
            have ex_53 : x_53 = x_52 * (128 : Int32) := ex_53
            refine lv_aload_n hx hb dX1_keepChoice_104 rfl (lv_at hl 0 rfl) ?_
            refine va_get (D := (dC, dI)) (ci := 4) (v := .int v_place) (C := RX1) (T := TX1) (N := 19) hx hb ht inX1 hown hK hP_37 0 rfl rfl 7 (by decide) (ht _ tw_528) (fun _ h9 => h9) rfl dX1_keepChoice_105 ?_
            refine lv_iadd hx hb dX1_keepChoice_108 ?_
            refine lv_topi (fun x_54 ex_54 => ?_)
            have ex_54 : x_54 = x_53 + v_place := ex_54
            have w_55 := w_49.2 c_50 x_51 ex_51 x_52 ex_52 x_53 ex_53 x_54 ex_54
            refine va_iast hx hb hK hP_37 hD_37 hS_37 4 0 rfl rfl (i := v_choiceCount) w_55.1 dX1_keepChoice_109 (fun H_56 locs_56 hP_56 hD_56 hS_56 => ?_)
            obtain ⟨g_56, hg_56⟩ : ∃ g : Nat → Int32, g = upd g_31 v_choiceCount.toNatClampNeg x_54 := ⟨_, rfl⟩
            have hP_56 : va_P (dC, dI) vwCl [(h0, .inr (4, oX1 v_steps (.ref h4) (.ref h5) v_wholeOnly v_start v_mode v_node v_place v_limit v_verdict (.ref h6) (.ref h7) (.ref h8) (.ref h9) (.ref ra_31) (.ref ra_36) v_choiceCount (.ref h3) v_trailCount)), (h1, .inl (k0, nv_choices, .inl v_choices)), (h2, .inl (k1, nv_heights, .inl v_heights)), (h3, .inl (k2, nv_trail, .inl v_trail)), (ra_31, .inl (k0, (2 * nv_choices), .inl g_56)), (ra_36, .inl (k1, (2 * nv_heights), .inl g_36))] H_56 := by rw [hg_56]; exact hP_56
            have hD_56 : va_D A [(h0, .inr (4, oX1 v_steps (.ref h4) (.ref h5) v_wholeOnly v_start v_mode v_node v_place v_limit v_verdict (.ref h6) (.ref h7) (.ref h8) (.ref h9) (.ref ra_31) (.ref ra_36) v_choiceCount (.ref h3) v_trailCount)), (h1, .inl (k0, nv_choices, .inl v_choices)), (h2, .inl (k1, nv_heights, .inl v_heights)), (h3, .inl (k2, nv_trail, .inl v_trail)), (ra_31, .inl (k0, (2 * nv_choices), .inl g_56)), (ra_36, .inl (k1, (2 * nv_heights), .inl g_36))] := by rw [hg_56]; exact hD_56
            refine lv_aload_n hx hb dX1_keepChoice_110 rfl (lv_at hl 0 rfl) ?_
            refine va_get (D := (dC, dI)) (ci := 4) (v := .ref ra_36) (C := RX1) (T := TX1) (N := 19) hx hb ht inX1 hown hK hP_56 0 rfl rfl 15 (by decide) (ht _ tw_536) (fun _ h9 => h9) rfl dX1_keepChoice_111 ?_
            refine lv_aload_n hx hb dX1_keepChoice_114 rfl (lv_at hl 0 rfl) ?_
            refine va_get (D := (dC, dI)) (ci := 4) (v := .int v_choiceCount) (C := RX1) (T := TX1) (N := 19) hx hb ht inX1 hown hK hP_56 0 rfl rfl 16 (by decide) (ht _ tw_537) (fun _ h9 => h9) rfl dX1_keepChoice_115 ?_
            refine lv_aload_n hx hb dX1_keepChoice_118 rfl (lv_at hl 0 rfl) ?_
            refine va_get (D := (dC, dI)) (ci := 4) (v := .int v_trailCount) (C := RX1) (T := TX1) (N := 19) hx hb ht inX1 hown hK hP_56 0 rfl rfl 18 (by decide) (ht _ tw_539) (fun _ h9 => h9) rfl dX1_keepChoice_119 ?_
            refine va_iast hx hb hK hP_56 hD_56 hS_56 5 1 rfl rfl (i := v_choiceCount) (w_55.2 g_56 hg_56).1 dX1_keepChoice_122 (fun H_57 locs_57 hP_57 hD_57 hS_57 => ?_)
            obtain ⟨g_57, hg_57⟩ : ∃ g : Nat → Int32, g = upd g_36 v_choiceCount.toNatClampNeg v_trailCount := ⟨_, rfl⟩
            have hP_57 : va_P (dC, dI) vwCl [(h0, .inr (4, oX1 v_steps (.ref h4) (.ref h5) v_wholeOnly v_start v_mode v_node v_place v_limit v_verdict (.ref h6) (.ref h7) (.ref h8) (.ref h9) (.ref ra_31) (.ref ra_36) v_choiceCount (.ref h3) v_trailCount)), (h1, .inl (k0, nv_choices, .inl v_choices)), (h2, .inl (k1, nv_heights, .inl v_heights)), (h3, .inl (k2, nv_trail, .inl v_trail)), (ra_31, .inl (k0, (2 * nv_choices), .inl g_56)), (ra_36, .inl (k1, (2 * nv_heights), .inl g_57))] H_57 := by rw [hg_57]; exact hP_57
            have hD_57 : va_D A [(h0, .inr (4, oX1 v_steps (.ref h4) (.ref h5) v_wholeOnly v_start v_mode v_node v_place v_limit v_verdict (.ref h6) (.ref h7) (.ref h8) (.ref h9) (.ref ra_31) (.ref ra_36) v_choiceCount (.ref h3) v_trailCount)), (h1, .inl (k0, nv_choices, .inl v_choices)), (h2, .inl (k1, nv_heights, .inl v_heights)), (h3, .inl (k2, nv_trail, .inl v_trail)), (ra_31, .inl (k0, (2 * nv_choices), .inl g_56)), (ra_36, .inl (k1, (2 * nv_heights), .inl g_57))] := by rw [hg_57]; exact hD_57
            refine lv_aload_n hx hb dX1_keepChoice_123 rfl (lv_at hl 0 rfl) ?_
            refine lv_dup hx hb dX1_keepChoice_124 rfl ?_
            refine va_get (D := (dC, dI)) (ci := 4) (v := .int v_choiceCount) (C := RX1) (T := TX1) (N := 19) hx hb ht inX1 hown hK hP_57 0 rfl rfl 16 (by decide) (ht _ tw_537) (fun _ h9 => h9) rfl dX1_keepChoice_125 ?_
            refine lv_iconst (v := 1) hx hb dX1_keepChoice_128 (by decide) ?_
            refine lv_iadd hx hb dX1_keepChoice_129 ?_
            refine lv_topi (fun x_58 ex_58 => ?_)
            have ex_58 : x_58 = v_choiceCount + (1 : Int32) := ex_58
            refine va_put (D := (dC, dI)) (ci := 4) (v := .int x_58) (ty := .int) (C := RX1) (T := TX1) (N := 19) hx hb ht inX1 tyX1 tyX1_ok nmX1 hown hK hP_57 hD_57 hS_57 0 rfl rfl 16 (by decide) (ht _ tw_537) (fun _ h9 => h9) rfl (by decide +kernel) rfl rfl (Nat.le_of_ble_eq_true rfl) dX1_keepChoice_130 (fun H_59 locs_59 hP_59 hD_59 hS_59 => ?_)
            have hP_59 : va_P (dC, dI) vwCl [(h0, .inr (4, oX1 v_steps (.ref h4) (.ref h5) v_wholeOnly v_start v_mode v_node v_place v_limit v_verdict (.ref h6) (.ref h7) (.ref h8) (.ref h9) (.ref ra_31) (.ref ra_36) x_58 (.ref h3) v_trailCount)), (h1, .inl (k0, nv_choices, .inl v_choices)), (h2, .inl (k1, nv_heights, .inl v_heights)), (h3, .inl (k2, nv_trail, .inl v_trail)), (ra_31, .inl (k0, (2 * nv_choices), .inl g_56)), (ra_36, .inl (k1, (2 * nv_heights), .inl g_57))] H_59 := hP_59
            have hD_59 : va_D A [(h0, .inr (4, oX1 v_steps (.ref h4) (.ref h5) v_wholeOnly v_start v_mode v_node v_place v_limit v_verdict (.ref h6) (.ref h7) (.ref h8) (.ref h9) (.ref ra_31) (.ref ra_36) x_58 (.ref h3) v_trailCount)), (h1, .inl (k0, nv_choices, .inl v_choices)), (h2, .inl (k1, nv_heights, .inl v_heights)), (h3, .inl (k2, nv_trail, .inl v_trail)), (ra_31, .inl (k0, (2 * nv_choices), .inl g_56)), (ra_36, .inl (k1, (2 * nv_heights), .inl g_57))] := hD_59
            have w_60 := (((w_55.2 g_56 hg_56).2) g_57 hg_57) x_58 ex_58
            exact k_200133 x_58 v_choices v_heights ra_31 g_56 (2 * nv_choices) ra_36 g_57 (2 * nv_heights) _ _ _ _ _ w_60 hP_59 hD_59 hS_59 (lv_sub hl [] rfl) hL_31 hq1_36 hq2_36
def w_X1_enterRow_20 (p1 : Int32) (Q : Int32 → Int32 → Int32 → Nat → (Nat → Int32) → Nat → Nat → (Nat → Int32) → Nat → Prop) (v_mode_20 : Int32) (v_node_20 : Int32) (v_choiceCount_20 : Int32) (h1_20 : Nat) (v_choices_20 : Nat → Int32) (nv_choices_20 : Nat) (h2_20 : Nat) (v_heights_20 : Nat → Int32) (nv_heights_20 : Nat) : Prop :=
  Q  0 p1 v_choiceCount_20 h1_20 v_choices_20 nv_choices_20 h2_20 v_heights_20 nv_heights_20
def w_X1_enterRow (p1 : Int32) (v_mode : Int32) (v_node : Int32) (v_place : Int32) (v_choiceCount : Int32) (v_trailCount : Int32) (v_choices : Nat → Int32) (nv_choices : Nat) (v_heights : Nat → Int32) (nv_heights : Nat) (v_tree_count : Int32) (v_tree_holder : Nat → Int32) (v_tree_end : Nat → Int32) (h1 : Nat) (h2 : Nat) (Q : Int32 → Int32 → Int32 → Nat → (Nat → Int32) → Nat → Nat → (Nat → Int32) → Nat → Prop) : Prop :=
  w_X10_nextOf p1 v_tree_count v_tree_holder v_tree_end (fun r_1 => ((r_1 = (-1)) → w_X1_enterRow_20 p1 Q v_mode v_node v_choiceCount h1 v_choices nv_choices h2 v_heights nv_heights) ∧ ((¬ r_1 = (-1)) → w_X1_keepChoice 0 r_1 v_place v_choiceCount v_trailCount v_choices nv_choices v_heights nv_heights h1 h2 (fun r_7_0 r_7_1 r_7_2 r_7_3 r_7_4 r_7_5 r_7_6 => w_X1_enterRow_20 p1 Q v_mode v_node r_7_0 r_7_1 r_7_2 r_7_3 r_7_4 r_7_5 r_7_6)))
set_option maxHeartbeats 4000000 in
set_option maxRecDepth 100000 in
theorem mt_X1_enterRow (l : Launch) (dC : Nat → ClassId) (dI : Nat → Nat → Nat) (h0 h1 h2 h3 h4 h5 h6 h7 h8 h9 h10 h11 h12 h13 h14 h15 h16 h17 h18 h19 h20 h21 h22 h23 h24 h25 : Nat) (k0 k1 k2 k3 k4 : ClassId) (p1 : Int32) (v_steps : Int32) (v_wholeOnly : Bool) (v_start : Int32) (v_mode : Int32) (v_node : Int32) (v_place : Int32) (v_limit : Int32) (v_verdict : Int32) (v_choiceCount : Int32) (v_trailCount : Int32) (v_choices : Nat → Int32) (nv_choices : Nat) (v_heights : Nat → Int32) (nv_heights : Nat) (v_trail : Nat → Int32) (nv_trail : Nat) (v_tree_there : Bool) (v_tree_count : Int32) (v_tree_captures : Int32) (v_tree_ranges : Int32) (v_tree_holder : Nat → Int32) (v_tree_end : Nat → Int32) (Q : Int32 → Int32 → Int32 → Nat → (Nat → Int32) → Nat → Nat → (Nat → Int32) → Nat → Prop) (w : w_X1_enterRow p1 v_mode v_node v_place v_choiceCount v_trailCount v_choices nv_choices v_heights nv_heights v_tree_count v_tree_holder v_tree_end h1 h2 Q) (sz : Nat) (su qc qs : Nat) (hL : gLn nv_choices nv_heights nv_trail qc qs) : Met l yX1_enterRow (WS yX1_enterRow cX1_enterRow 3 none) ({ frames := 3, cells := qc, slots := qs, locals := 84 } : Room) (va_Pc [.ref h0, .int p1] (fun U => U.heap.size = sz ∧ hsum U.heap = su ∧ va_P (dC, dI) vwCl [(h0, .inr (4, oX1 v_steps (.ref h4) (.ref h7) v_wholeOnly v_start v_mode v_node v_place v_limit v_verdict (.ref h8) (.ref h9) (.ref h10) (.ref h11) (.ref h1) (.ref h2) v_choiceCount (.ref h3) v_trailCount)), (h1, .inl (k0, nv_choices, .inl v_choices)), (h2, .inl (k1, nv_heights, .inl v_heights)), (h3, .inl (k2, nv_trail, .inl v_trail)), (h4, .inr (13, oX10 v_tree_there v_tree_count v_tree_captures v_tree_ranges (.ref h12) (.ref h5) (.ref h6) (.ref h13) (.ref h14) (.ref h15) (.ref h16) (.ref h17) (.ref h18) (.ref h19) (.ref h20) (.ref h21) (.ref h22) (.ref h23) (.ref h24) (.ref h25))), (h5, .inl (k3, 256, .inl v_tree_holder)), (h6, .inl (k4, 256, .inl v_tree_end))] U.heap ∧ va_K (dC, dI) vwCl [(k0, .int), (k1, .int), (k2, .int), (k3, .int), (k4, .int)] U ∧ va_D (fun _ => True) [(h0, .inr (4, oX1 v_steps (.ref h4) (.ref h7) v_wholeOnly v_start v_mode v_node v_place v_limit v_verdict (.ref h8) (.ref h9) (.ref h10) (.ref h11) (.ref h1) (.ref h2) v_choiceCount (.ref h3) v_trailCount)), (h1, .inl (k0, nv_choices, .inl v_choices)), (h2, .inl (k1, nv_heights, .inl v_heights)), (h3, .inl (k2, nv_trail, .inl v_trail)), (h4, .inr (13, oX10 v_tree_there v_tree_count v_tree_captures v_tree_ranges (.ref h12) (.ref h5) (.ref h6) (.ref h13) (.ref h14) (.ref h15) (.ref h16) (.ref h17) (.ref h18) (.ref h19) (.ref h20) (.ref h21) (.ref h22) (.ref h23) (.ref h24) (.ref h25))), (h5, .inl (k3, 256, .inl v_tree_holder)), (h6, .inl (k4, 256, .inl v_tree_end))])) (va_Qv (fun (u : Nat) => u = 0) (fun (_ : Nat) (t : State) => ∃ (ov_mode : Int32), ∃ (ov_node : Int32), ∃ (ov_choiceCount : Int32), ∃ (oh1 : Nat), ∃ (ov_choices : Nat → Int32), ∃ (onv_choices : Nat), ∃ (oh2 : Nat), ∃ (ov_heights : Nat → Int32), ∃ (onv_heights : Nat), ∃ (q1 : Nat), ∃ (q2 : Nat), (Q ov_mode ov_node ov_choiceCount oh1 ov_choices onv_choices oh2 ov_heights onv_heights) ∧ (gLn onv_choices onv_heights nv_trail q1 q2 ∧ q1 ≤ qc ∧ q2 ≤ qs ∧ t.heap.size + q1 ≤ sz + qc ∧ hsum t.heap + q2 ≤ su + qs) ∧ va_P (dC, dI) vwCl [(h0, .inr (4, oX1 v_steps (.ref h4) (.ref h7) v_wholeOnly v_start ov_mode ov_node v_place v_limit v_verdict (.ref h8) (.ref h9) (.ref h10) (.ref h11) (.ref oh1) (.ref oh2) ov_choiceCount (.ref h3) v_trailCount)), (oh1, .inl (k0, onv_choices, .inl ov_choices)), (oh2, .inl (k1, onv_heights, .inl ov_heights)), (h3, .inl (k2, nv_trail, .inl v_trail)), (h4, .inr (13, oX10 v_tree_there v_tree_count v_tree_captures v_tree_ranges (.ref h12) (.ref h5) (.ref h6) (.ref h13) (.ref h14) (.ref h15) (.ref h16) (.ref h17) (.ref h18) (.ref h19) (.ref h20) (.ref h21) (.ref h22) (.ref h23) (.ref h24) (.ref h25))), (h5, .inl (k3, 256, .inl v_tree_holder)), (h6, .inl (k4, 256, .inl v_tree_end))] t.heap ∧ va_D (va_A [(h0, .inr (4, oX1 v_steps (.ref h4) (.ref h7) v_wholeOnly v_start v_mode v_node v_place v_limit v_verdict (.ref h8) (.ref h9) (.ref h10) (.ref h11) (.ref h1) (.ref h2) v_choiceCount (.ref h3) v_trailCount)), (h1, .inl (k0, nv_choices, .inl v_choices)), (h2, .inl (k1, nv_heights, .inl v_heights)), (h3, .inl (k2, nv_trail, .inl v_trail)), (h4, .inr (13, oX10 v_tree_there v_tree_count v_tree_captures v_tree_ranges (.ref h12) (.ref h5) (.ref h6) (.ref h13) (.ref h14) (.ref h15) (.ref h16) (.ref h17) (.ref h18) (.ref h19) (.ref h20) (.ref h21) (.ref h22) (.ref h23) (.ref h24) (.ref h25))), (h5, .inl (k3, 256, .inl v_tree_holder)), (h6, .inl (k4, 256, .inl v_tree_end))] sz) [(h0, .inr (4, oX1 v_steps (.ref h4) (.ref h7) v_wholeOnly v_start ov_mode ov_node v_place v_limit v_verdict (.ref h8) (.ref h9) (.ref h10) (.ref h11) (.ref oh1) (.ref oh2) ov_choiceCount (.ref h3) v_trailCount)), (oh1, .inl (k0, onv_choices, .inl ov_choices)), (oh2, .inl (k1, onv_heights, .inl ov_heights)), (h3, .inl (k2, nv_trail, .inl v_trail)), (h4, .inr (13, oX10 v_tree_there v_tree_count v_tree_captures v_tree_ranges (.ref h12) (.ref h5) (.ref h6) (.ref h13) (.ref h14) (.ref h15) (.ref h16) (.ref h17) (.ref h18) (.ref h19) (.ref h20) (.ref h21) (.ref h22) (.ref h23) (.ref h24) (.ref h25))), (h5, .inl (k3, 256, .inl v_tree_holder)), (h6, .inl (k4, 256, .inl v_tree_end))]) (va_A [(h0, .inr (4, oX1 v_steps (.ref h4) (.ref h7) v_wholeOnly v_start v_mode v_node v_place v_limit v_verdict (.ref h8) (.ref h9) (.ref h10) (.ref h11) (.ref h1) (.ref h2) v_choiceCount (.ref h3) v_trailCount)), (h1, .inl (k0, nv_choices, .inl v_choices)), (h2, .inl (k1, nv_heights, .inl v_heights)), (h3, .inl (k2, nv_trail, .inl v_trail)), (h4, .inr (13, oX10 v_tree_there v_tree_count v_tree_captures v_tree_ranges (.ref h12) (.ref h5) (.ref h6) (.ref h13) (.ref h14) (.ref h15) (.ref h16) (.ref h17) (.ref h18) (.ref h19) (.ref h20) (.ref h21) (.ref h22) (.ref h23) (.ref h24) (.ref h25))), (h5, .inl (k3, 256, .inl v_tree_holder)), (h6, .inl (k4, 256, .inl v_tree_end))] sz)) qc qs (va_A [(h0, .inr (4, oX1 v_steps (.ref h4) (.ref h7) v_wholeOnly v_start v_mode v_node v_place v_limit v_verdict (.ref h8) (.ref h9) (.ref h10) (.ref h11) (.ref h1) (.ref h2) v_choiceCount (.ref h3) v_trailCount)), (h1, .inl (k0, nv_choices, .inl v_choices)), (h2, .inl (k1, nv_heights, .inl v_heights)), (h3, .inl (k2, nv_trail, .inl v_trail)), (h4, .inr (13, oX10 v_tree_there v_tree_count v_tree_captures v_tree_ranges (.ref h12) (.ref h5) (.ref h6) (.ref h13) (.ref h14) (.ref h15) (.ref h16) (.ref h17) (.ref h18) (.ref h19) (.ref h20) (.ref h21) (.ref h22) (.ref h23) (.ref h24) (.ref h25))), (h5, .inl (k3, 256, .inl v_tree_holder)), (h6, .inl (k4, 256, .inl v_tree_end))] sz) := by
  refine Met.ofW (cc := cX1_enterRow) (maxL := 3) (ret := none) (by decide) rfl ?_
  intro p e s m args below meth c s₁ B hml hv
  obtain ⟨rfl, hsz, hsu, hP, hK, hD0⟩ := hv
  have hx := B.exec
  have hb := B.bytes
  have hr := B.returns
  have hts := atoms_spec (ws := WS yX1_enterRow cX1_enterRow 3 none) B.pre
  have ht : ∀ w ∈ TW, w.before _ s = true := fun w h => hts w (List.mem_cons_of_mem _ h)
  have hown : s.vm.findClass "PatternWorkshop$GoingBack" = some m.cls := findClass_of_methodNamed B.named
  have hlocks := B.notSynchronized
  subst hsz
  subst hsu
  have hD := hD0.self (sz := s.heap.size)
  generalize hAe : va_A [(h0, .inr (4, oX1 v_steps (.ref h4) (.ref h7) v_wholeOnly v_start v_mode v_node v_place v_limit v_verdict (.ref h8) (.ref h9) (.ref h10) (.ref h11) (.ref h1) (.ref h2) v_choiceCount (.ref h3) v_trailCount)), (h1, .inl (k0, nv_choices, .inl v_choices)), (h2, .inl (k1, nv_heights, .inl v_heights)), (h3, .inl (k2, nv_trail, .inl v_trail)), (h4, .inr (13, oX10 v_tree_there v_tree_count v_tree_captures v_tree_ranges (.ref h12) (.ref h5) (.ref h6) (.ref h13) (.ref h14) (.ref h15) (.ref h16) (.ref h17) (.ref h18) (.ref h19) (.ref h20) (.ref h21) (.ref h22) (.ref h23) (.ref h24) (.ref h25))), (h5, .inl (k3, 256, .inl v_tree_holder)), (h6, .inl (k4, 256, .inl v_tree_end))] s.heap.size = A at hD ⊢
  have hA : ∀ q : Nat, s.heap.size ≤ q → A q := fun q h => by rw [← hAe]; exact Or.inr h
  have hS : va_S A s.heap s.heap [] := va_S.rf
  have hP : va_P (dC, dI) vwCl [(h0, .inr (4, oX1 v_steps (.ref h4) (.ref h7) v_wholeOnly v_start v_mode v_node v_place v_limit v_verdict (.ref h8) (.ref h9) (.ref h10) (.ref h11) (.ref h1) (.ref h2) v_choiceCount (.ref h3) v_trailCount)), (h1, .inl (k0, nv_choices, .inl v_choices)), (h2, .inl (k1, nv_heights, .inl v_heights)), (h3, .inl (k2, nv_trail, .inl v_trail)), (h4, .inr (13, oX10 v_tree_there v_tree_count v_tree_captures v_tree_ranges (.ref h12) (.ref h5) (.ref h6) (.ref h13) (.ref h14) (.ref h15) (.ref h16) (.ref h17) (.ref h18) (.ref h19) (.ref h20) (.ref h21) (.ref h22) (.ref h23) (.ref h24) (.ref h25))), (h5, .inl (k3, 256, .inl v_tree_holder)), (h6, .inl (k4, 256, .inl v_tree_end))] s.heap := hP
  have hl := lv_entry ([.ref h0, .int p1]) (n := 3) (Nat.le_of_ble_eq_true rfl)
  rw [lg_entry_eq]
  generalize (lg_sl ([.ref h0, .int p1]) ++ List.replicate (3 - (lg_sl ([.ref h0, .int p1])).length) Slot.unset).toArray = ls at hl ⊢
  have hl : lv_has ls 3 [(0, .ref h0), (1, .int p1)] := hl
  clear hD0
  obtain ⟨QQ, hQQ⟩ : ∃ QQ, QQ = MQ below (va_Qv (fun (u : Nat) => u = 0) (fun (_ : Nat) (t : State) => ∃ (ov_mode : Int32), ∃ (ov_node : Int32), ∃ (ov_choiceCount : Int32), ∃ (oh1 : Nat), ∃ (ov_choices : Nat → Int32), ∃ (onv_choices : Nat), ∃ (oh2 : Nat), ∃ (ov_heights : Nat → Int32), ∃ (onv_heights : Nat), ∃ (q1 : Nat), ∃ (q2 : Nat), (Q ov_mode ov_node ov_choiceCount oh1 ov_choices onv_choices oh2 ov_heights onv_heights) ∧ (gLn onv_choices onv_heights nv_trail q1 q2 ∧ q1 ≤ qc ∧ q2 ≤ qs ∧ t.heap.size + q1 ≤ s.heap.size + qc ∧ hsum t.heap + q2 ≤ hsum s.heap + qs) ∧ va_P (dC, dI) vwCl [(h0, .inr (4, oX1 v_steps (.ref h4) (.ref h7) v_wholeOnly v_start ov_mode ov_node v_place v_limit v_verdict (.ref h8) (.ref h9) (.ref h10) (.ref h11) (.ref oh1) (.ref oh2) ov_choiceCount (.ref h3) v_trailCount)), (oh1, .inl (k0, onv_choices, .inl ov_choices)), (oh2, .inl (k1, onv_heights, .inl ov_heights)), (h3, .inl (k2, nv_trail, .inl v_trail)), (h4, .inr (13, oX10 v_tree_there v_tree_count v_tree_captures v_tree_ranges (.ref h12) (.ref h5) (.ref h6) (.ref h13) (.ref h14) (.ref h15) (.ref h16) (.ref h17) (.ref h18) (.ref h19) (.ref h20) (.ref h21) (.ref h22) (.ref h23) (.ref h24) (.ref h25))), (h5, .inl (k3, 256, .inl v_tree_holder)), (h6, .inl (k4, 256, .inl v_tree_end))] t.heap ∧ va_D A [(h0, .inr (4, oX1 v_steps (.ref h4) (.ref h7) v_wholeOnly v_start ov_mode ov_node v_place v_limit v_verdict (.ref h8) (.ref h9) (.ref h10) (.ref h11) (.ref oh1) (.ref oh2) ov_choiceCount (.ref h3) v_trailCount)), (oh1, .inl (k0, onv_choices, .inl ov_choices)), (oh2, .inl (k1, onv_heights, .inl ov_heights)), (h3, .inl (k2, nv_trail, .inl v_trail)), (h4, .inr (13, oX10 v_tree_there v_tree_count v_tree_captures v_tree_ranges (.ref h12) (.ref h5) (.ref h6) (.ref h13) (.ref h14) (.ref h15) (.ref h16) (.ref h17) (.ref h18) (.ref h19) (.ref h20) (.ref h21) (.ref h22) (.ref h23) (.ref h24) (.ref h25))), (h5, .inl (k3, 256, .inl v_tree_holder)), (h6, .inl (k4, 256, .inl v_tree_end))]) A) ([.ref h0, .int p1]).toArray s qc qs A := ⟨_, rfl⟩
  show W p l e ({ frames := 3, cells := qc, slots := qs, locals := 84 } : Room) s m ([.ref h0, .int p1]).toArray below meth c s.heap [] 0 0 (MQ below (va_Qv (fun (u : Nat) => u = 0) (fun (_ : Nat) (t : State) => ∃ (ov_mode : Int32), ∃ (ov_node : Int32), ∃ (ov_choiceCount : Int32), ∃ (oh1 : Nat), ∃ (ov_choices : Nat → Int32), ∃ (onv_choices : Nat), ∃ (oh2 : Nat), ∃ (ov_heights : Nat → Int32), ∃ (onv_heights : Nat), ∃ (q1 : Nat), ∃ (q2 : Nat), (Q ov_mode ov_node ov_choiceCount oh1 ov_choices onv_choices oh2 ov_heights onv_heights) ∧ (gLn onv_choices onv_heights nv_trail q1 q2 ∧ q1 ≤ qc ∧ q2 ≤ qs ∧ t.heap.size + q1 ≤ s.heap.size + qc ∧ hsum t.heap + q2 ≤ hsum s.heap + qs) ∧ va_P (dC, dI) vwCl [(h0, .inr (4, oX1 v_steps (.ref h4) (.ref h7) v_wholeOnly v_start ov_mode ov_node v_place v_limit v_verdict (.ref h8) (.ref h9) (.ref h10) (.ref h11) (.ref oh1) (.ref oh2) ov_choiceCount (.ref h3) v_trailCount)), (oh1, .inl (k0, onv_choices, .inl ov_choices)), (oh2, .inl (k1, onv_heights, .inl ov_heights)), (h3, .inl (k2, nv_trail, .inl v_trail)), (h4, .inr (13, oX10 v_tree_there v_tree_count v_tree_captures v_tree_ranges (.ref h12) (.ref h5) (.ref h6) (.ref h13) (.ref h14) (.ref h15) (.ref h16) (.ref h17) (.ref h18) (.ref h19) (.ref h20) (.ref h21) (.ref h22) (.ref h23) (.ref h24) (.ref h25))), (h5, .inl (k3, 256, .inl v_tree_holder)), (h6, .inl (k4, 256, .inl v_tree_end))] t.heap ∧ va_D A [(h0, .inr (4, oX1 v_steps (.ref h4) (.ref h7) v_wholeOnly v_start ov_mode ov_node v_place v_limit v_verdict (.ref h8) (.ref h9) (.ref h10) (.ref h11) (.ref oh1) (.ref oh2) ov_choiceCount (.ref h3) v_trailCount)), (oh1, .inl (k0, onv_choices, .inl ov_choices)), (oh2, .inl (k1, onv_heights, .inl ov_heights)), (h3, .inl (k2, nv_trail, .inl v_trail)), (h4, .inr (13, oX10 v_tree_there v_tree_count v_tree_captures v_tree_ranges (.ref h12) (.ref h5) (.ref h6) (.ref h13) (.ref h14) (.ref h15) (.ref h16) (.ref h17) (.ref h18) (.ref h19) (.ref h20) (.ref h21) (.ref h22) (.ref h23) (.ref h24) (.ref h25))), (h5, .inl (k3, 256, .inl v_tree_holder)), (h6, .inl (k4, 256, .inl v_tree_end))]) A) ([.ref h0, .int p1]).toArray s qc qs A) (F0 m 0 ls [])
  rw [← hQQ]
  refine W_0 (qc := qc) (qs := qs) ?_
  have hq1 : qc ≤ qc := Nat.le_refl _
  have hq2 : qs ≤ qs := Nat.le_refl _
  unfold w_X1_enterRow at w
  refine lv_aload_n hx hb dX1_enterRow_0 rfl (lv_at hl 0 rfl) ?_
  refine va_get (D := (dC, dI)) (ci := 4) (v := .ref h4) (C := RX1) (T := TX1) (N := 19) hx hb ht inX1 hown hK hP 0 rfl rfl 1 (by decide) (ht _ tw_522) (fun _ h9 => h9) rfl dX1_enterRow_1 ?_
  refine lv_iload_n hx hb dX1_enterRow_4 rfl (lv_at hl 1 rfl) ?_
  have hPc_1 := vaPq hP (wsq := [(h4, .inr (13, oX10 v_tree_there v_tree_count v_tree_captures v_tree_ranges (.ref h12) (.ref h5) (.ref h6) (.ref h13) (.ref h14) (.ref h15) (.ref h16) (.ref h17) (.ref h18) (.ref h19) (.ref h20) (.ref h21) (.ref h22) (.ref h23) (.ref h24) (.ref h25))), (h5, .inl (k3, 256, .inl v_tree_holder)), (h6, .inl (k4, 256, .inl v_tree_end))]) [4, 5, 6] rfl
  have hDc_1 := vaDq hD (wsq := [(h4, .inr (13, oX10 v_tree_there v_tree_count v_tree_captures v_tree_ranges (.ref h12) (.ref h5) (.ref h6) (.ref h13) (.ref h14) (.ref h15) (.ref h16) (.ref h17) (.ref h18) (.ref h19) (.ref h20) (.ref h21) (.ref h22) (.ref h23) (.ref h24) (.ref h25))), (h5, .inl (k3, 256, .inl v_tree_holder)), (h6, .inl (k4, 256, .inl v_tree_end))]) [4, 5, 6] (by decide) rfl
  have hKc_1 := vaKq hK (tysq := [(k3, .int), (k4, .int)]) [3, 4] rfl
  have hFc_1 := va_free (wc := [(h4, .inr (13, oX10 v_tree_there v_tree_count v_tree_captures v_tree_ranges (.ref h12) (.ref h5) (.ref h6) (.ref h13) (.ref h14) (.ref h15) (.ref h16) (.ref h17) (.ref h18) (.ref h19) (.ref h20) (.ref h21) (.ref h22) (.ref h23) (.ref h24) (.ref h25))), (h5, .inl (k3, 256, .inl v_tree_holder)), (h6, .inl (k4, 256, .inl v_tree_end))]) hD hS hA [4, 5, 6] rfl
  refine va_calli (va_runV (As := [.int p1]) (rest := []) ⟨hx, hb, hml, hown, ht⟩ (mt_X10_nextOf l dC dI h4 h5 h6 h12 h13 h14 h15 h16 h17 h18 h19 h20 h21 h22 h23 h24 h25 k3 k4 p1 v_tree_there v_tree_count v_tree_captures v_tree_ranges v_tree_holder v_tree_end _ w s.heap.size) (cwV 1 ht (goodV tw_1639 tw_1094 tw_1095 tw_240 gw_X10_nextOf) rfl rfl rfl (by decide +kernel) ⟨Nat.le_of_ble_eq_true rfl, Nat.le_of_ble_eq_true rfl⟩) ⟨fun a U g mk q => by obtain ⟨q0, q1, qP, qK, qD⟩ := q; exact ⟨q0, q1, qP, va_K.moved (u := U) (U := U.calling g mk a) (Vm.Alike.refl U.vm) qK, qD⟩, va_recv hKc_1 hPc_1 (ci := 13) (q0 := 0) rfl rfl, fun U hU hW => ⟨rfl, by rw [hU], by rw [hU]; exact hPc_1, va_K.moved hW.alike hKc_1, hDc_1.weaken (fun _ _ _ _ => trivial)⟩⟩ rfl rfl hl.1 rfl (lv_room (Nat.le_of_ble_eq_true rfl)) dX1_enterRow_5 ⟨by dsimp only; omega, by dsimp only; omega⟩) hS (fun q _ h => hFc_1 q h) hFc_1 (fun r_1 u_1 t_1 H_1 locs_1 ht_1 hvm_1 hw_1 hB_1 hz_1 hk_1 hS_1 => ?_)
  subst hw_1
  obtain ⟨w_1, hP1_1, hD1_1⟩ := hB_1
  rw [ht_1] at hP1_1
  obtain ⟨hP_1, hD_1⟩ := va_join (wr := [(h0, .inr (4, oX1 v_steps (.ref h4) (.ref h7) v_wholeOnly v_start v_mode v_node v_place v_limit v_verdict (.ref h8) (.ref h9) (.ref h10) (.ref h11) (.ref h1) (.ref h2) v_choiceCount (.ref h3) v_trailCount)), (h1, .inl (k0, nv_choices, .inl v_choices)), (h2, .inl (k1, nv_heights, .inl v_heights)), (h3, .inl (k2, nv_trail, .inl v_trail))]) (w1 := [(h4, .inr (13, oX10 v_tree_there v_tree_count v_tree_captures v_tree_ranges (.ref h12) (.ref h5) (.ref h6) (.ref h13) (.ref h14) (.ref h15) (.ref h16) (.ref h17) (.ref h18) (.ref h19) (.ref h20) (.ref h21) (.ref h22) (.ref h23) (.ref h24) (.ref h25))), (h5, .inl (k3, 256, .inl v_tree_holder)), (h6, .inl (k4, 256, .inl v_tree_end))]) hP hD [4, 5, 6] [0, 1, 2, 3] rfl rfl (by decide) (by decide) hk_1 hFc_1 hP1_1 hD1_1
  have hP_1 := vaPq hP_1 (wsq := [(h0, .inr (4, oX1 v_steps (.ref h4) (.ref h7) v_wholeOnly v_start v_mode v_node v_place v_limit v_verdict (.ref h8) (.ref h9) (.ref h10) (.ref h11) (.ref h1) (.ref h2) v_choiceCount (.ref h3) v_trailCount)), (h1, .inl (k0, nv_choices, .inl v_choices)), (h2, .inl (k1, nv_heights, .inl v_heights)), (h3, .inl (k2, nv_trail, .inl v_trail)), (h4, .inr (13, oX10 v_tree_there v_tree_count v_tree_captures v_tree_ranges (.ref h12) (.ref h5) (.ref h6) (.ref h13) (.ref h14) (.ref h15) (.ref h16) (.ref h17) (.ref h18) (.ref h19) (.ref h20) (.ref h21) (.ref h22) (.ref h23) (.ref h24) (.ref h25))), (h5, .inl (k3, 256, .inl v_tree_holder)), (h6, .inl (k4, 256, .inl v_tree_end))]) [0, 1, 2, 3, 4, 5, 6] rfl
  have hD_1 := vaDq hD_1 (wsq := [(h0, .inr (4, oX1 v_steps (.ref h4) (.ref h7) v_wholeOnly v_start v_mode v_node v_place v_limit v_verdict (.ref h8) (.ref h9) (.ref h10) (.ref h11) (.ref h1) (.ref h2) v_choiceCount (.ref h3) v_trailCount)), (h1, .inl (k0, nv_choices, .inl v_choices)), (h2, .inl (k1, nv_heights, .inl v_heights)), (h3, .inl (k2, nv_trail, .inl v_trail)), (h4, .inr (13, oX10 v_tree_there v_tree_count v_tree_captures v_tree_ranges (.ref h12) (.ref h5) (.ref h6) (.ref h13) (.ref h14) (.ref h15) (.ref h16) (.ref h17) (.ref h18) (.ref h19) (.ref h20) (.ref h21) (.ref h22) (.ref h23) (.ref h24) (.ref h25))), (h5, .inl (k3, 256, .inl v_tree_holder)), (h6, .inl (k4, 256, .inl v_tree_end))]) [0, 1, 2, 3, 4, 5, 6] (by decide) rfl
  clear hPc_1 hDc_1 hKc_1 hFc_1 hP1_1 hD1_1 hk_1 hz_1
  refine lv_istore_n (lv' := [(2, .int r_1), (0, .ref h0), (1, .int p1)]) hx hb dX1_enterRow_8 rfl hl (by decide) rfl (fun ls_2 hl_2 => ?_)
  clear hl
  refine lv_iload_n hx hb dX1_enterRow_9 rfl (lv_at hl_2 0 rfl) ?_
  refine lv_iconst (v := (-1)) hx hb dX1_enterRow_10 (by decide) ?_
  have k_20 : ∀ (v_mode_20 : Int32) (v_node_20 : Int32) (v_choiceCount_20 : Int32) (h1_20 : Nat) (v_choices_20 : Nat → Int32) (nv_choices_20 : Nat) (h2_20 : Nat) (v_heights_20 : Nat → Int32) (nv_heights_20 : Nat), ∀ (H_b20 : Heap) (locs_b20 : List Loc) (ls_b20 : Array Slot) (q1_b20 q2_b20 : Nat), w_X1_enterRow_20 p1 Q v_mode_20 v_node_20 v_choiceCount_20 h1_20 v_choices_20 nv_choices_20 h2_20 v_heights_20 nv_heights_20 → va_P (dC, dI) vwCl [(h0, .inr (4, oX1 v_steps (.ref h4) (.ref h7) v_wholeOnly v_start v_mode_20 v_node_20 v_place v_limit v_verdict (.ref h8) (.ref h9) (.ref h10) (.ref h11) (.ref h1_20) (.ref h2_20) v_choiceCount_20 (.ref h3) v_trailCount)), (h1_20, .inl (k0, nv_choices_20, .inl v_choices_20)), (h2_20, .inl (k1, nv_heights_20, .inl v_heights_20)), (h3, .inl (k2, nv_trail, .inl v_trail)), (h4, .inr (13, oX10 v_tree_there v_tree_count v_tree_captures v_tree_ranges (.ref h12) (.ref h5) (.ref h6) (.ref h13) (.ref h14) (.ref h15) (.ref h16) (.ref h17) (.ref h18) (.ref h19) (.ref h20) (.ref h21) (.ref h22) (.ref h23) (.ref h24) (.ref h25))), (h5, .inl (k3, 256, .inl v_tree_holder)), (h6, .inl (k4, 256, .inl v_tree_end))] H_b20 → va_D A [(h0, .inr (4, oX1 v_steps (.ref h4) (.ref h7) v_wholeOnly v_start v_mode_20 v_node_20 v_place v_limit v_verdict (.ref h8) (.ref h9) (.ref h10) (.ref h11) (.ref h1_20) (.ref h2_20) v_choiceCount_20 (.ref h3) v_trailCount)), (h1_20, .inl (k0, nv_choices_20, .inl v_choices_20)), (h2_20, .inl (k1, nv_heights_20, .inl v_heights_20)), (h3, .inl (k2, nv_trail, .inl v_trail)), (h4, .inr (13, oX10 v_tree_there v_tree_count v_tree_captures v_tree_ranges (.ref h12) (.ref h5) (.ref h6) (.ref h13) (.ref h14) (.ref h15) (.ref h16) (.ref h17) (.ref h18) (.ref h19) (.ref h20) (.ref h21) (.ref h22) (.ref h23) (.ref h24) (.ref h25))), (h5, .inl (k3, 256, .inl v_tree_holder)), (h6, .inl (k4, 256, .inl v_tree_end))] → va_S A s.heap H_b20 locs_b20 → lv_has ls_b20 3 [(0, .ref h0), (1, .int p1)] → gLn nv_choices_20 nv_heights_20 nv_trail q1_b20 q2_b20 → q1_b20 ≤ qc → q2_b20 ≤ qs → W p l e ({ frames := 3, cells := qc, slots := qs, locals := 84 } : Room) s m ([.ref h0, .int p1]).toArray below meth c H_b20 locs_b20 (qc - q1_b20) (qs - q2_b20) QQ (F0 m 20 ls_b20 []) := by
    intro v_mode_20 v_node_20 v_choiceCount_20 h1_20 v_choices_20 nv_choices_20 h2_20 v_heights_20 nv_heights_20 H_b20 locs_b20 ls_b20 q1_b20 q2_b20 w_b20 hP_b20 hD_b20 hS_b20 hl_b20 hL_b20 hq1_b20 hq2_b20
    unfold w_X1_enterRow_20 at w_b20
    refine lv_aload_n hx hb dX1_enterRow_20 rfl (lv_at hl_b20 0 rfl) ?_
    refine lv_iload_n hx hb dX1_enterRow_21 rfl (lv_at hl_b20 1 rfl) ?_
    refine va_put (D := (dC, dI)) (ci := 4) (v := .int p1) (ty := .int) (C := RX1) (T := TX1) (N := 19) hx hb ht inX1 tyX1 tyX1_ok nmX1 hown hK hP_b20 hD_b20 hS_b20 0 rfl rfl 6 (by decide) (ht _ tw_527) (fun _ h9 => h9) rfl (by decide +kernel) rfl rfl (Nat.le_of_ble_eq_true rfl) dX1_enterRow_22 (fun H_3 locs_3 hP_3 hD_3 hS_3 => ?_)
    have hP_3 : va_P (dC, dI) vwCl [(h0, .inr (4, oX1 v_steps (.ref h4) (.ref h7) v_wholeOnly v_start v_mode_20 p1 v_place v_limit v_verdict (.ref h8) (.ref h9) (.ref h10) (.ref h11) (.ref h1_20) (.ref h2_20) v_choiceCount_20 (.ref h3) v_trailCount)), (h1_20, .inl (k0, nv_choices_20, .inl v_choices_20)), (h2_20, .inl (k1, nv_heights_20, .inl v_heights_20)), (h3, .inl (k2, nv_trail, .inl v_trail)), (h4, .inr (13, oX10 v_tree_there v_tree_count v_tree_captures v_tree_ranges (.ref h12) (.ref h5) (.ref h6) (.ref h13) (.ref h14) (.ref h15) (.ref h16) (.ref h17) (.ref h18) (.ref h19) (.ref h20) (.ref h21) (.ref h22) (.ref h23) (.ref h24) (.ref h25))), (h5, .inl (k3, 256, .inl v_tree_holder)), (h6, .inl (k4, 256, .inl v_tree_end))] H_3 := hP_3
    have hD_3 : va_D A [(h0, .inr (4, oX1 v_steps (.ref h4) (.ref h7) v_wholeOnly v_start v_mode_20 p1 v_place v_limit v_verdict (.ref h8) (.ref h9) (.ref h10) (.ref h11) (.ref h1_20) (.ref h2_20) v_choiceCount_20 (.ref h3) v_trailCount)), (h1_20, .inl (k0, nv_choices_20, .inl v_choices_20)), (h2_20, .inl (k1, nv_heights_20, .inl v_heights_20)), (h3, .inl (k2, nv_trail, .inl v_trail)), (h4, .inr (13, oX10 v_tree_there v_tree_count v_tree_captures v_tree_ranges (.ref h12) (.ref h5) (.ref h6) (.ref h13) (.ref h14) (.ref h15) (.ref h16) (.ref h17) (.ref h18) (.ref h19) (.ref h20) (.ref h21) (.ref h22) (.ref h23) (.ref h24) (.ref h25))), (h5, .inl (k3, 256, .inl v_tree_holder)), (h6, .inl (k4, 256, .inl v_tree_end))] := hD_3
    refine lv_aload_n hx hb dX1_enterRow_25 rfl (lv_at hl_b20 0 rfl) ?_
    refine lv_iconst (v := 0) hx hb dX1_enterRow_26 (by decide) ?_
    refine va_put (D := (dC, dI)) (ci := 4) (v := .int 0) (ty := .int) (C := RX1) (T := TX1) (N := 19) hx hb ht inX1 tyX1 tyX1_ok nmX1 hown hK hP_3 hD_3 hS_3 0 rfl rfl 5 (by decide) (ht _ tw_526) (fun _ h9 => h9) rfl (by decide +kernel) rfl rfl (Nat.le_of_ble_eq_true rfl) dX1_enterRow_27 (fun H_4 locs_4 hP_4 hD_4 hS_4 => ?_)
    have hP_4 : va_P (dC, dI) vwCl [(h0, .inr (4, oX1 v_steps (.ref h4) (.ref h7) v_wholeOnly v_start 0 p1 v_place v_limit v_verdict (.ref h8) (.ref h9) (.ref h10) (.ref h11) (.ref h1_20) (.ref h2_20) v_choiceCount_20 (.ref h3) v_trailCount)), (h1_20, .inl (k0, nv_choices_20, .inl v_choices_20)), (h2_20, .inl (k1, nv_heights_20, .inl v_heights_20)), (h3, .inl (k2, nv_trail, .inl v_trail)), (h4, .inr (13, oX10 v_tree_there v_tree_count v_tree_captures v_tree_ranges (.ref h12) (.ref h5) (.ref h6) (.ref h13) (.ref h14) (.ref h15) (.ref h16) (.ref h17) (.ref h18) (.ref h19) (.ref h20) (.ref h21) (.ref h22) (.ref h23) (.ref h24) (.ref h25))), (h5, .inl (k3, 256, .inl v_tree_holder)), (h6, .inl (k4, 256, .inl v_tree_end))] H_4 := hP_4
    have hD_4 : va_D A [(h0, .inr (4, oX1 v_steps (.ref h4) (.ref h7) v_wholeOnly v_start 0 p1 v_place v_limit v_verdict (.ref h8) (.ref h9) (.ref h10) (.ref h11) (.ref h1_20) (.ref h2_20) v_choiceCount_20 (.ref h3) v_trailCount)), (h1_20, .inl (k0, nv_choices_20, .inl v_choices_20)), (h2_20, .inl (k1, nv_heights_20, .inl v_heights_20)), (h3, .inl (k2, nv_trail, .inl v_trail)), (h4, .inr (13, oX10 v_tree_there v_tree_count v_tree_captures v_tree_ranges (.ref h12) (.ref h5) (.ref h6) (.ref h13) (.ref h14) (.ref h15) (.ref h16) (.ref h17) (.ref h18) (.ref h19) (.ref h20) (.ref h21) (.ref h22) (.ref h23) (.ref h24) (.ref h25))), (h5, .inl (k3, 256, .inl v_tree_holder)), (h6, .inl (k4, 256, .inl v_tree_end))] := hD_4
    refine W_gain (fun ga_5 gb_5 gc_5 gd_5 => ?_)
    refine W.widen (k := qc) (n := qs) (by omega) (by omega) ?_
    rw [hQQ]
    exact W.vret hx hb hr (fun t9 ht9 hW9 => ⟨⟨0, rfl, rfl, ⟨0, p1, v_choiceCount_20, h1_20, v_choices_20, nv_choices_20, h2_20, v_heights_20, nv_heights_20, q1_b20, q2_b20, w_b20, ⟨hL_b20, hq1_b20, hq2_b20, by rw [ht9]; omega, by rw [ht9]; omega⟩, by rw [ht9]; exact hP_4, hD_4⟩⟩, hS_4.F ht9⟩) hS_4.2.2 dX1_enterRow_30
  refine lv_icmp_eq (tgt := 20) hx hb dX1_enterRow_11 (by decide) (fun c_6 => ?_) (fun c_6 => ?_)
  · exact k_20 v_mode v_node v_choiceCount h1 v_choices nv_choices h2 v_heights nv_heights _ _ _ _ _ (w_1.1 c_6) hP_1 hD_1 hS_1 (lv_sub hl_2 [1, 2] rfl) hL hq1 hq2
  · refine lv_aload_n hx hb dX1_enterRow_14 rfl (lv_at hl_2 1 rfl) ?_
    refine lv_iconst (v := 0) hx hb dX1_enterRow_15 (by decide) ?_
    refine lv_iload_n hx hb dX1_enterRow_16 rfl (lv_at hl_2 0 rfl) ?_
    have hPc_7 := vaPq hP_1 (wsq := [(h0, .inr (4, oX1 v_steps (.ref h4) (.ref h7) v_wholeOnly v_start v_mode v_node v_place v_limit v_verdict (.ref h8) (.ref h9) (.ref h10) (.ref h11) (.ref h1) (.ref h2) v_choiceCount (.ref h3) v_trailCount)), (h1, .inl (k0, nv_choices, .inl v_choices)), (h2, .inl (k1, nv_heights, .inl v_heights)), (h3, .inl (k2, nv_trail, .inl v_trail))]) [0, 1, 2, 3] rfl
    have hDc_7 := vaDq hD_1 (wsq := [(h0, .inr (4, oX1 v_steps (.ref h4) (.ref h7) v_wholeOnly v_start v_mode v_node v_place v_limit v_verdict (.ref h8) (.ref h9) (.ref h10) (.ref h11) (.ref h1) (.ref h2) v_choiceCount (.ref h3) v_trailCount)), (h1, .inl (k0, nv_choices, .inl v_choices)), (h2, .inl (k1, nv_heights, .inl v_heights)), (h3, .inl (k2, nv_trail, .inl v_trail))]) [0, 1, 2, 3] (by decide) rfl
    have hKc_7 := vaKq hK (tysq := [(k0, .int), (k1, .int), (k2, .int)]) [0, 1, 2] rfl
    have hFc_7 := va_free (wc := [(h0, .inr (4, oX1 v_steps (.ref h4) (.ref h7) v_wholeOnly v_start v_mode v_node v_place v_limit v_verdict (.ref h8) (.ref h9) (.ref h10) (.ref h11) (.ref h1) (.ref h2) v_choiceCount (.ref h3) v_trailCount)), (h1, .inl (k0, nv_choices, .inl v_choices)), (h2, .inl (k1, nv_heights, .inl v_heights)), (h3, .inl (k2, nv_trail, .inl v_trail))]) hD_1 hS_1 hA [0, 1, 2, 3] rfl
    refine W_gain (fun ga_7 gb_7 gc_7 gd_7 => ?_)
    refine va_callv (va_runV (As := [.int 0, .int r_1]) (rest := []) ⟨hx, hb, hml, hown, ht⟩ (mt_X1_keepChoice l dC dI h0 h1 h2 h3 h4 h7 h8 h9 h10 h11 k0 k1 k2 0 r_1 v_steps v_wholeOnly v_start v_mode v_node v_place v_limit v_verdict v_choiceCount v_trailCount v_choices nv_choices v_heights nv_heights v_trail nv_trail _ (w_1.2 c_6) H_1.size (hsum H_1) qc qs hL) (cwV 2 ht (goodV tw_1640 tw_1642 tw_98 tw_243 gw_X1_keepChoice) rfl rfl rfl (by decide +kernel) ⟨Nat.le_of_ble_eq_true rfl, Nat.le_of_ble_eq_true rfl⟩) ⟨fun a U g mk q => by obtain ⟨q0, q1, qh, qP, qK, qD⟩ := q; exact ⟨q0, q1, qh, qP, va_K.moved (u := U) (U := U.calling g mk a) (Vm.Alike.refl U.vm) qK, qD⟩, va_recv hKc_7 hPc_7 (ci := 4) (q0 := 0) rfl rfl, fun U hU hW => ⟨rfl, by rw [hU], by rw [hU], by rw [hU]; exact hPc_7, va_K.moved hW.alike hKc_7, hDc_7.weaken (fun _ _ _ _ => trivial)⟩⟩ rfl rfl hl_2.1 rfl (lv_room (Nat.le_of_ble_eq_true rfl)) dX1_enterRow_17 ⟨by dsimp only; omega, by dsimp only; omega⟩) hS_1 (fun q _ h => hFc_7 q h) hFc_7 (fun u_7 t_7 H_7 locs_7 ht_7 hvm_7 hw_7 hB_7 hz_7 hk_7 hS_7 => ?_)
    subst hw_7
    obtain ⟨r_7_0, r_7_1, r_7_2, r_7_3, r_7_4, r_7_5, r_7_6, q1_7, q2_7, w_7, ⟨hL_7, hqa_7, hqb_7, hza_7, hzb_7⟩, hP1_7, hD1_7⟩ := hB_7
    rw [ht_7] at hP1_7 hza_7 hzb_7
    have hq1_7 : q1_7 ≤ qc := Nat.le_trans hqa_7 hq1
    have hq2_7 : q2_7 ≤ qs := Nat.le_trans hqb_7 hq2
    refine W_narrow (c2 := qc - q1_7) (s2 := qs - q2_7) (by omega) (by omega) ?_
    obtain ⟨hP_7, hD_7⟩ := va_join (wr := [(h4, .inr (13, oX10 v_tree_there v_tree_count v_tree_captures v_tree_ranges (.ref h12) (.ref h5) (.ref h6) (.ref h13) (.ref h14) (.ref h15) (.ref h16) (.ref h17) (.ref h18) (.ref h19) (.ref h20) (.ref h21) (.ref h22) (.ref h23) (.ref h24) (.ref h25))), (h5, .inl (k3, 256, .inl v_tree_holder)), (h6, .inl (k4, 256, .inl v_tree_end))]) (w1 := [(h0, .inr (4, oX1 v_steps (.ref h4) (.ref h7) v_wholeOnly v_start v_mode v_node v_place v_limit v_verdict (.ref h8) (.ref h9) (.ref h10) (.ref h11) (.ref r_7_1) (.ref r_7_4) r_7_0 (.ref h3) v_trailCount)), (r_7_1, .inl (k0, r_7_3, .inl r_7_2)), (r_7_4, .inl (k1, r_7_6, .inl r_7_5)), (h3, .inl (k2, nv_trail, .inl v_trail))]) hP_1 hD_1 [0, 1, 2, 3] [4, 5, 6] rfl rfl (by decide) (by decide) hk_7 hFc_7 hP1_7 hD1_7
    have hP_7 := vaPq hP_7 (wsq := [(h0, .inr (4, oX1 v_steps (.ref h4) (.ref h7) v_wholeOnly v_start v_mode v_node v_place v_limit v_verdict (.ref h8) (.ref h9) (.ref h10) (.ref h11) (.ref r_7_1) (.ref r_7_4) r_7_0 (.ref h3) v_trailCount)), (r_7_1, .inl (k0, r_7_3, .inl r_7_2)), (r_7_4, .inl (k1, r_7_6, .inl r_7_5)), (h3, .inl (k2, nv_trail, .inl v_trail)), (h4, .inr (13, oX10 v_tree_there v_tree_count v_tree_captures v_tree_ranges (.ref h12) (.ref h5) (.ref h6) (.ref h13) (.ref h14) (.ref h15) (.ref h16) (.ref h17) (.ref h18) (.ref h19) (.ref h20) (.ref h21) (.ref h22) (.ref h23) (.ref h24) (.ref h25))), (h5, .inl (k3, 256, .inl v_tree_holder)), (h6, .inl (k4, 256, .inl v_tree_end))]) [3, 4, 5, 6, 0, 1, 2] rfl
    have hD_7 := vaDq hD_7 (wsq := [(h0, .inr (4, oX1 v_steps (.ref h4) (.ref h7) v_wholeOnly v_start v_mode v_node v_place v_limit v_verdict (.ref h8) (.ref h9) (.ref h10) (.ref h11) (.ref r_7_1) (.ref r_7_4) r_7_0 (.ref h3) v_trailCount)), (r_7_1, .inl (k0, r_7_3, .inl r_7_2)), (r_7_4, .inl (k1, r_7_6, .inl r_7_5)), (h3, .inl (k2, nv_trail, .inl v_trail)), (h4, .inr (13, oX10 v_tree_there v_tree_count v_tree_captures v_tree_ranges (.ref h12) (.ref h5) (.ref h6) (.ref h13) (.ref h14) (.ref h15) (.ref h16) (.ref h17) (.ref h18) (.ref h19) (.ref h20) (.ref h21) (.ref h22) (.ref h23) (.ref h24) (.ref h25))), (h5, .inl (k3, 256, .inl v_tree_holder)), (h6, .inl (k4, 256, .inl v_tree_end))]) [3, 4, 5, 6, 0, 1, 2] (by decide) rfl
    clear hPc_7 hDc_7 hKc_7 hFc_7 hP1_7 hD1_7 hk_7 hz_7
    exact k_20 v_mode v_node r_7_0 r_7_1 r_7_2 r_7_3 r_7_4 r_7_5 r_7_6 _ _ _ _ _ w_7 hP_7 hD_7 hS_7 (lv_sub hl_2 [1, 2] rfl) hL_7 hq1_7 hq2_7
def w_X1_setCell_13 (nv_trail : Nat) (h4 : Nat) (Q : Int32 → (Nat → Int32) → Nat → (Nat → Int32) → Nat → Prop) (v_trailCount_13 : Int32) (v_cells_13 : Nat → Int32) (v_trail_13 : Nat → Int32) : Prop :=
  Q  v_trailCount_13 v_cells_13 h4 v_trail_13 nv_trail
def w_X1_setCell_103 (p1 : Int32) (p2 : Int32) (nv_trail : Nat) (h4 : Nat) (Q : Int32 → (Nat → Int32) → Nat → (Nat → Int32) → Nat → Prop) (v_trailCount_103 : Int32) (v_cells_103 : Nat → Int32) (v_trail_103 : Nat → Int32) : Prop :=
  vp_in p1 266 ∧ ∀ g_7 : Nat → Int32, g_7 = upd v_cells_103 p1.toNatClampNeg p2 → Q  v_trailCount_103 g_7 h4 v_trail_103 nv_trail
def w_X1_setCell_54 (p1 : Int32) (p2 : Int32) (nv_trail : Nat) (h4 : Nat) (Q : Int32 → (Nat → Int32) → Nat → (Nat → Int32) → Nat → Prop) (v_trailCount_54 : Int32) (v_cells_54 : Nat → Int32) (v_trail_54 : Nat → Int32) : Prop :=
  ((v_trailCount_54 < 0) → w_X1_setCell_103 p1 p2 nv_trail h4 Q v_trailCount_54 v_cells_54 v_trail_54) ∧ ((¬ v_trailCount_54 < 0) → ∀ x_11 : Int32, x_11 = Int32.ofNat nv_trail → nv_trail ≤ 524288 → ((x_11 ≤ v_trailCount_54) → w_X1_setCell_103 p1 p2 nv_trail h4 Q v_trailCount_54 v_cells_54 v_trail_54) ∧ ((¬ x_11 ≤ v_trailCount_54) → ∀ x_14 : Int32, x_14 = p1 * (65536 : Int32) → vp_in p1 266 ∧ ∀ x_16 : Int32, x_16 = v_cells_54 p1.toNatClampNeg → ∀ x_17 : Int32, x_17 = x_14 + x_16 → vp_in v_trailCount_54 nv_trail ∧ ∀ g_18 : Nat → Int32, g_18 = upd v_trail_54 v_trailCount_54.toNatClampNeg x_17 → ∀ x_19 : Int32, x_19 = v_trailCount_54 + (1 : Int32) → w_X1_setCell_103 p1 p2 nv_trail h4 Q x_19 v_cells_54 g_18))
def w_X1_setCell_100103 (p1 : Int32) (p2 : Int32) (Q : Int32 → (Nat → Int32) → Nat → (Nat → Int32) → Nat → Prop) (v_trailCount_100103 : Int32) (v_cells_100103 : Nat → Int32) (v_trail_100103 : Nat → Int32) (hN48_100103 : Nat) (vN48_100103 : Nat → Int32) (nN48_100103 : Nat) : Prop :=
  vp_in p1 266 ∧ ∀ g_34 : Nat → Int32, g_34 = upd v_cells_100103 p1.toNatClampNeg p2 → Q  v_trailCount_100103 g_34 hN48_100103 vN48_100103 nN48_100103
def w_X1_setCell (p1 : Int32) (p2 : Int32) (v_trailCount : Int32) (v_cells : Nat → Int32) (v_trail : Nat → Int32) (nv_trail : Nat) (h4 : Nat) (Q : Int32 → (Nat → Int32) → Nat → (Nat → Int32) → Nat → Prop) : Prop :=
  ((p1 < 0) → w_X1_setCell_13 nv_trail h4 Q v_trailCount v_cells v_trail) ∧ ((¬ p1 < 0) → ((p1 < 266) → ∀ x_5 : Int32, x_5 = Int32.ofNat nv_trail → nv_trail ≤ 524288 → ((v_trailCount < x_5) → w_X1_setCell_54 p1 p2 nv_trail h4 Q v_trailCount v_cells v_trail) ∧ ((¬ v_trailCount < x_5) → ∀ x_24 : Int32, x_24 = Int32.ofNat nv_trail → nv_trail ≤ 524288 → ((262144 ≤ x_24) → w_X1_setCell_54 p1 p2 nv_trail h4 Q v_trailCount v_cells v_trail) ∧ ((¬ 262144 ≤ x_24) → ∀ x_28 : Int32, x_28 = Int32.ofNat nv_trail → nv_trail ≤ 524288 → ∀ x_30 : Int32, x_30 = x_28 * (2 : Int32) → ¬ x_30 < 0 ∧ x_30.toNatClampNeg = 2 * nv_trail ∧ nv_trail < 262144 ∧ ∀ (g_31 : Nat → Int32) (ra_31 : Nat), ((v_trailCount < 0) → w_X1_setCell_100103 p1 p2 Q v_trailCount v_cells v_trail ra_31 g_31 (2 * nv_trail)) ∧ ((¬ v_trailCount < 0) → ∀ x_39 : Int32, x_39 = Int32.ofNat (2 * nv_trail) → (2 * nv_trail) ≤ 524288 → ((x_39 ≤ v_trailCount) → w_X1_setCell_100103 p1 p2 Q v_trailCount v_cells v_trail ra_31 g_31 (2 * nv_trail)) ∧ ((¬ x_39 ≤ v_trailCount) → ∀ x_43 : Int32, x_43 = p1 * (65536 : Int32) → vp_in p1 266 ∧ ∀ x_44 : Int32, x_44 = v_cells p1.toNatClampNeg → ∀ x_45 : Int32, x_45 = x_43 + x_44 → vp_in v_trailCount (2 * nv_trail) ∧ ∀ g_47 : Nat → Int32, g_47 = upd g_31 v_trailCount.toNatClampNeg x_45 → ∀ x_48 : Int32, x_48 = v_trailCount + (1 : Int32) → w_X1_setCell_100103 p1 p2 Q x_48 v_cells v_trail ra_31 g_47 (2 * nv_trail)))))) ∧ ((¬ p1 < 266) → w_X1_setCell_13 nv_trail h4 Q v_trailCount v_cells v_trail))
set_option maxHeartbeats 4000000 in
set_option maxRecDepth 100000 in
theorem mt_X1_setCell (l : Launch) (dC : Nat → ClassId) (dI : Nat → Nat → Nat) (h0 h1 h2 h3 h4 h5 h6 h7 h8 h9 : Nat) (k0 k1 k2 k3 : ClassId) (p1 : Int32) (p2 : Int32) (v_steps : Int32) (v_wholeOnly : Bool) (v_start : Int32) (v_mode : Int32) (v_node : Int32) (v_place : Int32) (v_limit : Int32) (v_verdict : Int32) (v_choiceCount : Int32) (v_trailCount : Int32) (v_cells : Nat → Int32) (v_choices : Nat → Int32) (nv_choices : Nat) (v_heights : Nat → Int32) (nv_heights : Nat) (v_trail : Nat → Int32) (nv_trail : Nat) (Q : Int32 → (Nat → Int32) → Nat → (Nat → Int32) → Nat → Prop) (w : w_X1_setCell p1 p2 v_trailCount v_cells v_trail nv_trail h4 Q) (sz : Nat) (su qc qs : Nat) (hL : gLn nv_choices nv_heights nv_trail qc qs) : Met l yX1_setCell (WS yX1_setCell cX1_setCell 3 none) ({ frames := 2, cells := qc, slots := qs, locals := 62 } : Room) (va_Pc [.ref h0, .int p1, .int p2] (fun U => U.heap.size = sz ∧ hsum U.heap = su ∧ va_P (dC, dI) vwCl [(h0, .inr (4, oX1 v_steps (.ref h5) (.ref h6) v_wholeOnly v_start v_mode v_node v_place v_limit v_verdict (.ref h1) (.ref h7) (.ref h8) (.ref h9) (.ref h2) (.ref h3) v_choiceCount (.ref h4) v_trailCount)), (h1, .inl (k0, 266, .inl v_cells)), (h2, .inl (k1, nv_choices, .inl v_choices)), (h3, .inl (k2, nv_heights, .inl v_heights)), (h4, .inl (k3, nv_trail, .inl v_trail))] U.heap ∧ va_K (dC, dI) vwCl [(k0, .int), (k1, .int), (k2, .int), (k3, .int)] U ∧ va_D (fun _ => True) [(h0, .inr (4, oX1 v_steps (.ref h5) (.ref h6) v_wholeOnly v_start v_mode v_node v_place v_limit v_verdict (.ref h1) (.ref h7) (.ref h8) (.ref h9) (.ref h2) (.ref h3) v_choiceCount (.ref h4) v_trailCount)), (h1, .inl (k0, 266, .inl v_cells)), (h2, .inl (k1, nv_choices, .inl v_choices)), (h3, .inl (k2, nv_heights, .inl v_heights)), (h4, .inl (k3, nv_trail, .inl v_trail))])) (va_Qv (fun (u : Nat) => u = 0) (fun (_ : Nat) (t : State) => ∃ (ov_trailCount : Int32), ∃ (ov_cells : Nat → Int32), ∃ (oh4 : Nat), ∃ (ov_trail : Nat → Int32), ∃ (onv_trail : Nat), ∃ (q1 : Nat), ∃ (q2 : Nat), (Q ov_trailCount ov_cells oh4 ov_trail onv_trail) ∧ (gLn nv_choices nv_heights onv_trail q1 q2 ∧ q1 ≤ qc ∧ q2 ≤ qs ∧ t.heap.size + q1 ≤ sz + qc ∧ hsum t.heap + q2 ≤ su + qs) ∧ va_P (dC, dI) vwCl [(h0, .inr (4, oX1 v_steps (.ref h5) (.ref h6) v_wholeOnly v_start v_mode v_node v_place v_limit v_verdict (.ref h1) (.ref h7) (.ref h8) (.ref h9) (.ref h2) (.ref h3) v_choiceCount (.ref oh4) ov_trailCount)), (h1, .inl (k0, 266, .inl ov_cells)), (h2, .inl (k1, nv_choices, .inl v_choices)), (h3, .inl (k2, nv_heights, .inl v_heights)), (oh4, .inl (k3, onv_trail, .inl ov_trail))] t.heap ∧ va_D (va_A [(h0, .inr (4, oX1 v_steps (.ref h5) (.ref h6) v_wholeOnly v_start v_mode v_node v_place v_limit v_verdict (.ref h1) (.ref h7) (.ref h8) (.ref h9) (.ref h2) (.ref h3) v_choiceCount (.ref h4) v_trailCount)), (h1, .inl (k0, 266, .inl v_cells)), (h2, .inl (k1, nv_choices, .inl v_choices)), (h3, .inl (k2, nv_heights, .inl v_heights)), (h4, .inl (k3, nv_trail, .inl v_trail))] sz) [(h0, .inr (4, oX1 v_steps (.ref h5) (.ref h6) v_wholeOnly v_start v_mode v_node v_place v_limit v_verdict (.ref h1) (.ref h7) (.ref h8) (.ref h9) (.ref h2) (.ref h3) v_choiceCount (.ref oh4) ov_trailCount)), (h1, .inl (k0, 266, .inl ov_cells)), (h2, .inl (k1, nv_choices, .inl v_choices)), (h3, .inl (k2, nv_heights, .inl v_heights)), (oh4, .inl (k3, onv_trail, .inl ov_trail))]) (va_A [(h0, .inr (4, oX1 v_steps (.ref h5) (.ref h6) v_wholeOnly v_start v_mode v_node v_place v_limit v_verdict (.ref h1) (.ref h7) (.ref h8) (.ref h9) (.ref h2) (.ref h3) v_choiceCount (.ref h4) v_trailCount)), (h1, .inl (k0, 266, .inl v_cells)), (h2, .inl (k1, nv_choices, .inl v_choices)), (h3, .inl (k2, nv_heights, .inl v_heights)), (h4, .inl (k3, nv_trail, .inl v_trail))] sz)) qc qs (va_A [(h0, .inr (4, oX1 v_steps (.ref h5) (.ref h6) v_wholeOnly v_start v_mode v_node v_place v_limit v_verdict (.ref h1) (.ref h7) (.ref h8) (.ref h9) (.ref h2) (.ref h3) v_choiceCount (.ref h4) v_trailCount)), (h1, .inl (k0, 266, .inl v_cells)), (h2, .inl (k1, nv_choices, .inl v_choices)), (h3, .inl (k2, nv_heights, .inl v_heights)), (h4, .inl (k3, nv_trail, .inl v_trail))] sz) := by
  refine Met.ofW (cc := cX1_setCell) (maxL := 3) (ret := none) (by decide) rfl ?_
  intro p e s m args below meth c s₁ B hml hv
  obtain ⟨rfl, hsz, hsu, hP, hK, hD0⟩ := hv
  have hx := B.exec
  have hb := B.bytes
  have hr := B.returns
  have hts := atoms_spec (ws := WS yX1_setCell cX1_setCell 3 none) B.pre
  have ht : ∀ w ∈ TW, w.before _ s = true := fun w h => hts w (List.mem_cons_of_mem _ h)
  have hown : s.vm.findClass "PatternWorkshop$GoingBack" = some m.cls := findClass_of_methodNamed B.named
  have hlocks := B.notSynchronized
  subst hsz
  subst hsu
  have hD := hD0.self (sz := s.heap.size)
  generalize hAe : va_A [(h0, .inr (4, oX1 v_steps (.ref h5) (.ref h6) v_wholeOnly v_start v_mode v_node v_place v_limit v_verdict (.ref h1) (.ref h7) (.ref h8) (.ref h9) (.ref h2) (.ref h3) v_choiceCount (.ref h4) v_trailCount)), (h1, .inl (k0, 266, .inl v_cells)), (h2, .inl (k1, nv_choices, .inl v_choices)), (h3, .inl (k2, nv_heights, .inl v_heights)), (h4, .inl (k3, nv_trail, .inl v_trail))] s.heap.size = A at hD ⊢
  have hA : ∀ q : Nat, s.heap.size ≤ q → A q := fun q h => by rw [← hAe]; exact Or.inr h
  have hS : va_S A s.heap s.heap [] := va_S.rf
  have hP : va_P (dC, dI) vwCl [(h0, .inr (4, oX1 v_steps (.ref h5) (.ref h6) v_wholeOnly v_start v_mode v_node v_place v_limit v_verdict (.ref h1) (.ref h7) (.ref h8) (.ref h9) (.ref h2) (.ref h3) v_choiceCount (.ref h4) v_trailCount)), (h1, .inl (k0, 266, .inl v_cells)), (h2, .inl (k1, nv_choices, .inl v_choices)), (h3, .inl (k2, nv_heights, .inl v_heights)), (h4, .inl (k3, nv_trail, .inl v_trail))] s.heap := hP
  have hl := lv_entry ([.ref h0, .int p1, .int p2]) (n := 3) (Nat.le_of_ble_eq_true rfl)
  rw [lg_entry_eq]
  generalize (lg_sl ([.ref h0, .int p1, .int p2]) ++ List.replicate (3 - (lg_sl ([.ref h0, .int p1, .int p2])).length) Slot.unset).toArray = ls at hl ⊢
  have hl : lv_has ls 3 [(0, .ref h0), (1, .int p1), (2, .int p2)] := hl
  clear hD0
  obtain ⟨QQ, hQQ⟩ : ∃ QQ, QQ = MQ below (va_Qv (fun (u : Nat) => u = 0) (fun (_ : Nat) (t : State) => ∃ (ov_trailCount : Int32), ∃ (ov_cells : Nat → Int32), ∃ (oh4 : Nat), ∃ (ov_trail : Nat → Int32), ∃ (onv_trail : Nat), ∃ (q1 : Nat), ∃ (q2 : Nat), (Q ov_trailCount ov_cells oh4 ov_trail onv_trail) ∧ (gLn nv_choices nv_heights onv_trail q1 q2 ∧ q1 ≤ qc ∧ q2 ≤ qs ∧ t.heap.size + q1 ≤ s.heap.size + qc ∧ hsum t.heap + q2 ≤ hsum s.heap + qs) ∧ va_P (dC, dI) vwCl [(h0, .inr (4, oX1 v_steps (.ref h5) (.ref h6) v_wholeOnly v_start v_mode v_node v_place v_limit v_verdict (.ref h1) (.ref h7) (.ref h8) (.ref h9) (.ref h2) (.ref h3) v_choiceCount (.ref oh4) ov_trailCount)), (h1, .inl (k0, 266, .inl ov_cells)), (h2, .inl (k1, nv_choices, .inl v_choices)), (h3, .inl (k2, nv_heights, .inl v_heights)), (oh4, .inl (k3, onv_trail, .inl ov_trail))] t.heap ∧ va_D A [(h0, .inr (4, oX1 v_steps (.ref h5) (.ref h6) v_wholeOnly v_start v_mode v_node v_place v_limit v_verdict (.ref h1) (.ref h7) (.ref h8) (.ref h9) (.ref h2) (.ref h3) v_choiceCount (.ref oh4) ov_trailCount)), (h1, .inl (k0, 266, .inl ov_cells)), (h2, .inl (k1, nv_choices, .inl v_choices)), (h3, .inl (k2, nv_heights, .inl v_heights)), (oh4, .inl (k3, onv_trail, .inl ov_trail))]) A) ([.ref h0, .int p1, .int p2]).toArray s qc qs A := ⟨_, rfl⟩
  show W p l e ({ frames := 2, cells := qc, slots := qs, locals := 62 } : Room) s m ([.ref h0, .int p1, .int p2]).toArray below meth c s.heap [] 0 0 (MQ below (va_Qv (fun (u : Nat) => u = 0) (fun (_ : Nat) (t : State) => ∃ (ov_trailCount : Int32), ∃ (ov_cells : Nat → Int32), ∃ (oh4 : Nat), ∃ (ov_trail : Nat → Int32), ∃ (onv_trail : Nat), ∃ (q1 : Nat), ∃ (q2 : Nat), (Q ov_trailCount ov_cells oh4 ov_trail onv_trail) ∧ (gLn nv_choices nv_heights onv_trail q1 q2 ∧ q1 ≤ qc ∧ q2 ≤ qs ∧ t.heap.size + q1 ≤ s.heap.size + qc ∧ hsum t.heap + q2 ≤ hsum s.heap + qs) ∧ va_P (dC, dI) vwCl [(h0, .inr (4, oX1 v_steps (.ref h5) (.ref h6) v_wholeOnly v_start v_mode v_node v_place v_limit v_verdict (.ref h1) (.ref h7) (.ref h8) (.ref h9) (.ref h2) (.ref h3) v_choiceCount (.ref oh4) ov_trailCount)), (h1, .inl (k0, 266, .inl ov_cells)), (h2, .inl (k1, nv_choices, .inl v_choices)), (h3, .inl (k2, nv_heights, .inl v_heights)), (oh4, .inl (k3, onv_trail, .inl ov_trail))] t.heap ∧ va_D A [(h0, .inr (4, oX1 v_steps (.ref h5) (.ref h6) v_wholeOnly v_start v_mode v_node v_place v_limit v_verdict (.ref h1) (.ref h7) (.ref h8) (.ref h9) (.ref h2) (.ref h3) v_choiceCount (.ref oh4) ov_trailCount)), (h1, .inl (k0, 266, .inl ov_cells)), (h2, .inl (k1, nv_choices, .inl v_choices)), (h3, .inl (k2, nv_heights, .inl v_heights)), (oh4, .inl (k3, onv_trail, .inl ov_trail))]) A) ([.ref h0, .int p1, .int p2]).toArray s qc qs A) (F0 m 0 ls [])
  rw [← hQQ]
  refine W_0 (qc := qc) (qs := qs) ?_
  have hq1 : qc ≤ qc := Nat.le_refl _
  have hq2 : qs ≤ qs := Nat.le_refl _
  unfold w_X1_setCell at w
  refine lv_iload_n hx hb dX1_setCell_0 rfl (lv_at hl 1 rfl) ?_
  have k_13 : ∀ (v_trailCount_13 : Int32) (v_cells_13 : Nat → Int32) (v_trail_13 : Nat → Int32), ∀ (H_b13 : Heap) (locs_b13 : List Loc) (ls_b13 : Array Slot) (q1_b13 q2_b13 : Nat), w_X1_setCell_13 nv_trail h4 Q v_trailCount_13 v_cells_13 v_trail_13 → va_P (dC, dI) vwCl [(h0, .inr (4, oX1 v_steps (.ref h5) (.ref h6) v_wholeOnly v_start v_mode v_node v_place v_limit v_verdict (.ref h1) (.ref h7) (.ref h8) (.ref h9) (.ref h2) (.ref h3) v_choiceCount (.ref h4) v_trailCount_13)), (h1, .inl (k0, 266, .inl v_cells_13)), (h2, .inl (k1, nv_choices, .inl v_choices)), (h3, .inl (k2, nv_heights, .inl v_heights)), (h4, .inl (k3, nv_trail, .inl v_trail_13))] H_b13 → va_D A [(h0, .inr (4, oX1 v_steps (.ref h5) (.ref h6) v_wholeOnly v_start v_mode v_node v_place v_limit v_verdict (.ref h1) (.ref h7) (.ref h8) (.ref h9) (.ref h2) (.ref h3) v_choiceCount (.ref h4) v_trailCount_13)), (h1, .inl (k0, 266, .inl v_cells_13)), (h2, .inl (k1, nv_choices, .inl v_choices)), (h3, .inl (k2, nv_heights, .inl v_heights)), (h4, .inl (k3, nv_trail, .inl v_trail_13))] → va_S A s.heap H_b13 locs_b13 → lv_has ls_b13 3 [] → gLn nv_choices nv_heights nv_trail q1_b13 q2_b13 → q1_b13 ≤ qc → q2_b13 ≤ qs → W p l e ({ frames := 2, cells := qc, slots := qs, locals := 62 } : Room) s m ([.ref h0, .int p1, .int p2]).toArray below meth c H_b13 locs_b13 (qc - q1_b13) (qs - q2_b13) QQ (F0 m 13 ls_b13 []) := by
    intro v_trailCount_13 v_cells_13 v_trail_13 H_b13 locs_b13 ls_b13 q1_b13 q2_b13 w_b13 hP_b13 hD_b13 hS_b13 hl_b13 hL_b13 hq1_b13 hq2_b13
    unfold w_X1_setCell_13 at w_b13
    have hP_1 := vaPq hP_b13 (wsq := [(h0, .inr (4, oX1 v_steps (.ref h5) (.ref h6) v_wholeOnly v_start v_mode v_node v_place v_limit v_verdict (.ref h1) (.ref h7) (.ref h8) (.ref h9) (.ref h2) (.ref h3) v_choiceCount (.ref h4) v_trailCount_13)), (h1, .inl (k0, 266, .inl v_cells_13)), (h2, .inl (k1, nv_choices, .inl v_choices)), (h3, .inl (k2, nv_heights, .inl v_heights)), (h4, .inl (k3, nv_trail, .inl v_trail_13))]) [0, 1, 2, 3, 4] rfl
    have hD_1 := vaDq hD_b13 (wsq := [(h0, .inr (4, oX1 v_steps (.ref h5) (.ref h6) v_wholeOnly v_start v_mode v_node v_place v_limit v_verdict (.ref h1) (.ref h7) (.ref h8) (.ref h9) (.ref h2) (.ref h3) v_choiceCount (.ref h4) v_trailCount_13)), (h1, .inl (k0, 266, .inl v_cells_13)), (h2, .inl (k1, nv_choices, .inl v_choices)), (h3, .inl (k2, nv_heights, .inl v_heights)), (h4, .inl (k3, nv_trail, .inl v_trail_13))]) [0, 1, 2, 3, 4] (by decide) rfl
    refine W_gain (fun ga_2 gb_2 gc_2 gd_2 => ?_)
    refine W.widen (k := qc) (n := qs) (by omega) (by omega) ?_
    rw [hQQ]
    exact W.vret hx hb hr (fun t9 ht9 hW9 => ⟨⟨0, rfl, rfl, ⟨v_trailCount_13, v_cells_13, h4, v_trail_13, nv_trail, q1_b13, q2_b13, w_b13, ⟨hL_b13, hq1_b13, hq2_b13, by rw [ht9]; omega, by rw [ht9]; omega⟩, by rw [ht9]; exact hP_1, hD_1⟩⟩, hS_b13.F ht9⟩) hS_b13.2.2 dX1_setCell_13
  refine lv_if_lt (tgt := 13) hx hb dX1_setCell_1 (by decide) (fun c_3 => ?_) (fun c_3 => ?_)
  · exact k_13 v_trailCount v_cells v_trail _ _ _ _ _ (w.1 c_3) hP hD hS (lv_sub hl [] rfl) hL hq1 hq2
  · refine lv_iload_n hx hb dX1_setCell_4 rfl (lv_at hl 1 rfl) ?_
    refine lv_aload_n hx hb dX1_setCell_5 rfl (lv_at hl 0 rfl) ?_
    refine va_get (D := (dC, dI)) (ci := 4) (v := .ref h1) (C := RX1) (T := TX1) (N := 19) hx hb ht inX1 hown hK hP 0 rfl rfl 10 (by decide) (ht _ tw_531) (fun _ h9 => h9) rfl dX1_setCell_6 ?_
    refine va_alen hx hb hK hP 1 0 rfl rfl (v := 266) (show Int32.ofNat 266 = 266 by decide) dX1_setCell_9 ?_
    refine lv_icmp_lt (tgt := 14) hx hb dX1_setCell_10 (by decide) (fun c_4 => ?_) (fun c_4 => ?_)
    · refine lv_aload_n hx hb dX1_setCell_14 rfl (lv_at hl 0 rfl) ?_
      refine va_get (D := (dC, dI)) (ci := 4) (v := .int v_trailCount) (C := RX1) (T := TX1) (N := 19) hx hb ht inX1 hown hK hP 0 rfl rfl 18 (by decide) (ht _ tw_539) (fun _ h9 => h9) rfl dX1_setCell_15 ?_
      refine lv_aload_n hx hb dX1_setCell_18 rfl (lv_at hl 0 rfl) ?_
      refine va_get (D := (dC, dI)) (ci := 4) (v := .ref h4) (C := RX1) (T := TX1) (N := 19) hx hb ht inX1 hown hK hP 0 rfl rfl 17 (by decide) (ht _ tw_538) (fun _ h9 => h9) rfl dX1_setCell_19 ?_
      refine va_alen hx hb hK hP 4 3 rfl rfl rfl dX1_setCell_22 ?_
      refine lv_topi (fun x_5 ex_5 => ?_)
      have ex_5 : x_5 = Int32.ofNat nv_trail := ex_5
      have hn_6 : nv_trail ≤ 524288 := by have h9 := gLn_b hL; omega
      have k_54 : ∀ (v_trailCount_54 : Int32) (v_cells_54 : Nat → Int32) (v_trail_54 : Nat → Int32), ∀ (H_b54 : Heap) (locs_b54 : List Loc) (ls_b54 : Array Slot) (q1_b54 q2_b54 : Nat), w_X1_setCell_54 p1 p2 nv_trail h4 Q v_trailCount_54 v_cells_54 v_trail_54 → va_P (dC, dI) vwCl [(h0, .inr (4, oX1 v_steps (.ref h5) (.ref h6) v_wholeOnly v_start v_mode v_node v_place v_limit v_verdict (.ref h1) (.ref h7) (.ref h8) (.ref h9) (.ref h2) (.ref h3) v_choiceCount (.ref h4) v_trailCount_54)), (h1, .inl (k0, 266, .inl v_cells_54)), (h2, .inl (k1, nv_choices, .inl v_choices)), (h3, .inl (k2, nv_heights, .inl v_heights)), (h4, .inl (k3, nv_trail, .inl v_trail_54))] H_b54 → va_D A [(h0, .inr (4, oX1 v_steps (.ref h5) (.ref h6) v_wholeOnly v_start v_mode v_node v_place v_limit v_verdict (.ref h1) (.ref h7) (.ref h8) (.ref h9) (.ref h2) (.ref h3) v_choiceCount (.ref h4) v_trailCount_54)), (h1, .inl (k0, 266, .inl v_cells_54)), (h2, .inl (k1, nv_choices, .inl v_choices)), (h3, .inl (k2, nv_heights, .inl v_heights)), (h4, .inl (k3, nv_trail, .inl v_trail_54))] → va_S A s.heap H_b54 locs_b54 → lv_has ls_b54 3 [(0, .ref h0), (1, .int p1), (2, .int p2)] → gLn nv_choices nv_heights nv_trail q1_b54 q2_b54 → q1_b54 ≤ qc → q2_b54 ≤ qs → W p l e ({ frames := 2, cells := qc, slots := qs, locals := 62 } : Room) s m ([.ref h0, .int p1, .int p2]).toArray below meth c H_b54 locs_b54 (qc - q1_b54) (qs - q2_b54) QQ (F0 m 54 ls_b54 []) := by
        intro v_trailCount_54 v_cells_54 v_trail_54 H_b54 locs_b54 ls_b54 q1_b54 q2_b54 w_b54 hP_b54 hD_b54 hS_b54 hl_b54 hL_b54 hq1_b54 hq2_b54
        unfold w_X1_setCell_54 at w_b54
        refine lv_aload_n hx hb dX1_setCell_54 rfl (lv_at hl_b54 0 rfl) ?_
        refine va_get (D := (dC, dI)) (ci := 4) (v := .int v_trailCount_54) (C := RX1) (T := TX1) (N := 19) hx hb ht inX1 hown hK hP_b54 0 rfl rfl 18 (by decide) (ht _ tw_539) (fun _ h9 => h9) rfl dX1_setCell_55 ?_
        have k_103 : ∀ (v_trailCount_103 : Int32) (v_cells_103 : Nat → Int32) (v_trail_103 : Nat → Int32), ∀ (H_b103 : Heap) (locs_b103 : List Loc) (ls_b103 : Array Slot) (q1_b103 q2_b103 : Nat), w_X1_setCell_103 p1 p2 nv_trail h4 Q v_trailCount_103 v_cells_103 v_trail_103 → va_P (dC, dI) vwCl [(h0, .inr (4, oX1 v_steps (.ref h5) (.ref h6) v_wholeOnly v_start v_mode v_node v_place v_limit v_verdict (.ref h1) (.ref h7) (.ref h8) (.ref h9) (.ref h2) (.ref h3) v_choiceCount (.ref h4) v_trailCount_103)), (h1, .inl (k0, 266, .inl v_cells_103)), (h2, .inl (k1, nv_choices, .inl v_choices)), (h3, .inl (k2, nv_heights, .inl v_heights)), (h4, .inl (k3, nv_trail, .inl v_trail_103))] H_b103 → va_D A [(h0, .inr (4, oX1 v_steps (.ref h5) (.ref h6) v_wholeOnly v_start v_mode v_node v_place v_limit v_verdict (.ref h1) (.ref h7) (.ref h8) (.ref h9) (.ref h2) (.ref h3) v_choiceCount (.ref h4) v_trailCount_103)), (h1, .inl (k0, 266, .inl v_cells_103)), (h2, .inl (k1, nv_choices, .inl v_choices)), (h3, .inl (k2, nv_heights, .inl v_heights)), (h4, .inl (k3, nv_trail, .inl v_trail_103))] → va_S A s.heap H_b103 locs_b103 → lv_has ls_b103 3 [(0, .ref h0), (1, .int p1), (2, .int p2)] → gLn nv_choices nv_heights nv_trail q1_b103 q2_b103 → q1_b103 ≤ qc → q2_b103 ≤ qs → W p l e ({ frames := 2, cells := qc, slots := qs, locals := 62 } : Room) s m ([.ref h0, .int p1, .int p2]).toArray below meth c H_b103 locs_b103 (qc - q1_b103) (qs - q2_b103) QQ (F0 m 103 ls_b103 []) := by
          intro v_trailCount_103 v_cells_103 v_trail_103 H_b103 locs_b103 ls_b103 q1_b103 q2_b103 w_b103 hP_b103 hD_b103 hS_b103 hl_b103 hL_b103 hq1_b103 hq2_b103
          unfold w_X1_setCell_103 at w_b103
          refine lv_aload_n hx hb dX1_setCell_103 rfl (lv_at hl_b103 0 rfl) ?_
          refine va_get (D := (dC, dI)) (ci := 4) (v := .ref h1) (C := RX1) (T := TX1) (N := 19) hx hb ht inX1 hown hK hP_b103 0 rfl rfl 10 (by decide) (ht _ tw_531) (fun _ h9 => h9) rfl dX1_setCell_104 ?_
          refine lv_iload_n hx hb dX1_setCell_107 rfl (lv_at hl_b103 1 rfl) ?_
          refine lv_iload_n hx hb dX1_setCell_108 rfl (lv_at hl_b103 2 rfl) ?_
          refine va_iast hx hb hK hP_b103 hD_b103 hS_b103 1 0 rfl rfl (i := p1) w_b103.1 dX1_setCell_109 (fun H_7 locs_7 hP_7 hD_7 hS_7 => ?_)
          obtain ⟨g_7, hg_7⟩ : ∃ g : Nat → Int32, g = upd v_cells_103 p1.toNatClampNeg p2 := ⟨_, rfl⟩
          have hP_7 : va_P (dC, dI) vwCl [(h0, .inr (4, oX1 v_steps (.ref h5) (.ref h6) v_wholeOnly v_start v_mode v_node v_place v_limit v_verdict (.ref h1) (.ref h7) (.ref h8) (.ref h9) (.ref h2) (.ref h3) v_choiceCount (.ref h4) v_trailCount_103)), (h1, .inl (k0, 266, .inl g_7)), (h2, .inl (k1, nv_choices, .inl v_choices)), (h3, .inl (k2, nv_heights, .inl v_heights)), (h4, .inl (k3, nv_trail, .inl v_trail_103))] H_7 := by rw [hg_7]; exact hP_7
          have hD_7 : va_D A [(h0, .inr (4, oX1 v_steps (.ref h5) (.ref h6) v_wholeOnly v_start v_mode v_node v_place v_limit v_verdict (.ref h1) (.ref h7) (.ref h8) (.ref h9) (.ref h2) (.ref h3) v_choiceCount (.ref h4) v_trailCount_103)), (h1, .inl (k0, 266, .inl g_7)), (h2, .inl (k1, nv_choices, .inl v_choices)), (h3, .inl (k2, nv_heights, .inl v_heights)), (h4, .inl (k3, nv_trail, .inl v_trail_103))] := by rw [hg_7]; exact hD_7
          have hP_8 := vaPq hP_7 (wsq := [(h0, .inr (4, oX1 v_steps (.ref h5) (.ref h6) v_wholeOnly v_start v_mode v_node v_place v_limit v_verdict (.ref h1) (.ref h7) (.ref h8) (.ref h9) (.ref h2) (.ref h3) v_choiceCount (.ref h4) v_trailCount_103)), (h1, .inl (k0, 266, .inl g_7)), (h2, .inl (k1, nv_choices, .inl v_choices)), (h3, .inl (k2, nv_heights, .inl v_heights)), (h4, .inl (k3, nv_trail, .inl v_trail_103))]) [0, 1, 2, 3, 4] rfl
          have hD_8 := vaDq hD_7 (wsq := [(h0, .inr (4, oX1 v_steps (.ref h5) (.ref h6) v_wholeOnly v_start v_mode v_node v_place v_limit v_verdict (.ref h1) (.ref h7) (.ref h8) (.ref h9) (.ref h2) (.ref h3) v_choiceCount (.ref h4) v_trailCount_103)), (h1, .inl (k0, 266, .inl g_7)), (h2, .inl (k1, nv_choices, .inl v_choices)), (h3, .inl (k2, nv_heights, .inl v_heights)), (h4, .inl (k3, nv_trail, .inl v_trail_103))]) [0, 1, 2, 3, 4] (by decide) rfl
          refine W_gain (fun ga_9 gb_9 gc_9 gd_9 => ?_)
          refine W.widen (k := qc) (n := qs) (by omega) (by omega) ?_
          rw [hQQ]
          exact W.vret hx hb hr (fun t9 ht9 hW9 => ⟨⟨0, rfl, rfl, ⟨v_trailCount_103, g_7, h4, v_trail_103, nv_trail, q1_b103, q2_b103, w_b103.2 g_7 hg_7, ⟨hL_b103, hq1_b103, hq2_b103, by rw [ht9]; omega, by rw [ht9]; omega⟩, by rw [ht9]; exact hP_8, hD_8⟩⟩, hS_7.F ht9⟩) hS_7.2.2 dX1_setCell_110
        refine lv_if_lt (tgt := 103) hx hb dX1_setCell_58 (by decide) (fun c_10 => ?_) (fun c_10 => ?_)
        · exact k_103 v_trailCount_54 v_cells_54 v_trail_54 _ _ _ _ _ (w_b54.1 c_10) hP_b54 hD_b54 hS_b54 (lv_sub hl_b54 [0, 1, 2] rfl) hL_b54 hq1_b54 hq2_b54
        · refine lv_aload_n hx hb dX1_setCell_61 rfl (lv_at hl_b54 0 rfl) ?_
          refine va_get (D := (dC, dI)) (ci := 4) (v := .int v_trailCount_54) (C := RX1) (T := TX1) (N := 19) hx hb ht inX1 hown hK hP_b54 0 rfl rfl 18 (by decide) (ht _ tw_539) (fun _ h9 => h9) rfl dX1_setCell_62 ?_
          refine lv_aload_n hx hb dX1_setCell_65 rfl (lv_at hl_b54 0 rfl) ?_
          refine va_get (D := (dC, dI)) (ci := 4) (v := .ref h4) (C := RX1) (T := TX1) (N := 19) hx hb ht inX1 hown hK hP_b54 0 rfl rfl 17 (by decide) (ht _ tw_538) (fun _ h9 => h9) rfl dX1_setCell_66 ?_
          refine va_alen hx hb hK hP_b54 4 3 rfl rfl rfl dX1_setCell_69 ?_
          refine lv_topi (fun x_11 ex_11 => ?_)
          have ex_11 : x_11 = Int32.ofNat nv_trail := ex_11
          have hn_12 : nv_trail ≤ 524288 := by have h9 := gLn_b hL_b54; omega
          refine lv_icmp_ge (tgt := 103) hx hb dX1_setCell_70 (by decide) (fun c_13 => ?_) (fun c_13 => ?_)
          · exact k_103 v_trailCount_54 v_cells_54 v_trail_54 _ _ _ _ _ ((w_b54.2 c_10 x_11 ex_11 hn_12).1 c_13) hP_b54 hD_b54 hS_b54 (lv_sub hl_b54 [0, 1, 2] rfl) hL_b54 hq1_b54 hq2_b54
          · refine lv_aload_n hx hb dX1_setCell_73 rfl (lv_at hl_b54 0 rfl) ?_
            refine va_get (D := (dC, dI)) (ci := 4) (v := .ref h4) (C := RX1) (T := TX1) (N := 19) hx hb ht inX1 hown hK hP_b54 0 rfl rfl 17 (by decide) (ht _ tw_538) (fun _ h9 => h9) rfl dX1_setCell_74 ?_
            refine lv_aload_n hx hb dX1_setCell_77 rfl (lv_at hl_b54 0 rfl) ?_
            refine va_get (D := (dC, dI)) (ci := 4) (v := .int v_trailCount_54) (C := RX1) (T := TX1) (N := 19) hx hb ht inX1 hown hK hP_b54 0 rfl rfl 18 (by decide) (ht _ tw_539) (fun _ h9 => h9) rfl dX1_setCell_78 ?_
            refine lv_iload_n hx hb dX1_setCell_81 rfl (lv_at hl_b54 1 rfl) ?_
            refine lv_ldc hx hb hown (ht _ tw_1669) dX1_setCell_82 ?_
            refine lv_imul hx hb dX1_setCell_84 ?_
            refine lv_topi (fun x_14 ex_14 => ?_)
            have ex_14 : x_14 = p1 * (65536 : Int32) := ex_14
            refine lv_aload_n hx hb dX1_setCell_85 rfl (lv_at hl_b54 0 rfl) ?_
            refine va_get (D := (dC, dI)) (ci := 4) (v := .ref h1) (C := RX1) (T := TX1) (N := 19) hx hb ht inX1 hown hK hP_b54 0 rfl rfl 10 (by decide) (ht _ tw_531) (fun _ h9 => h9) rfl dX1_setCell_86 ?_
            refine lv_iload_n hx hb dX1_setCell_89 rfl (lv_at hl_b54 1 rfl) ?_
            have w_15 := ((w_b54.2 c_10 x_11 ex_11 hn_12).2 c_13) x_14 ex_14
            refine va_iald hx hb hK hP_b54 1 0 rfl rfl (i := p1) w_15.1 dX1_setCell_90 ?_
            refine lv_topi (fun x_16 ex_16 => ?_)
            have ex_16 : x_16 = v_cells_54 p1.toNatClampNeg := ex_16
            refine lv_iadd hx hb dX1_setCell_91 ?_
            refine lv_topi (fun x_17 ex_17 => ?_)
            have ex_17 : x_17 = x_14 + x_16 := ex_17
            refine va_iast hx hb hK hP_b54 hD_b54 hS_b54 4 3 rfl rfl (i := v_trailCount_54) (w_15.2 x_16 ex_16 x_17 ex_17).1 dX1_setCell_92 (fun H_18 locs_18 hP_18 hD_18 hS_18 => ?_)
            obtain ⟨g_18, hg_18⟩ : ∃ g : Nat → Int32, g = upd v_trail_54 v_trailCount_54.toNatClampNeg x_17 := ⟨_, rfl⟩
            have hP_18 : va_P (dC, dI) vwCl [(h0, .inr (4, oX1 v_steps (.ref h5) (.ref h6) v_wholeOnly v_start v_mode v_node v_place v_limit v_verdict (.ref h1) (.ref h7) (.ref h8) (.ref h9) (.ref h2) (.ref h3) v_choiceCount (.ref h4) v_trailCount_54)), (h1, .inl (k0, 266, .inl v_cells_54)), (h2, .inl (k1, nv_choices, .inl v_choices)), (h3, .inl (k2, nv_heights, .inl v_heights)), (h4, .inl (k3, nv_trail, .inl g_18))] H_18 := by rw [hg_18]; exact hP_18
            have hD_18 : va_D A [(h0, .inr (4, oX1 v_steps (.ref h5) (.ref h6) v_wholeOnly v_start v_mode v_node v_place v_limit v_verdict (.ref h1) (.ref h7) (.ref h8) (.ref h9) (.ref h2) (.ref h3) v_choiceCount (.ref h4) v_trailCount_54)), (h1, .inl (k0, 266, .inl v_cells_54)), (h2, .inl (k1, nv_choices, .inl v_choices)), (h3, .inl (k2, nv_heights, .inl v_heights)), (h4, .inl (k3, nv_trail, .inl g_18))] := by rw [hg_18]; exact hD_18
            refine lv_aload_n hx hb dX1_setCell_93 rfl (lv_at hl_b54 0 rfl) ?_
            refine lv_dup hx hb dX1_setCell_94 rfl ?_
            refine va_get (D := (dC, dI)) (ci := 4) (v := .int v_trailCount_54) (C := RX1) (T := TX1) (N := 19) hx hb ht inX1 hown hK hP_18 0 rfl rfl 18 (by decide) (ht _ tw_539) (fun _ h9 => h9) rfl dX1_setCell_95 ?_
            refine lv_iconst (v := 1) hx hb dX1_setCell_98 (by decide) ?_
            refine lv_iadd hx hb dX1_setCell_99 ?_
            refine lv_topi (fun x_19 ex_19 => ?_)
            have ex_19 : x_19 = v_trailCount_54 + (1 : Int32) := ex_19
            refine va_put (D := (dC, dI)) (ci := 4) (v := .int x_19) (ty := .int) (C := RX1) (T := TX1) (N := 19) hx hb ht inX1 tyX1 tyX1_ok nmX1 hown hK hP_18 hD_18 hS_18 0 rfl rfl 18 (by decide) (ht _ tw_539) (fun _ h9 => h9) rfl (by decide +kernel) rfl rfl (Nat.le_of_ble_eq_true rfl) dX1_setCell_100 (fun H_20 locs_20 hP_20 hD_20 hS_20 => ?_)
            have hP_20 : va_P (dC, dI) vwCl [(h0, .inr (4, oX1 v_steps (.ref h5) (.ref h6) v_wholeOnly v_start v_mode v_node v_place v_limit v_verdict (.ref h1) (.ref h7) (.ref h8) (.ref h9) (.ref h2) (.ref h3) v_choiceCount (.ref h4) x_19)), (h1, .inl (k0, 266, .inl v_cells_54)), (h2, .inl (k1, nv_choices, .inl v_choices)), (h3, .inl (k2, nv_heights, .inl v_heights)), (h4, .inl (k3, nv_trail, .inl g_18))] H_20 := hP_20
            have hD_20 : va_D A [(h0, .inr (4, oX1 v_steps (.ref h5) (.ref h6) v_wholeOnly v_start v_mode v_node v_place v_limit v_verdict (.ref h1) (.ref h7) (.ref h8) (.ref h9) (.ref h2) (.ref h3) v_choiceCount (.ref h4) x_19)), (h1, .inl (k0, 266, .inl v_cells_54)), (h2, .inl (k1, nv_choices, .inl v_choices)), (h3, .inl (k2, nv_heights, .inl v_heights)), (h4, .inl (k3, nv_trail, .inl g_18))] := hD_20
            have w_21 := (((w_15.2 x_16 ex_16 x_17 ex_17).2) g_18 hg_18) x_19 ex_19
            exact k_103 x_19 v_cells_54 g_18 _ _ _ _ _ w_21 hP_20 hD_20 hS_20 (lv_sub hl_b54 [0, 1, 2] rfl) hL_b54 hq1_b54 hq2_b54
      refine lv_icmp_lt (tgt := 54) hx hb dX1_setCell_23 (by decide) (fun c_22 => ?_) (fun c_22 => ?_)
      · have w_23 := ((((w.2 c_3).1 c_4) x_5 ex_5) hn_6).1 c_22
        exact k_54 v_trailCount v_cells v_trail _ _ _ _ _ w_23 hP hD hS (lv_sub hl [0, 1, 2] rfl) hL hq1 hq2
      · refine lv_aload_n hx hb dX1_setCell_26 rfl (lv_at hl 0 rfl) ?_
        refine va_get (D := (dC, dI)) (ci := 4) (v := .ref h4) (C := RX1) (T := TX1) (N := 19) hx hb ht inX1 hown hK hP 0 rfl rfl 17 (by decide) (ht _ tw_538) (fun _ h9 => h9) rfl dX1_setCell_27 ?_
        refine va_alen hx hb hK hP 4 3 rfl rfl rfl dX1_setCell_30 ?_
        refine lv_topi (fun x_24 ex_24 => ?_)
        have ex_24 : x_24 = Int32.ofNat nv_trail := ex_24
        have hn_25 : nv_trail ≤ 524288 := by have h9 := gLn_b hL; omega
        refine lv_ldc hx hb hown (ht _ tw_1644) dX1_setCell_31 ?_
        have w_26 := ((((((w.2 c_3).1 c_4) x_5 ex_5) hn_6).2 c_22) x_24 ex_24) hn_25
        refine lv_icmp_ge (tgt := 54) hx hb dX1_setCell_33 (by decide) (fun c_27 => ?_) (fun c_27 => ?_)
        · exact k_54 v_trailCount v_cells v_trail _ _ _ _ _ (w_26.1 c_27) hP hD hS (lv_sub hl [0, 1, 2] rfl) hL hq1 hq2
        · refine lv_aload_n hx hb dX1_setCell_36 rfl (lv_at hl 0 rfl) ?_
          refine lv_aload_n hx hb dX1_setCell_37 rfl (lv_at hl 0 rfl) ?_
          refine va_get (D := (dC, dI)) (ci := 4) (v := .ref h4) (C := RX1) (T := TX1) (N := 19) hx hb ht inX1 hown hK hP 0 rfl rfl 17 (by decide) (ht _ tw_538) (fun _ h9 => h9) rfl dX1_setCell_38 ?_
          refine lv_aload_n hx hb dX1_setCell_41 rfl (lv_at hl 0 rfl) ?_
          refine va_get (D := (dC, dI)) (ci := 4) (v := .ref h4) (C := RX1) (T := TX1) (N := 19) hx hb ht inX1 hown hK hP 0 rfl rfl 17 (by decide) (ht _ tw_538) (fun _ h9 => h9) rfl dX1_setCell_42 ?_
          refine va_alen hx hb hK hP 4 3 rfl rfl rfl dX1_setCell_45 ?_
          refine lv_topi (fun x_28 ex_28 => ?_)
          have ex_28 : x_28 = Int32.ofNat nv_trail := ex_28
          have hn_29 : nv_trail ≤ 524288 := by have h9 := gLn_b hL; omega
          refine lv_iconst (v := 2) hx hb dX1_setCell_46 (by decide) ?_
          refine lv_imul hx hb dX1_setCell_47 ?_
          refine lv_topi (fun x_30 ex_30 => ?_)
          have ex_30 : x_30 = x_28 * (2 : Int32) := ex_30
          have w_32 := (w_26.2 c_27 x_28 ex_28 hn_29 x_30 ex_30).2
          obtain ⟨hL_31, hc_31, hs_31⟩ := gLn_t hL w_32.2.1
          have hb_31 := gLn_b hL
          have hcp_31 := cpy_ok (n := nv_trail) (N := 2 * nv_trail) w_32.1 (w_26.2 c_27 x_28 ex_28 hn_29 x_30 ex_30).1 (by omega) (by omega)
          have hPc_31 := vaPq hP (wsq := [(h4, .inl (k3, nv_trail, .inl v_trail))]) [4] rfl
          have hDc_31 := vaDq hD (wsq := [(h4, .inl (k3, nv_trail, .inl v_trail))]) [4] (by decide) rfl
          have hKc_31 := vaKq hK (tysq := [(k3, .int)]) [3] rfl
          have hFc_31 := va_free (wc := [(h4, .inl (k3, nv_trail, .inl v_trail))]) hD hS hA [4] rfl
          refine va_callr (va_runS (As := [.ref h4, .int x_30]) (rest := [.ref h0]) ⟨hx, hb, hml, hown, ht⟩ (mt_copyOf l dC dI h4 k3 x_30 nv_trail (2 * nv_trail) v_trail hcp_31.1 (w_26.2 c_27 x_28 ex_28 hn_29 x_30 ex_30).1 w_32.1 (by omega) hcp_31.2.1 hcp_31.2.2.1 hcp_31.2.2.2 s.heap.size) (va_cwS 2 ht (goodSS tw_1645 tw_1646 tw_250 gw_J7_copyOf_59c91) rfl rfl rfl (by decide +kernel) ⟨Nat.le_of_ble_eq_true rfl, Nat.le_of_ble_eq_true rfl⟩) ⟨fun a U g mk q => by obtain ⟨q0, q1, qP, qK, qD⟩ := q; exact ⟨q0, q1, qP, va_K.moved (u := U) (U := U.calling g mk a) (Vm.Alike.refl U.vm) qK, qD⟩, fun U hU hW => ⟨rfl, by rw [hU], by rw [hU]; exact hPc_31, va_K.moved hW.alike hKc_31, hDc_31.weaken (fun _ _ _ _ => trivial)⟩⟩ rfl rfl hl.1 rfl (lv_room (Nat.le_of_ble_eq_true rfl)) dX1_setCell_48 ⟨by dsimp only; omega, by dsimp only; omega⟩) hS (fun q _ h => hFc_31 q h) hFc_31 (fun u_31 ra_31 t_31 H_31 locs_31 ht_31 hvm_31 hw_31 hB_31 hz_31 hk_31 hS_31 => ?_)
          obtain ⟨g_31, hP1_31, hD1_31⟩ := hB_31
          rw [ht_31] at hP1_31
          obtain ⟨hP_31, hD_31⟩ := va_join (wr := [(h0, .inr (4, oX1 v_steps (.ref h5) (.ref h6) v_wholeOnly v_start v_mode v_node v_place v_limit v_verdict (.ref h1) (.ref h7) (.ref h8) (.ref h9) (.ref h2) (.ref h3) v_choiceCount (.ref h4) v_trailCount)), (h1, .inl (k0, 266, .inl v_cells)), (h2, .inl (k1, nv_choices, .inl v_choices)), (h3, .inl (k2, nv_heights, .inl v_heights))]) (w1 := [(h4, .inl (k3, nv_trail, .inl v_trail)), (ra_31, .inl (k3, (2 * nv_trail), .inl g_31))]) hP hD [4] [0, 1, 2, 3] rfl rfl (by decide) (by decide) hk_31 hFc_31 hP1_31 hD1_31
          have hP_31 := vaPq hP_31 (wsq := [(h0, .inr (4, oX1 v_steps (.ref h5) (.ref h6) v_wholeOnly v_start v_mode v_node v_place v_limit v_verdict (.ref h1) (.ref h7) (.ref h8) (.ref h9) (.ref h2) (.ref h3) v_choiceCount (.ref h4) v_trailCount)), (h1, .inl (k0, 266, .inl v_cells)), (h2, .inl (k1, nv_choices, .inl v_choices)), (h3, .inl (k2, nv_heights, .inl v_heights)), (h4, .inl (k3, nv_trail, .inl v_trail)), (ra_31, .inl (k3, (2 * nv_trail), .inl g_31))]) [0, 1, 2, 3, 4, 5] rfl
          have hD_31 := vaDq hD_31 (wsq := [(h0, .inr (4, oX1 v_steps (.ref h5) (.ref h6) v_wholeOnly v_start v_mode v_node v_place v_limit v_verdict (.ref h1) (.ref h7) (.ref h8) (.ref h9) (.ref h2) (.ref h3) v_choiceCount (.ref h4) v_trailCount)), (h1, .inl (k0, 266, .inl v_cells)), (h2, .inl (k1, nv_choices, .inl v_choices)), (h3, .inl (k2, nv_heights, .inl v_heights)), (h4, .inl (k3, nv_trail, .inl v_trail)), (ra_31, .inl (k3, (2 * nv_trail), .inl g_31))]) [0, 1, 2, 3, 4, 5] (by decide) rfl
          clear hPc_31 hDc_31 hKc_31 hFc_31 hP1_31 hD1_31 hk_31 hz_31
          refine W_eqc (c2 := qc - (qc - 1)) (s2 := qs - (qs - 2 * nv_trail)) (by omega) (by omega) ?_
          have hq1_31 : (qc - 1) ≤ qc := by omega
          have hq2_31 : (qs - 2 * nv_trail) ≤ qs := by omega
          refine va_put (D := (dC, dI)) (ci := 4) (v := .ref ra_31) (ty := .array .int) (C := RX1) (T := TX1) (N := 19) hx hb ht inX1 tyX1 tyX1_ok nmX1 hown hK hP_31 hD_31 hS_31 0 rfl rfl 17 (by decide) (ht _ tw_538) (fun _ h9 => h9) rfl (by decide +kernel) rfl rfl (Nat.le_of_ble_eq_true rfl) dX1_setCell_51 (fun H_33 locs_33 hP_33 hD_33 hS_33 => ?_)
          have hP_33 : va_P (dC, dI) vwCl [(h0, .inr (4, oX1 v_steps (.ref h5) (.ref h6) v_wholeOnly v_start v_mode v_node v_place v_limit v_verdict (.ref h1) (.ref h7) (.ref h8) (.ref h9) (.ref h2) (.ref h3) v_choiceCount (.ref ra_31) v_trailCount)), (h1, .inl (k0, 266, .inl v_cells)), (h2, .inl (k1, nv_choices, .inl v_choices)), (h3, .inl (k2, nv_heights, .inl v_heights)), (h4, .inl (k3, nv_trail, .inl v_trail)), (ra_31, .inl (k3, (2 * nv_trail), .inl g_31))] H_33 := hP_33
          have hD_33 : va_D A [(h0, .inr (4, oX1 v_steps (.ref h5) (.ref h6) v_wholeOnly v_start v_mode v_node v_place v_limit v_verdict (.ref h1) (.ref h7) (.ref h8) (.ref h9) (.ref h2) (.ref h3) v_choiceCount (.ref ra_31) v_trailCount)), (h1, .inl (k0, 266, .inl v_cells)), (h2, .inl (k1, nv_choices, .inl v_choices)), (h3, .inl (k2, nv_heights, .inl v_heights)), (h4, .inl (k3, nv_trail, .inl v_trail)), (ra_31, .inl (k3, (2 * nv_trail), .inl g_31))] := hD_33
          refine lv_aload_n hx hb dX1_setCell_54 rfl (lv_at hl 0 rfl) ?_
          refine va_get (D := (dC, dI)) (ci := 4) (v := .int v_trailCount) (C := RX1) (T := TX1) (N := 19) hx hb ht inX1 hown hK hP_33 0 rfl rfl 18 (by decide) (ht _ tw_539) (fun _ h9 => h9) rfl dX1_setCell_55 ?_
          have k_100103 : ∀ (v_trailCount_100103 : Int32) (v_cells_100103 : Nat → Int32) (v_trail_100103 : Nat → Int32) (hN48_100103 : Nat) (vN48_100103 : Nat → Int32) (nN48_100103 : Nat), ∀ (H_b100103 : Heap) (locs_b100103 : List Loc) (ls_b100103 : Array Slot) (q1_b100103 q2_b100103 : Nat), w_X1_setCell_100103 p1 p2 Q v_trailCount_100103 v_cells_100103 v_trail_100103 hN48_100103 vN48_100103 nN48_100103 → va_P (dC, dI) vwCl [(h0, .inr (4, oX1 v_steps (.ref h5) (.ref h6) v_wholeOnly v_start v_mode v_node v_place v_limit v_verdict (.ref h1) (.ref h7) (.ref h8) (.ref h9) (.ref h2) (.ref h3) v_choiceCount (.ref hN48_100103) v_trailCount_100103)), (h1, .inl (k0, 266, .inl v_cells_100103)), (h2, .inl (k1, nv_choices, .inl v_choices)), (h3, .inl (k2, nv_heights, .inl v_heights)), (h4, .inl (k3, nv_trail, .inl v_trail_100103)), (hN48_100103, .inl (k3, nN48_100103, .inl vN48_100103))] H_b100103 → va_D A [(h0, .inr (4, oX1 v_steps (.ref h5) (.ref h6) v_wholeOnly v_start v_mode v_node v_place v_limit v_verdict (.ref h1) (.ref h7) (.ref h8) (.ref h9) (.ref h2) (.ref h3) v_choiceCount (.ref hN48_100103) v_trailCount_100103)), (h1, .inl (k0, 266, .inl v_cells_100103)), (h2, .inl (k1, nv_choices, .inl v_choices)), (h3, .inl (k2, nv_heights, .inl v_heights)), (h4, .inl (k3, nv_trail, .inl v_trail_100103)), (hN48_100103, .inl (k3, nN48_100103, .inl vN48_100103))] → va_S A s.heap H_b100103 locs_b100103 → lv_has ls_b100103 3 [(0, .ref h0), (1, .int p1), (2, .int p2)] → gLn nv_choices nv_heights nN48_100103 q1_b100103 q2_b100103 → q1_b100103 ≤ qc → q2_b100103 ≤ qs → W p l e ({ frames := 2, cells := qc, slots := qs, locals := 62 } : Room) s m ([.ref h0, .int p1, .int p2]).toArray below meth c H_b100103 locs_b100103 (qc - q1_b100103) (qs - q2_b100103) QQ (F0 m 103 ls_b100103 []) := by
            intro v_trailCount_100103 v_cells_100103 v_trail_100103 hN48_100103 vN48_100103 nN48_100103 H_b100103 locs_b100103 ls_b100103 q1_b100103 q2_b100103 w_b100103 hP_b100103 hD_b100103 hS_b100103 hl_b100103 hL_b100103 hq1_b100103 hq2_b100103
            unfold w_X1_setCell_100103 at w_b100103
            refine lv_aload_n hx hb dX1_setCell_103 rfl (lv_at hl_b100103 0 rfl) ?_
            refine va_get (D := (dC, dI)) (ci := 4) (v := .ref h1) (C := RX1) (T := TX1) (N := 19) hx hb ht inX1 hown hK hP_b100103 0 rfl rfl 10 (by decide) (ht _ tw_531) (fun _ h9 => h9) rfl dX1_setCell_104 ?_
            refine lv_iload_n hx hb dX1_setCell_107 rfl (lv_at hl_b100103 1 rfl) ?_
            refine lv_iload_n hx hb dX1_setCell_108 rfl (lv_at hl_b100103 2 rfl) ?_
            refine va_iast hx hb hK hP_b100103 hD_b100103 hS_b100103 1 0 rfl rfl (i := p1) w_b100103.1 dX1_setCell_109 (fun H_34 locs_34 hP_34 hD_34 hS_34 => ?_)
            obtain ⟨g_34, hg_34⟩ : ∃ g : Nat → Int32, g = upd v_cells_100103 p1.toNatClampNeg p2 := ⟨_, rfl⟩
            have hP_34 : va_P (dC, dI) vwCl [(h0, .inr (4, oX1 v_steps (.ref h5) (.ref h6) v_wholeOnly v_start v_mode v_node v_place v_limit v_verdict (.ref h1) (.ref h7) (.ref h8) (.ref h9) (.ref h2) (.ref h3) v_choiceCount (.ref hN48_100103) v_trailCount_100103)), (h1, .inl (k0, 266, .inl g_34)), (h2, .inl (k1, nv_choices, .inl v_choices)), (h3, .inl (k2, nv_heights, .inl v_heights)), (h4, .inl (k3, nv_trail, .inl v_trail_100103)), (hN48_100103, .inl (k3, nN48_100103, .inl vN48_100103))] H_34 := by rw [hg_34]; exact hP_34
            have hD_34 : va_D A [(h0, .inr (4, oX1 v_steps (.ref h5) (.ref h6) v_wholeOnly v_start v_mode v_node v_place v_limit v_verdict (.ref h1) (.ref h7) (.ref h8) (.ref h9) (.ref h2) (.ref h3) v_choiceCount (.ref hN48_100103) v_trailCount_100103)), (h1, .inl (k0, 266, .inl g_34)), (h2, .inl (k1, nv_choices, .inl v_choices)), (h3, .inl (k2, nv_heights, .inl v_heights)), (h4, .inl (k3, nv_trail, .inl v_trail_100103)), (hN48_100103, .inl (k3, nN48_100103, .inl vN48_100103))] := by rw [hg_34]; exact hD_34
            have ek_36 : k3 = k3 := va_kk hK 3 3 rfl rfl
            have hP_35 := vaPq hP_34 (wsq := [(h0, .inr (4, oX1 v_steps (.ref h5) (.ref h6) v_wholeOnly v_start v_mode v_node v_place v_limit v_verdict (.ref h1) (.ref h7) (.ref h8) (.ref h9) (.ref h2) (.ref h3) v_choiceCount (.ref hN48_100103) v_trailCount_100103)), (h1, .inl (k0, 266, .inl g_34)), (h2, .inl (k1, nv_choices, .inl v_choices)), (h3, .inl (k2, nv_heights, .inl v_heights)), (hN48_100103, .inl (k3, nN48_100103, .inl vN48_100103))]) [0, 1, 2, 3, 5] rfl
            have hD_35 := vaDq hD_34 (wsq := [(h0, .inr (4, oX1 v_steps (.ref h5) (.ref h6) v_wholeOnly v_start v_mode v_node v_place v_limit v_verdict (.ref h1) (.ref h7) (.ref h8) (.ref h9) (.ref h2) (.ref h3) v_choiceCount (.ref hN48_100103) v_trailCount_100103)), (h1, .inl (k0, 266, .inl g_34)), (h2, .inl (k1, nv_choices, .inl v_choices)), (h3, .inl (k2, nv_heights, .inl v_heights)), (hN48_100103, .inl (k3, nN48_100103, .inl vN48_100103))]) [0, 1, 2, 3, 5] (by decide) rfl
            try subst ek_36
            refine W_gain (fun ga_37 gb_37 gc_37 gd_37 => ?_)
            refine W.widen (k := qc) (n := qs) (by omega) (by omega) ?_
            rw [hQQ]
            exact W.vret hx hb hr (fun t9 ht9 hW9 => ⟨⟨0, rfl, rfl, ⟨v_trailCount_100103, g_34, hN48_100103, vN48_100103, nN48_100103, q1_b100103, q2_b100103, w_b100103.2 g_34 hg_34, ⟨hL_b100103, hq1_b100103, hq2_b100103, by rw [ht9]; omega, by rw [ht9]; omega⟩, by rw [ht9]; exact hP_35, hD_35⟩⟩, hS_34.F ht9⟩) hS_34.2.2 dX1_setCell_110
          refine lv_if_lt (tgt := 103) hx hb dX1_setCell_58 (by decide) (fun c_38 => ?_) (fun c_38 => ?_)
          · exact k_100103 v_trailCount v_cells v_trail ra_31 g_31 (2 * nv_trail) _ _ _ _ _ ((w_32.2.2 g_31 ra_31).1 c_38) hP_33 hD_33 hS_33 (lv_sub hl [0, 1, 2] rfl) hL_31 hq1_31 hq2_31
          · refine lv_aload_n hx hb dX1_setCell_61 rfl (lv_at hl 0 rfl) ?_
            refine va_get (D := (dC, dI)) (ci := 4) (v := .int v_trailCount) (C := RX1) (T := TX1) (N := 19) hx hb ht inX1 hown hK hP_33 0 rfl rfl 18 (by decide) (ht _ tw_539) (fun _ h9 => h9) rfl dX1_setCell_62 ?_
            refine lv_aload_n hx hb dX1_setCell_65 rfl (lv_at hl 0 rfl) ?_
            refine va_get (D := (dC, dI)) (ci := 4) (v := .ref ra_31) (C := RX1) (T := TX1) (N := 19) hx hb ht inX1 hown hK hP_33 0 rfl rfl 17 (by decide) (ht _ tw_538) (fun _ h9 => h9) rfl dX1_setCell_66 ?_
            refine va_alen hx hb hK hP_33 5 3 rfl rfl rfl dX1_setCell_69 ?_
            refine lv_topi (fun x_39 ex_39 => ?_)
            have ex_39 : x_39 = Int32.ofNat (2 * nv_trail) := ex_39
            have hn_40 : (2 * nv_trail) ≤ 524288 := by have h9 := gLn_b hL_31; omega
            have w_41 := (((w_32.2.2 g_31 ra_31).2 c_38) x_39 ex_39) hn_40
            refine lv_icmp_ge (tgt := 103) hx hb dX1_setCell_70 (by decide) (fun c_42 => ?_) (fun c_42 => ?_)
            · exact k_100103 v_trailCount v_cells v_trail ra_31 g_31 (2 * nv_trail) _ _ _ _ _ (w_41.1 c_42) hP_33 hD_33 hS_33 (lv_sub hl [0, 1, 2] rfl) hL_31 hq1_31 hq2_31
            · refine lv_aload_n hx hb dX1_setCell_73 rfl (lv_at hl 0 rfl) ?_
              refine va_get (D := (dC, dI)) (ci := 4) (v := .ref ra_31) (C := RX1) (T := TX1) (N := 19) hx hb ht inX1 hown hK hP_33 0 rfl rfl 17 (by decide) (ht _ tw_538) (fun _ h9 => h9) rfl dX1_setCell_74 ?_
              refine lv_aload_n hx hb dX1_setCell_77 rfl (lv_at hl 0 rfl) ?_
              refine va_get (D := (dC, dI)) (ci := 4) (v := .int v_trailCount) (C := RX1) (T := TX1) (N := 19) hx hb ht inX1 hown hK hP_33 0 rfl rfl 18 (by decide) (ht _ tw_539) (fun _ h9 => h9) rfl dX1_setCell_78 ?_
              refine lv_iload_n hx hb dX1_setCell_81 rfl (lv_at hl 1 rfl) ?_
              refine lv_ldc hx hb hown (ht _ tw_1669) dX1_setCell_82 ?_
              refine lv_imul hx hb dX1_setCell_84 ?_
              refine lv_topi (fun x_43 ex_43 => ?_)
              have ex_43 : x_43 = p1 * (65536 : Int32) := ex_43
              refine lv_aload_n hx hb dX1_setCell_85 rfl (lv_at hl 0 rfl) ?_
              refine va_get (D := (dC, dI)) (ci := 4) (v := .ref h1) (C := RX1) (T := TX1) (N := 19) hx hb ht inX1 hown hK hP_33 0 rfl rfl 10 (by decide) (ht _ tw_531) (fun _ h9 => h9) rfl dX1_setCell_86 ?_
              refine lv_iload_n hx hb dX1_setCell_89 rfl (lv_at hl 1 rfl) ?_
              refine va_iald hx hb hK hP_33 1 0 rfl rfl (i := p1) (w_41.2 c_42 x_43 ex_43).1 dX1_setCell_90 ?_
              refine lv_topi (fun x_44 ex_44 => ?_)
              have ex_44 : x_44 = v_cells p1.toNatClampNeg := ex_44
              refine lv_iadd hx hb dX1_setCell_91 ?_
              refine lv_topi (fun x_45 ex_45 => ?_)
              have ex_45 : x_45 = x_43 + x_44 := ex_45
              have w_46 := (((w_41.2 c_42 x_43 ex_43).2) x_44 ex_44) x_45 ex_45
              refine va_iast hx hb hK hP_33 hD_33 hS_33 5 3 rfl rfl (i := v_trailCount) w_46.1 dX1_setCell_92 (fun H_47 locs_47 hP_47 hD_47 hS_47 => ?_)
              obtain ⟨g_47, hg_47⟩ : ∃ g : Nat → Int32, g = upd g_31 v_trailCount.toNatClampNeg x_45 := ⟨_, rfl⟩
              have hP_47 : va_P (dC, dI) vwCl [(h0, .inr (4, oX1 v_steps (.ref h5) (.ref h6) v_wholeOnly v_start v_mode v_node v_place v_limit v_verdict (.ref h1) (.ref h7) (.ref h8) (.ref h9) (.ref h2) (.ref h3) v_choiceCount (.ref ra_31) v_trailCount)), (h1, .inl (k0, 266, .inl v_cells)), (h2, .inl (k1, nv_choices, .inl v_choices)), (h3, .inl (k2, nv_heights, .inl v_heights)), (h4, .inl (k3, nv_trail, .inl v_trail)), (ra_31, .inl (k3, (2 * nv_trail), .inl g_47))] H_47 := by rw [hg_47]; exact hP_47
              have hD_47 : va_D A [(h0, .inr (4, oX1 v_steps (.ref h5) (.ref h6) v_wholeOnly v_start v_mode v_node v_place v_limit v_verdict (.ref h1) (.ref h7) (.ref h8) (.ref h9) (.ref h2) (.ref h3) v_choiceCount (.ref ra_31) v_trailCount)), (h1, .inl (k0, 266, .inl v_cells)), (h2, .inl (k1, nv_choices, .inl v_choices)), (h3, .inl (k2, nv_heights, .inl v_heights)), (h4, .inl (k3, nv_trail, .inl v_trail)), (ra_31, .inl (k3, (2 * nv_trail), .inl g_47))] := by rw [hg_47]; exact hD_47
              refine lv_aload_n hx hb dX1_setCell_93 rfl (lv_at hl 0 rfl) ?_
              refine lv_dup hx hb dX1_setCell_94 rfl ?_
              refine va_get (D := (dC, dI)) (ci := 4) (v := .int v_trailCount) (C := RX1) (T := TX1) (N := 19) hx hb ht inX1 hown hK hP_47 0 rfl rfl 18 (by decide) (ht _ tw_539) (fun _ h9 => h9) rfl dX1_setCell_95 ?_
              refine lv_iconst (v := 1) hx hb dX1_setCell_98 (by decide) ?_
              refine lv_iadd hx hb dX1_setCell_99 ?_
              refine lv_topi (fun x_48 ex_48 => ?_)
              have ex_48 : x_48 = v_trailCount + (1 : Int32) := ex_48
              refine va_put (D := (dC, dI)) (ci := 4) (v := .int x_48) (ty := .int) (C := RX1) (T := TX1) (N := 19) hx hb ht inX1 tyX1 tyX1_ok nmX1 hown hK hP_47 hD_47 hS_47 0 rfl rfl 18 (by decide) (ht _ tw_539) (fun _ h9 => h9) rfl (by decide +kernel) rfl rfl (Nat.le_of_ble_eq_true rfl) dX1_setCell_100 (fun H_49 locs_49 hP_49 hD_49 hS_49 => ?_)
              have hP_49 : va_P (dC, dI) vwCl [(h0, .inr (4, oX1 v_steps (.ref h5) (.ref h6) v_wholeOnly v_start v_mode v_node v_place v_limit v_verdict (.ref h1) (.ref h7) (.ref h8) (.ref h9) (.ref h2) (.ref h3) v_choiceCount (.ref ra_31) x_48)), (h1, .inl (k0, 266, .inl v_cells)), (h2, .inl (k1, nv_choices, .inl v_choices)), (h3, .inl (k2, nv_heights, .inl v_heights)), (h4, .inl (k3, nv_trail, .inl v_trail)), (ra_31, .inl (k3, (2 * nv_trail), .inl g_47))] H_49 := hP_49
              have hD_49 : va_D A [(h0, .inr (4, oX1 v_steps (.ref h5) (.ref h6) v_wholeOnly v_start v_mode v_node v_place v_limit v_verdict (.ref h1) (.ref h7) (.ref h8) (.ref h9) (.ref h2) (.ref h3) v_choiceCount (.ref ra_31) x_48)), (h1, .inl (k0, 266, .inl v_cells)), (h2, .inl (k1, nv_choices, .inl v_choices)), (h3, .inl (k2, nv_heights, .inl v_heights)), (h4, .inl (k3, nv_trail, .inl v_trail)), (ra_31, .inl (k3, (2 * nv_trail), .inl g_47))] := hD_49
              exact k_100103 x_48 v_cells v_trail ra_31 g_47 (2 * nv_trail) _ _ _ _ _ (w_46.2 g_47 hg_47 x_48 ex_48) hP_49 hD_49 hS_49 (lv_sub hl [0, 1, 2] rfl) hL_31 hq1_31 hq2_31
    · exact k_13 v_trailCount v_cells v_trail _ _ _ _ _ ((w.2 c_3).2 c_4) hP hD hS (lv_sub hl [] rfl) hL hq1 hq2
def w_X1_enterLoop_27 (v_node : Int32) (Q : Int32 → Int32 → Int32 → Int32 → (Nat → Int32) → (Nat → Int32) → (Nat → Int32) → (Nat → Int32) → Nat → (Nat → Int32) → Nat → Prop) (v_steps_27 : Int32) (v_mode_27 : Int32) (v_verdict_27 : Int32) (v_trailCount_27 : Int32) (v_cells_27 : Nat → Int32) (v_base_27 : Nat → Int32) (v_entry_27 : Nat → Int32) (v_from_27 : Nat → Int32) (h7_27 : Nat) (v_trail_27 : Nat → Int32) (nv_trail_27 : Nat) : Prop :=
  w_X1_setCell v_node 0 v_trailCount_27 v_cells_27 v_trail_27 nv_trail_27 h7_27 (fun r_2_0 r_2_1 r_2_2 r_2_3 r_2_4 => Q  v_steps_27 3 v_verdict_27 r_2_0 r_2_1 v_base_27 v_entry_27 v_from_27 r_2_2 r_2_3 r_2_4)
def w_X1_enterLoop (v_steps : Int32) (v_mode : Int32) (v_node : Int32) (v_place : Int32) (v_limit : Int32) (v_verdict : Int32) (v_choiceCount : Int32) (v_trailCount : Int32) (v_cells : Nat → Int32) (v_base : Nat → Int32) (v_entry : Nat → Int32) (v_from : Nat → Int32) (v_trail : Nat → Int32) (nv_trail : Nat) (v_tree_count : Int32) (v_tree_value : Nat → Int32) (h7 : Nat) (Q : Int32 → Int32 → Int32 → Int32 → (Nat → Int32) → (Nat → Int32) → (Nat → Int32) → (Nat → Int32) → Nat → (Nat → Int32) → Nat → Prop) : Prop :=
  w_X10_valueOf v_node v_tree_count v_tree_value (fun r_1 => ((¬ r_1 = 2) → w_X1_enterLoop_27 v_node Q v_steps v_mode v_verdict v_trailCount v_cells v_base v_entry v_from h7 v_trail nv_trail) ∧ ((r_1 = 2) → w_X1_step v_steps v_limit v_verdict (fun r_6 r_6_0 r_6_1 => ((¬ r_6 = 0) → w_X1_markBase v_node v_place v_choiceCount v_base v_entry v_from (fun r_8_0 r_8_1 r_8_2 => w_X1_enterLoop_27 v_node Q r_6_0 v_mode r_6_1 v_trailCount v_cells r_8_0 r_8_1 r_8_2 h7 v_trail nv_trail)) ∧ ((r_6 = 0) → Q  r_6_0 v_mode r_6_1 v_trailCount v_cells v_base v_entry v_from h7 v_trail nv_trail))))
set_option maxHeartbeats 4000000 in
set_option maxRecDepth 100000 in
theorem mt_X1_enterLoop (l : Launch) (dC : Nat → ClassId) (dI : Nat → Nat → Nat) (h0 h1 h2 h3 h4 h5 h6 h7 h8 h9 h10 h11 h12 h13 h14 h15 h16 h17 h18 h19 h20 h21 h22 h23 h24 h25 : Nat) (k0 k1 k2 k3 k4 k5 k6 k7 : ClassId) (v_steps : Int32) (v_wholeOnly : Bool) (v_start : Int32) (v_mode : Int32) (v_node : Int32) (v_place : Int32) (v_limit : Int32) (v_verdict : Int32) (v_choiceCount : Int32) (v_trailCount : Int32) (v_cells : Nat → Int32) (v_base : Nat → Int32) (v_entry : Nat → Int32) (v_from : Nat → Int32) (v_choices : Nat → Int32) (nv_choices : Nat) (v_heights : Nat → Int32) (nv_heights : Nat) (v_trail : Nat → Int32) (nv_trail : Nat) (v_tree_there : Bool) (v_tree_count : Int32) (v_tree_captures : Int32) (v_tree_ranges : Int32) (v_tree_value : Nat → Int32) (Q : Int32 → Int32 → Int32 → Int32 → (Nat → Int32) → (Nat → Int32) → (Nat → Int32) → (Nat → Int32) → Nat → (Nat → Int32) → Nat → Prop) (w : w_X1_enterLoop v_steps v_mode v_node v_place v_limit v_verdict v_choiceCount v_trailCount v_cells v_base v_entry v_from v_trail nv_trail v_tree_count v_tree_value h7 Q) (sz : Nat) (su qc qs : Nat) (hL : gLn nv_choices nv_heights nv_trail qc qs) : Met l yX1_enterLoop (WS yX1_enterLoop cX1_enterLoop 1 none) ({ frames := 3, cells := qc, slots := qs, locals := 84 } : Room) (va_Pc [.ref h0] (fun U => U.heap.size = sz ∧ hsum U.heap = su ∧ va_P (dC, dI) vwCl [(h0, .inr (4, oX1 v_steps (.ref h8) (.ref h10) v_wholeOnly v_start v_mode v_node v_place v_limit v_verdict (.ref h1) (.ref h2) (.ref h3) (.ref h4) (.ref h5) (.ref h6) v_choiceCount (.ref h7) v_trailCount)), (h1, .inl (k0, 266, .inl v_cells)), (h2, .inl (k1, 256, .inl v_base)), (h3, .inl (k2, 256, .inl v_entry)), (h4, .inl (k3, 256, .inl v_from)), (h5, .inl (k4, nv_choices, .inl v_choices)), (h6, .inl (k5, nv_heights, .inl v_heights)), (h7, .inl (k6, nv_trail, .inl v_trail)), (h8, .inr (13, oX10 v_tree_there v_tree_count v_tree_captures v_tree_ranges (.ref h11) (.ref h12) (.ref h13) (.ref h14) (.ref h15) (.ref h16) (.ref h9) (.ref h17) (.ref h18) (.ref h19) (.ref h20) (.ref h21) (.ref h22) (.ref h23) (.ref h24) (.ref h25))), (h9, .inl (k7, 256, .inl v_tree_value))] U.heap ∧ va_K (dC, dI) vwCl [(k0, .int), (k1, .int), (k2, .int), (k3, .int), (k4, .int), (k5, .int), (k6, .int), (k7, .int)] U ∧ va_D (fun _ => True) [(h0, .inr (4, oX1 v_steps (.ref h8) (.ref h10) v_wholeOnly v_start v_mode v_node v_place v_limit v_verdict (.ref h1) (.ref h2) (.ref h3) (.ref h4) (.ref h5) (.ref h6) v_choiceCount (.ref h7) v_trailCount)), (h1, .inl (k0, 266, .inl v_cells)), (h2, .inl (k1, 256, .inl v_base)), (h3, .inl (k2, 256, .inl v_entry)), (h4, .inl (k3, 256, .inl v_from)), (h5, .inl (k4, nv_choices, .inl v_choices)), (h6, .inl (k5, nv_heights, .inl v_heights)), (h7, .inl (k6, nv_trail, .inl v_trail)), (h8, .inr (13, oX10 v_tree_there v_tree_count v_tree_captures v_tree_ranges (.ref h11) (.ref h12) (.ref h13) (.ref h14) (.ref h15) (.ref h16) (.ref h9) (.ref h17) (.ref h18) (.ref h19) (.ref h20) (.ref h21) (.ref h22) (.ref h23) (.ref h24) (.ref h25))), (h9, .inl (k7, 256, .inl v_tree_value))])) (va_Qv (fun (u : Nat) => u = 0) (fun (_ : Nat) (t : State) => ∃ (ov_steps : Int32), ∃ (ov_mode : Int32), ∃ (ov_verdict : Int32), ∃ (ov_trailCount : Int32), ∃ (ov_cells : Nat → Int32), ∃ (ov_base : Nat → Int32), ∃ (ov_entry : Nat → Int32), ∃ (ov_from : Nat → Int32), ∃ (oh7 : Nat), ∃ (ov_trail : Nat → Int32), ∃ (onv_trail : Nat), ∃ (q1 : Nat), ∃ (q2 : Nat), (Q ov_steps ov_mode ov_verdict ov_trailCount ov_cells ov_base ov_entry ov_from oh7 ov_trail onv_trail) ∧ (gLn nv_choices nv_heights onv_trail q1 q2 ∧ q1 ≤ qc ∧ q2 ≤ qs ∧ t.heap.size + q1 ≤ sz + qc ∧ hsum t.heap + q2 ≤ su + qs) ∧ va_P (dC, dI) vwCl [(h0, .inr (4, oX1 ov_steps (.ref h8) (.ref h10) v_wholeOnly v_start ov_mode v_node v_place v_limit ov_verdict (.ref h1) (.ref h2) (.ref h3) (.ref h4) (.ref h5) (.ref h6) v_choiceCount (.ref oh7) ov_trailCount)), (h1, .inl (k0, 266, .inl ov_cells)), (h2, .inl (k1, 256, .inl ov_base)), (h3, .inl (k2, 256, .inl ov_entry)), (h4, .inl (k3, 256, .inl ov_from)), (h5, .inl (k4, nv_choices, .inl v_choices)), (h6, .inl (k5, nv_heights, .inl v_heights)), (oh7, .inl (k6, onv_trail, .inl ov_trail)), (h8, .inr (13, oX10 v_tree_there v_tree_count v_tree_captures v_tree_ranges (.ref h11) (.ref h12) (.ref h13) (.ref h14) (.ref h15) (.ref h16) (.ref h9) (.ref h17) (.ref h18) (.ref h19) (.ref h20) (.ref h21) (.ref h22) (.ref h23) (.ref h24) (.ref h25))), (h9, .inl (k7, 256, .inl v_tree_value))] t.heap ∧ va_D (va_A [(h0, .inr (4, oX1 v_steps (.ref h8) (.ref h10) v_wholeOnly v_start v_mode v_node v_place v_limit v_verdict (.ref h1) (.ref h2) (.ref h3) (.ref h4) (.ref h5) (.ref h6) v_choiceCount (.ref h7) v_trailCount)), (h1, .inl (k0, 266, .inl v_cells)), (h2, .inl (k1, 256, .inl v_base)), (h3, .inl (k2, 256, .inl v_entry)), (h4, .inl (k3, 256, .inl v_from)), (h5, .inl (k4, nv_choices, .inl v_choices)), (h6, .inl (k5, nv_heights, .inl v_heights)), (h7, .inl (k6, nv_trail, .inl v_trail)), (h8, .inr (13, oX10 v_tree_there v_tree_count v_tree_captures v_tree_ranges (.ref h11) (.ref h12) (.ref h13) (.ref h14) (.ref h15) (.ref h16) (.ref h9) (.ref h17) (.ref h18) (.ref h19) (.ref h20) (.ref h21) (.ref h22) (.ref h23) (.ref h24) (.ref h25))), (h9, .inl (k7, 256, .inl v_tree_value))] sz) [(h0, .inr (4, oX1 ov_steps (.ref h8) (.ref h10) v_wholeOnly v_start ov_mode v_node v_place v_limit ov_verdict (.ref h1) (.ref h2) (.ref h3) (.ref h4) (.ref h5) (.ref h6) v_choiceCount (.ref oh7) ov_trailCount)), (h1, .inl (k0, 266, .inl ov_cells)), (h2, .inl (k1, 256, .inl ov_base)), (h3, .inl (k2, 256, .inl ov_entry)), (h4, .inl (k3, 256, .inl ov_from)), (h5, .inl (k4, nv_choices, .inl v_choices)), (h6, .inl (k5, nv_heights, .inl v_heights)), (oh7, .inl (k6, onv_trail, .inl ov_trail)), (h8, .inr (13, oX10 v_tree_there v_tree_count v_tree_captures v_tree_ranges (.ref h11) (.ref h12) (.ref h13) (.ref h14) (.ref h15) (.ref h16) (.ref h9) (.ref h17) (.ref h18) (.ref h19) (.ref h20) (.ref h21) (.ref h22) (.ref h23) (.ref h24) (.ref h25))), (h9, .inl (k7, 256, .inl v_tree_value))]) (va_A [(h0, .inr (4, oX1 v_steps (.ref h8) (.ref h10) v_wholeOnly v_start v_mode v_node v_place v_limit v_verdict (.ref h1) (.ref h2) (.ref h3) (.ref h4) (.ref h5) (.ref h6) v_choiceCount (.ref h7) v_trailCount)), (h1, .inl (k0, 266, .inl v_cells)), (h2, .inl (k1, 256, .inl v_base)), (h3, .inl (k2, 256, .inl v_entry)), (h4, .inl (k3, 256, .inl v_from)), (h5, .inl (k4, nv_choices, .inl v_choices)), (h6, .inl (k5, nv_heights, .inl v_heights)), (h7, .inl (k6, nv_trail, .inl v_trail)), (h8, .inr (13, oX10 v_tree_there v_tree_count v_tree_captures v_tree_ranges (.ref h11) (.ref h12) (.ref h13) (.ref h14) (.ref h15) (.ref h16) (.ref h9) (.ref h17) (.ref h18) (.ref h19) (.ref h20) (.ref h21) (.ref h22) (.ref h23) (.ref h24) (.ref h25))), (h9, .inl (k7, 256, .inl v_tree_value))] sz)) qc qs (va_A [(h0, .inr (4, oX1 v_steps (.ref h8) (.ref h10) v_wholeOnly v_start v_mode v_node v_place v_limit v_verdict (.ref h1) (.ref h2) (.ref h3) (.ref h4) (.ref h5) (.ref h6) v_choiceCount (.ref h7) v_trailCount)), (h1, .inl (k0, 266, .inl v_cells)), (h2, .inl (k1, 256, .inl v_base)), (h3, .inl (k2, 256, .inl v_entry)), (h4, .inl (k3, 256, .inl v_from)), (h5, .inl (k4, nv_choices, .inl v_choices)), (h6, .inl (k5, nv_heights, .inl v_heights)), (h7, .inl (k6, nv_trail, .inl v_trail)), (h8, .inr (13, oX10 v_tree_there v_tree_count v_tree_captures v_tree_ranges (.ref h11) (.ref h12) (.ref h13) (.ref h14) (.ref h15) (.ref h16) (.ref h9) (.ref h17) (.ref h18) (.ref h19) (.ref h20) (.ref h21) (.ref h22) (.ref h23) (.ref h24) (.ref h25))), (h9, .inl (k7, 256, .inl v_tree_value))] sz) := by
  refine Met.ofW (cc := cX1_enterLoop) (maxL := 1) (ret := none) (by decide) rfl ?_
  intro p e s m args below meth c s₁ B hml hv
  obtain ⟨rfl, hsz, hsu, hP, hK, hD0⟩ := hv
  have hx := B.exec
  have hb := B.bytes
  have hr := B.returns
  have hts := atoms_spec (ws := WS yX1_enterLoop cX1_enterLoop 1 none) B.pre
  have ht : ∀ w ∈ TW, w.before _ s = true := fun w h => hts w (List.mem_cons_of_mem _ h)
  have hown : s.vm.findClass "PatternWorkshop$GoingBack" = some m.cls := findClass_of_methodNamed B.named
  have hlocks := B.notSynchronized
  subst hsz
  subst hsu
  have hD := hD0.self (sz := s.heap.size)
  generalize hAe : va_A [(h0, .inr (4, oX1 v_steps (.ref h8) (.ref h10) v_wholeOnly v_start v_mode v_node v_place v_limit v_verdict (.ref h1) (.ref h2) (.ref h3) (.ref h4) (.ref h5) (.ref h6) v_choiceCount (.ref h7) v_trailCount)), (h1, .inl (k0, 266, .inl v_cells)), (h2, .inl (k1, 256, .inl v_base)), (h3, .inl (k2, 256, .inl v_entry)), (h4, .inl (k3, 256, .inl v_from)), (h5, .inl (k4, nv_choices, .inl v_choices)), (h6, .inl (k5, nv_heights, .inl v_heights)), (h7, .inl (k6, nv_trail, .inl v_trail)), (h8, .inr (13, oX10 v_tree_there v_tree_count v_tree_captures v_tree_ranges (.ref h11) (.ref h12) (.ref h13) (.ref h14) (.ref h15) (.ref h16) (.ref h9) (.ref h17) (.ref h18) (.ref h19) (.ref h20) (.ref h21) (.ref h22) (.ref h23) (.ref h24) (.ref h25))), (h9, .inl (k7, 256, .inl v_tree_value))] s.heap.size = A at hD ⊢
  have hA : ∀ q : Nat, s.heap.size ≤ q → A q := fun q h => by rw [← hAe]; exact Or.inr h
  have hS : va_S A s.heap s.heap [] := va_S.rf
  have hP : va_P (dC, dI) vwCl [(h0, .inr (4, oX1 v_steps (.ref h8) (.ref h10) v_wholeOnly v_start v_mode v_node v_place v_limit v_verdict (.ref h1) (.ref h2) (.ref h3) (.ref h4) (.ref h5) (.ref h6) v_choiceCount (.ref h7) v_trailCount)), (h1, .inl (k0, 266, .inl v_cells)), (h2, .inl (k1, 256, .inl v_base)), (h3, .inl (k2, 256, .inl v_entry)), (h4, .inl (k3, 256, .inl v_from)), (h5, .inl (k4, nv_choices, .inl v_choices)), (h6, .inl (k5, nv_heights, .inl v_heights)), (h7, .inl (k6, nv_trail, .inl v_trail)), (h8, .inr (13, oX10 v_tree_there v_tree_count v_tree_captures v_tree_ranges (.ref h11) (.ref h12) (.ref h13) (.ref h14) (.ref h15) (.ref h16) (.ref h9) (.ref h17) (.ref h18) (.ref h19) (.ref h20) (.ref h21) (.ref h22) (.ref h23) (.ref h24) (.ref h25))), (h9, .inl (k7, 256, .inl v_tree_value))] s.heap := hP
  have hl := lv_entry ([.ref h0]) (n := 1) (Nat.le_of_ble_eq_true rfl)
  rw [lg_entry_eq]
  generalize (lg_sl ([.ref h0]) ++ List.replicate (1 - (lg_sl ([.ref h0])).length) Slot.unset).toArray = ls at hl ⊢
  have hl : lv_has ls 1 [(0, .ref h0)] := hl
  clear hD0
  obtain ⟨QQ, hQQ⟩ : ∃ QQ, QQ = MQ below (va_Qv (fun (u : Nat) => u = 0) (fun (_ : Nat) (t : State) => ∃ (ov_steps : Int32), ∃ (ov_mode : Int32), ∃ (ov_verdict : Int32), ∃ (ov_trailCount : Int32), ∃ (ov_cells : Nat → Int32), ∃ (ov_base : Nat → Int32), ∃ (ov_entry : Nat → Int32), ∃ (ov_from : Nat → Int32), ∃ (oh7 : Nat), ∃ (ov_trail : Nat → Int32), ∃ (onv_trail : Nat), ∃ (q1 : Nat), ∃ (q2 : Nat), (Q ov_steps ov_mode ov_verdict ov_trailCount ov_cells ov_base ov_entry ov_from oh7 ov_trail onv_trail) ∧ (gLn nv_choices nv_heights onv_trail q1 q2 ∧ q1 ≤ qc ∧ q2 ≤ qs ∧ t.heap.size + q1 ≤ s.heap.size + qc ∧ hsum t.heap + q2 ≤ hsum s.heap + qs) ∧ va_P (dC, dI) vwCl [(h0, .inr (4, oX1 ov_steps (.ref h8) (.ref h10) v_wholeOnly v_start ov_mode v_node v_place v_limit ov_verdict (.ref h1) (.ref h2) (.ref h3) (.ref h4) (.ref h5) (.ref h6) v_choiceCount (.ref oh7) ov_trailCount)), (h1, .inl (k0, 266, .inl ov_cells)), (h2, .inl (k1, 256, .inl ov_base)), (h3, .inl (k2, 256, .inl ov_entry)), (h4, .inl (k3, 256, .inl ov_from)), (h5, .inl (k4, nv_choices, .inl v_choices)), (h6, .inl (k5, nv_heights, .inl v_heights)), (oh7, .inl (k6, onv_trail, .inl ov_trail)), (h8, .inr (13, oX10 v_tree_there v_tree_count v_tree_captures v_tree_ranges (.ref h11) (.ref h12) (.ref h13) (.ref h14) (.ref h15) (.ref h16) (.ref h9) (.ref h17) (.ref h18) (.ref h19) (.ref h20) (.ref h21) (.ref h22) (.ref h23) (.ref h24) (.ref h25))), (h9, .inl (k7, 256, .inl v_tree_value))] t.heap ∧ va_D A [(h0, .inr (4, oX1 ov_steps (.ref h8) (.ref h10) v_wholeOnly v_start ov_mode v_node v_place v_limit ov_verdict (.ref h1) (.ref h2) (.ref h3) (.ref h4) (.ref h5) (.ref h6) v_choiceCount (.ref oh7) ov_trailCount)), (h1, .inl (k0, 266, .inl ov_cells)), (h2, .inl (k1, 256, .inl ov_base)), (h3, .inl (k2, 256, .inl ov_entry)), (h4, .inl (k3, 256, .inl ov_from)), (h5, .inl (k4, nv_choices, .inl v_choices)), (h6, .inl (k5, nv_heights, .inl v_heights)), (oh7, .inl (k6, onv_trail, .inl ov_trail)), (h8, .inr (13, oX10 v_tree_there v_tree_count v_tree_captures v_tree_ranges (.ref h11) (.ref h12) (.ref h13) (.ref h14) (.ref h15) (.ref h16) (.ref h9) (.ref h17) (.ref h18) (.ref h19) (.ref h20) (.ref h21) (.ref h22) (.ref h23) (.ref h24) (.ref h25))), (h9, .inl (k7, 256, .inl v_tree_value))]) A) ([.ref h0]).toArray s qc qs A := ⟨_, rfl⟩
  show W p l e ({ frames := 3, cells := qc, slots := qs, locals := 84 } : Room) s m ([.ref h0]).toArray below meth c s.heap [] 0 0 (MQ below (va_Qv (fun (u : Nat) => u = 0) (fun (_ : Nat) (t : State) => ∃ (ov_steps : Int32), ∃ (ov_mode : Int32), ∃ (ov_verdict : Int32), ∃ (ov_trailCount : Int32), ∃ (ov_cells : Nat → Int32), ∃ (ov_base : Nat → Int32), ∃ (ov_entry : Nat → Int32), ∃ (ov_from : Nat → Int32), ∃ (oh7 : Nat), ∃ (ov_trail : Nat → Int32), ∃ (onv_trail : Nat), ∃ (q1 : Nat), ∃ (q2 : Nat), (Q ov_steps ov_mode ov_verdict ov_trailCount ov_cells ov_base ov_entry ov_from oh7 ov_trail onv_trail) ∧ (gLn nv_choices nv_heights onv_trail q1 q2 ∧ q1 ≤ qc ∧ q2 ≤ qs ∧ t.heap.size + q1 ≤ s.heap.size + qc ∧ hsum t.heap + q2 ≤ hsum s.heap + qs) ∧ va_P (dC, dI) vwCl [(h0, .inr (4, oX1 ov_steps (.ref h8) (.ref h10) v_wholeOnly v_start ov_mode v_node v_place v_limit ov_verdict (.ref h1) (.ref h2) (.ref h3) (.ref h4) (.ref h5) (.ref h6) v_choiceCount (.ref oh7) ov_trailCount)), (h1, .inl (k0, 266, .inl ov_cells)), (h2, .inl (k1, 256, .inl ov_base)), (h3, .inl (k2, 256, .inl ov_entry)), (h4, .inl (k3, 256, .inl ov_from)), (h5, .inl (k4, nv_choices, .inl v_choices)), (h6, .inl (k5, nv_heights, .inl v_heights)), (oh7, .inl (k6, onv_trail, .inl ov_trail)), (h8, .inr (13, oX10 v_tree_there v_tree_count v_tree_captures v_tree_ranges (.ref h11) (.ref h12) (.ref h13) (.ref h14) (.ref h15) (.ref h16) (.ref h9) (.ref h17) (.ref h18) (.ref h19) (.ref h20) (.ref h21) (.ref h22) (.ref h23) (.ref h24) (.ref h25))), (h9, .inl (k7, 256, .inl v_tree_value))] t.heap ∧ va_D A [(h0, .inr (4, oX1 ov_steps (.ref h8) (.ref h10) v_wholeOnly v_start ov_mode v_node v_place v_limit ov_verdict (.ref h1) (.ref h2) (.ref h3) (.ref h4) (.ref h5) (.ref h6) v_choiceCount (.ref oh7) ov_trailCount)), (h1, .inl (k0, 266, .inl ov_cells)), (h2, .inl (k1, 256, .inl ov_base)), (h3, .inl (k2, 256, .inl ov_entry)), (h4, .inl (k3, 256, .inl ov_from)), (h5, .inl (k4, nv_choices, .inl v_choices)), (h6, .inl (k5, nv_heights, .inl v_heights)), (oh7, .inl (k6, onv_trail, .inl ov_trail)), (h8, .inr (13, oX10 v_tree_there v_tree_count v_tree_captures v_tree_ranges (.ref h11) (.ref h12) (.ref h13) (.ref h14) (.ref h15) (.ref h16) (.ref h9) (.ref h17) (.ref h18) (.ref h19) (.ref h20) (.ref h21) (.ref h22) (.ref h23) (.ref h24) (.ref h25))), (h9, .inl (k7, 256, .inl v_tree_value))]) A) ([.ref h0]).toArray s qc qs A) (F0 m 0 ls [])
  rw [← hQQ]
  refine W_0 (qc := qc) (qs := qs) ?_
  have hq1 : qc ≤ qc := Nat.le_refl _
  have hq2 : qs ≤ qs := Nat.le_refl _
  unfold w_X1_enterLoop at w
  refine lv_aload_n hx hb dX1_enterLoop_0 rfl (lv_at hl 0 rfl) ?_
  refine va_get (D := (dC, dI)) (ci := 4) (v := .ref h8) (C := RX1) (T := TX1) (N := 19) hx hb ht inX1 hown hK hP 0 rfl rfl 1 (by decide) (ht _ tw_522) (fun _ h9 => h9) rfl dX1_enterLoop_1 ?_
  refine lv_aload_n hx hb dX1_enterLoop_4 rfl (lv_at hl 0 rfl) ?_
  refine va_get (D := (dC, dI)) (ci := 4) (v := .int v_node) (C := RX1) (T := TX1) (N := 19) hx hb ht inX1 hown hK hP 0 rfl rfl 6 (by decide) (ht _ tw_527) (fun _ h9 => h9) rfl dX1_enterLoop_5 ?_
  have hPc_1 := vaPq hP (wsq := [(h8, .inr (13, oX10 v_tree_there v_tree_count v_tree_captures v_tree_ranges (.ref h11) (.ref h12) (.ref h13) (.ref h14) (.ref h15) (.ref h16) (.ref h9) (.ref h17) (.ref h18) (.ref h19) (.ref h20) (.ref h21) (.ref h22) (.ref h23) (.ref h24) (.ref h25))), (h9, .inl (k7, 256, .inl v_tree_value))]) [8, 9] rfl
  have hDc_1 := vaDq hD (wsq := [(h8, .inr (13, oX10 v_tree_there v_tree_count v_tree_captures v_tree_ranges (.ref h11) (.ref h12) (.ref h13) (.ref h14) (.ref h15) (.ref h16) (.ref h9) (.ref h17) (.ref h18) (.ref h19) (.ref h20) (.ref h21) (.ref h22) (.ref h23) (.ref h24) (.ref h25))), (h9, .inl (k7, 256, .inl v_tree_value))]) [8, 9] (by decide) rfl
  have hKc_1 := vaKq hK (tysq := [(k7, .int)]) [7] rfl
  have hFc_1 := va_free (wc := [(h8, .inr (13, oX10 v_tree_there v_tree_count v_tree_captures v_tree_ranges (.ref h11) (.ref h12) (.ref h13) (.ref h14) (.ref h15) (.ref h16) (.ref h9) (.ref h17) (.ref h18) (.ref h19) (.ref h20) (.ref h21) (.ref h22) (.ref h23) (.ref h24) (.ref h25))), (h9, .inl (k7, 256, .inl v_tree_value))]) hD hS hA [8, 9] rfl
  refine va_calli (va_runV (As := [.int v_node]) (rest := []) ⟨hx, hb, hml, hown, ht⟩ (mt_X10_valueOf l dC dI h8 h9 h11 h12 h13 h14 h15 h16 h17 h18 h19 h20 h21 h22 h23 h24 h25 k7 v_node v_tree_there v_tree_count v_tree_captures v_tree_ranges v_tree_value _ w s.heap.size) (cwV 1 ht (goodV tw_1614 tw_1172 tw_1173 tw_240 gw_X10_valueOf) rfl rfl rfl (by decide +kernel) ⟨Nat.le_of_ble_eq_true rfl, Nat.le_of_ble_eq_true rfl⟩) ⟨fun a U g mk q => by obtain ⟨q0, q1, qP, qK, qD⟩ := q; exact ⟨q0, q1, qP, va_K.moved (u := U) (U := U.calling g mk a) (Vm.Alike.refl U.vm) qK, qD⟩, va_recv hKc_1 hPc_1 (ci := 13) (q0 := 0) rfl rfl, fun U hU hW => ⟨rfl, by rw [hU], by rw [hU]; exact hPc_1, va_K.moved hW.alike hKc_1, hDc_1.weaken (fun _ _ _ _ => trivial)⟩⟩ rfl rfl hl.1 rfl (lv_room (Nat.le_of_ble_eq_true rfl)) dX1_enterLoop_8 ⟨by dsimp only; omega, by dsimp only; omega⟩) hS (fun q _ h => hFc_1 q h) hFc_1 (fun r_1 u_1 t_1 H_1 locs_1 ht_1 hvm_1 hw_1 hB_1 hz_1 hk_1 hS_1 => ?_)
  subst hw_1
  obtain ⟨w_1, hP1_1, hD1_1⟩ := hB_1
  rw [ht_1] at hP1_1
  obtain ⟨hP_1, hD_1⟩ := va_join (wr := [(h0, .inr (4, oX1 v_steps (.ref h8) (.ref h10) v_wholeOnly v_start v_mode v_node v_place v_limit v_verdict (.ref h1) (.ref h2) (.ref h3) (.ref h4) (.ref h5) (.ref h6) v_choiceCount (.ref h7) v_trailCount)), (h1, .inl (k0, 266, .inl v_cells)), (h2, .inl (k1, 256, .inl v_base)), (h3, .inl (k2, 256, .inl v_entry)), (h4, .inl (k3, 256, .inl v_from)), (h5, .inl (k4, nv_choices, .inl v_choices)), (h6, .inl (k5, nv_heights, .inl v_heights)), (h7, .inl (k6, nv_trail, .inl v_trail))]) (w1 := [(h8, .inr (13, oX10 v_tree_there v_tree_count v_tree_captures v_tree_ranges (.ref h11) (.ref h12) (.ref h13) (.ref h14) (.ref h15) (.ref h16) (.ref h9) (.ref h17) (.ref h18) (.ref h19) (.ref h20) (.ref h21) (.ref h22) (.ref h23) (.ref h24) (.ref h25))), (h9, .inl (k7, 256, .inl v_tree_value))]) hP hD [8, 9] [0, 1, 2, 3, 4, 5, 6, 7] rfl rfl (by decide) (by decide) hk_1 hFc_1 hP1_1 hD1_1
  have hP_1 := vaPq hP_1 (wsq := [(h0, .inr (4, oX1 v_steps (.ref h8) (.ref h10) v_wholeOnly v_start v_mode v_node v_place v_limit v_verdict (.ref h1) (.ref h2) (.ref h3) (.ref h4) (.ref h5) (.ref h6) v_choiceCount (.ref h7) v_trailCount)), (h1, .inl (k0, 266, .inl v_cells)), (h2, .inl (k1, 256, .inl v_base)), (h3, .inl (k2, 256, .inl v_entry)), (h4, .inl (k3, 256, .inl v_from)), (h5, .inl (k4, nv_choices, .inl v_choices)), (h6, .inl (k5, nv_heights, .inl v_heights)), (h7, .inl (k6, nv_trail, .inl v_trail)), (h8, .inr (13, oX10 v_tree_there v_tree_count v_tree_captures v_tree_ranges (.ref h11) (.ref h12) (.ref h13) (.ref h14) (.ref h15) (.ref h16) (.ref h9) (.ref h17) (.ref h18) (.ref h19) (.ref h20) (.ref h21) (.ref h22) (.ref h23) (.ref h24) (.ref h25))), (h9, .inl (k7, 256, .inl v_tree_value))]) [0, 1, 2, 3, 4, 5, 6, 7, 8, 9] rfl
  have hD_1 := vaDq hD_1 (wsq := [(h0, .inr (4, oX1 v_steps (.ref h8) (.ref h10) v_wholeOnly v_start v_mode v_node v_place v_limit v_verdict (.ref h1) (.ref h2) (.ref h3) (.ref h4) (.ref h5) (.ref h6) v_choiceCount (.ref h7) v_trailCount)), (h1, .inl (k0, 266, .inl v_cells)), (h2, .inl (k1, 256, .inl v_base)), (h3, .inl (k2, 256, .inl v_entry)), (h4, .inl (k3, 256, .inl v_from)), (h5, .inl (k4, nv_choices, .inl v_choices)), (h6, .inl (k5, nv_heights, .inl v_heights)), (h7, .inl (k6, nv_trail, .inl v_trail)), (h8, .inr (13, oX10 v_tree_there v_tree_count v_tree_captures v_tree_ranges (.ref h11) (.ref h12) (.ref h13) (.ref h14) (.ref h15) (.ref h16) (.ref h9) (.ref h17) (.ref h18) (.ref h19) (.ref h20) (.ref h21) (.ref h22) (.ref h23) (.ref h24) (.ref h25))), (h9, .inl (k7, 256, .inl v_tree_value))]) [0, 1, 2, 3, 4, 5, 6, 7, 8, 9] (by decide) rfl
  clear hPc_1 hDc_1 hKc_1 hFc_1 hP1_1 hD1_1 hk_1 hz_1
  refine lv_iconst (v := 2) hx hb dX1_enterLoop_11 (by decide) ?_
  have k_27 : ∀ (v_steps_27 : Int32) (v_mode_27 : Int32) (v_verdict_27 : Int32) (v_trailCount_27 : Int32) (v_cells_27 : Nat → Int32) (v_base_27 : Nat → Int32) (v_entry_27 : Nat → Int32) (v_from_27 : Nat → Int32) (h7_27 : Nat) (v_trail_27 : Nat → Int32) (nv_trail_27 : Nat), ∀ (H_b27 : Heap) (locs_b27 : List Loc) (ls_b27 : Array Slot) (q1_b27 q2_b27 : Nat), w_X1_enterLoop_27 v_node Q v_steps_27 v_mode_27 v_verdict_27 v_trailCount_27 v_cells_27 v_base_27 v_entry_27 v_from_27 h7_27 v_trail_27 nv_trail_27 → va_P (dC, dI) vwCl [(h0, .inr (4, oX1 v_steps_27 (.ref h8) (.ref h10) v_wholeOnly v_start v_mode_27 v_node v_place v_limit v_verdict_27 (.ref h1) (.ref h2) (.ref h3) (.ref h4) (.ref h5) (.ref h6) v_choiceCount (.ref h7_27) v_trailCount_27)), (h1, .inl (k0, 266, .inl v_cells_27)), (h2, .inl (k1, 256, .inl v_base_27)), (h3, .inl (k2, 256, .inl v_entry_27)), (h4, .inl (k3, 256, .inl v_from_27)), (h5, .inl (k4, nv_choices, .inl v_choices)), (h6, .inl (k5, nv_heights, .inl v_heights)), (h7_27, .inl (k6, nv_trail_27, .inl v_trail_27)), (h8, .inr (13, oX10 v_tree_there v_tree_count v_tree_captures v_tree_ranges (.ref h11) (.ref h12) (.ref h13) (.ref h14) (.ref h15) (.ref h16) (.ref h9) (.ref h17) (.ref h18) (.ref h19) (.ref h20) (.ref h21) (.ref h22) (.ref h23) (.ref h24) (.ref h25))), (h9, .inl (k7, 256, .inl v_tree_value))] H_b27 → va_D A [(h0, .inr (4, oX1 v_steps_27 (.ref h8) (.ref h10) v_wholeOnly v_start v_mode_27 v_node v_place v_limit v_verdict_27 (.ref h1) (.ref h2) (.ref h3) (.ref h4) (.ref h5) (.ref h6) v_choiceCount (.ref h7_27) v_trailCount_27)), (h1, .inl (k0, 266, .inl v_cells_27)), (h2, .inl (k1, 256, .inl v_base_27)), (h3, .inl (k2, 256, .inl v_entry_27)), (h4, .inl (k3, 256, .inl v_from_27)), (h5, .inl (k4, nv_choices, .inl v_choices)), (h6, .inl (k5, nv_heights, .inl v_heights)), (h7_27, .inl (k6, nv_trail_27, .inl v_trail_27)), (h8, .inr (13, oX10 v_tree_there v_tree_count v_tree_captures v_tree_ranges (.ref h11) (.ref h12) (.ref h13) (.ref h14) (.ref h15) (.ref h16) (.ref h9) (.ref h17) (.ref h18) (.ref h19) (.ref h20) (.ref h21) (.ref h22) (.ref h23) (.ref h24) (.ref h25))), (h9, .inl (k7, 256, .inl v_tree_value))] → va_S A s.heap H_b27 locs_b27 → lv_has ls_b27 1 [(0, .ref h0)] → gLn nv_choices nv_heights nv_trail_27 q1_b27 q2_b27 → q1_b27 ≤ qc → q2_b27 ≤ qs → W p l e ({ frames := 3, cells := qc, slots := qs, locals := 84 } : Room) s m ([.ref h0]).toArray below meth c H_b27 locs_b27 (qc - q1_b27) (qs - q2_b27) QQ (F0 m 27 ls_b27 []) := by
    intro v_steps_27 v_mode_27 v_verdict_27 v_trailCount_27 v_cells_27 v_base_27 v_entry_27 v_from_27 h7_27 v_trail_27 nv_trail_27 H_b27 locs_b27 ls_b27 q1_b27 q2_b27 w_b27 hP_b27 hD_b27 hS_b27 hl_b27 hL_b27 hq1_b27 hq2_b27
    unfold w_X1_enterLoop_27 at w_b27
    refine lv_aload_n hx hb dX1_enterLoop_27 rfl (lv_at hl_b27 0 rfl) ?_
    refine lv_aload_n hx hb dX1_enterLoop_28 rfl (lv_at hl_b27 0 rfl) ?_
    refine va_get (D := (dC, dI)) (ci := 4) (v := .int v_node) (C := RX1) (T := TX1) (N := 19) hx hb ht inX1 hown hK hP_b27 0 rfl rfl 6 (by decide) (ht _ tw_527) (fun _ h9 => h9) rfl dX1_enterLoop_29 ?_
    refine lv_iconst (v := 0) hx hb dX1_enterLoop_32 (by decide) ?_
    have hPc_2 := vaPq hP_b27 (wsq := [(h0, .inr (4, oX1 v_steps_27 (.ref h8) (.ref h10) v_wholeOnly v_start v_mode_27 v_node v_place v_limit v_verdict_27 (.ref h1) (.ref h2) (.ref h3) (.ref h4) (.ref h5) (.ref h6) v_choiceCount (.ref h7_27) v_trailCount_27)), (h1, .inl (k0, 266, .inl v_cells_27)), (h5, .inl (k4, nv_choices, .inl v_choices)), (h6, .inl (k5, nv_heights, .inl v_heights)), (h7_27, .inl (k6, nv_trail_27, .inl v_trail_27))]) [0, 1, 5, 6, 7] rfl
    have hDc_2 := vaDq hD_b27 (wsq := [(h0, .inr (4, oX1 v_steps_27 (.ref h8) (.ref h10) v_wholeOnly v_start v_mode_27 v_node v_place v_limit v_verdict_27 (.ref h1) (.ref h2) (.ref h3) (.ref h4) (.ref h5) (.ref h6) v_choiceCount (.ref h7_27) v_trailCount_27)), (h1, .inl (k0, 266, .inl v_cells_27)), (h5, .inl (k4, nv_choices, .inl v_choices)), (h6, .inl (k5, nv_heights, .inl v_heights)), (h7_27, .inl (k6, nv_trail_27, .inl v_trail_27))]) [0, 1, 5, 6, 7] (by decide) rfl
    have hKc_2 := vaKq hK (tysq := [(k0, .int), (k4, .int), (k5, .int), (k6, .int)]) [0, 4, 5, 6] rfl
    have hFc_2 := va_free (wc := [(h0, .inr (4, oX1 v_steps_27 (.ref h8) (.ref h10) v_wholeOnly v_start v_mode_27 v_node v_place v_limit v_verdict_27 (.ref h1) (.ref h2) (.ref h3) (.ref h4) (.ref h5) (.ref h6) v_choiceCount (.ref h7_27) v_trailCount_27)), (h1, .inl (k0, 266, .inl v_cells_27)), (h5, .inl (k4, nv_choices, .inl v_choices)), (h6, .inl (k5, nv_heights, .inl v_heights)), (h7_27, .inl (k6, nv_trail_27, .inl v_trail_27))]) hD_b27 hS_b27 hA [0, 1, 5, 6, 7] rfl
    refine W_gain (fun ga_2 gb_2 gc_2 gd_2 => ?_)
    refine va_callv (va_runV (As := [.int v_node, .int 0]) (rest := []) ⟨hx, hb, hml, hown, ht⟩ (mt_X1_setCell l dC dI h0 h1 h5 h6 h7_27 h8 h10 h2 h3 h4 k0 k4 k5 k6 v_node 0 v_steps_27 v_wholeOnly v_start v_mode_27 v_node v_place v_limit v_verdict_27 v_choiceCount v_trailCount_27 v_cells_27 v_choices nv_choices v_heights nv_heights v_trail_27 nv_trail_27 _ w_b27 H_b27.size (hsum H_b27) q1_b27 q2_b27 hL_b27) (cwV 2 ht (goodV tw_1665 tw_1667 tw_101 tw_243 gw_X1_setCell) rfl rfl rfl (by decide +kernel) ⟨Nat.le_of_ble_eq_true rfl, Nat.le_of_ble_eq_true rfl⟩) ⟨fun a U g mk q => by obtain ⟨q0, q1, qh, qP, qK, qD⟩ := q; exact ⟨q0, q1, qh, qP, va_K.moved (u := U) (U := U.calling g mk a) (Vm.Alike.refl U.vm) qK, qD⟩, va_recv hKc_2 hPc_2 (ci := 4) (q0 := 0) rfl rfl, fun U hU hW => ⟨rfl, by rw [hU], by rw [hU], by rw [hU]; exact hPc_2, va_K.moved hW.alike hKc_2, hDc_2.weaken (fun _ _ _ _ => trivial)⟩⟩ rfl rfl hl_b27.1 rfl (lv_room (Nat.le_of_ble_eq_true rfl)) dX1_enterLoop_33 ⟨by dsimp only; omega, by dsimp only; omega⟩) hS_b27 (fun q _ h => hFc_2 q h) hFc_2 (fun u_2 t_2 H_2 locs_2 ht_2 hvm_2 hw_2 hB_2 hz_2 hk_2 hS_2 => ?_)
    subst hw_2
    obtain ⟨r_2_0, r_2_1, r_2_2, r_2_3, r_2_4, q1_2, q2_2, w_2, ⟨hL_2, hqa_2, hqb_2, hza_2, hzb_2⟩, hP1_2, hD1_2⟩ := hB_2
    rw [ht_2] at hP1_2 hza_2 hzb_2
    have hq1_2 : q1_2 ≤ qc := Nat.le_trans hqa_2 hq1_b27
    have hq2_2 : q2_2 ≤ qs := Nat.le_trans hqb_2 hq2_b27
    refine W_narrow (c2 := qc - q1_2) (s2 := qs - q2_2) (by omega) (by omega) ?_
    obtain ⟨hP_2, hD_2⟩ := va_join (wr := [(h2, .inl (k1, 256, .inl v_base_27)), (h3, .inl (k2, 256, .inl v_entry_27)), (h4, .inl (k3, 256, .inl v_from_27)), (h8, .inr (13, oX10 v_tree_there v_tree_count v_tree_captures v_tree_ranges (.ref h11) (.ref h12) (.ref h13) (.ref h14) (.ref h15) (.ref h16) (.ref h9) (.ref h17) (.ref h18) (.ref h19) (.ref h20) (.ref h21) (.ref h22) (.ref h23) (.ref h24) (.ref h25))), (h9, .inl (k7, 256, .inl v_tree_value))]) (w1 := [(h0, .inr (4, oX1 v_steps_27 (.ref h8) (.ref h10) v_wholeOnly v_start v_mode_27 v_node v_place v_limit v_verdict_27 (.ref h1) (.ref h2) (.ref h3) (.ref h4) (.ref h5) (.ref h6) v_choiceCount (.ref r_2_2) r_2_0)), (h1, .inl (k0, 266, .inl r_2_1)), (h5, .inl (k4, nv_choices, .inl v_choices)), (h6, .inl (k5, nv_heights, .inl v_heights)), (r_2_2, .inl (k6, r_2_4, .inl r_2_3))]) hP_b27 hD_b27 [0, 1, 5, 6, 7] [2, 3, 4, 8, 9] rfl rfl (by decide) (by decide) hk_2 hFc_2 hP1_2 hD1_2
    have hP_2 := vaPq hP_2 (wsq := [(h0, .inr (4, oX1 v_steps_27 (.ref h8) (.ref h10) v_wholeOnly v_start v_mode_27 v_node v_place v_limit v_verdict_27 (.ref h1) (.ref h2) (.ref h3) (.ref h4) (.ref h5) (.ref h6) v_choiceCount (.ref r_2_2) r_2_0)), (h1, .inl (k0, 266, .inl r_2_1)), (h2, .inl (k1, 256, .inl v_base_27)), (h3, .inl (k2, 256, .inl v_entry_27)), (h4, .inl (k3, 256, .inl v_from_27)), (h5, .inl (k4, nv_choices, .inl v_choices)), (h6, .inl (k5, nv_heights, .inl v_heights)), (r_2_2, .inl (k6, r_2_4, .inl r_2_3)), (h8, .inr (13, oX10 v_tree_there v_tree_count v_tree_captures v_tree_ranges (.ref h11) (.ref h12) (.ref h13) (.ref h14) (.ref h15) (.ref h16) (.ref h9) (.ref h17) (.ref h18) (.ref h19) (.ref h20) (.ref h21) (.ref h22) (.ref h23) (.ref h24) (.ref h25))), (h9, .inl (k7, 256, .inl v_tree_value))]) [5, 6, 0, 1, 2, 7, 8, 9, 3, 4] rfl
    have hD_2 := vaDq hD_2 (wsq := [(h0, .inr (4, oX1 v_steps_27 (.ref h8) (.ref h10) v_wholeOnly v_start v_mode_27 v_node v_place v_limit v_verdict_27 (.ref h1) (.ref h2) (.ref h3) (.ref h4) (.ref h5) (.ref h6) v_choiceCount (.ref r_2_2) r_2_0)), (h1, .inl (k0, 266, .inl r_2_1)), (h2, .inl (k1, 256, .inl v_base_27)), (h3, .inl (k2, 256, .inl v_entry_27)), (h4, .inl (k3, 256, .inl v_from_27)), (h5, .inl (k4, nv_choices, .inl v_choices)), (h6, .inl (k5, nv_heights, .inl v_heights)), (r_2_2, .inl (k6, r_2_4, .inl r_2_3)), (h8, .inr (13, oX10 v_tree_there v_tree_count v_tree_captures v_tree_ranges (.ref h11) (.ref h12) (.ref h13) (.ref h14) (.ref h15) (.ref h16) (.ref h9) (.ref h17) (.ref h18) (.ref h19) (.ref h20) (.ref h21) (.ref h22) (.ref h23) (.ref h24) (.ref h25))), (h9, .inl (k7, 256, .inl v_tree_value))]) [5, 6, 0, 1, 2, 7, 8, 9, 3, 4] (by decide) rfl
    clear hPc_2 hDc_2 hKc_2 hFc_2 hP1_2 hD1_2 hk_2 hz_2
    refine lv_aload_n hx hb dX1_enterLoop_36 rfl (lv_at hl_b27 0 rfl) ?_
    refine lv_iconst (v := 3) hx hb dX1_enterLoop_37 (by decide) ?_
    refine va_put (D := (dC, dI)) (ci := 4) (v := .int 3) (ty := .int) (C := RX1) (T := TX1) (N := 19) hx hb ht inX1 tyX1 tyX1_ok nmX1 hown hK hP_2 hD_2 hS_2 0 rfl rfl 5 (by decide) (ht _ tw_526) (fun _ h9 => h9) rfl (by decide +kernel) rfl rfl (Nat.le_of_ble_eq_true rfl) dX1_enterLoop_38 (fun H_3 locs_3 hP_3 hD_3 hS_3 => ?_)
    have hP_3 : va_P (dC, dI) vwCl [(h0, .inr (4, oX1 v_steps_27 (.ref h8) (.ref h10) v_wholeOnly v_start 3 v_node v_place v_limit v_verdict_27 (.ref h1) (.ref h2) (.ref h3) (.ref h4) (.ref h5) (.ref h6) v_choiceCount (.ref r_2_2) r_2_0)), (h1, .inl (k0, 266, .inl r_2_1)), (h2, .inl (k1, 256, .inl v_base_27)), (h3, .inl (k2, 256, .inl v_entry_27)), (h4, .inl (k3, 256, .inl v_from_27)), (h5, .inl (k4, nv_choices, .inl v_choices)), (h6, .inl (k5, nv_heights, .inl v_heights)), (r_2_2, .inl (k6, r_2_4, .inl r_2_3)), (h8, .inr (13, oX10 v_tree_there v_tree_count v_tree_captures v_tree_ranges (.ref h11) (.ref h12) (.ref h13) (.ref h14) (.ref h15) (.ref h16) (.ref h9) (.ref h17) (.ref h18) (.ref h19) (.ref h20) (.ref h21) (.ref h22) (.ref h23) (.ref h24) (.ref h25))), (h9, .inl (k7, 256, .inl v_tree_value))] H_3 := hP_3
    have hD_3 : va_D A [(h0, .inr (4, oX1 v_steps_27 (.ref h8) (.ref h10) v_wholeOnly v_start 3 v_node v_place v_limit v_verdict_27 (.ref h1) (.ref h2) (.ref h3) (.ref h4) (.ref h5) (.ref h6) v_choiceCount (.ref r_2_2) r_2_0)), (h1, .inl (k0, 266, .inl r_2_1)), (h2, .inl (k1, 256, .inl v_base_27)), (h3, .inl (k2, 256, .inl v_entry_27)), (h4, .inl (k3, 256, .inl v_from_27)), (h5, .inl (k4, nv_choices, .inl v_choices)), (h6, .inl (k5, nv_heights, .inl v_heights)), (r_2_2, .inl (k6, r_2_4, .inl r_2_3)), (h8, .inr (13, oX10 v_tree_there v_tree_count v_tree_captures v_tree_ranges (.ref h11) (.ref h12) (.ref h13) (.ref h14) (.ref h15) (.ref h16) (.ref h9) (.ref h17) (.ref h18) (.ref h19) (.ref h20) (.ref h21) (.ref h22) (.ref h23) (.ref h24) (.ref h25))), (h9, .inl (k7, 256, .inl v_tree_value))] := hD_3
    refine W_gain (fun ga_4 gb_4 gc_4 gd_4 => ?_)
    refine W.widen (k := qc) (n := qs) (by omega) (by omega) ?_
    rw [hQQ]
    exact W.vret hx hb hr (fun t9 ht9 hW9 => ⟨⟨0, rfl, rfl, ⟨v_steps_27, 3, v_verdict_27, r_2_0, r_2_1, v_base_27, v_entry_27, v_from_27, r_2_2, r_2_3, r_2_4, q1_2, q2_2, w_2, ⟨hL_2, hq1_2, hq2_2, by rw [ht9]; omega, by rw [ht9]; omega⟩, by rw [ht9]; exact hP_3, hD_3⟩⟩, hS_3.F ht9⟩) hS_3.2.2 dX1_enterLoop_41
  refine lv_icmp_ne (tgt := 27) hx hb dX1_enterLoop_12 (by decide) (fun c_5 => ?_) (fun c_5 => ?_)
  · exact k_27 v_steps v_mode v_verdict v_trailCount v_cells v_base v_entry v_from h7 v_trail nv_trail _ _ _ _ _ (w_1.1 c_5) hP_1 hD_1 hS_1 (lv_sub hl [0] rfl) hL hq1 hq2
  · refine lv_aload_n hx hb dX1_enterLoop_15 rfl (lv_at hl 0 rfl) ?_
    have hPc_6 := vaPq hP_1 (wsq := [(h0, .inr (4, oX1 v_steps (.ref h8) (.ref h10) v_wholeOnly v_start v_mode v_node v_place v_limit v_verdict (.ref h1) (.ref h2) (.ref h3) (.ref h4) (.ref h5) (.ref h6) v_choiceCount (.ref h7) v_trailCount))]) [0] rfl
    have hDc_6 := vaDq hD_1 (wsq := [(h0, .inr (4, oX1 v_steps (.ref h8) (.ref h10) v_wholeOnly v_start v_mode v_node v_place v_limit v_verdict (.ref h1) (.ref h2) (.ref h3) (.ref h4) (.ref h5) (.ref h6) v_choiceCount (.ref h7) v_trailCount))]) [0] (by decide) rfl
    have hKc_6 := vaKq hK (tysq := []) [] rfl
    have hFc_6 := va_free (wc := [(h0, .inr (4, oX1 v_steps (.ref h8) (.ref h10) v_wholeOnly v_start v_mode v_node v_place v_limit v_verdict (.ref h1) (.ref h2) (.ref h3) (.ref h4) (.ref h5) (.ref h6) v_choiceCount (.ref h7) v_trailCount))]) hD_1 hS_1 hA [0] rfl
    refine va_calli (va_runV (As := []) (rest := []) ⟨hx, hb, hml, hown, ht⟩ (mt_X1_step l dC dI h0 h8 h10 h1 h2 h3 h4 h5 h6 h7 v_steps v_wholeOnly v_start v_mode v_node v_place v_limit v_verdict v_choiceCount v_trailCount _ (w_1.2 c_5) H_1.size) (cwV 0 ht (goodV tw_1600 tw_1602 tw_90 tw_243 gw_X1_step) rfl rfl rfl (by decide +kernel) ⟨Nat.le_of_ble_eq_true rfl, Nat.le_of_ble_eq_true rfl⟩) ⟨fun a U g mk q => by obtain ⟨q0, q1, qP, qK, qD⟩ := q; exact ⟨q0, q1, qP, va_K.moved (u := U) (U := U.calling g mk a) (Vm.Alike.refl U.vm) qK, qD⟩, va_recv hKc_6 hPc_6 (ci := 4) (q0 := 0) rfl rfl, fun U hU hW => ⟨rfl, by rw [hU], by rw [hU]; exact hPc_6, va_K.moved hW.alike hKc_6, hDc_6.weaken (fun _ _ _ _ => trivial)⟩⟩ rfl rfl hl.1 rfl (lv_room (Nat.le_of_ble_eq_true rfl)) dX1_enterLoop_16 ⟨by dsimp only; omega, by dsimp only; omega⟩) hS_1 (fun q _ h => hFc_6 q h) hFc_6 (fun r_6 u_6 t_6 H_6 locs_6 ht_6 hvm_6 hw_6 hB_6 hz_6 hk_6 hS_6 => ?_)
    subst hw_6
    obtain ⟨r_6_0, r_6_1, w_6, hP1_6, hD1_6⟩ := hB_6
    rw [ht_6] at hP1_6
    obtain ⟨hP_6, hD_6⟩ := va_join (wr := [(h1, .inl (k0, 266, .inl v_cells)), (h2, .inl (k1, 256, .inl v_base)), (h3, .inl (k2, 256, .inl v_entry)), (h4, .inl (k3, 256, .inl v_from)), (h5, .inl (k4, nv_choices, .inl v_choices)), (h6, .inl (k5, nv_heights, .inl v_heights)), (h7, .inl (k6, nv_trail, .inl v_trail)), (h8, .inr (13, oX10 v_tree_there v_tree_count v_tree_captures v_tree_ranges (.ref h11) (.ref h12) (.ref h13) (.ref h14) (.ref h15) (.ref h16) (.ref h9) (.ref h17) (.ref h18) (.ref h19) (.ref h20) (.ref h21) (.ref h22) (.ref h23) (.ref h24) (.ref h25))), (h9, .inl (k7, 256, .inl v_tree_value))]) (w1 := [(h0, .inr (4, oX1 r_6_0 (.ref h8) (.ref h10) v_wholeOnly v_start v_mode v_node v_place v_limit r_6_1 (.ref h1) (.ref h2) (.ref h3) (.ref h4) (.ref h5) (.ref h6) v_choiceCount (.ref h7) v_trailCount))]) hP_1 hD_1 [0] [1, 2, 3, 4, 5, 6, 7, 8, 9] rfl rfl (by decide) (by decide) hk_6 hFc_6 hP1_6 hD1_6
    have hP_6 := vaPq hP_6 (wsq := [(h0, .inr (4, oX1 r_6_0 (.ref h8) (.ref h10) v_wholeOnly v_start v_mode v_node v_place v_limit r_6_1 (.ref h1) (.ref h2) (.ref h3) (.ref h4) (.ref h5) (.ref h6) v_choiceCount (.ref h7) v_trailCount)), (h1, .inl (k0, 266, .inl v_cells)), (h2, .inl (k1, 256, .inl v_base)), (h3, .inl (k2, 256, .inl v_entry)), (h4, .inl (k3, 256, .inl v_from)), (h5, .inl (k4, nv_choices, .inl v_choices)), (h6, .inl (k5, nv_heights, .inl v_heights)), (h7, .inl (k6, nv_trail, .inl v_trail)), (h8, .inr (13, oX10 v_tree_there v_tree_count v_tree_captures v_tree_ranges (.ref h11) (.ref h12) (.ref h13) (.ref h14) (.ref h15) (.ref h16) (.ref h9) (.ref h17) (.ref h18) (.ref h19) (.ref h20) (.ref h21) (.ref h22) (.ref h23) (.ref h24) (.ref h25))), (h9, .inl (k7, 256, .inl v_tree_value))]) [9, 0, 1, 2, 3, 4, 5, 6, 7, 8] rfl
    have hD_6 := vaDq hD_6 (wsq := [(h0, .inr (4, oX1 r_6_0 (.ref h8) (.ref h10) v_wholeOnly v_start v_mode v_node v_place v_limit r_6_1 (.ref h1) (.ref h2) (.ref h3) (.ref h4) (.ref h5) (.ref h6) v_choiceCount (.ref h7) v_trailCount)), (h1, .inl (k0, 266, .inl v_cells)), (h2, .inl (k1, 256, .inl v_base)), (h3, .inl (k2, 256, .inl v_entry)), (h4, .inl (k3, 256, .inl v_from)), (h5, .inl (k4, nv_choices, .inl v_choices)), (h6, .inl (k5, nv_heights, .inl v_heights)), (h7, .inl (k6, nv_trail, .inl v_trail)), (h8, .inr (13, oX10 v_tree_there v_tree_count v_tree_captures v_tree_ranges (.ref h11) (.ref h12) (.ref h13) (.ref h14) (.ref h15) (.ref h16) (.ref h9) (.ref h17) (.ref h18) (.ref h19) (.ref h20) (.ref h21) (.ref h22) (.ref h23) (.ref h24) (.ref h25))), (h9, .inl (k7, 256, .inl v_tree_value))]) [9, 0, 1, 2, 3, 4, 5, 6, 7, 8] (by decide) rfl
    clear hPc_6 hDc_6 hKc_6 hFc_6 hP1_6 hD1_6 hk_6 hz_6
    refine lv_if_ne (tgt := 23) hx hb dX1_enterLoop_19 (by decide) (fun c_7 => ?_) (fun c_7 => ?_)
    · refine lv_aload_n hx hb dX1_enterLoop_23 rfl (lv_at hl 0 rfl) ?_
      have hPc_8 := vaPq hP_6 (wsq := [(h0, .inr (4, oX1 r_6_0 (.ref h8) (.ref h10) v_wholeOnly v_start v_mode v_node v_place v_limit r_6_1 (.ref h1) (.ref h2) (.ref h3) (.ref h4) (.ref h5) (.ref h6) v_choiceCount (.ref h7) v_trailCount)), (h2, .inl (k1, 256, .inl v_base)), (h3, .inl (k2, 256, .inl v_entry)), (h4, .inl (k3, 256, .inl v_from))]) [0, 2, 3, 4] rfl
      have hDc_8 := vaDq hD_6 (wsq := [(h0, .inr (4, oX1 r_6_0 (.ref h8) (.ref h10) v_wholeOnly v_start v_mode v_node v_place v_limit r_6_1 (.ref h1) (.ref h2) (.ref h3) (.ref h4) (.ref h5) (.ref h6) v_choiceCount (.ref h7) v_trailCount)), (h2, .inl (k1, 256, .inl v_base)), (h3, .inl (k2, 256, .inl v_entry)), (h4, .inl (k3, 256, .inl v_from))]) [0, 2, 3, 4] (by decide) rfl
      have hKc_8 := vaKq hK (tysq := [(k1, .int), (k2, .int), (k3, .int)]) [1, 2, 3] rfl
      have hFc_8 := va_free (wc := [(h0, .inr (4, oX1 r_6_0 (.ref h8) (.ref h10) v_wholeOnly v_start v_mode v_node v_place v_limit r_6_1 (.ref h1) (.ref h2) (.ref h3) (.ref h4) (.ref h5) (.ref h6) v_choiceCount (.ref h7) v_trailCount)), (h2, .inl (k1, 256, .inl v_base)), (h3, .inl (k2, 256, .inl v_entry)), (h4, .inl (k3, 256, .inl v_from))]) hD_6 hS_6 hA [0, 2, 3, 4] rfl
      refine va_callv (va_runV (As := []) (rest := []) ⟨hx, hb, hml, hown, ht⟩ (mt_X1_markBase l dC dI h0 h2 h3 h4 h8 h10 h1 h5 h6 h7 k1 k2 k3 r_6_0 v_wholeOnly v_start v_mode v_node v_place v_limit r_6_1 v_choiceCount v_trailCount v_base v_entry v_from _ (w_6.1 c_7) H_6.size) (cwV 0 ht (goodV tw_1661 tw_1663 tw_100 tw_243 gw_X1_markBase) rfl rfl rfl (by decide +kernel) ⟨Nat.le_of_ble_eq_true rfl, Nat.le_of_ble_eq_true rfl⟩) ⟨fun a U g mk q => by obtain ⟨q0, q1, qP, qK, qD⟩ := q; exact ⟨q0, q1, qP, va_K.moved (u := U) (U := U.calling g mk a) (Vm.Alike.refl U.vm) qK, qD⟩, va_recv hKc_8 hPc_8 (ci := 4) (q0 := 0) rfl rfl, fun U hU hW => ⟨rfl, by rw [hU], by rw [hU]; exact hPc_8, va_K.moved hW.alike hKc_8, hDc_8.weaken (fun _ _ _ _ => trivial)⟩⟩ rfl rfl hl.1 rfl (lv_room (Nat.le_of_ble_eq_true rfl)) dX1_enterLoop_24 ⟨by dsimp only; omega, by dsimp only; omega⟩) hS_6 (fun q _ h => hFc_8 q h) hFc_8 (fun u_8 t_8 H_8 locs_8 ht_8 hvm_8 hw_8 hB_8 hz_8 hk_8 hS_8 => ?_)
      subst hw_8
      obtain ⟨r_8_0, r_8_1, r_8_2, w_8, hP1_8, hD1_8⟩ := hB_8
      rw [ht_8] at hP1_8
      obtain ⟨hP_8, hD_8⟩ := va_join (wr := [(h1, .inl (k0, 266, .inl v_cells)), (h5, .inl (k4, nv_choices, .inl v_choices)), (h6, .inl (k5, nv_heights, .inl v_heights)), (h7, .inl (k6, nv_trail, .inl v_trail)), (h8, .inr (13, oX10 v_tree_there v_tree_count v_tree_captures v_tree_ranges (.ref h11) (.ref h12) (.ref h13) (.ref h14) (.ref h15) (.ref h16) (.ref h9) (.ref h17) (.ref h18) (.ref h19) (.ref h20) (.ref h21) (.ref h22) (.ref h23) (.ref h24) (.ref h25))), (h9, .inl (k7, 256, .inl v_tree_value))]) (w1 := [(h0, .inr (4, oX1 r_6_0 (.ref h8) (.ref h10) v_wholeOnly v_start v_mode v_node v_place v_limit r_6_1 (.ref h1) (.ref h2) (.ref h3) (.ref h4) (.ref h5) (.ref h6) v_choiceCount (.ref h7) v_trailCount)), (h2, .inl (k1, 256, .inl r_8_0)), (h3, .inl (k2, 256, .inl r_8_1)), (h4, .inl (k3, 256, .inl r_8_2))]) hP_6 hD_6 [0, 2, 3, 4] [1, 5, 6, 7, 8, 9] rfl rfl (by decide) (by decide) hk_8 hFc_8 hP1_8 hD1_8
      have hP_8 := vaPq hP_8 (wsq := [(h0, .inr (4, oX1 r_6_0 (.ref h8) (.ref h10) v_wholeOnly v_start v_mode v_node v_place v_limit r_6_1 (.ref h1) (.ref h2) (.ref h3) (.ref h4) (.ref h5) (.ref h6) v_choiceCount (.ref h7) v_trailCount)), (h1, .inl (k0, 266, .inl v_cells)), (h2, .inl (k1, 256, .inl r_8_0)), (h3, .inl (k2, 256, .inl r_8_1)), (h4, .inl (k3, 256, .inl r_8_2)), (h5, .inl (k4, nv_choices, .inl v_choices)), (h6, .inl (k5, nv_heights, .inl v_heights)), (h7, .inl (k6, nv_trail, .inl v_trail)), (h8, .inr (13, oX10 v_tree_there v_tree_count v_tree_captures v_tree_ranges (.ref h11) (.ref h12) (.ref h13) (.ref h14) (.ref h15) (.ref h16) (.ref h9) (.ref h17) (.ref h18) (.ref h19) (.ref h20) (.ref h21) (.ref h22) (.ref h23) (.ref h24) (.ref h25))), (h9, .inl (k7, 256, .inl v_tree_value))]) [6, 0, 7, 8, 9, 1, 2, 3, 4, 5] rfl
      have hD_8 := vaDq hD_8 (wsq := [(h0, .inr (4, oX1 r_6_0 (.ref h8) (.ref h10) v_wholeOnly v_start v_mode v_node v_place v_limit r_6_1 (.ref h1) (.ref h2) (.ref h3) (.ref h4) (.ref h5) (.ref h6) v_choiceCount (.ref h7) v_trailCount)), (h1, .inl (k0, 266, .inl v_cells)), (h2, .inl (k1, 256, .inl r_8_0)), (h3, .inl (k2, 256, .inl r_8_1)), (h4, .inl (k3, 256, .inl r_8_2)), (h5, .inl (k4, nv_choices, .inl v_choices)), (h6, .inl (k5, nv_heights, .inl v_heights)), (h7, .inl (k6, nv_trail, .inl v_trail)), (h8, .inr (13, oX10 v_tree_there v_tree_count v_tree_captures v_tree_ranges (.ref h11) (.ref h12) (.ref h13) (.ref h14) (.ref h15) (.ref h16) (.ref h9) (.ref h17) (.ref h18) (.ref h19) (.ref h20) (.ref h21) (.ref h22) (.ref h23) (.ref h24) (.ref h25))), (h9, .inl (k7, 256, .inl v_tree_value))]) [6, 0, 7, 8, 9, 1, 2, 3, 4, 5] (by decide) rfl
      clear hPc_8 hDc_8 hKc_8 hFc_8 hP1_8 hD1_8 hk_8 hz_8
      exact k_27 r_6_0 v_mode r_6_1 v_trailCount v_cells r_8_0 r_8_1 r_8_2 h7 v_trail nv_trail _ _ _ _ _ w_8 hP_8 hD_8 hS_8 (lv_sub hl [0] rfl) hL hq1 hq2
    · refine W_gain (fun ga_9 gb_9 gc_9 gd_9 => ?_)
      refine W.widen (k := qc) (n := qs) (by omega) (by omega) ?_
      rw [hQQ]
      exact W.vret hx hb hr (fun t9 ht9 hW9 => ⟨⟨0, rfl, rfl, ⟨r_6_0, v_mode, r_6_1, v_trailCount, v_cells, v_base, v_entry, v_from, h7, v_trail, nv_trail, qc, qs, w_6.2 c_7, ⟨hL, hq1, hq2, by rw [ht9]; omega, by rw [ht9]; omega⟩, by rw [ht9]; exact hP_6, hD_6⟩⟩, hS_6.F ht9⟩) hS_6.2.2 dX1_enterLoop_22
