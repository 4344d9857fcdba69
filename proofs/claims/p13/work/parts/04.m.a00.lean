abbrev oX12 (hh : Nat → Nat) (z0 : Int32) (z1 : Int32) (z3 : Int32) (z4 : Int32) (z31 : Int32) (z34 : Int32) (z35 : Int32) (z36 : Int32) (z37 : Int32) (z38 : Int32) (z39 : Int32) (z41 : Int32) (z50 : Int32) (z51 : Int32) (z52 : Int32) (z53 : Int32) (z57 : Int32) (z59 : Int32) (z61 : Int32) (z62 : Bool) (z66 : Int32) (z74 : Int32) (z76 : Int32) (z80 : Int32) (z85 : Int32) (z90 : Int32) (z91 : Int32) (z92 : Int32) (z93 : Int32) (z94 : Int32) (z95 : Int32) (z96 : Int32) (z97 : Int32) (z98 : Bool) (z100 : Int32) (z102 : Bool) (z103 : Int32) (z104 : Int32) (z105 : Int32) (z106 : Int32) (z108 : Bool) (z109 : Int32) (z111 : Int32) (z113 : Int32) (z116 : Int32) (z121 : Int64) (z122 : Bool) (z138 : Int32) (z142 : Int32) : List Value := (.int z0 :: .int z1 :: .ref (hh 2) :: .int z3 :: .int z4 :: .ref (hh 5) :: .ref (hh 6) :: .ref (hh 7) :: .ref (hh 8) :: .ref (hh 9) :: .ref (hh 10) :: .ref (hh 11) :: .ref (hh 12) :: .ref (hh 13) :: .ref (hh 14) :: .ref (hh 15) :: .ref (hh 16) :: .ref (hh 17) :: .ref (hh 18) :: .ref (hh 19) :: .ref (hh 20) :: .ref (hh 21) :: .ref (hh 22) :: .ref (hh 23) :: .ref (hh 24) :: .ref (hh 25) :: .ref (hh 26) :: .ref (hh 27) :: .ref (hh 28) :: .ref (hh 29) :: .ref (hh 30) :: .int z31 :: .ref (hh 32) :: .ref (hh 33) :: .int z34 :: .int z35 :: .int z36 :: .int z37 :: .int z38 :: .int z39 :: .ref (hh 40) :: .int z41 :: .ref (hh 42) :: .ref (hh 43) :: .ref (hh 44) :: .ref (hh 45) :: .ref (hh 46) :: .ref (hh 47) :: .ref (hh 48) :: .ref (hh 49) :: .int z50 :: .int z51 :: .int z52 :: .int z53 :: .ref (hh 54) :: .ref (hh 55) :: .ref (hh 56) :: .int z57 :: .ref (hh 58) :: .int z59 :: .ref (hh 60) :: .int z61 :: .int (bz z62) :: .ref (hh 63) :: .ref (hh 64) :: .ref (hh 65) :: .int z66 :: .ref (hh 67) :: .ref (hh 68) :: .ref (hh 69) :: .ref (hh 70) :: .ref (hh 71) :: .ref (hh 72) :: .ref (hh 73) :: .int z74 :: .ref (hh 75) :: .int z76 :: .ref (hh 77) :: .ref (hh 78) :: .ref (hh 79) :: .int z80 :: .ref (hh 81) :: .ref (hh 82) :: .ref (hh 83) :: .ref (hh 84) :: .int z85 :: .ref (hh 86) :: .ref (hh 87) :: .ref (hh 88) :: .ref (hh 89) :: .int z90 :: .int z91 :: .int z92 :: .int z93 :: .int z94 :: .int z95 :: .int z96 :: .int z97 :: .int (bz z98) :: .ref (hh 99) :: .int z100 :: .ref (hh 101) :: .int (bz z102) :: .int z103 :: .int z104 :: .int z105 :: .int z106 :: .ref (hh 107) :: .int (bz z108) :: .int z109 :: .ref (hh 110) :: .int z111 :: .ref (hh 112) :: .int z113 :: .ref (hh 114) :: .ref (hh 115) :: .int z116 :: .ref (hh 117) :: .ref (hh 118) :: .ref (hh 119) :: .ref (hh 120) :: .long z121 :: .int (bz z122) :: .ref (hh 123) :: .ref (hh 124) :: .ref (hh 125) :: .ref (hh 126) :: .ref (hh 127) :: .ref (hh 128) :: .ref (hh 129) :: .ref (hh 130) :: .ref (hh 131) :: .ref (hh 132) :: .ref (hh 133) :: .ref (hh 134) :: .ref (hh 135) :: .ref (hh 136) :: .ref (hh 137) :: .int z138 :: .ref (hh 139) :: .ref (hh 140) :: .ref (hh 141) :: .int z142 :: [])
abbrev cX12_addNode : ByteArray := prog_14_method_13_code
def yX12_addNode : MethodName := ⟨RX12, "addNode", "(I)V"⟩
abbrev cX12_addPart : ByteArray := prog_14_method_25_code
def yX12_addPart : MethodName := ⟨RX12, "addPart", "(II)V"⟩
abbrev cX12_all : ByteArray := prog_14_method_104_code
def yX12_all : MethodName := ⟨RX12, "all", "(III)I"⟩
abbrev cX12_bars : ByteArray := prog_14_method_94_code
def yX12_bars : MethodName := ⟨RX12, "bars", "(II)I"⟩
abbrev cX12_beginGroup : ByteArray := prog_14_method_12_code
def yX12_beginGroup : MethodName := ⟨RX12, "beginGroup", "(II)V"⟩
abbrev cX12_beginLook : ByteArray := prog_14_method_88_code
def yX12_beginLook : MethodName := ⟨RX12, "beginLook", "(IIZ)V"⟩
abbrev cX12_beginRow : ByteArray := prog_14_method_11_code
def yX12_beginRow : MethodName := ⟨RX12, "beginRow", "()V"⟩
abbrev cX12_beginTurn : ByteArray := prog_14_method_84_code
def yX12_beginTurn : MethodName := ⟨RX12, "beginTurn", "(I)V"⟩
abbrev cX12_begins : ByteArray := prog_14_method_60_code
def yX12_begins : MethodName := ⟨RX12, "begins", "(II)I"⟩
abbrev cX12_bothBars : ByteArray := prog_14_method_119_code
def yX12_bothBars : MethodName := ⟨RX12, "bothBars", "(II)I"⟩
abbrev cX12_capped : ByteArray := prog_14_method_34_code
def yX12_capped : MethodName := ⟨RX12, "capped", "(I)I"⟩
abbrev cX12_captureOf : ByteArray := prog_14_method_23_code
def yX12_captureOf : MethodName := ⟨RX12, "captureOf", "(I)I"⟩
abbrev cX12_choose : ByteArray := prog_14_method_78_code
def yX12_choose : MethodName := ⟨RX12, "choose", "(III)V"⟩
abbrev cX12_clear : ByteArray := prog_14_method_129_code
def yX12_clear : MethodName := ⟨RX12, "clear", "()I"⟩
abbrev cX12_closeChoice : ByteArray := prog_14_method_15_code
def yX12_closeChoice : MethodName := ⟨RX12, "closeChoice", "()I"⟩
abbrev cX12_closeGroup : ByteArray := prog_14_method_24_code
def yX12_closeGroup : MethodName := ⟨RX12, "closeGroup", "()V"⟩
abbrev cX12_closeRow : ByteArray := prog_14_method_14_code
def yX12_closeRow : MethodName := ⟨RX12, "closeRow", "()V"⟩
abbrev cX12_compare : ByteArray := prog_14_method_124_code
def yX12_compare : MethodName := ⟨RX12, "compare", "(II)I"⟩
abbrev cX12_compile : ByteArray := prog_14_method_71_code
def yX12_compile : MethodName := ⟨RX12, "compile", "(IZ)V"⟩
abbrev cX12_compileChoice : ByteArray := prog_14_method_73_code
def yX12_compileChoice : MethodName := ⟨RX12, "compileChoice", "(I)V"⟩
abbrev cX12_compileCopies : ByteArray := prog_14_method_75_code
def yX12_compileCopies : MethodName := ⟨RX12, "compileCopies", "(II)V"⟩
abbrev cX12_compileLook : ByteArray := prog_14_method_76_code
def yX12_compileLook : MethodName := ⟨RX12, "compileLook", "(II)V"⟩
abbrev cX12_compileLoop : ByteArray := prog_14_method_74_code
def yX12_compileLoop : MethodName := ⟨RX12, "compileLoop", "(II)V"⟩
abbrev cX12_compileNode : ByteArray := prog_14_method_72_code
def yX12_compileNode : MethodName := ⟨RX12, "compileNode", "(IIZ)V"⟩
abbrev cX12_countItem : ByteArray := prog_14_method_17_code
def yX12_countItem : MethodName := ⟨RX12, "countItem", "(I)V"⟩
abbrev cX12_dead : ByteArray := prog_14_method_55_code
def yX12_dead : MethodName := ⟨RX12, "dead", "(II)I"⟩
abbrev cX12_drop : ByteArray := prog_14_method_67_code
def yX12_drop : MethodName := ⟨RX12, "drop", "(I)I"⟩
abbrev cX12_escaped : ByteArray := prog_14_method_30_code
def yX12_escaped : MethodName := ⟨RX12, "escaped", "()I"⟩
abbrev cX12_fail : ByteArray := prog_14_method_9_code
def yX12_fail : MethodName := ⟨RX12, "fail", "(II)V"⟩
abbrev cX12_feed : ByteArray := prog_14_method_36_code
def yX12_feed : MethodName := ⟨RX12, "feed", "(IJ)I"⟩
abbrev cX12_find : ByteArray := prog_14_method_98_code
def yX12_find : MethodName := ⟨RX12, "find", "(IIIII)I"⟩
abbrev cX12_findAll : ByteArray := prog_14_method_103_code
def yX12_findAll : MethodName := ⟨RX12, "findAll", "(III)I"⟩
abbrev cX12_findBegun : ByteArray := prog_14_method_59_code
def yX12_findBegun : MethodName := ⟨RX12, "findBegun", "(II)V"⟩
abbrev cX12_findBounds : ByteArray := prog_14_method_62_code
def yX12_findBounds : MethodName := ⟨RX12, "findBounds", "()V"⟩
abbrev cX12_findLive : ByteArray := prog_14_method_118_code
def yX12_findLive : MethodName := ⟨RX12, "findLive", "()V"⟩
abbrev cX12_findPairs : ByteArray := prog_14_method_122_code
def yX12_findPairs : MethodName := ⟨RX12, "findPairs", "()V"⟩
abbrev cX12_findSorts : ByteArray := prog_14_method_120_code
def yX12_findSorts : MethodName := ⟨RX12, "findSorts", "()V"⟩
abbrev cX12_finding : ByteArray := prog_14_method_127_code
def yX12_finding : MethodName := ⟨RX12, "finding", "()I"⟩
abbrev cX12_first : ByteArray := prog_14_method_109_code
def yX12_first : MethodName := ⟨RX12, "first", "(IIII)I"⟩
abbrev cX12_forget : ByteArray := prog_14_method_40_code
def yX12_forget : MethodName := ⟨RX12, "forget", "(I)I"⟩
abbrev cX12_goOn : ByteArray := prog_14_method_99_code
def yX12_goOn : MethodName := ⟨RX12, "goOn", "(I)I"⟩
abbrev cX12_goes : ByteArray := prog_14_method_97_code
def yX12_goes : MethodName := ⟨RX12, "goes", "(I)I"⟩
abbrev cX12_goesBack : ByteArray := prog_14_method_86_code
def yX12_goesBack : MethodName := ⟨RX12, "goesBack", "()Z"⟩
abbrev cX12_hexes : ByteArray := prog_14_method_19_code
def yX12_hexes : MethodName := ⟨RX12, "hexes", "(I)I"⟩
abbrev cX12_holding : ByteArray := prog_14_method_16_code
def yX12_holding : MethodName := ⟨RX12, "holding", "(III)I"⟩
abbrev cX12_in : ByteArray := prog_14_method_2_code
def yX12_in : MethodName := ⟨RX12, "in", "(III)Z"⟩
abbrev cX12_isAlike : ByteArray := prog_14_method_115_code
def yX12_isAlike : MethodName := ⟨RX12, "isAlike", "(II)Z"⟩
abbrev cX12_isBack : ByteArray := prog_14_method_83_code
def yX12_isBack : MethodName := ⟨RX12, "isBack", "(I)Z"⟩
abbrev cX12_isDigit : ByteArray := prog_14_method_4_code
def yX12_isDigit : MethodName := ⟨RX12, "isDigit", "(I)Z"⟩
abbrev cX12_isDone : ByteArray := prog_14_method_89_code
def yX12_isDone : MethodName := ⟨RX12, "isDone", "(II)Z"⟩
abbrev cX12_isEdge : ByteArray := prog_14_method_82_code
def yX12_isEdge : MethodName := ⟨RX12, "isEdge", "(I)Z"⟩
abbrev cX12_isEndless : ByteArray := prog_14_method_63_code
def yX12_isEndless : MethodName := ⟨RX12, "isEndless", "(I)Z"⟩
abbrev cX12_isHex : ByteArray := prog_14_method_18_code
def yX12_isHex : MethodName := ⟨RX12, "isHex", "(I)Z"⟩
abbrev cX12_isInParts : ByteArray := prog_14_method_57_code
def yX12_isInParts : MethodName := ⟨RX12, "isInParts", "(II)Z"⟩
abbrev cX12_isLetter : ByteArray := prog_14_method_3_code
def yX12_isLetter : MethodName := ⟨RX12, "isLetter", "(I)Z"⟩
abbrev cX12_isMark : ByteArray := prog_14_method_50_code
def yX12_isMark : MethodName := ⟨RX12, "isMark", "(I)Z"⟩
abbrev cX12_isParted : ByteArray := prog_14_method_123_code
def yX12_isParted : MethodName := ⟨RX12, "isParted", "(I)Z"⟩
abbrev cX12_isPlain : ByteArray := prog_14_method_48_code
def yX12_isPlain : MethodName := ⟨RX12, "isPlain", "(I)Z"⟩
abbrev cX12_isReplacing : ByteArray := prog_14_method_105_code
def yX12_isReplacing : MethodName := ⟨RX12, "isReplacing", "(I)Z"⟩
abbrev cX12_isSamePrint : ByteArray := prog_14_method_56_code
def yX12_isSamePrint : MethodName := ⟨RX12, "isSamePrint", "(III)Z"⟩
abbrev cX12_isStep : ByteArray := prog_14_method_79_code
def yX12_isStep : MethodName := ⟨RX12, "isStep", "()Z"⟩
abbrev cX12_isWord : ByteArray := prog_14_method_6_code
def yX12_isWord : MethodName := ⟨RX12, "isWord", "(I)Z"⟩
abbrev cX12_isWordAt : ByteArray := prog_14_method_81_code
def yX12_isWordAt : MethodName := ⟨RX12, "isWordAt", "(I)Z"⟩
abbrev cX12_isWrapped : ByteArray := prog_14_method_49_code
def yX12_isWrapped : MethodName := ⟨RX12, "isWrapped", "(II)Z"⟩
abbrev cX12_joinParts : ByteArray := prog_14_method_26_code
def yX12_joinParts : MethodName := ⟨RX12, "joinParts", "(I)V"⟩
abbrev cX12_keepPattern : ByteArray := prog_14_method_33_code
def yX12_keepPattern : MethodName := ⟨RX12, "keepPattern", "(II)V"⟩
abbrev cX12_keepSpan : ByteArray := prog_14_method_95_code
def yX12_keepSpan : MethodName := ⟨RX12, "keepSpan", "(IZ)V"⟩
abbrev cX12_kindBars : ByteArray := prog_14_method_92_code
def yX12_kindBars : MethodName := ⟨RX12, "kindBars", "(II)I"⟩
abbrev cX12_later : ByteArray := prog_14_method_69_code
def yX12_later : MethodName := ⟨RX12, "later", "(III)V"⟩
abbrev cX12_least : ByteArray := prog_14_method_116_code
def yX12_least : MethodName := ⟨RX12, "least", "(I)I"⟩
abbrev cX12_looped : ByteArray := prog_14_method_21_code
def yX12_looped : MethodName := ⟨RX12, "looped", "(I)I"⟩
abbrev cX12_made : ByteArray := prog_14_method_10_code
def yX12_made : MethodName := ⟨RX12, "made", "(II)I"⟩
abbrev cX12_makePart : ByteArray := prog_14_method_107_code
def yX12_makePart : MethodName := ⟨RX12, "makePart", "(III)V"⟩
abbrev cX12_makeSign : ByteArray := prog_14_method_106_code
def yX12_makeSign : MethodName := ⟨RX12, "makeSign", "(I)V"⟩
abbrev cX12_makeTable : ByteArray := prog_14_method_112_code
def yX12_makeTable : MethodName := ⟨RX12, "makeTable", "(II)I"⟩
abbrev cX12_markBounds : ByteArray := prog_14_method_61_code
def yX12_markBounds : MethodName := ⟨RX12, "markBounds", "(I)V"⟩
abbrev cX12_measure : ByteArray := prog_14_method_35_code
def yX12_measure : MethodName := ⟨RX12, "measure", "(II)V"⟩
abbrev cX12_meet : ByteArray := prog_14_method_121_code
def yX12_meet : MethodName := ⟨RX12, "meet", "(IIII)V"⟩
abbrev cX12_member : ByteArray := prog_14_method_28_code
def yX12_member : MethodName := ⟨RX12, "member", "(I)V"⟩
abbrev cX12_named : ByteArray := prog_14_method_101_code
def yX12_named : MethodName := ⟨RX12, "named", "(II)I"⟩
abbrev cX12_newLabel : ByteArray := prog_14_method_70_code
def yX12_newLabel : MethodName := ⟨RX12, "newLabel", "()I"⟩
abbrev cX12_node : ByteArray := prog_14_method_42_code
def yX12_node : MethodName := ⟨RX12, "node", "(III)I"⟩
abbrev cX12_numberFrom : ByteArray := prog_14_method_20_code
def yX12_numberFrom : MethodName := ⟨RX12, "numberFrom", "(IZ)I"⟩
abbrev cX12_openGroup : ByteArray := prog_14_method_22_code
def yX12_openGroup : MethodName := ⟨RX12, "openGroup", "()V"⟩
abbrev cX12_otherCase : ByteArray := prog_14_method_5_code
def yX12_otherCase : MethodName := ⟨RX12, "otherCase", "(I)I"⟩
abbrev cX12_otherSort : ByteArray := prog_14_method_41_code
def yX12_otherSort : MethodName := ⟨RX12, "otherSort", "()I"⟩
abbrev cX12_out : ByteArray := prog_14_method_126_code
def yX12_out : MethodName := ⟨RX12, "out", "(I)I"⟩
abbrev cX12_part : ByteArray := prog_14_method_43_code
def yX12_part : MethodName := ⟨RX12, "part", "(IIIZ)I"⟩
abbrev cX12_parting : ByteArray := prog_14_method_125_code
def yX12_parting : MethodName := ⟨RX12, "parting", "(II)I"⟩
abbrev cX12_pattern : ByteArray := prog_14_method_37_code
def yX12_pattern : MethodName := ⟨RX12, "pattern", "(I)I"⟩
abbrev cX12_place : ByteArray := prog_14_method_38_code
def yX12_place : MethodName := ⟨RX12, "place", "()I"⟩
abbrev cX12_prefix : ByteArray := prog_14_method_117_code
def yX12_prefix : MethodName := ⟨RX12, "prefix", "(III)I"⟩
abbrev cX12_print : ByteArray := prog_14_method_54_code
def yX12_print : MethodName := ⟨RX12, "print", "(I)I"⟩
abbrev cX12_printFrom : ByteArray := prog_14_method_53_code
def yX12_printFrom : MethodName := ⟨RX12, "printFrom", "(II)V"⟩
abbrev cX12_printHead : ByteArray := prog_14_method_51_code
def yX12_printHead : MethodName := ⟨RX12, "printHead", "(II)V"⟩
abbrev cX12_printTail : ByteArray := prog_14_method_52_code
def yX12_printTail : MethodName := ⟨RX12, "printTail", "(II)V"⟩
abbrev cX12_put : ByteArray := prog_14_method_44_code
def yX12_put : MethodName := ⟨RX12, "put", "(I)V"⟩
abbrev cX12_putHex : ByteArray := prog_14_method_45_code
def yX12_putHex : MethodName := ⟨RX12, "putHex", "(I)V"⟩
abbrev cX12_putMember : ByteArray := prog_14_method_47_code
def yX12_putMember : MethodName := ⟨RX12, "putMember", "(I)V"⟩
abbrev cX12_putNumber : ByteArray := prog_14_method_46_code
def yX12_putNumber : MethodName := ⟨RX12, "putNumber", "(I)V"⟩
abbrev cX12_put_ : ByteArray := prog_14_method_65_code
def yX12_put_ : MethodName := ⟨RX12, "put", "(IIJ)I"⟩
abbrev cX12_reach : ByteArray := prog_14_method_111_code
def yX12_reach : MethodName := ⟨RX12, "reach", "(I)V"⟩
abbrev cX12_readAll : ByteArray := prog_14_method_32_code
def yX12_readAll : MethodName := ⟨RX12, "readAll", "()I"⟩
abbrev cX12_readOne : ByteArray := prog_14_method_31_code
def yX12_readOne : MethodName := ⟨RX12, "readOne", "(I)V"⟩
abbrev cX12_readSet : ByteArray := prog_14_method_29_code
def yX12_readSet : MethodName := ⟨RX12, "readSet", "()I"⟩
abbrev cX12_replace : ByteArray := prog_14_method_108_code
def yX12_replace : MethodName := ⟨RX12, "replace", "(III)I"⟩
abbrev cX12_risky : ByteArray := prog_14_method_64_code
def yX12_risky : MethodName := ⟨RX12, "risky", "(I)I"⟩
abbrev cX12_searched : ByteArray := prog_14_method_91_code
def yX12_searched : MethodName := ⟨RX12, "searched", "(IIIZZI)I"⟩
abbrev cX12_set : ByteArray := prog_14_method_77_code
def yX12_set : MethodName := ⟨RX12, "set", "(II)V"⟩
abbrev cX12_setNode : ByteArray := prog_14_method_27_code
def yX12_setNode : MethodName := ⟨RX12, "setNode", "(IZ)I"⟩
abbrev cX12_sign : ByteArray := prog_14_method_68_code
def yX12_sign : MethodName := ⟨RX12, "sign", "(II)C"⟩
abbrev cX12_signAt : ByteArray := prog_14_method_8_code
def yX12_signAt : MethodName := ⟨RX12, "signAt", "(I)I"⟩
abbrev cX12_signOf : ByteArray := prog_14_method_80_code
def yX12_signOf : MethodName := ⟨RX12, "signOf", "(I)I"⟩
abbrev cX12_sizeBars : ByteArray := prog_14_method_93_code
def yX12_sizeBars : MethodName := ⟨RX12, "sizeBars", "(II)I"⟩
abbrev cX12_span : ByteArray := prog_14_method_100_code
def yX12_span : MethodName := ⟨RX12, "span", "(IZ)I"⟩
abbrev cX12_steps : ByteArray := prog_14_method_110_code
def yX12_steps : MethodName := ⟨RX12, "steps", "()I"⟩
abbrev cX12_table : ByteArray := prog_14_method_114_code
def yX12_table : MethodName := ⟨RX12, "table", "(I)I"⟩
abbrev cX12_tabled : ByteArray := prog_14_method_113_code
def yX12_tabled : MethodName := ⟨RX12, "tabled", "(I)I"⟩
abbrev cX12_takes : ByteArray := prog_14_method_58_code
def yX12_takes : MethodName := ⟨RX12, "takes", "(II)Z"⟩
abbrev cX12_testLoop : ByteArray := prog_14_method_87_code
def yX12_testLoop : MethodName := ⟨RX12, "testLoop", "(II)V"⟩
abbrev cX12_told : ByteArray := prog_14_method_128_code
def yX12_told : MethodName := ⟨RX12, "told", "(I)I"⟩
abbrev cX12_tried : ByteArray := prog_14_method_90_code
def yX12_tried : MethodName := ⟨RX12, "tried", "(IZZ)I"⟩
abbrev cX12_tryBehind : ByteArray := prog_14_method_85_code
def yX12_tryBehind : MethodName := ⟨RX12, "tryBehind", "(II)V"⟩
abbrev cX12_whole : ByteArray := prog_14_method_102_code
def yX12_whole : MethodName := ⟨RX12, "whole", "(III)I"⟩
abbrev cX12_wrongBoth : ByteArray := prog_14_method_96_code
def yX12_wrongBoth : MethodName := ⟨RX12, "wrongBoth", "(II)I"⟩
abbrev cX12_wrongSlot : ByteArray := prog_14_method_39_code
def yX12_wrongSlot : MethodName := ⟨RX12, "wrongSlot", "(I)I"⟩
abbrev cX12_wrongSubject : ByteArray := prog_14_method_66_code
def yX12_wrongSubject : MethodName := ⟨RX12, "wrongSubject", "(I)I"⟩
theorem tw_148 : (.selects "PatternWorkshopModel" yX12_readAll yX12_readAll : Cond) ∈ TW := tw_of 148 (by decide +kernel) (by decide +kernel)
theorem tw_149 : (.selects "PatternWorkshopModel" yX12_beginGroup yX12_beginGroup : Cond) ∈ TW := tw_of 149 (by decide +kernel) (by decide +kernel)
theorem tw_150 : (.selects "PatternWorkshopModel" yX12_beginRow yX12_beginRow : Cond) ∈ TW := tw_of 150 (by decide +kernel) (by decide +kernel)
theorem tw_151 : (.selects "PatternWorkshopModel" yX12_signAt yX12_signAt : Cond) ∈ TW := tw_of 151 (by decide +kernel) (by decide +kernel)
theorem tw_152 : (.selects "PatternWorkshopModel" yX12_closeRow yX12_closeRow : Cond) ∈ TW := tw_of 152 (by decide +kernel) (by decide +kernel)
theorem tw_153 : (.selects "PatternWorkshopModel" yX12_made yX12_made : Cond) ∈ TW := tw_of 153 (by decide +kernel) (by decide +kernel)
theorem tw_154 : (.selects "PatternWorkshopModel" yX12_closeGroup yX12_closeGroup : Cond) ∈ TW := tw_of 154 (by decide +kernel) (by decide +kernel)
theorem tw_155 : (.selects "PatternWorkshopModel" yX12_fail yX12_fail : Cond) ∈ TW := tw_of 155 (by decide +kernel) (by decide +kernel)
theorem tw_156 : (.selects "PatternWorkshopModel" yX12_closeChoice yX12_closeChoice : Cond) ∈ TW := tw_of 156 (by decide +kernel) (by decide +kernel)
theorem tw_157 : (.selects "PatternWorkshopModel" yX12_holding yX12_holding : Cond) ∈ TW := tw_of 157 (by decide +kernel) (by decide +kernel)
theorem tw_158 : (.selects "PatternWorkshopModel" yX12_looped yX12_looped : Cond) ∈ TW := tw_of 158 (by decide +kernel) (by decide +kernel)
theorem tw_159 : (.selects "PatternWorkshopModel" yX12_countItem yX12_countItem : Cond) ∈ TW := tw_of 159 (by decide +kernel) (by decide +kernel)
theorem tw_160 : (.selects "PatternWorkshopModel" yX12_numberFrom yX12_numberFrom : Cond) ∈ TW := tw_of 160 (by decide +kernel) (by decide +kernel)
theorem tw_161 : (.selects "PatternWorkshopModel" yX12_addNode yX12_addNode : Cond) ∈ TW := tw_of 161 (by decide +kernel) (by decide +kernel)
theorem tw_162 : (.selects "PatternWorkshopModel" yX12_openGroup yX12_openGroup : Cond) ∈ TW := tw_of 162 (by decide +kernel) (by decide +kernel)
theorem tw_163 : (.selects "PatternWorkshopModel" yX12_captureOf yX12_captureOf : Cond) ∈ TW := tw_of 163 (by decide +kernel) (by decide +kernel)
theorem tw_164 : (.selects "PatternWorkshopModel" yX12_readOne yX12_readOne : Cond) ∈ TW := tw_of 164 (by decide +kernel) (by decide +kernel)
theorem tw_165 : (.selects "PatternWorkshopModel" yX12_escaped yX12_escaped : Cond) ∈ TW := tw_of 165 (by decide +kernel) (by decide +kernel)
theorem tw_166 : (.selects "PatternWorkshopModel" yX12_addPart yX12_addPart : Cond) ∈ TW := tw_of 166 (by decide +kernel) (by decide +kernel)
theorem tw_167 : (.selects "PatternWorkshopModel" yX12_setNode yX12_setNode : Cond) ∈ TW := tw_of 167 (by decide +kernel) (by decide +kernel)
theorem tw_168 : (.selects "PatternWorkshopModel" yX12_joinParts yX12_joinParts : Cond) ∈ TW := tw_of 168 (by decide +kernel) (by decide +kernel)
theorem tw_169 : (.selects "PatternWorkshopModel" yX12_hexes yX12_hexes : Cond) ∈ TW := tw_of 169 (by decide +kernel) (by decide +kernel)
theorem tw_170 : (.selects "PatternWorkshopModel" yX12_readSet yX12_readSet : Cond) ∈ TW := tw_of 170 (by decide +kernel) (by decide +kernel)
theorem tw_171 : (.selects "PatternWorkshopModel" yX12_member yX12_member : Cond) ∈ TW := tw_of 171 (by decide +kernel) (by decide +kernel)
theorem tw_172 : (.selects "PatternWorkshopModel" yX12_keepPattern yX12_keepPattern : Cond) ∈ TW := tw_of 172 (by decide +kernel) (by decide +kernel)
theorem tw_173 : (.selects "PatternWorkshopModel" yX12_measure yX12_measure : Cond) ∈ TW := tw_of 173 (by decide +kernel) (by decide +kernel)
theorem tw_174 : (.selects "PatternWorkshopModel" yX12_wrongSlot yX12_wrongSlot : Cond) ∈ TW := tw_of 174 (by decide +kernel) (by decide +kernel)
theorem tw_175 : (.selects "PatternWorkshopModel" yX12_otherSort yX12_otherSort : Cond) ∈ TW := tw_of 175 (by decide +kernel) (by decide +kernel)
theorem tw_176 : (.selects "PatternWorkshopModel" yX12_printFrom yX12_printFrom : Cond) ∈ TW := tw_of 176 (by decide +kernel) (by decide +kernel)
theorem tw_177 : (.selects "PatternWorkshopModel" yX12_printHead yX12_printHead : Cond) ∈ TW := tw_of 177 (by decide +kernel) (by decide +kernel)
theorem tw_178 : (.selects "PatternWorkshopModel" yX12_isWrapped yX12_isWrapped : Cond) ∈ TW := tw_of 178 (by decide +kernel) (by decide +kernel)
theorem tw_179 : (.selects "PatternWorkshopModel" yX12_put yX12_put : Cond) ∈ TW := tw_of 179 (by decide +kernel) (by decide +kernel)
theorem tw_180 : (.selects "PatternWorkshopModel" yX12_putHex yX12_putHex : Cond) ∈ TW := tw_of 180 (by decide +kernel) (by decide +kernel)
theorem tw_181 : (.selects "PatternWorkshopModel" yX12_putMember yX12_putMember : Cond) ∈ TW := tw_of 181 (by decide +kernel) (by decide +kernel)
theorem tw_182 : (.selects "PatternWorkshopModel" yX12_printTail yX12_printTail : Cond) ∈ TW := tw_of 182 (by decide +kernel) (by decide +kernel)
theorem tw_183 : (.selects "PatternWorkshopModel" yX12_putNumber yX12_putNumber : Cond) ∈ TW := tw_of 183 (by decide +kernel) (by decide +kernel)
theorem tw_184 : (.selects "PatternWorkshopModel" yX12_isSamePrint yX12_isSamePrint : Cond) ∈ TW := tw_of 184 (by decide +kernel) (by decide +kernel)
theorem tw_185 : (.selects "PatternWorkshopModel" yX12_findBegun yX12_findBegun : Cond) ∈ TW := tw_of 185 (by decide +kernel) (by decide +kernel)
theorem tw_186 : (.selects "PatternWorkshopModel" yX12_takes yX12_takes : Cond) ∈ TW := tw_of 186 (by decide +kernel) (by decide +kernel)
theorem tw_187 : (.selects "PatternWorkshopModel" yX12_isInParts yX12_isInParts : Cond) ∈ TW := tw_of 187 (by decide +kernel) (by decide +kernel)
theorem tw_188 : (.selects "PatternWorkshopModel" yX12_markBounds yX12_markBounds : Cond) ∈ TW := tw_of 188 (by decide +kernel) (by decide +kernel)
theorem tw_189 : (.selects "PatternWorkshopModel" yX12_findBounds yX12_findBounds : Cond) ∈ TW := tw_of 189 (by decide +kernel) (by decide +kernel)
theorem tw_190 : (.selects "PatternWorkshopModel" yX12_isEndless yX12_isEndless : Cond) ∈ TW := tw_of 190 (by decide +kernel) (by decide +kernel)
theorem tw_191 : (.selects "PatternWorkshopModel" yX12_wrongSubject yX12_wrongSubject : Cond) ∈ TW := tw_of 191 (by decide +kernel) (by decide +kernel)
theorem tw_192 : (.selects "PatternWorkshopModel" yX12_wrongBoth yX12_wrongBoth : Cond) ∈ TW := tw_of 192 (by decide +kernel) (by decide +kernel)
theorem tw_193 : (.selects "PatternWorkshopModel" yX12_bars yX12_bars : Cond) ∈ TW := tw_of 193 (by decide +kernel) (by decide +kernel)
theorem tw_194 : (.selects "PatternWorkshopModel" yX12_kindBars yX12_kindBars : Cond) ∈ TW := tw_of 194 (by decide +kernel) (by decide +kernel)
theorem tw_195 : (.selects "PatternWorkshopModel" yX12_sizeBars yX12_sizeBars : Cond) ∈ TW := tw_of 195 (by decide +kernel) (by decide +kernel)
theorem tw_196 : (.selects "PatternWorkshopModel" yX12_goes yX12_goes : Cond) ∈ TW := tw_of 196 (by decide +kernel) (by decide +kernel)
theorem tw_197 : (.selects "PatternWorkshopModel" yX12_compile yX12_compile : Cond) ∈ TW := tw_of 197 (by decide +kernel) (by decide +kernel)
theorem tw_198 : (.selects "PatternWorkshopModel" yX12_later yX12_later : Cond) ∈ TW := tw_of 198 (by decide +kernel) (by decide +kernel)
theorem tw_199 : (.selects "PatternWorkshopModel" yX12_compileNode yX12_compileNode : Cond) ∈ TW := tw_of 199 (by decide +kernel) (by decide +kernel)
theorem tw_200 : (.selects "PatternWorkshopModel" yX12_compileChoice yX12_compileChoice : Cond) ∈ TW := tw_of 200 (by decide +kernel) (by decide +kernel)
theorem tw_201 : (.selects "PatternWorkshopModel" yX12_newLabel yX12_newLabel : Cond) ∈ TW := tw_of 201 (by decide +kernel) (by decide +kernel)
theorem tw_202 : (.selects "PatternWorkshopModel" yX12_compileCopies yX12_compileCopies : Cond) ∈ TW := tw_of 202 (by decide +kernel) (by decide +kernel)
theorem tw_203 : (.selects "PatternWorkshopModel" yX12_compileLoop yX12_compileLoop : Cond) ∈ TW := tw_of 203 (by decide +kernel) (by decide +kernel)
theorem tw_204 : (.selects "PatternWorkshopModel" yX12_compileLook yX12_compileLook : Cond) ∈ TW := tw_of 204 (by decide +kernel) (by decide +kernel)
theorem tw_205 : (.selects "PatternWorkshopModel" yX12_searched yX12_searched : Cond) ∈ TW := tw_of 205 (by decide +kernel) (by decide +kernel)
theorem tw_206 : (.selects "PatternWorkshopModel" yX12_tried yX12_tried : Cond) ∈ TW := tw_of 206 (by decide +kernel) (by decide +kernel)
theorem tw_207 : (.selects "PatternWorkshopModel" yX12_isDone yX12_isDone : Cond) ∈ TW := tw_of 207 (by decide +kernel) (by decide +kernel)
theorem tw_208 : (.selects "PatternWorkshopModel" yX12_isStep yX12_isStep : Cond) ∈ TW := tw_of 208 (by decide +kernel) (by decide +kernel)
theorem tw_209 : (.selects "PatternWorkshopModel" yX12_signOf yX12_signOf : Cond) ∈ TW := tw_of 209 (by decide +kernel) (by decide +kernel)
theorem tw_210 : (.selects "PatternWorkshopModel" yX12_isEdge yX12_isEdge : Cond) ∈ TW := tw_of 210 (by decide +kernel) (by decide +kernel)
theorem tw_211 : (.selects "PatternWorkshopModel" yX12_isWordAt yX12_isWordAt : Cond) ∈ TW := tw_of 211 (by decide +kernel) (by decide +kernel)
theorem tw_212 : (.selects "PatternWorkshopModel" yX12_isBack yX12_isBack : Cond) ∈ TW := tw_of 212 (by decide +kernel) (by decide +kernel)
theorem tw_213 : (.selects "PatternWorkshopModel" yX12_choose yX12_choose : Cond) ∈ TW := tw_of 213 (by decide +kernel) (by decide +kernel)
theorem tw_214 : (.selects "PatternWorkshopModel" yX12_set yX12_set : Cond) ∈ TW := tw_of 214 (by decide +kernel) (by decide +kernel)
theorem tw_215 : (.selects "PatternWorkshopModel" yX12_testLoop yX12_testLoop : Cond) ∈ TW := tw_of 215 (by decide +kernel) (by decide +kernel)
theorem tw_216 : (.selects "PatternWorkshopModel" yX12_beginTurn yX12_beginTurn : Cond) ∈ TW := tw_of 216 (by decide +kernel) (by decide +kernel)
theorem tw_217 : (.selects "PatternWorkshopModel" yX12_beginLook yX12_beginLook : Cond) ∈ TW := tw_of 217 (by decide +kernel) (by decide +kernel)
theorem tw_218 : (.selects "PatternWorkshopModel" yX12_tryBehind yX12_tryBehind : Cond) ∈ TW := tw_of 218 (by decide +kernel) (by decide +kernel)
theorem tw_219 : (.selects "PatternWorkshopModel" yX12_goesBack yX12_goesBack : Cond) ∈ TW := tw_of 219 (by decide +kernel) (by decide +kernel)
theorem tw_220 : (.selects "PatternWorkshopModel" yX12_keepSpan yX12_keepSpan : Cond) ∈ TW := tw_of 220 (by decide +kernel) (by decide +kernel)
theorem tw_221 : (.selects "PatternWorkshopModel" yX12_findAll yX12_findAll : Cond) ∈ TW := tw_of 221 (by decide +kernel) (by decide +kernel)
theorem tw_222 : (.selects "PatternWorkshopModel" yX12_isReplacing yX12_isReplacing : Cond) ∈ TW := tw_of 222 (by decide +kernel) (by decide +kernel)
theorem tw_223 : (.selects "PatternWorkshopModel" yX12_makePart yX12_makePart : Cond) ∈ TW := tw_of 223 (by decide +kernel) (by decide +kernel)
theorem tw_224 : (.selects "PatternWorkshopModel" yX12_makeSign yX12_makeSign : Cond) ∈ TW := tw_of 224 (by decide +kernel) (by decide +kernel)
theorem tw_225 : (.selects "PatternWorkshopModel" yX12_tabled yX12_tabled : Cond) ∈ TW := tw_of 225 (by decide +kernel) (by decide +kernel)
theorem tw_226 : (.selects "PatternWorkshopModel" yX12_makeTable yX12_makeTable : Cond) ∈ TW := tw_of 226 (by decide +kernel) (by decide +kernel)
theorem tw_227 : (.selects "PatternWorkshopModel" yX12_reach yX12_reach : Cond) ∈ TW := tw_of 227 (by decide +kernel) (by decide +kernel)
theorem tw_228 : (.selects "PatternWorkshopModel" yX12_isAlike yX12_isAlike : Cond) ∈ TW := tw_of 228 (by decide +kernel) (by decide +kernel)
theorem tw_229 : (.selects "PatternWorkshopModel" yX12_findLive yX12_findLive : Cond) ∈ TW := tw_of 229 (by decide +kernel) (by decide +kernel)
theorem tw_230 : (.selects "PatternWorkshopModel" yX12_bothBars yX12_bothBars : Cond) ∈ TW := tw_of 230 (by decide +kernel) (by decide +kernel)
theorem tw_231 : (.selects "PatternWorkshopModel" yX12_findSorts yX12_findSorts : Cond) ∈ TW := tw_of 231 (by decide +kernel) (by decide +kernel)
theorem tw_232 : (.selects "PatternWorkshopModel" yX12_findPairs yX12_findPairs : Cond) ∈ TW := tw_of 232 (by decide +kernel) (by decide +kernel)
theorem tw_233 : (.selects "PatternWorkshopModel" yX12_meet yX12_meet : Cond) ∈ TW := tw_of 233 (by decide +kernel) (by decide +kernel)
theorem tw_234 : (.selects "PatternWorkshopModel" yX12_isParted yX12_isParted : Cond) ∈ TW := tw_of 234 (by decide +kernel) (by decide +kernel)
theorem tw_237 : (.initialized "PatternWorkshop$Row" : Cond) ∈ TW := tw_in (tb_0 (List.mem_of_getElem? (i := 2) rfl)) (by decide +kernel)
theorem tw_238 : (.initialized "java/lang/Math" : Cond) ∈ TW := tw_in (tb_0 (List.mem_of_getElem? (i := 3) rfl)) (by decide +kernel)
theorem tw_239 : (.initialized "PatternWorkshop$Reader" : Cond) ∈ TW := tw_in (tb_0 (List.mem_of_getElem? (i := 4) rfl)) (by decide +kernel)
theorem tw_240 : (.initialized "PatternWorkshop$Tree" : Cond) ∈ TW := tw_in (tb_0 (List.mem_of_getElem? (i := 5) rfl)) (by decide +kernel)
theorem tw_241 : (.initialized "PatternWorkshop$Group" : Cond) ∈ TW := tw_in (tb_0 (List.mem_of_getElem? (i := 6) rfl)) (by decide +kernel)
theorem tw_242 : (.initialized "PatternWorkshop$Printer" : Cond) ∈ TW := tw_in (tb_0 (List.mem_of_getElem? (i := 7) rfl)) (by decide +kernel)
theorem tw_243 : (.initialized "PatternWorkshop$GoingBack" : Cond) ∈ TW := tw_in (tb_0 (List.mem_of_getElem? (i := 8) rfl)) (by decide +kernel)
theorem tw_244 : (.initialized "PatternWorkshop$Parallel" : Cond) ∈ TW := tw_in (tb_0 (List.mem_of_getElem? (i := 9) rfl)) (by decide +kernel)
theorem tw_245 : (.initialized "PatternWorkshop$Program" : Cond) ∈ TW := tw_in (tb_0 (List.mem_of_getElem? (i := 10) rfl)) (by decide +kernel)
theorem tw_246 : (.initialized "PatternWorkshop$Sets" : Cond) ∈ TW := tw_in (tb_0 (List.mem_of_getElem? (i := 11) rfl)) (by decide +kernel)
theorem tw_247 : (.initialized "PatternWorkshop$Alphabet" : Cond) ∈ TW := tw_in (tb_0 (List.mem_of_getElem? (i := 12) rfl)) (by decide +kernel)
theorem tw_248 : (.initialized "PatternWorkshop$Table" : Cond) ∈ TW := tw_in (tb_0 (List.mem_of_getElem? (i := 13) rfl)) (by decide +kernel)
theorem tw_249 : (.initialized "PatternWorkshopModel" : Cond) ∈ TW := tw_in (tb_0 (List.mem_of_getElem? (i := 14) rfl)) (by decide +kernel)
theorem tw_264 : (.methodLink "PatternWorkshop" 1 ⟨"java/lang/Object", "<init>", "()V"⟩ : Cond) ∈ TW := tw_in (tb_0 (List.mem_of_getElem? (i := 29) rfl)) (by decide +kernel)
theorem tw_265 : (.instanceMethod ⟨"java/lang/Object", "<init>", "()V"⟩ : Cond) ∈ TW := tw_in (tb_0 (List.mem_of_getElem? (i := 30) rfl)) (by decide +kernel)
theorem tw_266 : (.code ⟨"java/lang/Object", "<init>", "()V"⟩ object_method_1_code 1 none : Cond) ∈ TW := tw_in (tb_0 (List.mem_of_getElem? (i := 31) rfl)) (by decide +kernel)
theorem tw_267 : (.classLink "PatternWorkshop" 7 "PatternWorkshop$Row" : Cond) ∈ TW := tw_in (tb_0 (List.mem_of_getElem? (i := 32) rfl)) (by decide +kernel)
theorem tw_268 : (.instantiable "PatternWorkshop$Row" 4 : Cond) ∈ TW := tw_in (tb_0 (List.mem_of_getElem? (i := 33) rfl)) (by decide +kernel)
theorem tw_269 : (.methodLink "PatternWorkshop" 11 ⟨"PatternWorkshop$Row", "<init>", "(I)V"⟩ : Cond) ∈ TW := tw_in (tb_0 (List.mem_of_getElem? (i := 34) rfl)) (by decide +kernel)
theorem tw_270 : (.instanceMethod ⟨"PatternWorkshop$Row", "<init>", "(I)V"⟩ : Cond) ∈ TW := tw_in (tb_0 (List.mem_of_getElem? (i := 35) rfl)) (by decide +kernel)
theorem tw_272 : (.methodLink "PatternWorkshop$Row" 3 ⟨"java/lang/Object", "<init>", "()V"⟩ : Cond) ∈ TW := tw_in (tb_0 (List.mem_of_getElem? (i := 37) rfl)) (by decide +kernel)
theorem tw_273 : (.methodLink "PatternWorkshop$Row" 9 ⟨"java/lang/Math", "max", "(II)I"⟩ : Cond) ∈ TW := tw_in (tb_0 (List.mem_of_getElem? (i := 38) rfl)) (by decide +kernel)
theorem tw_274 : (.static ⟨"java/lang/Math", "max", "(II)I"⟩ : Cond) ∈ TW := tw_in (tb_0 (List.mem_of_getElem? (i := 39) rfl)) (by decide +kernel)
theorem tw_275 : (.code ⟨"java/lang/Math", "max", "(II)I"⟩ prog_19_method_65_code 2 (some (.int)) : Cond) ∈ TW := tw_in (tb_0 (List.mem_of_getElem? (i := 40) rfl)) (by decide +kernel)
theorem tw_276 : (.fieldLink "PatternWorkshop$Row" 15 "PatternWorkshop$Row" "items" "[I" : Cond) ∈ TW := tw_in (tb_0 (List.mem_of_getElem? (i := 41) rfl)) (by decide +kernel)
theorem tw_296 : (.arrayClass .int : Cond) ∈ TW := tw_in (tb_0 (List.mem_of_getElem? (i := 61) rfl)) (by decide +kernel)
theorem tw_297 : (.classLink "PatternWorkshop" 18 "PatternWorkshop$Tree" : Cond) ∈ TW := tw_in (tb_0 (List.mem_of_getElem? (i := 62) rfl)) (by decide +kernel)
theorem tw_300 : (.classLink "PatternWorkshop" 40 "PatternWorkshop$Reader" : Cond) ∈ TW := tw_in (tb_0 (List.mem_of_getElem? (i := 65) rfl)) (by decide +kernel)
theorem tw_301 : (.instantiable "PatternWorkshop$Reader" 19 : Cond) ∈ TW := tw_in (tb_0 (List.mem_of_getElem? (i := 66) rfl)) (by decide +kernel)
theorem tw_302 : (.methodLink "PatternWorkshop" 42 ⟨"PatternWorkshop$Reader", "<init>", "()V"⟩ : Cond) ∈ TW := tw_in (tb_0 (List.mem_of_getElem? (i := 67) rfl)) (by decide +kernel)
theorem tw_303 : (.instanceMethod ⟨"PatternWorkshop$Reader", "<init>", "()V"⟩ : Cond) ∈ TW := tw_in (tb_0 (List.mem_of_getElem? (i := 68) rfl)) (by decide +kernel)
theorem tw_305 : (.methodLink "PatternWorkshop$Reader" 3 ⟨"java/lang/Object", "<init>", "()V"⟩ : Cond) ∈ TW := tw_in (tb_0 (List.mem_of_getElem? (i := 70) rfl)) (by decide +kernel)
theorem tw_306 : (.classLink "PatternWorkshop$Reader" 30 "PatternWorkshop$Group" : Cond) ∈ TW := tw_in (tb_0 (List.mem_of_getElem? (i := 71) rfl)) (by decide +kernel)
theorem tw_308 : (.classLink "PatternWorkshop$Reader" 36 "PatternWorkshop$Row" : Cond) ∈ TW := tw_in (tb_0 (List.mem_of_getElem? (i := 73) rfl)) (by decide +kernel)
theorem tw_309 : (.methodLink "PatternWorkshop$Reader" 38 ⟨"PatternWorkshop$Row", "<init>", "(I)V"⟩ : Cond) ∈ TW := tw_in (tb_0 (List.mem_of_getElem? (i := 74) rfl)) (by decide +kernel)
theorem tw_310 : (.classLink "PatternWorkshop$Reader" 45 "PatternWorkshop$Tree" : Cond) ∈ TW := tw_in (tb_0 (List.mem_of_getElem? (i := 75) rfl)) (by decide +kernel)
theorem tw_311 : (.instantiable "PatternWorkshop$Tree" 20 : Cond) ∈ TW := tw_in (tb_0 (List.mem_of_getElem? (i := 76) rfl)) (by decide +kernel)
theorem tw_312 : (.methodLink "PatternWorkshop$Reader" 47 ⟨"PatternWorkshop$Tree", "<init>", "(II)V"⟩ : Cond) ∈ TW := tw_in (tb_0 (List.mem_of_getElem? (i := 77) rfl)) (by decide +kernel)
theorem tw_313 : (.instanceMethod ⟨"PatternWorkshop$Tree", "<init>", "(II)V"⟩ : Cond) ∈ TW := tw_in (tb_0 (List.mem_of_getElem? (i := 78) rfl)) (by decide +kernel)
theorem tw_315 : (.methodLink "PatternWorkshop$Tree" 3 ⟨"java/lang/Object", "<init>", "()V"⟩ : Cond) ∈ TW := tw_in (tb_0 (List.mem_of_getElem? (i := 80) rfl)) (by decide +kernel)
theorem tw_316 : (.methodLink "PatternWorkshop$Tree" 9 ⟨"java/lang/Math", "max", "(II)I"⟩ : Cond) ∈ TW := tw_in (tb_0 (List.mem_of_getElem? (i := 81) rfl)) (by decide +kernel)
theorem tw_327 : (.fieldLink "PatternWorkshop$Tree" 15 "PatternWorkshop$Tree" "sort" "[I" : Cond) ∈ TW := tw_in (tb_0 (List.mem_of_getElem? (i := 92) rfl)) (by decide +kernel)
theorem tw_328 : (.fieldLink "PatternWorkshop$Tree" 21 "PatternWorkshop$Tree" "holder" "[I" : Cond) ∈ TW := tw_in (tb_0 (List.mem_of_getElem? (i := 93) rfl)) (by decide +kernel)
theorem tw_329 : (.fieldLink "PatternWorkshop$Tree" 24 "PatternWorkshop$Tree" "end" "[I" : Cond) ∈ TW := tw_in (tb_0 (List.mem_of_getElem? (i := 94) rfl)) (by decide +kernel)
theorem tw_330 : (.fieldLink "PatternWorkshop$Tree" 27 "PatternWorkshop$Tree" "before" "[I" : Cond) ∈ TW := tw_in (tb_0 (List.mem_of_getElem? (i := 95) rfl)) (by decide +kernel)
theorem tw_331 : (.fieldLink "PatternWorkshop$Tree" 30 "PatternWorkshop$Tree" "last" "[I" : Cond) ∈ TW := tw_in (tb_0 (List.mem_of_getElem? (i := 96) rfl)) (by decide +kernel)
theorem tw_332 : (.fieldLink "PatternWorkshop$Tree" 33 "PatternWorkshop$Tree" "parts" "[I" : Cond) ∈ TW := tw_in (tb_0 (List.mem_of_getElem? (i := 97) rfl)) (by decide +kernel)
theorem tw_333 : (.fieldLink "PatternWorkshop$Tree" 36 "PatternWorkshop$Tree" "value" "[I" : Cond) ∈ TW := tw_in (tb_0 (List.mem_of_getElem? (i := 98) rfl)) (by decide +kernel)
theorem tw_334 : (.fieldLink "PatternWorkshop$Tree" 39 "PatternWorkshop$Tree" "low" "[I" : Cond) ∈ TW := tw_in (tb_0 (List.mem_of_getElem? (i := 99) rfl)) (by decide +kernel)
theorem tw_335 : (.fieldLink "PatternWorkshop$Tree" 42 "PatternWorkshop$Tree" "high" "[I" : Cond) ∈ TW := tw_in (tb_0 (List.mem_of_getElem? (i := 100) rfl)) (by decide +kernel)
theorem tw_336 : (.fieldLink "PatternWorkshop$Tree" 45 "PatternWorkshop$Tree" "size" "[I" : Cond) ∈ TW := tw_in (tb_0 (List.mem_of_getElem? (i := 101) rfl)) (by decide +kernel)
theorem tw_337 : (.fieldLink "PatternWorkshop$Tree" 48 "PatternWorkshop$Tree" "positions" "[I" : Cond) ∈ TW := tw_in (tb_0 (List.mem_of_getElem? (i := 102) rfl)) (by decide +kernel)
theorem tw_338 : (.fieldLink "PatternWorkshop$Tree" 51 "PatternWorkshop$Tree" "mayBeEmpty" "[Z" : Cond) ∈ TW := tw_in (tb_0 (List.mem_of_getElem? (i := 103) rfl)) (by decide +kernel)
theorem tw_339 : (.fieldLink "PatternWorkshop$Tree" 55 "PatternWorkshop$Tree" "withinCase" "[Z" : Cond) ∈ TW := tw_in (tb_0 (List.mem_of_getElem? (i := 104) rfl)) (by decide +kernel)
theorem tw_340 : (.fieldLink "PatternWorkshop$Tree" 58 "PatternWorkshop$Tree" "marked" "[Z" : Cond) ∈ TW := tw_in (tb_0 (List.mem_of_getElem? (i := 105) rfl)) (by decide +kernel)
theorem tw_341 : (.fieldLink "PatternWorkshop$Tree" 61 "PatternWorkshop$Tree" "rangeBegin" "[I" : Cond) ∈ TW := tw_in (tb_0 (List.mem_of_getElem? (i := 106) rfl)) (by decide +kernel)
theorem tw_342 : (.fieldLink "PatternWorkshop$Tree" 64 "PatternWorkshop$Tree" "rangeEnd" "[I" : Cond) ∈ TW := tw_in (tb_0 (List.mem_of_getElem? (i := 107) rfl)) (by decide +kernel)
theorem tw_384 : (.arrayClass .boolean : Cond) ∈ TW := tw_in (tb_0 (List.mem_of_getElem? (i := 149) rfl)) (by decide +kernel)
theorem tw_385 : (.instantiable "PatternWorkshop$Group" 11 : Cond) ∈ TW := tw_in (tb_0 (List.mem_of_getElem? (i := 150) rfl)) (by decide +kernel)
theorem tw_387 : (.instanceMethod ⟨"PatternWorkshop$Group", "<init>", "()V"⟩ : Cond) ∈ TW := tw_in (tb_0 (List.mem_of_getElem? (i := 152) rfl)) (by decide +kernel)
theorem tw_389 : (.methodLink "PatternWorkshop$Group" 3 ⟨"java/lang/Object", "<init>", "()V"⟩ : Cond) ∈ TW := tw_in (tb_0 (List.mem_of_getElem? (i := 154) rfl)) (by decide +kernel)
theorem tw_439 : (.fieldLink "PatternWorkshop$Reader" 9 "PatternWorkshop$Reader" "sort" "[I" : Cond) ∈ TW := tw_in (tb_0 (List.mem_of_getElem? (i := 204) rfl)) (by decide +kernel)
theorem tw_440 : (.fieldLink "PatternWorkshop$Reader" 15 "PatternWorkshop$Reader" "value" "[I" : Cond) ∈ TW := tw_in (tb_0 (List.mem_of_getElem? (i := 205) rfl)) (by decide +kernel)
theorem tw_441 : (.fieldLink "PatternWorkshop$Reader" 18 "PatternWorkshop$Reader" "low" "[I" : Cond) ∈ TW := tw_in (tb_0 (List.mem_of_getElem? (i := 206) rfl)) (by decide +kernel)
theorem tw_442 : (.fieldLink "PatternWorkshop$Reader" 21 "PatternWorkshop$Reader" "high" "[I" : Cond) ∈ TW := tw_in (tb_0 (List.mem_of_getElem? (i := 207) rfl)) (by decide +kernel)
theorem tw_443 : (.fieldLink "PatternWorkshop$Reader" 24 "PatternWorkshop$Reader" "firstPart" "[I" : Cond) ∈ TW := tw_in (tb_0 (List.mem_of_getElem? (i := 208) rfl)) (by decide +kernel)
theorem tw_444 : (.fieldLink "PatternWorkshop$Reader" 27 "PatternWorkshop$Reader" "nextPart" "[I" : Cond) ∈ TW := tw_in (tb_0 (List.mem_of_getElem? (i := 209) rfl)) (by decide +kernel)
theorem tw_446 : (.fieldLink "PatternWorkshop$Reader" 32 "PatternWorkshop$Reader" "groups" "[LPatternWorkshop$Group;" : Cond) ∈ TW := tw_in (tb_0 (List.mem_of_getElem? (i := 211) rfl)) (by decide +kernel)
theorem tw_448 : (.fieldLink "PatternWorkshop$Reader" 41 "PatternWorkshop$Reader" "text" "LPatternWorkshop$Row;" : Cond) ∈ TW := tw_in (tb_0 (List.mem_of_getElem? (i := 213) rfl)) (by decide +kernel)
theorem tw_449 : (.fieldLink "PatternWorkshop$Reader" 50 "PatternWorkshop$Reader" "tree" "LPatternWorkshop$Tree;" : Cond) ∈ TW := tw_in (tb_0 (List.mem_of_getElem? (i := 214) rfl)) (by decide +kernel)
theorem tw_452 : (.fieldLink "PatternWorkshop$Reader" 54 "PatternWorkshop$Reader" "captureOfName" "[I" : Cond) ∈ TW := tw_in (tb_0 (List.mem_of_getElem? (i := 217) rfl)) (by decide +kernel)
theorem tw_453 : (.fieldLink "PatternWorkshop$Reader" 57 "PatternWorkshop$Reader" "partBegin" "[I" : Cond) ∈ TW := tw_in (tb_0 (List.mem_of_getElem? (i := 218) rfl)) (by decide +kernel)
theorem tw_454 : (.fieldLink "PatternWorkshop$Reader" 60 "PatternWorkshop$Reader" "partEnd" "[I" : Cond) ∈ TW := tw_in (tb_0 (List.mem_of_getElem? (i := 219) rfl)) (by decide +kernel)
theorem tw_495 : (.classLink "PatternWorkshop" 47 "PatternWorkshop$Printer" : Cond) ∈ TW := tw_in (tb_1 (List.mem_of_getElem? (i := 20) rfl)) (by decide +kernel)
theorem tw_496 : (.instantiable "PatternWorkshop$Printer" 2 : Cond) ∈ TW := tw_in (tb_1 (List.mem_of_getElem? (i := 21) rfl)) (by decide +kernel)
theorem tw_498 : (.instanceMethod ⟨"PatternWorkshop$Printer", "<init>", "()V"⟩ : Cond) ∈ TW := tw_in (tb_1 (List.mem_of_getElem? (i := 23) rfl)) (by decide +kernel)
theorem tw_500 : (.methodLink "PatternWorkshop$Printer" 3 ⟨"java/lang/Object", "<init>", "()V"⟩ : Cond) ∈ TW := tw_in (tb_1 (List.mem_of_getElem? (i := 25) rfl)) (by decide +kernel)
theorem tw_501 : (.classLink "PatternWorkshop$Printer" 9 "PatternWorkshop$Row" : Cond) ∈ TW := tw_in (tb_1 (List.mem_of_getElem? (i := 26) rfl)) (by decide +kernel)
theorem tw_502 : (.methodLink "PatternWorkshop$Printer" 11 ⟨"PatternWorkshop$Row", "<init>", "(I)V"⟩ : Cond) ∈ TW := tw_in (tb_1 (List.mem_of_getElem? (i := 27) rfl)) (by decide +kernel)
theorem tw_503 : (.fieldLink "PatternWorkshop$Printer" 14 "PatternWorkshop$Printer" "row" "LPatternWorkshop$Row;" : Cond) ∈ TW := tw_in (tb_1 (List.mem_of_getElem? (i := 28) rfl)) (by decide +kernel)
theorem tw_510 : (.classLink "PatternWorkshop" 54 "PatternWorkshop$GoingBack" : Cond) ∈ TW := tw_in (tb_1 (List.mem_of_getElem? (i := 35) rfl)) (by decide +kernel)
theorem tw_511 : (.instantiable "PatternWorkshop$GoingBack" 19 : Cond) ∈ TW := tw_in (tb_1 (List.mem_of_getElem? (i := 36) rfl)) (by decide +kernel)
theorem tw_513 : (.instanceMethod ⟨"PatternWorkshop$GoingBack", "<init>", "()V"⟩ : Cond) ∈ TW := tw_in (tb_1 (List.mem_of_getElem? (i := 38) rfl)) (by decide +kernel)
theorem tw_515 : (.methodLink "PatternWorkshop$GoingBack" 3 ⟨"java/lang/Object", "<init>", "()V"⟩ : Cond) ∈ TW := tw_in (tb_1 (List.mem_of_getElem? (i := 40) rfl)) (by decide +kernel)
theorem tw_516 : (.classLink "PatternWorkshop$GoingBack" 9 "PatternWorkshop$Tree" : Cond) ∈ TW := tw_in (tb_1 (List.mem_of_getElem? (i := 41) rfl)) (by decide +kernel)
theorem tw_517 : (.methodLink "PatternWorkshop$GoingBack" 11 ⟨"PatternWorkshop$Tree", "<init>", "(II)V"⟩ : Cond) ∈ TW := tw_in (tb_1 (List.mem_of_getElem? (i := 42) rfl)) (by decide +kernel)
theorem tw_518 : (.classLink "PatternWorkshop$GoingBack" 20 "PatternWorkshop$Row" : Cond) ∈ TW := tw_in (tb_1 (List.mem_of_getElem? (i := 43) rfl)) (by decide +kernel)
theorem tw_519 : (.methodLink "PatternWorkshop$GoingBack" 22 ⟨"PatternWorkshop$Row", "<init>", "(I)V"⟩ : Cond) ∈ TW := tw_in (tb_1 (List.mem_of_getElem? (i := 44) rfl)) (by decide +kernel)
theorem tw_522 : (.fieldLink "PatternWorkshop$GoingBack" 14 "PatternWorkshop$GoingBack" "tree" "LPatternWorkshop$Tree;" : Cond) ∈ TW := tw_in (tb_1 (List.mem_of_getElem? (i := 47) rfl)) (by decide +kernel)
theorem tw_523 : (.fieldLink "PatternWorkshop$GoingBack" 25 "PatternWorkshop$GoingBack" "subject" "LPatternWorkshop$Row;" : Cond) ∈ TW := tw_in (tb_1 (List.mem_of_getElem? (i := 48) rfl)) (by decide +kernel)
theorem tw_531 : (.fieldLink "PatternWorkshop$GoingBack" 29 "PatternWorkshop$GoingBack" "cells" "[I" : Cond) ∈ TW := tw_in (tb_1 (List.mem_of_getElem? (i := 56) rfl)) (by decide +kernel)
theorem tw_532 : (.fieldLink "PatternWorkshop$GoingBack" 33 "PatternWorkshop$GoingBack" "base" "[I" : Cond) ∈ TW := tw_in (tb_1 (List.mem_of_getElem? (i := 57) rfl)) (by decide +kernel)
theorem tw_533 : (.fieldLink "PatternWorkshop$GoingBack" 36 "PatternWorkshop$GoingBack" "entry" "[I" : Cond) ∈ TW := tw_in (tb_1 (List.mem_of_getElem? (i := 58) rfl)) (by decide +kernel)
theorem tw_534 : (.fieldLink "PatternWorkshop$GoingBack" 39 "PatternWorkshop$GoingBack" "from" "[I" : Cond) ∈ TW := tw_in (tb_1 (List.mem_of_getElem? (i := 59) rfl)) (by decide +kernel)
theorem tw_535 : (.fieldLink "PatternWorkshop$GoingBack" 42 "PatternWorkshop$GoingBack" "choices" "[I" : Cond) ∈ TW := tw_in (tb_1 (List.mem_of_getElem? (i := 60) rfl)) (by decide +kernel)
theorem tw_536 : (.fieldLink "PatternWorkshop$GoingBack" 45 "PatternWorkshop$GoingBack" "heights" "[I" : Cond) ∈ TW := tw_in (tb_1 (List.mem_of_getElem? (i := 61) rfl)) (by decide +kernel)
theorem tw_538 : (.fieldLink "PatternWorkshop$GoingBack" 48 "PatternWorkshop$GoingBack" "trail" "[I" : Cond) ∈ TW := tw_in (tb_1 (List.mem_of_getElem? (i := 63) rfl)) (by decide +kernel)
theorem tw_579 : (.classLink "PatternWorkshop" 61 "PatternWorkshop$Parallel" : Cond) ∈ TW := tw_in (tb_1 (List.mem_of_getElem? (i := 104) rfl)) (by decide +kernel)
theorem tw_580 : (.instantiable "PatternWorkshop$Parallel" 17 : Cond) ∈ TW := tw_in (tb_1 (List.mem_of_getElem? (i := 105) rfl)) (by decide +kernel)
theorem tw_582 : (.instanceMethod ⟨"PatternWorkshop$Parallel", "<init>", "()V"⟩ : Cond) ∈ TW := tw_in (tb_1 (List.mem_of_getElem? (i := 107) rfl)) (by decide +kernel)
theorem tw_584 : (.methodLink "PatternWorkshop$Parallel" 5 ⟨"java/lang/Object", "<init>", "()V"⟩ : Cond) ∈ TW := tw_in (tb_1 (List.mem_of_getElem? (i := 109) rfl)) (by decide +kernel)
theorem tw_585 : (.classLink "PatternWorkshop$Parallel" 11 "PatternWorkshop$Program" : Cond) ∈ TW := tw_in (tb_1 (List.mem_of_getElem? (i := 110) rfl)) (by decide +kernel)
theorem tw_586 : (.instantiable "PatternWorkshop$Program" 7 : Cond) ∈ TW := tw_in (tb_1 (List.mem_of_getElem? (i := 111) rfl)) (by decide +kernel)
theorem tw_588 : (.instanceMethod ⟨"PatternWorkshop$Program", "<init>", "()V"⟩ : Cond) ∈ TW := tw_in (tb_1 (List.mem_of_getElem? (i := 113) rfl)) (by decide +kernel)
theorem tw_590 : (.methodLink "PatternWorkshop$Program" 3 ⟨"java/lang/Object", "<init>", "()V"⟩ : Cond) ∈ TW := tw_in (tb_1 (List.mem_of_getElem? (i := 115) rfl)) (by decide +kernel)
theorem tw_591 : (.classLink "PatternWorkshop$Program" 9 "PatternWorkshop$Tree" : Cond) ∈ TW := tw_in (tb_1 (List.mem_of_getElem? (i := 116) rfl)) (by decide +kernel)
theorem tw_592 : (.methodLink "PatternWorkshop$Program" 11 ⟨"PatternWorkshop$Tree", "<init>", "(II)V"⟩ : Cond) ∈ TW := tw_in (tb_1 (List.mem_of_getElem? (i := 117) rfl)) (by decide +kernel)
theorem tw_597 : (.fieldLink "PatternWorkshop$Program" 14 "PatternWorkshop$Program" "tree" "LPatternWorkshop$Tree;" : Cond) ∈ TW := tw_in (tb_1 (List.mem_of_getElem? (i := 122) rfl)) (by decide +kernel)
theorem tw_598 : (.fieldLink "PatternWorkshop$Program" 20 "PatternWorkshop$Program" "kinds" "[I" : Cond) ∈ TW := tw_in (tb_1 (List.mem_of_getElem? (i := 123) rfl)) (by decide +kernel)
