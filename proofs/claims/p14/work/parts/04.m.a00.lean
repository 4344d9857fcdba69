abbrev oX12 (hh : Nat → Nat) (z0 : Int32) (z1 : Int32) (z3 : Int32) (z4 : Int32) (z31 : Int32) (z34 : Int32) (z35 : Int32) (z36 : Int32) (z37 : Int32) (z38 : Int32) (z39 : Int32) (z41 : Int32) (z50 : Int32) (z51 : Int32) (z52 : Int32) (z53 : Int32) (z57 : Int32) (z59 : Int32) (z61 : Int32) (z62 : Bool) (z66 : Int32) (z74 : Int32) (z76 : Int32) (z80 : Int32) (z85 : Int32) (z90 : Int32) (z91 : Int32) (z92 : Int32) (z93 : Int32) (z94 : Int32) (z95 : Int32) (z96 : Int32) (z97 : Int32) (z98 : Bool) (z100 : Int32) (z102 : Bool) (z103 : Int32) (z104 : Int32) (z105 : Int32) (z106 : Int32) (z108 : Bool) (z109 : Int32) (z111 : Int32) (z113 : Int32) (z116 : Int32) (z121 : Int64) (z122 : Bool) (z138 : Int32) (z142 : Int32) : List Value := (.int z0 :: .int z1 :: .ref (hh 2) :: .int z3 :: .int z4 :: .ref (hh 5) :: .ref (hh 6) :: .ref (hh 7) :: .ref (hh 8) :: .ref (hh 9) :: .ref (hh 10) :: .ref (hh 11) :: .ref (hh 12) :: .ref (hh 13) :: .ref (hh 14) :: .ref (hh 15) :: .ref (hh 16) :: .ref (hh 17) :: .ref (hh 18) :: .ref (hh 19) :: .ref (hh 20) :: .ref (hh 21) :: .ref (hh 22) :: .ref (hh 23) :: .ref (hh 24) :: .ref (hh 25) :: .ref (hh 26) :: .ref (hh 27) :: .ref (hh 28) :: .ref (hh 29) :: .ref (hh 30) :: .int z31 :: .ref (hh 32) :: .ref (hh 33) :: .int z34 :: .int z35 :: .int z36 :: .int z37 :: .int z38 :: .int z39 :: .ref (hh 40) :: .int z41 :: .ref (hh 42) :: .ref (hh 43) :: .ref (hh 44) :: .ref (hh 45) :: .ref (hh 46) :: .ref (hh 47) :: .ref (hh 48) :: .ref (hh 49) :: .int z50 :: .int z51 :: .int z52 :: .int z53 :: .ref (hh 54) :: .ref (hh 55) :: .ref (hh 56) :: .int z57 :: .ref (hh 58) :: .int z59 :: .ref (hh 60) :: .int z61 :: .int (bz z62) :: .ref (hh 63) :: .ref (hh 64) :: .ref (hh 65) :: .int z66 :: .ref (hh 67) :: .ref (hh 68) :: .ref (hh 69) :: .ref (hh 70) :: .ref (hh 71) :: .ref (hh 72) :: .ref (hh 73) :: .int z74 :: .ref (hh 75) :: .int z76 :: .ref (hh 77) :: .ref (hh 78) :: .ref (hh 79) :: .int z80 :: .ref (hh 81) :: .ref (hh 82) :: .ref (hh 83) :: .ref (hh 84) :: .int z85 :: .ref (hh 86) :: .ref (hh 87) :: .ref (hh 88) :: .ref (hh 89) :: .int z90 :: .int z91 :: .int z92 :: .int z93 :: .int z94 :: .int z95 :: .int z96 :: .int z97 :: .int (bz z98) :: .ref (hh 99) :: .int z100 :: .ref (hh 101) :: .int (bz z102) :: .int z103 :: .int z104 :: .int z105 :: .int z106 :: .ref (hh 107) :: .int (bz z108) :: .int z109 :: .ref (hh 110) :: .int z111 :: .ref (hh 112) :: .int z113 :: .ref (hh 114) :: .ref (hh 115) :: .int z116 :: .ref (hh 117) :: .ref (hh 118) :: .ref (hh 119) :: .ref (hh 120) :: .long z121 :: .int (bz z122) :: .ref (hh 123) :: .ref (hh 124) :: .ref (hh 125) :: .ref (hh 126) :: .ref (hh 127) :: .ref (hh 128) :: .ref (hh 129) :: .ref (hh 130) :: .ref (hh 131) :: .ref (hh 132) :: .ref (hh 133) :: .ref (hh 134) :: .ref (hh 135) :: .ref (hh 136) :: .ref (hh 137) :: .int z138 :: .ref (hh 139) :: .ref (hh 140) :: .ref (hh 141) :: .int z142 :: [])
abbrev cX12_addNode : ByteArray := prog_14_method_13_code
def yX12_addNode : MethodName := ⟨RX12, "addNode", "(I)V"⟩
abbrev cX12_addPart : ByteArray := prog_14_method_25_code
def yX12_addPart : MethodName := ⟨RX12, "addPart", "(II)V"⟩
abbrev cX12_all : ByteArray := prog_14_method_104_code
def yX12_all : MethodName := ⟨RX12, "all", "(III)I"⟩
abbrev cX12_bars : ByteArray := prog_14_method_94_code
def yX12_bars : MethodName := ⟨RX12, "bars", "(II)I"⟩
abbrev cX12_beginGroup : ByteArray := prog_14_method_12_code
def yX12_beginGroup : MethodName := ⟨RX12, "beginGroup", "(II)V"⟩
abbrev cX12_beginLook : ByteArray := prog_14_method_88_code
def yX12_beginLook : MethodName := ⟨RX12, "beginLook", "(IIZ)V"⟩
abbrev cX12_beginRow : ByteArray := prog_14_method_11_code
def yX12_beginRow : MethodName := ⟨RX12, "beginRow", "()V"⟩
abbrev cX12_beginTurn : ByteArray := prog_14_method_84_code
def yX12_beginTurn : MethodName := ⟨RX12, "beginTurn", "(I)V"⟩
abbrev cX12_begins : ByteArray := prog_14_method_60_code
def yX12_begins : MethodName := ⟨RX12, "begins", "(II)I"⟩
abbrev cX12_bothBars : ByteArray := prog_14_method_119_code
def yX12_bothBars : MethodName := ⟨RX12, "bothBars", "(II)I"⟩
abbrev cX12_capped : ByteArray := prog_14_method_34_code
def yX12_capped : MethodName := ⟨RX12, "capped", "(I)I"⟩
abbrev cX12_captureOf : ByteArray := prog_14_method_23_code
def yX12_captureOf : MethodName := ⟨RX12, "captureOf", "(I)I"⟩
abbrev cX12_choose : ByteArray := prog_14_method_78_code
def yX12_choose : MethodName := ⟨RX12, "choose", "(III)V"⟩
abbrev cX12_clear : ByteArray := prog_14_method_129_code
def yX12_clear : MethodName := ⟨RX12, "clear", "()I"⟩
abbrev cX12_closeChoice : ByteArray := prog_14_method_15_code
def yX12_closeChoice : MethodName := ⟨RX12, "closeChoice", "()I"⟩
abbrev cX12_closeGroup : ByteArray := prog_14_method_24_code
def yX12_closeGroup : MethodName := ⟨RX12, "closeGroup", "()V"⟩
abbrev cX12_closeRow : ByteArray := prog_14_method_14_code
def yX12_closeRow : MethodName := ⟨RX12, "closeRow", "()V"⟩
abbrev cX12_compare : ByteArray := prog_14_method_124_code
def yX12_compare : MethodName := ⟨RX12, "compare", "(II)I"⟩
abbrev cX12_compile : ByteArray := prog_14_method_71_code
def yX12_compile : MethodName := ⟨RX12, "compile", "(IZ)V"⟩
abbrev cX12_compileChoice : ByteArray := prog_14_method_73_code
def yX12_compileChoice : MethodName := ⟨RX12, "compileChoice", "(I)V"⟩
abbrev cX12_compileCopies : ByteArray := prog_14_method_75_code
def yX12_compileCopies : MethodName := ⟨RX12, "compileCopies", "(II)V"⟩
abbrev cX12_compileLook : ByteArray := prog_14_method_76_code
def yX12_compileLook : MethodName := ⟨RX12, "compileLook", "(II)V"⟩
abbrev cX12_compileLoop : ByteArray := prog_14_method_74_code
def yX12_compileLoop : MethodName := ⟨RX12, "compileLoop", "(II)V"⟩
abbrev cX12_compileNode : ByteArray := prog_14_method_72_code
def yX12_compileNode : MethodName := ⟨RX12, "compileNode", "(IIZ)V"⟩
abbrev cX12_countItem : ByteArray := prog_14_method_17_code
def yX12_countItem : MethodName := ⟨RX12, "countItem", "(I)V"⟩
abbrev cX12_dead : ByteArray := prog_14_method_55_code
def yX12_dead : MethodName := ⟨RX12, "dead", "(II)I"⟩
abbrev cX12_drop : ByteArray := prog_14_method_67_code
def yX12_drop : MethodName := ⟨RX12, "drop", "(I)I"⟩
abbrev cX12_escaped : ByteArray := prog_14_method_30_code
def yX12_escaped : MethodName := ⟨RX12, "escaped", "()I"⟩
abbrev cX12_fail : ByteArray := prog_14_method_9_code
def yX12_fail : MethodName := ⟨RX12, "fail", "(II)V"⟩
abbrev cX12_feed : ByteArray := prog_14_method_36_code
def yX12_feed : MethodName := ⟨RX12, "feed", "(IJ)I"⟩
abbrev cX12_find : ByteArray := prog_14_method_98_code
def yX12_find : MethodName := ⟨RX12, "find", "(IIIII)I"⟩
abbrev cX12_findAll : ByteArray := prog_14_method_103_code
def yX12_findAll : MethodName := ⟨RX12, "findAll", "(III)I"⟩
abbrev cX12_findBegun : ByteArray := prog_14_method_59_code
def yX12_findBegun : MethodName := ⟨RX12, "findBegun", "(II)V"⟩
abbrev cX12_findBounds : ByteArray := prog_14_method_62_code
def yX12_findBounds : MethodName := ⟨RX12, "findBounds", "()V"⟩
abbrev cX12_findLive : ByteArray := prog_14_method_118_code
def yX12_findLive : MethodName := ⟨RX12, "findLive", "()V"⟩
abbrev cX12_findPairs : ByteArray := prog_14_method_122_code
def yX12_findPairs : MethodName := ⟨RX12, "findPairs", "()V"⟩
abbrev cX12_findSorts : ByteArray := prog_14_method_120_code
def yX12_findSorts : MethodName := ⟨RX12, "findSorts", "()V"⟩
abbrev cX12_finding : ByteArray := prog_14_method_127_code
def yX12_finding : MethodName := ⟨RX12, "finding", "()I"⟩
abbrev cX12_first : ByteArray := prog_14_method_109_code
def yX12_first : MethodName := ⟨RX12, "first", "(IIII)I"⟩
abbrev cX12_forget : ByteArray := prog_14_method_40_code
def yX12_forget : MethodName := ⟨RX12, "forget", "(I)I"⟩
abbrev cX12_goOn : ByteArray := prog_14_method_99_code
def yX12_goOn : MethodName := ⟨RX12, "goOn", "(I)I"⟩
abbrev cX12_goes : ByteArray := prog_14_method_97_code
def yX12_goes : MethodName := ⟨RX12, "goes", "(I)I"⟩
abbrev cX12_goesBack : ByteArray := prog_14_method_86_code
def yX12_goesBack : MethodName := ⟨RX12, "goesBack", "()Z"⟩
abbrev cX12_hexes : ByteArray := prog_14_method_19_code
def yX12_hexes : MethodName := ⟨RX12, "hexes", "(I)I"⟩
abbrev cX12_holding : ByteArray := prog_14_method_16_code
def yX12_holding : MethodName := ⟨RX12, "holding", "(III)I"⟩
abbrev cX12_in : ByteArray := prog_14_method_2_code
def yX12_in : MethodName := ⟨RX12, "in", "(III)Z"⟩
abbrev cX12_isAlike : ByteArray := prog_14_method_115_code
def yX12_isAlike : MethodName := ⟨RX12, "isAlike", "(II)Z"⟩
abbrev cX12_isBack : ByteArray := prog_14_method_83_code
def yX12_isBack : MethodName := ⟨RX12, "isBack", "(I)Z"⟩
abbrev cX12_isDigit : ByteArray := prog_14_method_4_code
def yX12_isDigit : MethodName := ⟨RX12, "isDigit", "(I)Z"⟩
abbrev cX12_isDone : ByteArray := prog_14_method_89_code
def yX12_isDone : MethodName := ⟨RX12, "isDone", "(II)Z"⟩
abbrev cX12_isEdge : ByteArray := prog_14_method_82_code
def yX12_isEdge : MethodName := ⟨RX12, "isEdge", "(I)Z"⟩
abbrev cX12_isEndless : ByteArray := prog_14_method_63_code
def yX12_isEndless : MethodName := ⟨RX12, "isEndless", "(I)Z"⟩
abbrev cX12_isHex : ByteArray := prog_14_method_18_code
def yX12_isHex : MethodName := ⟨RX12, "isHex", "(I)Z"⟩
abbrev cX12_isInParts : ByteArray := prog_14_method_57_code
def yX12_isInParts : MethodName := ⟨RX12, "isInParts", "(II)Z"⟩
abbrev cX12_isLetter : ByteArray := prog_14_method_3_code
def yX12_isLetter : MethodName := ⟨RX12, "isLetter", "(I)Z"⟩
abbrev cX12_isMark : ByteArray := prog_14_method_50_code
def yX12_isMark : MethodName := ⟨RX12, "isMark", "(I)Z"⟩
abbrev cX12_isParted : ByteArray := prog_14_method_123_code
def yX12_isParted : MethodName := ⟨RX12, "isParted", "(I)Z"⟩
abbrev cX12_isPlain : ByteArray := prog_14_method_48_code
def yX12_isPlain : MethodName := ⟨RX12, "isPlain", "(I)Z"⟩
abbrev cX12_isReplacing : ByteArray := prog_14_method_105_code
def yX12_isReplacing : MethodName := ⟨RX12, "isReplacing", "(I)Z"⟩
abbrev cX12_isSamePrint : ByteArray := prog_14_method_56_code
def yX12_isSamePrint : MethodName := ⟨RX12, "isSamePrint", "(III)Z"⟩
abbrev cX12_isStep : ByteArray := prog_14_method_79_code
def yX12_isStep : MethodName := ⟨RX12, "isStep", "()Z"⟩
abbrev cX12_isWord : ByteArray := prog_14_method_6_code
def yX12_isWord : MethodName := ⟨RX12, "isWord", "(I)Z"⟩
abbrev cX12_isWordAt : ByteArray := prog_14_method_81_code
def yX12_isWordAt : MethodName := ⟨RX12, "isWordAt", "(I)Z"⟩
abbrev cX12_isWrapped : ByteArray := prog_14_method_49_code
def yX12_isWrapped : MethodName := ⟨RX12, "isWrapped", "(II)Z"⟩
abbrev cX12_joinParts : ByteArray := prog_14_method_26_code
def yX12_joinParts : MethodName := ⟨RX12, "joinParts", "(I)V"⟩
abbrev cX12_keepPattern : ByteArray := prog_14_method_33_code
def yX12_keepPattern : MethodName := ⟨RX12, "keepPattern", "(II)V"⟩
abbrev cX12_keepSpan : ByteArray := prog_14_method_95_code
def yX12_keepSpan : MethodName := ⟨RX12, "keepSpan", "(IZ)V"⟩
abbrev cX12_kindBars : ByteArray := prog_14_method_92_code
def yX12_kindBars : MethodName := ⟨RX12, "kindBars", "(II)I"⟩
abbrev cX12_later : ByteArray := prog_14_method_69_code
def yX12_later : MethodName := ⟨RX12, "later", "(III)V"⟩
abbrev cX12_least : ByteArray := prog_14_method_116_code
def yX12_least : MethodName := ⟨RX12, "least", "(I)I"⟩
abbrev cX12_looped : ByteArray := prog_14_method_21_code
def yX12_looped : MethodName := ⟨RX12, "looped", "(I)I"⟩
abbrev cX12_made : ByteArray := prog_14_method_10_code
def yX12_made : MethodName := ⟨RX12, "made", "(II)I"⟩
abbrev cX12_makePart : ByteArray := prog_14_method_107_code
def yX12_makePart : MethodName := ⟨RX12, "makePart", "(III)V"⟩
abbrev cX12_makeSign : ByteArray := prog_14_method_106_code
def yX12_makeSign : MethodName := ⟨RX12, "makeSign", "(I)V"⟩
abbrev cX12_makeTable : ByteArray := prog_14_method_112_code
def yX12_makeTable : MethodName := ⟨RX12, "makeTable", "(II)I"⟩
abbrev cX12_markBounds : ByteArray := prog_14_method_61_code
def yX12_markBounds : MethodName := ⟨RX12, "markBounds", "(I)V"⟩
abbrev cX12_measure : ByteArray := prog_14_method_35_code
def yX12_measure : MethodName := ⟨RX12, "measure", "(II)V"⟩
abbrev cX12_meet : ByteArray := prog_14_method_121_code
def yX12_meet : MethodName := ⟨RX12, "meet", "(IIII)V"⟩
abbrev cX12_member : ByteArray := prog_14_method_28_code
def yX12_member : MethodName := ⟨RX12, "member", "(I)V"⟩
abbrev cX12_named : ByteArray := prog_14_method_101_code
def yX12_named : MethodName := ⟨RX12, "named", "(II)I"⟩
abbrev cX12_newLabel : ByteArray := prog_14_method_70_code
def yX12_newLabel : MethodName := ⟨RX12, "newLabel", "()I"⟩
abbrev cX12_node : ByteArray := prog_14_method_42_code
def yX12_node : MethodName := ⟨RX12, "node", "(III)I"⟩
abbrev cX12_numberFrom : ByteArray := prog_14_method_20_code
def yX12_numberFrom : MethodName := ⟨RX12, "numberFrom", "(IZ)I"⟩
abbrev cX12_openGroup : ByteArray := prog_14_method_22_code
def yX12_openGroup : MethodName := ⟨RX12, "openGroup", "()V"⟩
abbrev cX12_otherCase : ByteArray := prog_14_method_5_code
def yX12_otherCase : MethodName := ⟨RX12, "otherCase", "(I)I"⟩
abbrev cX12_otherSort : ByteArray := prog_14_method_41_code
def yX12_otherSort : MethodName := ⟨RX12, "otherSort", "()I"⟩
abbrev cX12_out : ByteArray := prog_14_method_126_code
def yX12_out : MethodName := ⟨RX12, "out", "(I)I"⟩
abbrev cX12_part : ByteArray := prog_14_method_43_code
def yX12_part : MethodName := ⟨RX12, "part", "(IIIZ)I"⟩
abbrev cX12_parting : ByteArray := prog_14_method_125_code
def yX12_parting : MethodName := ⟨RX12, "parting", "(II)I"⟩
abbrev cX12_pattern : ByteArray := prog_14_method_37_code
def yX12_pattern : MethodName := ⟨RX12, "pattern", "(I)I"⟩
abbrev cX12_place : ByteArray := prog_14_method_38_code
def yX12_place : MethodName := ⟨RX12, "place", "()I"⟩
abbrev cX12_prefix : ByteArray := prog_14_method_117_code
def yX12_prefix : MethodName := ⟨RX12, "prefix", "(III)I"⟩
abbrev cX12_print : ByteArray := prog_14_method_54_code
def yX12_print : MethodName := ⟨RX12, "print", "(I)I"⟩
abbrev cX12_printFrom : ByteArray := prog_14_method_53_code
def yX12_printFrom : MethodName := ⟨RX12, "printFrom", "(II)V"⟩
abbrev cX12_printHead : ByteArray := prog_14_method_51_code
def yX12_printHead : MethodName := ⟨RX12, "printHead", "(II)V"⟩
abbrev cX12_printTail : ByteArray := prog_14_method_52_code
def yX12_printTail : MethodName := ⟨RX12, "printTail", "(II)V"⟩
abbrev cX12_put : ByteArray := prog_14_method_44_code
def yX12_put : MethodName := ⟨RX12, "put", "(I)V"⟩
abbrev cX12_putHex : ByteArray := prog_14_method_45_code
def yX12_putHex : MethodName := ⟨RX12, "putHex", "(I)V"⟩
abbrev cX12_putMember : ByteArray := prog_14_method_47_code
def yX12_putMember : MethodName := ⟨RX12, "putMember", "(I)V"⟩
abbrev cX12_putNumber : ByteArray := prog_14_method_46_code
def yX12_putNumber : MethodName := ⟨RX12, "putNumber", "(I)V"⟩
abbrev cX12_put_ : ByteArray := prog_14_method_65_code
def yX12_put_ : MethodName := ⟨RX12, "put", "(IIJ)I"⟩
abbrev cX12_reach : ByteArray := prog_14_method_111_code
def yX12_reach : MethodName := ⟨RX12, "reach", "(I)V"⟩
abbrev cX12_readAll : ByteArray := prog_14_method_32_code
def yX12_readAll : MethodName := ⟨RX12, "readAll", "()I"⟩
abbrev cX12_readOne : ByteArray := prog_14_method_31_code
def yX12_readOne : MethodName := ⟨RX12, "readOne", "(I)V"⟩
abbrev cX12_readSet : ByteArray := prog_14_method_29_code
def yX12_readSet : MethodName := ⟨RX12, "readSet", "()I"⟩
abbrev cX12_replace : ByteArray := prog_14_method_108_code
def yX12_replace : MethodName := ⟨RX12, "replace", "(III)I"⟩
abbrev cX12_risky : ByteArray := prog_14_method_64_code
def yX12_risky : MethodName := ⟨RX12, "risky", "(I)I"⟩
abbrev cX12_searched : ByteArray := prog_14_method_91_code
def yX12_searched : MethodName := ⟨RX12, "searched", "(IIIZZI)I"⟩
abbrev cX12_set : ByteArray := prog_14_method_77_code
def yX12_set : MethodName := ⟨RX12, "set", "(II)V"⟩
abbrev cX12_setNode : ByteArray := prog_14_method_27_code
def yX12_setNode : MethodName := ⟨RX12, "setNode", "(IZ)I"⟩
abbrev cX12_sign : ByteArray := prog_14_method_68_code
def yX12_sign : MethodName := ⟨RX12, "sign", "(II)C"⟩
abbrev cX12_signAt : ByteArray := prog_14_method_8_code
def yX12_signAt : MethodName := ⟨RX12, "signAt", "(I)I"⟩
abbrev cX12_signOf : ByteArray := prog_14_method_80_code
def yX12_signOf : MethodName := ⟨RX12, "signOf", "(I)I"⟩
abbrev cX12_sizeBars : ByteArray := prog_14_method_93_code
def yX12_sizeBars : MethodName := ⟨RX12, "sizeBars", "(II)I"⟩
abbrev cX12_span : ByteArray := prog_14_method_100_code
def yX12_span : MethodName := ⟨RX12, "span", "(IZ)I"⟩
abbrev cX12_steps : ByteArray := prog_14_method_110_code
def yX12_steps : MethodName := ⟨RX12, "steps", "()I"⟩
abbrev cX12_table : ByteArray := prog_14_method_114_code
def yX12_table : MethodName := ⟨RX12, "table", "(I)I"⟩
abbrev cX12_tabled : ByteArray := prog_14_method_113_code
def yX12_tabled : MethodName := ⟨RX12, "tabled", "(I)I"⟩
abbrev cX12_takes : ByteArray := prog_14_method_58_code
def yX12_takes : MethodName := ⟨RX12, "takes", "(II)Z"⟩
abbrev cX12_testLoop : ByteArray := prog_14_method_87_code
def yX12_testLoop : MethodName := ⟨RX12, "testLoop", "(II)V"⟩
abbrev cX12_told : ByteArray := prog_14_method_128_code
def yX12_told : MethodName := ⟨RX12, "told", "(I)I"⟩
abbrev cX12_tried : ByteArray := prog_14_method_90_code
def yX12_tried : MethodName := ⟨RX12, "tried", "(IZZ)I"⟩
abbrev cX12_tryBehind : ByteArray := prog_14_method_85_code
def yX12_tryBehind : MethodName := ⟨RX12, "tryBehind", "(II)V"⟩
abbrev cX12_whole : ByteArray := prog_14_method_102_code
def yX12_whole : MethodName := ⟨RX12, "whole", "(III)I"⟩
abbrev cX12_wrongBoth : ByteArray := prog_14_method_96_code
def yX12_wrongBoth : MethodName := ⟨RX12, "wrongBoth", "(II)I"⟩
abbrev cX12_wrongSlot : ByteArray := prog_14_method_39_code
def yX12_wrongSlot : MethodName := ⟨RX12, "wrongSlot", "(I)I"⟩
abbrev cX12_wrongSubject : ByteArray := prog_14_method_66_code
def yX12_wrongSubject : MethodName := ⟨RX12, "wrongSubject", "(I)I"⟩
theorem tw_148 : (.selects "PatternWorkshopModel" yX12_readAll yX12_readAll : Cond) ∈ TW := tw_of 148 (by decide +kernel) (by decide +kernel)
theorem tw_149 : (.selects "PatternWorkshopModel" yX12_beginGroup yX12_beginGroup : Cond) ∈ TW := tw_of 149 (by decide +kernel) (by decide +kernel)
theorem tw_150 : (.selects "PatternWorkshopModel" yX12_beginRow yX12_beginRow : Cond) ∈ TW := tw_of 150 (by decide +kernel) (by decide +kernel)
theorem tw_151 : (.selects "PatternWorkshopModel" yX12_signAt yX12_signAt : Cond) ∈ TW := tw_of 151 (by decide +kernel) (by decide +kernel)
theorem tw_152 : (.selects "PatternWorkshopModel" yX12_closeRow yX12_closeRow : Cond) ∈ TW := tw_of 152 (by decide +kernel) (by decide +kernel)
theorem tw_153 : (.selects "PatternWorkshopModel" yX12_made yX12_made : Cond) ∈ TW := tw_of 153 (by decide +kernel) (by decide +kernel)
theorem tw_154 : (.selects "PatternWorkshopModel" yX12_closeGroup yX12_closeGroup : Cond) ∈ TW := tw_of 154 (by decide +kernel) (by decide +kernel)
theorem tw_155 : (.selects "PatternWorkshopModel" yX12_fail yX12_fail : Cond) ∈ TW := tw_of 155 (by decide +kernel) (by decide +kernel)
theorem tw_156 : (.selects "PatternWorkshopModel" yX12_closeChoice yX12_closeChoice : Cond) ∈ TW := tw_of 156 (by decide +kernel) (by decide +kernel)
theorem tw_157 : (.selects "PatternWorkshopModel" yX12_holding yX12_holding : Cond) ∈ TW := tw_of 157 (by decide +kernel) (by decide +kernel)
theorem tw_158 : (.selects "PatternWorkshopModel" yX12_looped yX12_looped : Cond) ∈ TW := tw_of 158 (by decide +kernel) (by decide +kernel)
theorem tw_159 : (.selects "PatternWorkshopModel" yX12_countItem yX12_countItem : Cond) ∈ TW := tw_of 159 (by decide +kernel) (by decide +kernel)
theorem tw_160 : (.selects "PatternWorkshopModel" yX12_numberFrom yX12_numberFrom : Cond) ∈ TW := tw_of 160 (by decide +kernel) (by decide +kernel)
theorem tw_161 : (.selects "PatternWorkshopModel" yX12_addNode yX12_addNode : Cond) ∈ TW := tw_of 161 (by decide +kernel) (by decide +kernel)
theorem tw_162 : (.selects "PatternWorkshopModel" yX12_openGroup yX12_openGroup : Cond) ∈ TW := tw_of 162 (by decide +kernel) (by decide +kernel)
theorem tw_163 : (.selects "PatternWorkshopModel" yX12_captureOf yX12_captureOf : Cond) ∈ TW := tw_of 163 (by decide +kernel) (by decide +kernel)
theorem tw_164 : (.selects "PatternWorkshopModel" yX12_readOne yX12_readOne : Cond) ∈ TW := tw_of 164 (by decide +kernel) (by decide +kernel)
theorem tw_165 : (.selects "PatternWorkshopModel" yX12_escaped yX12_escaped : Cond) ∈ TW := tw_of 165 (by decide +kernel) (by decide +kernel)
theorem tw_166 : (.selects "PatternWorkshopModel" yX12_addPart yX12_addPart : Cond) ∈ TW := tw_of 166 (by decide +kernel) (by decide +kernel)
theorem tw_167 : (.selects "PatternWorkshopModel" yX12_setNode yX12_setNode : Cond) ∈ TW := tw_of 167 (by decide +kernel) (by decide +kernel)
theorem tw_168 : (.selects "PatternWorkshopModel" yX12_joinParts yX12_joinParts : Cond) ∈ TW := tw_of 168 (by decide +kernel) (by decide +kernel)
theorem tw_169 : (.selects "PatternWorkshopModel" yX12_hexes yX12_hexes : Cond) ∈ TW := tw_of 169 (by decide +kernel) (by decide +kernel)
theorem tw_170 : (.selects "PatternWorkshopModel" yX12_readSet yX12_readSet : Cond) ∈ TW := tw_of 170 (by decide +kernel) (by decide +kernel)
theorem tw_171 : (.selects "PatternWorkshopModel" yX12_member yX12_member : Cond) ∈ TW := tw_of 171 (by decide +kernel) (by decide +kernel)
theorem tw_172 : (.selects "PatternWorkshopModel" yX12_keepPattern yX12_keepPattern : Cond) ∈ TW := tw_of 172 (by decide +kernel) (by decide +kernel)
theorem tw_173 : (.selects "PatternWorkshopModel" yX12_measure yX12_measure : Cond) ∈ TW := tw_of 173 (by decide +kernel) (by decide +kernel)
theorem tw_174 : (.selects "PatternWorkshopModel" yX12_wrongSlot yX12_wrongSlot : Cond) ∈ TW := tw_of 174 (by decide +kernel) (by decide +kernel)
theorem tw_175 : (.selects "PatternWorkshopModel" yX12_otherSort yX12_otherSort : Cond) ∈ TW := tw_of 175 (by decide +kernel) (by decide +kernel)
theorem tw_176 : (.selects "PatternWorkshopModel" yX12_printFrom yX12_printFrom : Cond) ∈ TW := tw_of 176 (by decide +kernel) (by decide +kernel)
theorem tw_177 : (.selects "PatternWorkshopModel" yX12_printHead yX12_printHead : Cond) ∈ TW := tw_of 177 (by decide +kernel) (by decide +kernel)
theorem tw_178 : (.selects "PatternWorkshopModel" yX12_isWrapped yX12_isWrapped : Cond) ∈ TW := tw_of 178 (by decide +kernel) (by decide +kernel)
theorem tw_179 : (.selects "PatternWorkshopModel" yX12_put yX12_put : Cond) ∈ TW := tw_of 179 (by decide +kernel) (by decide +kernel)
theorem tw_180 : (.selects "PatternWorkshopModel" yX12_putHex yX12_putHex : Cond) ∈ TW := tw_of 180 (by decide +kernel) (by decide +kernel)
theorem tw_181 : (.selects "PatternWorkshopModel" yX12_putMember yX12_putMember : Cond) ∈ TW := tw_of 181 (by decide +kernel) (by decide +kernel)
theorem tw_182 : (.selects "PatternWorkshopModel" yX12_printTail yX12_printTail : Cond) ∈ TW := tw_of 182 (by decide +kernel) (by decide +kernel)
theorem tw_183 : (.selects "PatternWorkshopModel" yX12_putNumber yX12_putNumber : Cond) ∈ TW := tw_of 183 (by decide +kernel) (by decide +kernel)
theorem tw_184 : (.selects "PatternWorkshopModel" yX12_isSamePrint yX12_isSamePrint : Cond) ∈ TW := tw_of 184 (by decide +kernel) (by decide +kernel)
theorem tw_185 : (.selects "PatternWorkshopModel" yX12_findBegun yX12_findBegun : Cond) ∈ TW := tw_of 185 (by decide +kernel) (by decide +kernel)
theorem tw_186 : (.selects "PatternWorkshopModel" yX12_takes yX12_takes : Cond) ∈ TW := tw_of 186 (by decide +kernel) (by decide +kernel)
theorem tw_187 : (.selects "PatternWorkshopModel" yX12_isInParts yX12_isInParts : Cond) ∈ TW := tw_of 187 (by decide +kernel) (by decide +kernel)
theorem tw_188 : (.selects "PatternWorkshopModel" yX12_markBounds yX12_markBounds : Cond) ∈ TW := tw_of 188 (by decide +kernel) (by decide +kernel)
theorem tw_189 : (.selects "PatternWorkshopModel" yX12_findBounds yX12_findBounds : Cond) ∈ TW := tw_of 189 (by decide +kernel) (by decide +kernel)
theorem tw_190 : (.selects "PatternWorkshopModel" yX12_isEndless yX12_isEndless : Cond) ∈ TW := tw_of 190 (by decide +kernel) (by decide +kernel)
theorem tw_191 : (.selects "PatternWorkshopModel" yX12_wrongSubject yX12_wrongSubject : Cond) ∈ TW := tw_of 191 (by decide +kernel) (by decide +kernel)
theorem tw_192 : (.selects "PatternWorkshopModel" yX12_wrongBoth yX12_wrongBoth : Cond) ∈ TW := tw_of 192 (by decide +kernel) (by decide +kernel)
theorem tw_193 : (.selects "PatternWorkshopModel" yX12_bars yX12_bars : Cond) ∈ TW := tw_of 193 (by decide +kernel) (by decide +kernel)
theorem tw_194 : (.selects "PatternWorkshopModel" yX12_kindBars yX12_kindBars : Cond) ∈ TW := tw_of 194 (by decide +kernel) (by decide +kernel)
theorem tw_195 : (.selects "PatternWorkshopModel" yX12_sizeBars yX12_sizeBars : Cond) ∈ TW := tw_of 195 (by decide +kernel) (by decide +kernel)
theorem tw_196 : (.selects "PatternWorkshopModel" yX12_goes yX12_goes : Cond) ∈ TW := tw_of 196 (by decide +kernel) (by decide +kernel)
theorem tw_197 : (.selects "PatternWorkshopModel" yX12_compile yX12_compile : Cond) ∈ TW := tw_of 197 (by decide +kernel) (by decide +kernel)
theorem tw_198 : (.selects "PatternWorkshopModel" yX12_later yX12_later : Cond) ∈ TW := tw_of 198 (by decide +kernel) (by decide +kernel)
theorem tw_199 : (.selects "PatternWorkshopModel" yX12_compileNode yX12_compileNode : Cond) ∈ TW := tw_of 199 (by decide +kernel) (by decide +kernel)
theorem tw_200 : (.selects "PatternWorkshopModel" yX12_compileChoice yX12_compileChoice : Cond) ∈ TW := tw_of 200 (by decide +kernel) (by decide +kernel)
theorem tw_201 : (.selects "PatternWorkshopModel" yX12_newLabel yX12_newLabel : Cond) ∈ TW := tw_of 201 (by decide +kernel) (by decide +kernel)
theorem tw_202 : (.selects "PatternWorkshopModel" yX12_compileCopies yX12_compileCopies : Cond) ∈ TW := tw_of 202 (by decide +kernel) (by decide +kernel)
theorem tw_203 : (.selects "PatternWorkshopModel" yX12_compileLoop yX12_compileLoop : Cond) ∈ TW := tw_of 203 (by decide +kernel) (by decide +kernel)
theorem tw_204 : (.selects "PatternWorkshopModel" yX12_compileLook yX12_compileLook : Cond) ∈ TW := tw_of 204 (by decide +kernel) (by decide +kernel)
theorem tw_205 : (.selects "PatternWorkshopModel" yX12_searched yX12_searched : Cond) ∈ TW := tw_of 205 (by decide +kernel) (by decide +kernel)
theorem tw_206 : (.selects "PatternWorkshopModel" yX12_tried yX12_tried : Cond) ∈ TW := tw_of 206 (by decide +kernel) (by decide +kernel)
theorem tw_207 : (.selects "PatternWorkshopModel" yX12_isDone yX12_isDone : Cond) ∈ TW := tw_of 207 (by decide +kernel) (by decide +kernel)
theorem tw_208 : (.selects "PatternWorkshopModel" yX12_isStep yX12_isStep : Cond) ∈ TW := tw_of 208 (by decide +kernel) (by decide +kernel)
theorem tw_209 : (.selects "PatternWorkshopModel" yX12_signOf yX12_signOf : Cond) ∈ TW := tw_of 209 (by decide +kernel) (by decide +kernel)
theorem tw_210 : (.selects "PatternWorkshopModel" yX12_isEdge yX12_isEdge : Cond) ∈ TW := tw_of 210 (by decide +kernel) (by decide +kernel)
theorem tw_211 : (.selects "PatternWorkshopModel" yX12_isWordAt yX12_isWordAt : Cond) ∈ TW := tw_of 211 (by decide +kernel) (by decide +kernel)
theorem tw_212 : (.selects "PatternWorkshopModel" yX12_isBack yX12_isBack : Cond) ∈ TW := tw_of 212 (by decide +kernel) (by decide +kernel)
theorem tw_213 : (.selects "PatternWorkshopModel" yX12_choose yX12_choose : Cond) ∈ TW := tw_of 213 (by decide +kernel) (by decide +kernel)
theorem tw_214 : (.selects "PatternWorkshopModel" yX12_set yX12_set : Cond) ∈ TW := tw_of 214 (by decide +kernel) (by decide +kernel)
theorem tw_215 : (.selects "PatternWorkshopModel" yX12_testLoop yX12_testLoop : Cond) ∈ TW := tw_of 215 (by decide +kernel) (by decide +kernel)
theorem tw_216 : (.selects "PatternWorkshopModel" yX12_beginTurn yX12_beginTurn : Cond) ∈ TW := tw_of 216 (by decide +kernel) (by decide +kernel)
theorem tw_217 : (.selects "PatternWorkshopModel" yX12_beginLook yX12_beginLook : Cond) ∈ TW := tw_of 217 (by decide +kernel) (by decide +kernel)
theorem tw_218 : (.selects "PatternWorkshopModel" yX12_tryBehind yX12_tryBehind : Cond) ∈ TW := tw_of 218 (by decide +kernel) (by decide +kernel)
theorem tw_219 : (.selects "PatternWorkshopModel" yX12_goesBack yX12_goesBack : Cond) ∈ TW := tw_of 219 (by decide +kernel) (by decide +kernel)
theorem tw_220 : (.selects "PatternWorkshopModel" yX12_keepSpan yX12_keepSpan : Cond) ∈ TW := tw_of 220 (by decide +kernel) (by decide +kernel)
theorem tw_221 : (.selects "PatternWorkshopModel" yX12_findAll yX12_findAll : Cond) ∈ TW := tw_of 221 (by decide +kernel) (by decide +kernel)
theorem tw_222 : (.selects "PatternWorkshopModel" yX12_isReplacing yX12_isReplacing : Cond) ∈ TW := tw_of 222 (by decide +kernel) (by decide +kernel)
theorem tw_223 : (.selects "PatternWorkshopModel" yX12_makePart yX12_makePart : Cond) ∈ TW := tw_of 223 (by decide +kernel) (by decide +kernel)
theorem tw_224 : (.selects "PatternWorkshopModel" yX12_makeSign yX12_makeSign : Cond) ∈ TW := tw_of 224 (by decide +kernel) (by decide +kernel)
theorem tw_225 : (.selects "PatternWorkshopModel" yX12_tabled yX12_tabled : Cond) ∈ TW := tw_of 225 (by decide +kernel) (by decide +kernel)
theorem tw_226 : (.selects "PatternWorkshopModel" yX12_makeTable yX12_makeTable : Cond) ∈ TW := tw_of 226 (by decide +kernel) (by decide +kernel)
theorem tw_227 : (.selects "PatternWorkshopModel" yX12_reach yX12_reach : Cond) ∈ TW := tw_of 227 (by decide +kernel) (by decide +kernel)
theorem tw_228 : (.selects "PatternWorkshopModel" yX12_isAlike yX12_isAlike : Cond) ∈ TW := tw_of 228 (by decide +kernel) (by decide +kernel)
theorem tw_229 : (.selects "PatternWorkshopModel" yX12_findLive yX12_findLive : Cond) ∈ TW := tw_of 229 (by decide +kernel) (by decide +kernel)
theorem tw_230 : (.selects "PatternWorkshopModel" yX12_bothBars yX12_bothBars : Cond) ∈ TW := tw_of 230 (by decide +kernel) (by decide +kernel)
theorem tw_231 : (.selects "PatternWorkshopModel" yX12_findSorts yX12_findSorts : Cond) ∈ TW := tw_of 231 (by decide +kernel) (by decide +kernel)
theorem tw_232 : (.selects "PatternWorkshopModel" yX12_findPairs yX12_findPairs : Cond) ∈ TW := tw_of 232 (by decide +kernel) (by decide +kernel)
theorem tw_233 : (.selects "PatternWorkshopModel" yX12_meet yX12_meet : Cond) ∈ TW := tw_of 233 (by decide +kernel) (by decide +kernel)
theorem tw_234 : (.selects "PatternWorkshopModel" yX12_isParted yX12_isParted : Cond) ∈ TW := tw_of 234 (by decide +kernel) (by decide +kernel)
theorem tw_249 : (.initialized "PatternWorkshopModel" : Cond) ∈ TW := tw_in (tb_0 (List.mem_of_getElem? (i := 14) rfl)) (by decide +kernel)
theorem tw_2140 : (.fieldLink "PatternWorkshopModel" 1 "PatternWorkshopModel" "thrown" "I" : Cond) ∈ TW := tw_in (tb_7 (List.mem_of_getElem? (i := 225) rfl)) (by decide +kernel)
theorem tw_2141 : (.fieldLink "PatternWorkshopModel" 456 "PatternWorkshopModel" "finding" "I" : Cond) ∈ TW := tw_in (tb_7 (List.mem_of_getElem? (i := 226) rfl)) (by decide +kernel)
theorem tw_2143 : (.fieldLink "PatternWorkshopModel" 317 "PatternWorkshopModel" "taped" "I" : Cond) ∈ TW := tw_in (tb_7 (List.mem_of_getElem? (i := 228) rfl)) (by decide +kernel)
theorem tw_2171 : (.fieldLink "PatternWorkshopModel" 326 "PatternWorkshopModel" "newNodes" "I" : Cond) ∈ TW := tw_in (tb_8 (List.mem_of_getElem? (i := 16) rfl)) (by decide +kernel)
theorem tw_2174 : (.fieldLink "PatternWorkshopModel" 396 "PatternWorkshopModel" "newParts" "I" : Cond) ∈ TW := tw_in (tb_8 (List.mem_of_getElem? (i := 19) rfl)) (by decide +kernel)
theorem tw_2175 : (.fieldLink "PatternWorkshopModel" 320 "PatternWorkshopModel" "fault" "I" : Cond) ∈ TW := tw_in (tb_8 (List.mem_of_getElem? (i := 20) rfl)) (by decide +kernel)
theorem tw_2176 : (.fieldLink "PatternWorkshopModel" 323 "PatternWorkshopModel" "faultAt" "I" : Cond) ∈ TW := tw_in (tb_8 (List.mem_of_getElem? (i := 21) rfl)) (by decide +kernel)
theorem tw_2177 : (.fieldLink "PatternWorkshopModel" 362 "PatternWorkshopModel" "at" "I" : Cond) ∈ TW := tw_in (tb_8 (List.mem_of_getElem? (i := 22) rfl)) (by decide +kernel)
theorem tw_2178 : (.fieldLink "PatternWorkshopModel" 342 "PatternWorkshopModel" "items" "I" : Cond) ∈ TW := tw_in (tb_8 (List.mem_of_getElem? (i := 23) rfl)) (by decide +kernel)
theorem tw_2179 : (.fieldLink "PatternWorkshopModel" 377 "PatternWorkshopModel" "newCaptures" "I" : Cond) ∈ TW := tw_in (tb_8 (List.mem_of_getElem? (i := 24) rfl)) (by decide +kernel)
theorem tw_2181 : (.fieldLink "PatternWorkshopModel" 329 "PatternWorkshopModel" "depth" "I" : Cond) ∈ TW := tw_in (tb_8 (List.mem_of_getElem? (i := 26) rfl)) (by decide +kernel)
theorem tw_2190 : (.fieldLink "PatternWorkshopModel" 402 "PatternWorkshopModel" "memberValue" "I" : Cond) ∈ TW := tw_in (tb_8 (List.mem_of_getElem? (i := 35) rfl)) (by decide +kernel)
theorem tw_2191 : (.fieldLink "PatternWorkshopModel" 405 "PatternWorkshopModel" "memberEnd" "I" : Cond) ∈ TW := tw_in (tb_8 (List.mem_of_getElem? (i := 36) rfl)) (by decide +kernel)
theorem tw_2192 : (.fieldLink "PatternWorkshopModel" 356 "PatternWorkshopModel" "loopLeast" "I" : Cond) ∈ TW := tw_in (tb_8 (List.mem_of_getElem? (i := 37) rfl)) (by decide +kernel)
theorem tw_2193 : (.fieldLink "PatternWorkshopModel" 359 "PatternWorkshopModel" "loopMost" "I" : Cond) ∈ TW := tw_in (tb_8 (List.mem_of_getElem? (i := 38) rfl)) (by decide +kernel)
theorem tw_2197 : (.fieldLink "PatternWorkshopModel" 465 "PatternWorkshopModel" "printedMany" "I" : Cond) ∈ TW := tw_in (tb_8 (List.mem_of_getElem? (i := 42) rfl)) (by decide +kernel)
theorem tw_2199 : (.fieldLink "PatternWorkshopModel" 478 "PatternWorkshopModel" "opened" "I" : Cond) ∈ TW := tw_in (tb_8 (List.mem_of_getElem? (i := 44) rfl)) (by decide +kernel)
theorem tw_2201 : (.fieldLink "PatternWorkshopModel" 502 "PatternWorkshopModel" "outMany" "I" : Cond) ∈ TW := tw_in (tb_8 (List.mem_of_getElem? (i := 46) rfl)) (by decide +kernel)
theorem tw_2202 : (.fieldLink "PatternWorkshopModel" 505 "PatternWorkshopModel" "outNumbers" "Z" : Cond) ∈ TW := tw_in (tb_8 (List.mem_of_getElem? (i := 47) rfl)) (by decide +kernel)
theorem tw_2206 : (.fieldLink "PatternWorkshopModel" 524 "PatternWorkshopModel" "boundMany" "I" : Cond) ∈ TW := tw_in (tb_8 (List.mem_of_getElem? (i := 51) rfl)) (by decide +kernel)
theorem tw_2214 : (.fieldLink "PatternWorkshopModel" 551 "PatternWorkshopModel" "acts" "I" : Cond) ∈ TW := tw_in (tb_8 (List.mem_of_getElem? (i := 59) rfl)) (by decide +kernel)
theorem tw_2216 : (.fieldLink "PatternWorkshopModel" 548 "PatternWorkshopModel" "labels" "I" : Cond) ∈ TW := tw_in (tb_8 (List.mem_of_getElem? (i := 61) rfl)) (by decide +kernel)
theorem tw_2220 : (.fieldLink "PatternWorkshopModel" 545 "PatternWorkshopModel" "tasks" "I" : Cond) ∈ TW := tw_in (tb_8 (List.mem_of_getElem? (i := 65) rfl)) (by decide +kernel)
theorem tw_2225 : (.fieldLink "PatternWorkshopModel" 577 "PatternWorkshopModel" "trail" "I" : Cond) ∈ TW := tw_in (tb_8 (List.mem_of_getElem? (i := 70) rfl)) (by decide +kernel)
theorem tw_2230 : (.fieldLink "PatternWorkshopModel" 580 "PatternWorkshopModel" "choices" "I" : Cond) ∈ TW := tw_in (tb_8 (List.mem_of_getElem? (i := 75) rfl)) (by decide +kernel)
theorem tw_2231 : (.fieldLink "PatternWorkshopModel" 617 "PatternWorkshopModel" "now" "I" : Cond) ∈ TW := tw_in (tb_8 (List.mem_of_getElem? (i := 76) rfl)) (by decide +kernel)
theorem tw_2232 : (.fieldLink "PatternWorkshopModel" 604 "PatternWorkshopModel" "spot" "I" : Cond) ∈ TW := tw_in (tb_8 (List.mem_of_getElem? (i := 77) rfl)) (by decide +kernel)
theorem tw_2233 : (.fieldLink "PatternWorkshopModel" 629 "PatternWorkshopModel" "slotNow" "I" : Cond) ∈ TW := tw_in (tb_8 (List.mem_of_getElem? (i := 78) rfl)) (by decide +kernel)
theorem tw_2234 : (.fieldLink "PatternWorkshopModel" 592 "PatternWorkshopModel" "textNow" "I" : Cond) ∈ TW := tw_in (tb_8 (List.mem_of_getElem? (i := 79) rfl)) (by decide +kernel)
theorem tw_2235 : (.fieldLink "PatternWorkshopModel" 595 "PatternWorkshopModel" "longNow" "I" : Cond) ∈ TW := tw_in (tb_8 (List.mem_of_getElem? (i := 80) rfl)) (by decide +kernel)
theorem tw_2236 : (.fieldLink "PatternWorkshopModel" 583 "PatternWorkshopModel" "steps" "I" : Cond) ∈ TW := tw_in (tb_8 (List.mem_of_getElem? (i := 81) rfl)) (by decide +kernel)
theorem tw_2237 : (.fieldLink "PatternWorkshopModel" 586 "PatternWorkshopModel" "limit" "I" : Cond) ∈ TW := tw_in (tb_8 (List.mem_of_getElem? (i := 82) rfl)) (by decide +kernel)
theorem tw_2238 : (.fieldLink "PatternWorkshopModel" 589 "PatternWorkshopModel" "isOver" "Z" : Cond) ∈ TW := tw_in (tb_8 (List.mem_of_getElem? (i := 83) rfl)) (by decide +kernel)
theorem tw_2240 : (.fieldLink "PatternWorkshopModel" 644 "PatternWorkshopModel" "stamp" "I" : Cond) ∈ TW := tw_in (tb_8 (List.mem_of_getElem? (i := 85) rfl)) (by decide +kernel)
theorem tw_2242 : (.fieldLink "PatternWorkshopModel" 449 "PatternWorkshopModel" "isGoing" "Z" : Cond) ∈ TW := tw_in (tb_8 (List.mem_of_getElem? (i := 87) rfl)) (by decide +kernel)
theorem tw_2243 : (.fieldLink "PatternWorkshopModel" 453 "PatternWorkshopModel" "goSlot" "I" : Cond) ∈ TW := tw_in (tb_8 (List.mem_of_getElem? (i := 88) rfl)) (by decide +kernel)
theorem tw_2244 : (.fieldLink "PatternWorkshopModel" 539 "PatternWorkshopModel" "goSubject" "I" : Cond) ∈ TW := tw_in (tb_8 (List.mem_of_getElem? (i := 89) rfl)) (by decide +kernel)
theorem tw_2245 : (.fieldLink "PatternWorkshopModel" 677 "PatternWorkshopModel" "goFrom" "I" : Cond) ∈ TW := tw_in (tb_8 (List.mem_of_getElem? (i := 90) rfl)) (by decide +kernel)
theorem tw_2246 : (.fieldLink "PatternWorkshopModel" 670 "PatternWorkshopModel" "goSteps" "I" : Cond) ∈ TW := tw_in (tb_8 (List.mem_of_getElem? (i := 91) rfl)) (by decide +kernel)
theorem tw_2248 : (.fieldLink "PatternWorkshopModel" 664 "PatternWorkshopModel" "hasSpan" "Z" : Cond) ∈ TW := tw_in (tb_8 (List.mem_of_getElem? (i := 93) rfl)) (by decide +kernel)
theorem tw_2249 : (.fieldLink "PatternWorkshopModel" 667 "PatternWorkshopModel" "spanCaptures" "I" : Cond) ∈ TW := tw_in (tb_8 (List.mem_of_getElem? (i := 94) rfl)) (by decide +kernel)
theorem tw_2251 : (.fieldLink "PatternWorkshopModel" 696 "PatternWorkshopModel" "findMany" "I" : Cond) ∈ TW := tw_in (tb_8 (List.mem_of_getElem? (i := 96) rfl)) (by decide +kernel)
theorem tw_2253 : (.fieldLink "PatternWorkshopModel" 702 "PatternWorkshopModel" "madeMany" "I" : Cond) ∈ TW := tw_in (tb_8 (List.mem_of_getElem? (i := 98) rfl)) (by decide +kernel)
theorem tw_2256 : (.fieldLink "PatternWorkshopModel" 721 "PatternWorkshopModel" "eaters" "I" : Cond) ∈ TW := tw_in (tb_8 (List.mem_of_getElem? (i := 101) rfl)) (by decide +kernel)
theorem tw_2261 : (.fieldLink "PatternWorkshopModel" 714 "PatternWorkshopModel" "reached" "J" : Cond) ∈ TW := tw_in (tb_8 (List.mem_of_getElem? (i := 106) rfl)) (by decide +kernel)
theorem tw_2262 : (.fieldLink "PatternWorkshopModel" 718 "PatternWorkshopModel" "reachesEnd" "Z" : Cond) ∈ TW := tw_in (tb_8 (List.mem_of_getElem? (i := 107) rfl)) (by decide +kernel)
theorem tw_2278 : (.fieldLink "PatternWorkshopModel" 745 "PatternWorkshopModel" "pairs" "I" : Cond) ∈ TW := tw_in (tb_8 (List.mem_of_getElem? (i := 123) rfl)) (by decide +kernel)
theorem tw_2282 : (.fieldLink "PatternWorkshopModel" 742 "PatternWorkshopModel" "sorts" "I" : Cond) ∈ TW := tw_in (tb_8 (List.mem_of_getElem? (i := 127) rfl)) (by decide +kernel)
theorem tw_2573 : (.code yX12_feed cX12_feed 6 (some (.int)) : Cond) ∈ TW := tw_in (tb_9 (List.mem_of_getElem? (i := 178) rfl)) (by decide +kernel)
theorem tw_2574 : (.methodLink "PatternWorkshopModel" 7 yX12_in : Cond) ∈ TW := tw_in (tb_9 (List.mem_of_getElem? (i := 179) rfl)) (by decide +kernel)
theorem tw_2575 : (.static yX12_in : Cond) ∈ TW := tw_in (tb_9 (List.mem_of_getElem? (i := 180) rfl)) (by decide +kernel)
theorem tw_2576 : (.code yX12_in cX12_in 3 (some (.boolean)) : Cond) ∈ TW := tw_in (tb_9 (List.mem_of_getElem? (i := 181) rfl)) (by decide +kernel)
theorem tw_2577 : (.constantLong "PatternWorkshopModel" 441 255 : Cond) ∈ TW := tw_in (tb_9 (List.mem_of_getElem? (i := 182) rfl)) (by decide +kernel)
theorem tw_2581 : (.code yX12_pattern cX12_pattern 3 (some (.int)) : Cond) ∈ TW := tw_in (tb_9 (List.mem_of_getElem? (i := 186) rfl)) (by decide +kernel)
theorem tw_2582 : (.methodLink "PatternWorkshopModel" 443 yX12_readAll : Cond) ∈ TW := tw_in (tb_9 (List.mem_of_getElem? (i := 187) rfl)) (by decide +kernel)
theorem tw_2584 : (.instanceMethod yX12_readAll : Cond) ∈ TW := tw_in (tb_9 (List.mem_of_getElem? (i := 189) rfl)) (by decide +kernel)
theorem tw_2585 : (.code yX12_readAll cX12_readAll 2 (some (.int)) : Cond) ∈ TW := tw_in (tb_9 (List.mem_of_getElem? (i := 190) rfl)) (by decide +kernel)
theorem tw_2586 : (.methodLink "PatternWorkshopModel" 383 yX12_beginGroup : Cond) ∈ TW := tw_in (tb_9 (List.mem_of_getElem? (i := 191) rfl)) (by decide +kernel)
theorem tw_2588 : (.instanceMethod yX12_beginGroup : Cond) ∈ TW := tw_in (tb_9 (List.mem_of_getElem? (i := 193) rfl)) (by decide +kernel)
theorem tw_2589 : (.code yX12_beginGroup cX12_beginGroup 3 none : Cond) ∈ TW := tw_in (tb_9 (List.mem_of_getElem? (i := 194) rfl)) (by decide +kernel)
theorem tw_2590 : (.methodLink "PatternWorkshopModel" 332 yX12_beginRow : Cond) ∈ TW := tw_in (tb_9 (List.mem_of_getElem? (i := 195) rfl)) (by decide +kernel)
theorem tw_2592 : (.instanceMethod yX12_beginRow : Cond) ∈ TW := tw_in (tb_9 (List.mem_of_getElem? (i := 197) rfl)) (by decide +kernel)
theorem tw_2593 : (.code yX12_beginRow cX12_beginRow 1 none : Cond) ∈ TW := tw_in (tb_9 (List.mem_of_getElem? (i := 198) rfl)) (by decide +kernel)
theorem tw_2594 : (.methodLink "PatternWorkshopModel" 349 yX12_signAt : Cond) ∈ TW := tw_in (tb_9 (List.mem_of_getElem? (i := 199) rfl)) (by decide +kernel)
theorem tw_2596 : (.instanceMethod yX12_signAt : Cond) ∈ TW := tw_in (tb_9 (List.mem_of_getElem? (i := 201) rfl)) (by decide +kernel)
theorem tw_2597 : (.code yX12_signAt cX12_signAt 2 (some (.int)) : Cond) ∈ TW := tw_in (tb_9 (List.mem_of_getElem? (i := 202) rfl)) (by decide +kernel)
theorem tw_2598 : (.methodLink "PatternWorkshopModel" 339 yX12_closeRow : Cond) ∈ TW := tw_in (tb_9 (List.mem_of_getElem? (i := 203) rfl)) (by decide +kernel)
theorem tw_2600 : (.instanceMethod yX12_closeRow : Cond) ∈ TW := tw_in (tb_9 (List.mem_of_getElem? (i := 205) rfl)) (by decide +kernel)
theorem tw_2601 : (.code yX12_closeRow cX12_closeRow 2 none : Cond) ∈ TW := tw_in (tb_9 (List.mem_of_getElem? (i := 206) rfl)) (by decide +kernel)
theorem tw_2602 : (.methodLink "PatternWorkshopModel" 335 yX12_made : Cond) ∈ TW := tw_in (tb_9 (List.mem_of_getElem? (i := 207) rfl)) (by decide +kernel)
theorem tw_2604 : (.instanceMethod yX12_made : Cond) ∈ TW := tw_in (tb_9 (List.mem_of_getElem? (i := 209) rfl)) (by decide +kernel)
theorem tw_2605 : (.code yX12_made cX12_made 4 (some (.int)) : Cond) ∈ TW := tw_in (tb_9 (List.mem_of_getElem? (i := 210) rfl)) (by decide +kernel)
theorem tw_2606 : (.methodLink "PatternWorkshopModel" 426 yX12_closeGroup : Cond) ∈ TW := tw_in (tb_9 (List.mem_of_getElem? (i := 211) rfl)) (by decide +kernel)
theorem tw_2608 : (.instanceMethod yX12_closeGroup : Cond) ∈ TW := tw_in (tb_9 (List.mem_of_getElem? (i := 213) rfl)) (by decide +kernel)
theorem tw_2609 : (.code yX12_closeGroup cX12_closeGroup 4 none : Cond) ∈ TW := tw_in (tb_9 (List.mem_of_getElem? (i := 214) rfl)) (by decide +kernel)
theorem tw_2610 : (.methodLink "PatternWorkshopModel" 345 yX12_fail : Cond) ∈ TW := tw_in (tb_9 (List.mem_of_getElem? (i := 215) rfl)) (by decide +kernel)
theorem tw_2612 : (.instanceMethod yX12_fail : Cond) ∈ TW := tw_in (tb_9 (List.mem_of_getElem? (i := 217) rfl)) (by decide +kernel)
theorem tw_2613 : (.code yX12_fail cX12_fail 3 none : Cond) ∈ TW := tw_in (tb_9 (List.mem_of_getElem? (i := 218) rfl)) (by decide +kernel)
theorem tw_2614 : (.methodLink "PatternWorkshopModel" 386 yX12_closeChoice : Cond) ∈ TW := tw_in (tb_9 (List.mem_of_getElem? (i := 219) rfl)) (by decide +kernel)
theorem tw_2616 : (.instanceMethod yX12_closeChoice : Cond) ∈ TW := tw_in (tb_9 (List.mem_of_getElem? (i := 221) rfl)) (by decide +kernel)
theorem tw_2617 : (.code yX12_closeChoice cX12_closeChoice 2 (some (.int)) : Cond) ∈ TW := tw_in (tb_9 (List.mem_of_getElem? (i := 222) rfl)) (by decide +kernel)
theorem tw_2618 : (.methodLink "PatternWorkshopModel" 373 yX12_holding : Cond) ∈ TW := tw_in (tb_9 (List.mem_of_getElem? (i := 223) rfl)) (by decide +kernel)
theorem tw_2620 : (.instanceMethod yX12_holding : Cond) ∈ TW := tw_in (tb_9 (List.mem_of_getElem? (i := 225) rfl)) (by decide +kernel)
theorem tw_2621 : (.code yX12_holding cX12_holding 5 (some (.int)) : Cond) ∈ TW := tw_in (tb_9 (List.mem_of_getElem? (i := 226) rfl)) (by decide +kernel)
theorem tw_2622 : (.methodLink "PatternWorkshopModel" 390 yX12_looped : Cond) ∈ TW := tw_in (tb_9 (List.mem_of_getElem? (i := 227) rfl)) (by decide +kernel)
theorem tw_2624 : (.instanceMethod yX12_looped : Cond) ∈ TW := tw_in (tb_9 (List.mem_of_getElem? (i := 229) rfl)) (by decide +kernel)
theorem tw_2625 : (.code yX12_looped cX12_looped 5 (some (.int)) : Cond) ∈ TW := tw_in (tb_9 (List.mem_of_getElem? (i := 230) rfl)) (by decide +kernel)
theorem tw_2626 : (.methodLink "PatternWorkshopModel" 365 yX12_countItem : Cond) ∈ TW := tw_in (tb_9 (List.mem_of_getElem? (i := 231) rfl)) (by decide +kernel)
theorem tw_2628 : (.instanceMethod yX12_countItem : Cond) ∈ TW := tw_in (tb_9 (List.mem_of_getElem? (i := 233) rfl)) (by decide +kernel)
theorem tw_2629 : (.code yX12_countItem cX12_countItem 2 none : Cond) ∈ TW := tw_in (tb_9 (List.mem_of_getElem? (i := 234) rfl)) (by decide +kernel)
theorem tw_2630 : (.methodLink "PatternWorkshopModel" 369 yX12_numberFrom : Cond) ∈ TW := tw_in (tb_9 (List.mem_of_getElem? (i := 235) rfl)) (by decide +kernel)
theorem tw_2632 : (.instanceMethod yX12_numberFrom : Cond) ∈ TW := tw_in (tb_9 (List.mem_of_getElem? (i := 237) rfl)) (by decide +kernel)
theorem tw_2633 : (.code yX12_numberFrom cX12_numberFrom 5 (some (.int)) : Cond) ∈ TW := tw_in (tb_9 (List.mem_of_getElem? (i := 238) rfl)) (by decide +kernel)
theorem tw_2634 : (.methodLink "PatternWorkshopModel" 15 yX12_isDigit : Cond) ∈ TW := tw_in (tb_9 (List.mem_of_getElem? (i := 239) rfl)) (by decide +kernel)
theorem tw_2635 : (.static yX12_isDigit : Cond) ∈ TW := tw_in (tb_10 (List.mem_of_getElem? (i := 0) rfl)) (by decide +kernel)
theorem tw_2636 : (.code yX12_isDigit cX12_isDigit 1 (some (.boolean)) : Cond) ∈ TW := tw_in (tb_10 (List.mem_of_getElem? (i := 1) rfl)) (by decide +kernel)
theorem tw_2637 : (.methodLink "PatternWorkshopModel" 393 yX12_addNode : Cond) ∈ TW := tw_in (tb_10 (List.mem_of_getElem? (i := 2) rfl)) (by decide +kernel)
theorem tw_2639 : (.instanceMethod yX12_addNode : Cond) ∈ TW := tw_in (tb_10 (List.mem_of_getElem? (i := 4) rfl)) (by decide +kernel)
theorem tw_2640 : (.code yX12_addNode cX12_addNode 2 none : Cond) ∈ TW := tw_in (tb_10 (List.mem_of_getElem? (i := 5) rfl)) (by decide +kernel)
theorem tw_2641 : (.methodLink "PatternWorkshopModel" 429 yX12_openGroup : Cond) ∈ TW := tw_in (tb_10 (List.mem_of_getElem? (i := 6) rfl)) (by decide +kernel)
theorem tw_2643 : (.instanceMethod yX12_openGroup : Cond) ∈ TW := tw_in (tb_10 (List.mem_of_getElem? (i := 8) rfl)) (by decide +kernel)
theorem tw_2644 : (.code yX12_openGroup cX12_openGroup 4 none : Cond) ∈ TW := tw_in (tb_10 (List.mem_of_getElem? (i := 9) rfl)) (by decide +kernel)
theorem tw_2645 : (.methodLink "PatternWorkshopModel" 380 yX12_captureOf : Cond) ∈ TW := tw_in (tb_10 (List.mem_of_getElem? (i := 10) rfl)) (by decide +kernel)
theorem tw_2647 : (.instanceMethod yX12_captureOf : Cond) ∈ TW := tw_in (tb_10 (List.mem_of_getElem? (i := 12) rfl)) (by decide +kernel)
theorem tw_2648 : (.code yX12_captureOf cX12_captureOf 3 (some (.int)) : Cond) ∈ TW := tw_in (tb_10 (List.mem_of_getElem? (i := 13) rfl)) (by decide +kernel)
theorem tw_2649 : (.methodLink "PatternWorkshopModel" 432 yX12_readOne : Cond) ∈ TW := tw_in (tb_10 (List.mem_of_getElem? (i := 14) rfl)) (by decide +kernel)
theorem tw_2651 : (.instanceMethod yX12_readOne : Cond) ∈ TW := tw_in (tb_10 (List.mem_of_getElem? (i := 16) rfl)) (by decide +kernel)
theorem tw_2652 : (.code yX12_readOne cX12_readOne 3 none : Cond) ∈ TW := tw_in (tb_10 (List.mem_of_getElem? (i := 17) rfl)) (by decide +kernel)
theorem tw_2653 : (.methodLink "PatternWorkshopModel" 420 yX12_escaped : Cond) ∈ TW := tw_in (tb_10 (List.mem_of_getElem? (i := 18) rfl)) (by decide +kernel)
theorem tw_2655 : (.instanceMethod yX12_escaped : Cond) ∈ TW := tw_in (tb_10 (List.mem_of_getElem? (i := 20) rfl)) (by decide +kernel)
theorem tw_2656 : (.code yX12_escaped cX12_escaped 6 (some (.int)) : Cond) ∈ TW := tw_in (tb_10 (List.mem_of_getElem? (i := 21) rfl)) (by decide +kernel)
theorem tw_2657 : (.methodLink "PatternWorkshopModel" 414 yX12_addPart : Cond) ∈ TW := tw_in (tb_10 (List.mem_of_getElem? (i := 22) rfl)) (by decide +kernel)
theorem tw_2659 : (.instanceMethod yX12_addPart : Cond) ∈ TW := tw_in (tb_10 (List.mem_of_getElem? (i := 24) rfl)) (by decide +kernel)
theorem tw_2660 : (.code yX12_addPart cX12_addPart 3 none : Cond) ∈ TW := tw_in (tb_10 (List.mem_of_getElem? (i := 25) rfl)) (by decide +kernel)
theorem tw_2661 : (.methodLink "PatternWorkshopModel" 417 yX12_setNode : Cond) ∈ TW := tw_in (tb_10 (List.mem_of_getElem? (i := 26) rfl)) (by decide +kernel)
theorem tw_2663 : (.instanceMethod yX12_setNode : Cond) ∈ TW := tw_in (tb_10 (List.mem_of_getElem? (i := 28) rfl)) (by decide +kernel)
theorem tw_2664 : (.code yX12_setNode cX12_setNode 4 (some (.int)) : Cond) ∈ TW := tw_in (tb_10 (List.mem_of_getElem? (i := 29) rfl)) (by decide +kernel)
theorem tw_2665 : (.methodLink "PatternWorkshopModel" 399 yX12_joinParts : Cond) ∈ TW := tw_in (tb_10 (List.mem_of_getElem? (i := 30) rfl)) (by decide +kernel)
theorem tw_2667 : (.instanceMethod yX12_joinParts : Cond) ∈ TW := tw_in (tb_10 (List.mem_of_getElem? (i := 32) rfl)) (by decide +kernel)
theorem tw_2668 : (.code yX12_joinParts cX12_joinParts 6 none : Cond) ∈ TW := tw_in (tb_10 (List.mem_of_getElem? (i := 33) rfl)) (by decide +kernel)
theorem tw_2669 : (.methodLink "PatternWorkshopModel" 408 yX12_hexes : Cond) ∈ TW := tw_in (tb_10 (List.mem_of_getElem? (i := 34) rfl)) (by decide +kernel)
theorem tw_2671 : (.instanceMethod yX12_hexes : Cond) ∈ TW := tw_in (tb_10 (List.mem_of_getElem? (i := 36) rfl)) (by decide +kernel)
theorem tw_2672 : (.code yX12_hexes cX12_hexes 5 (some (.int)) : Cond) ∈ TW := tw_in (tb_10 (List.mem_of_getElem? (i := 37) rfl)) (by decide +kernel)
theorem tw_2673 : (.methodLink "PatternWorkshopModel" 353 yX12_isHex : Cond) ∈ TW := tw_in (tb_10 (List.mem_of_getElem? (i := 38) rfl)) (by decide +kernel)
theorem tw_2674 : (.static yX12_isHex : Cond) ∈ TW := tw_in (tb_10 (List.mem_of_getElem? (i := 39) rfl)) (by decide +kernel)
theorem tw_2675 : (.code yX12_isHex cX12_isHex 1 (some (.boolean)) : Cond) ∈ TW := tw_in (tb_10 (List.mem_of_getElem? (i := 40) rfl)) (by decide +kernel)
theorem tw_2676 : (.methodLink "PatternWorkshopModel" 11 yX12_isLetter : Cond) ∈ TW := tw_in (tb_10 (List.mem_of_getElem? (i := 41) rfl)) (by decide +kernel)
theorem tw_2677 : (.static yX12_isLetter : Cond) ∈ TW := tw_in (tb_10 (List.mem_of_getElem? (i := 42) rfl)) (by decide +kernel)
theorem tw_2678 : (.code yX12_isLetter cX12_isLetter 1 (some (.boolean)) : Cond) ∈ TW := tw_in (tb_10 (List.mem_of_getElem? (i := 43) rfl)) (by decide +kernel)
theorem tw_2679 : (.methodLink "PatternWorkshopModel" 423 yX12_readSet : Cond) ∈ TW := tw_in (tb_10 (List.mem_of_getElem? (i := 44) rfl)) (by decide +kernel)
theorem tw_2681 : (.instanceMethod yX12_readSet : Cond) ∈ TW := tw_in (tb_10 (List.mem_of_getElem? (i := 46) rfl)) (by decide +kernel)
theorem tw_2682 : (.code yX12_readSet cX12_readSet 8 (some (.int)) : Cond) ∈ TW := tw_in (tb_10 (List.mem_of_getElem? (i := 47) rfl)) (by decide +kernel)
theorem tw_2683 : (.methodLink "PatternWorkshopModel" 411 yX12_member : Cond) ∈ TW := tw_in (tb_10 (List.mem_of_getElem? (i := 48) rfl)) (by decide +kernel)
theorem tw_2685 : (.instanceMethod yX12_member : Cond) ∈ TW := tw_in (tb_10 (List.mem_of_getElem? (i := 50) rfl)) (by decide +kernel)
theorem tw_2686 : (.code yX12_member cX12_member 4 none : Cond) ∈ TW := tw_in (tb_10 (List.mem_of_getElem? (i := 51) rfl)) (by decide +kernel)
theorem tw_2687 : (.methodLink "PatternWorkshopModel" 446 yX12_keepPattern : Cond) ∈ TW := tw_in (tb_10 (List.mem_of_getElem? (i := 52) rfl)) (by decide +kernel)
theorem tw_2689 : (.instanceMethod yX12_keepPattern : Cond) ∈ TW := tw_in (tb_10 (List.mem_of_getElem? (i := 54) rfl)) (by decide +kernel)
theorem tw_2690 : (.code yX12_keepPattern cX12_keepPattern 9 none : Cond) ∈ TW := tw_in (tb_10 (List.mem_of_getElem? (i := 55) rfl)) (by decide +kernel)
theorem tw_2691 : (.methodLink "PatternWorkshopModel" 435 yX12_measure : Cond) ∈ TW := tw_in (tb_10 (List.mem_of_getElem? (i := 56) rfl)) (by decide +kernel)
theorem tw_2693 : (.instanceMethod yX12_measure : Cond) ∈ TW := tw_in (tb_10 (List.mem_of_getElem? (i := 58) rfl)) (by decide +kernel)
theorem tw_2694 : (.code yX12_measure cX12_measure 11 none : Cond) ∈ TW := tw_in (tb_10 (List.mem_of_getElem? (i := 59) rfl)) (by decide +kernel)
theorem tw_2695 : (.methodLink "PatternWorkshopModel" 438 yX12_capped : Cond) ∈ TW := tw_in (tb_10 (List.mem_of_getElem? (i := 60) rfl)) (by decide +kernel)
theorem tw_2696 : (.static yX12_capped : Cond) ∈ TW := tw_in (tb_10 (List.mem_of_getElem? (i := 61) rfl)) (by decide +kernel)
theorem tw_2697 : (.code yX12_capped cX12_capped 1 (some (.int)) : Cond) ∈ TW := tw_in (tb_10 (List.mem_of_getElem? (i := 62) rfl)) (by decide +kernel)
theorem tw_2701 : (.code yX12_place cX12_place 1 (some (.int)) : Cond) ∈ TW := tw_in (tb_10 (List.mem_of_getElem? (i := 66) rfl)) (by decide +kernel)
theorem tw_2705 : (.code yX12_forget cX12_forget 2 (some (.int)) : Cond) ∈ TW := tw_in (tb_10 (List.mem_of_getElem? (i := 70) rfl)) (by decide +kernel)
theorem tw_2706 : (.methodLink "PatternWorkshopModel" 459 yX12_wrongSlot : Cond) ∈ TW := tw_in (tb_10 (List.mem_of_getElem? (i := 71) rfl)) (by decide +kernel)
theorem tw_2708 : (.instanceMethod yX12_wrongSlot : Cond) ∈ TW := tw_in (tb_10 (List.mem_of_getElem? (i := 73) rfl)) (by decide +kernel)
theorem tw_2709 : (.code yX12_wrongSlot cX12_wrongSlot 2 (some (.int)) : Cond) ∈ TW := tw_in (tb_10 (List.mem_of_getElem? (i := 74) rfl)) (by decide +kernel)
theorem tw_2713 : (.code yX12_node cX12_node 6 (some (.int)) : Cond) ∈ TW := tw_in (tb_10 (List.mem_of_getElem? (i := 78) rfl)) (by decide +kernel)
theorem tw_2714 : (.methodLink "PatternWorkshopModel" 462 yX12_otherSort : Cond) ∈ TW := tw_in (tb_10 (List.mem_of_getElem? (i := 79) rfl)) (by decide +kernel)
theorem tw_2716 : (.instanceMethod yX12_otherSort : Cond) ∈ TW := tw_in (tb_10 (List.mem_of_getElem? (i := 81) rfl)) (by decide +kernel)
theorem tw_2717 : (.code yX12_otherSort cX12_otherSort 1 (some (.int)) : Cond) ∈ TW := tw_in (tb_10 (List.mem_of_getElem? (i := 82) rfl)) (by decide +kernel)
theorem tw_2721 : (.code yX12_part cX12_part 6 (some (.int)) : Cond) ∈ TW := tw_in (tb_10 (List.mem_of_getElem? (i := 86) rfl)) (by decide +kernel)
theorem tw_2725 : (.code yX12_print cX12_print 3 (some (.int)) : Cond) ∈ TW := tw_in (tb_10 (List.mem_of_getElem? (i := 90) rfl)) (by decide +kernel)
theorem tw_2726 : (.methodLink "PatternWorkshopModel" 499 yX12_printFrom : Cond) ∈ TW := tw_in (tb_10 (List.mem_of_getElem? (i := 91) rfl)) (by decide +kernel)
theorem tw_2728 : (.instanceMethod yX12_printFrom : Cond) ∈ TW := tw_in (tb_10 (List.mem_of_getElem? (i := 93) rfl)) (by decide +kernel)
theorem tw_2729 : (.code yX12_printFrom cX12_printFrom 7 none : Cond) ∈ TW := tw_in (tb_10 (List.mem_of_getElem? (i := 94) rfl)) (by decide +kernel)
theorem tw_2730 : (.methodLink "PatternWorkshopModel" 493 yX12_printHead : Cond) ∈ TW := tw_in (tb_10 (List.mem_of_getElem? (i := 95) rfl)) (by decide +kernel)
theorem tw_2732 : (.instanceMethod yX12_printHead : Cond) ∈ TW := tw_in (tb_10 (List.mem_of_getElem? (i := 97) rfl)) (by decide +kernel)
theorem tw_2733 : (.code yX12_printHead cX12_printHead 6 none : Cond) ∈ TW := tw_in (tb_10 (List.mem_of_getElem? (i := 98) rfl)) (by decide +kernel)
theorem tw_2734 : (.methodLink "PatternWorkshopModel" 474 yX12_isWrapped : Cond) ∈ TW := tw_in (tb_10 (List.mem_of_getElem? (i := 99) rfl)) (by decide +kernel)
theorem tw_2736 : (.instanceMethod yX12_isWrapped : Cond) ∈ TW := tw_in (tb_10 (List.mem_of_getElem? (i := 101) rfl)) (by decide +kernel)
theorem tw_2737 : (.code yX12_isWrapped cX12_isWrapped 6 (some (.boolean)) : Cond) ∈ TW := tw_in (tb_10 (List.mem_of_getElem? (i := 102) rfl)) (by decide +kernel)
theorem tw_2738 : (.methodLink "PatternWorkshopModel" 468 yX12_put : Cond) ∈ TW := tw_in (tb_10 (List.mem_of_getElem? (i := 103) rfl)) (by decide +kernel)
theorem tw_2740 : (.instanceMethod yX12_put : Cond) ∈ TW := tw_in (tb_10 (List.mem_of_getElem? (i := 105) rfl)) (by decide +kernel)
theorem tw_2741 : (.code yX12_put cX12_put 2 none : Cond) ∈ TW := tw_in (tb_10 (List.mem_of_getElem? (i := 106) rfl)) (by decide +kernel)
theorem tw_2742 : (.methodLink "PatternWorkshopModel" 481 yX12_isMark : Cond) ∈ TW := tw_in (tb_10 (List.mem_of_getElem? (i := 107) rfl)) (by decide +kernel)
theorem tw_2743 : (.static yX12_isMark : Cond) ∈ TW := tw_in (tb_10 (List.mem_of_getElem? (i := 108) rfl)) (by decide +kernel)
theorem tw_2744 : (.code yX12_isMark cX12_isMark 1 (some (.boolean)) : Cond) ∈ TW := tw_in (tb_10 (List.mem_of_getElem? (i := 109) rfl)) (by decide +kernel)
theorem tw_2745 : (.methodLink "PatternWorkshopModel" 471 yX12_putHex : Cond) ∈ TW := tw_in (tb_10 (List.mem_of_getElem? (i := 110) rfl)) (by decide +kernel)
theorem tw_2747 : (.instanceMethod yX12_putHex : Cond) ∈ TW := tw_in (tb_10 (List.mem_of_getElem? (i := 112) rfl)) (by decide +kernel)
theorem tw_2748 : (.code yX12_putHex cX12_putHex 4 none : Cond) ∈ TW := tw_in (tb_10 (List.mem_of_getElem? (i := 113) rfl)) (by decide +kernel)
theorem tw_2749 : (.methodLink "PatternWorkshopModel" 484 yX12_isPlain : Cond) ∈ TW := tw_in (tb_10 (List.mem_of_getElem? (i := 114) rfl)) (by decide +kernel)
theorem tw_2750 : (.static yX12_isPlain : Cond) ∈ TW := tw_in (tb_10 (List.mem_of_getElem? (i := 115) rfl)) (by decide +kernel)
theorem tw_2751 : (.code yX12_isPlain cX12_isPlain 1 (some (.boolean)) : Cond) ∈ TW := tw_in (tb_10 (List.mem_of_getElem? (i := 116) rfl)) (by decide +kernel)
theorem tw_2752 : (.methodLink "PatternWorkshopModel" 487 yX12_putMember : Cond) ∈ TW := tw_in (tb_10 (List.mem_of_getElem? (i := 117) rfl)) (by decide +kernel)
theorem tw_2754 : (.instanceMethod yX12_putMember : Cond) ∈ TW := tw_in (tb_10 (List.mem_of_getElem? (i := 119) rfl)) (by decide +kernel)
theorem tw_2755 : (.code yX12_putMember cX12_putMember 2 none : Cond) ∈ TW := tw_in (tb_10 (List.mem_of_getElem? (i := 120) rfl)) (by decide +kernel)
theorem tw_2756 : (.methodLink "PatternWorkshopModel" 496 yX12_printTail : Cond) ∈ TW := tw_in (tb_10 (List.mem_of_getElem? (i := 121) rfl)) (by decide +kernel)
theorem tw_2758 : (.instanceMethod yX12_printTail : Cond) ∈ TW := tw_in (tb_10 (List.mem_of_getElem? (i := 123) rfl)) (by decide +kernel)
theorem tw_2759 : (.code yX12_printTail cX12_printTail 6 none : Cond) ∈ TW := tw_in (tb_10 (List.mem_of_getElem? (i := 124) rfl)) (by decide +kernel)
theorem tw_2760 : (.methodLink "PatternWorkshopModel" 490 yX12_putNumber : Cond) ∈ TW := tw_in (tb_10 (List.mem_of_getElem? (i := 125) rfl)) (by decide +kernel)
theorem tw_2762 : (.instanceMethod yX12_putNumber : Cond) ∈ TW := tw_in (tb_10 (List.mem_of_getElem? (i := 127) rfl)) (by decide +kernel)
theorem tw_2763 : (.code yX12_putNumber cX12_putNumber 2 none : Cond) ∈ TW := tw_in (tb_10 (List.mem_of_getElem? (i := 128) rfl)) (by decide +kernel)
theorem tw_2767 : (.code yX12_dead cX12_dead 9 (some (.int)) : Cond) ∈ TW := tw_in (tb_10 (List.mem_of_getElem? (i := 132) rfl)) (by decide +kernel)
theorem tw_2768 : (.methodLink "PatternWorkshopModel" 508 yX12_isSamePrint : Cond) ∈ TW := tw_in (tb_10 (List.mem_of_getElem? (i := 133) rfl)) (by decide +kernel)
theorem tw_2770 : (.instanceMethod yX12_isSamePrint : Cond) ∈ TW := tw_in (tb_10 (List.mem_of_getElem? (i := 135) rfl)) (by decide +kernel)
theorem tw_2771 : (.code yX12_isSamePrint cX12_isSamePrint 7 (some (.boolean)) : Cond) ∈ TW := tw_in (tb_10 (List.mem_of_getElem? (i := 136) rfl)) (by decide +kernel)
theorem tw_2775 : (.code yX12_begins cX12_begins 3 (some (.int)) : Cond) ∈ TW := tw_in (tb_10 (List.mem_of_getElem? (i := 140) rfl)) (by decide +kernel)
theorem tw_2776 : (.constant "PatternWorkshopModel" 520 65535 : Cond) ∈ TW := tw_in (tb_10 (List.mem_of_getElem? (i := 141) rfl)) (by decide +kernel)
theorem tw_2777 : (.methodLink "PatternWorkshopModel" 521 yX12_findBegun : Cond) ∈ TW := tw_in (tb_10 (List.mem_of_getElem? (i := 142) rfl)) (by decide +kernel)
theorem tw_2779 : (.instanceMethod yX12_findBegun : Cond) ∈ TW := tw_in (tb_10 (List.mem_of_getElem? (i := 144) rfl)) (by decide +kernel)
theorem tw_2780 : (.code yX12_findBegun cX12_findBegun 10 none : Cond) ∈ TW := tw_in (tb_10 (List.mem_of_getElem? (i := 145) rfl)) (by decide +kernel)
theorem tw_2781 : (.methodLink "PatternWorkshopModel" 517 yX12_takes : Cond) ∈ TW := tw_in (tb_10 (List.mem_of_getElem? (i := 146) rfl)) (by decide +kernel)
theorem tw_2783 : (.instanceMethod yX12_takes : Cond) ∈ TW := tw_in (tb_10 (List.mem_of_getElem? (i := 148) rfl)) (by decide +kernel)
theorem tw_2784 : (.code yX12_takes cX12_takes 4 (some (.boolean)) : Cond) ∈ TW := tw_in (tb_10 (List.mem_of_getElem? (i := 149) rfl)) (by decide +kernel)
theorem tw_2785 : (.methodLink "PatternWorkshopModel" 511 yX12_otherCase : Cond) ∈ TW := tw_in (tb_10 (List.mem_of_getElem? (i := 150) rfl)) (by decide +kernel)
theorem tw_2786 : (.static yX12_otherCase : Cond) ∈ TW := tw_in (tb_10 (List.mem_of_getElem? (i := 151) rfl)) (by decide +kernel)
theorem tw_2787 : (.code yX12_otherCase cX12_otherCase 1 (some (.int)) : Cond) ∈ TW := tw_in (tb_10 (List.mem_of_getElem? (i := 152) rfl)) (by decide +kernel)
theorem tw_2788 : (.methodLink "PatternWorkshopModel" 514 yX12_isInParts : Cond) ∈ TW := tw_in (tb_10 (List.mem_of_getElem? (i := 153) rfl)) (by decide +kernel)
theorem tw_2790 : (.instanceMethod yX12_isInParts : Cond) ∈ TW := tw_in (tb_10 (List.mem_of_getElem? (i := 155) rfl)) (by decide +kernel)
theorem tw_2791 : (.code yX12_isInParts cX12_isInParts 5 (some (.boolean)) : Cond) ∈ TW := tw_in (tb_10 (List.mem_of_getElem? (i := 156) rfl)) (by decide +kernel)
theorem tw_2795 : (.code yX12_risky cX12_risky 7 (some (.int)) : Cond) ∈ TW := tw_in (tb_10 (List.mem_of_getElem? (i := 160) rfl)) (by decide +kernel)
theorem tw_2796 : (.methodLink "PatternWorkshopModel" 528 yX12_markBounds : Cond) ∈ TW := tw_in (tb_10 (List.mem_of_getElem? (i := 161) rfl)) (by decide +kernel)
theorem tw_2798 : (.instanceMethod yX12_markBounds : Cond) ∈ TW := tw_in (tb_10 (List.mem_of_getElem? (i := 163) rfl)) (by decide +kernel)
theorem tw_2799 : (.code yX12_markBounds cX12_markBounds 6 none : Cond) ∈ TW := tw_in (tb_10 (List.mem_of_getElem? (i := 164) rfl)) (by decide +kernel)
theorem tw_2800 : (.methodLink "PatternWorkshopModel" 531 yX12_findBounds : Cond) ∈ TW := tw_in (tb_10 (List.mem_of_getElem? (i := 165) rfl)) (by decide +kernel)
theorem tw_2802 : (.instanceMethod yX12_findBounds : Cond) ∈ TW := tw_in (tb_10 (List.mem_of_getElem? (i := 167) rfl)) (by decide +kernel)
theorem tw_2803 : (.code yX12_findBounds cX12_findBounds 2 none : Cond) ∈ TW := tw_in (tb_10 (List.mem_of_getElem? (i := 168) rfl)) (by decide +kernel)
theorem tw_2804 : (.constant "PatternWorkshopModel" 527 65536 : Cond) ∈ TW := tw_in (tb_10 (List.mem_of_getElem? (i := 169) rfl)) (by decide +kernel)
theorem tw_2805 : (.methodLink "PatternWorkshopModel" 534 yX12_isEndless : Cond) ∈ TW := tw_in (tb_10 (List.mem_of_getElem? (i := 170) rfl)) (by decide +kernel)
theorem tw_2807 : (.instanceMethod yX12_isEndless : Cond) ∈ TW := tw_in (tb_10 (List.mem_of_getElem? (i := 172) rfl)) (by decide +kernel)
theorem tw_2808 : (.code yX12_isEndless cX12_isEndless 2 (some (.boolean)) : Cond) ∈ TW := tw_in (tb_10 (List.mem_of_getElem? (i := 173) rfl)) (by decide +kernel)
theorem tw_2812 : (.code yX12_put_ cX12_put_ 7 (some (.int)) : Cond) ∈ TW := tw_in (tb_10 (List.mem_of_getElem? (i := 177) rfl)) (by decide +kernel)
theorem tw_2813 : (.constantLong "PatternWorkshopModel" 537 65535 : Cond) ∈ TW := tw_in (tb_10 (List.mem_of_getElem? (i := 178) rfl)) (by decide +kernel)
theorem tw_2817 : (.code yX12_drop cX12_drop 3 (some (.int)) : Cond) ∈ TW := tw_in (tb_10 (List.mem_of_getElem? (i := 182) rfl)) (by decide +kernel)
theorem tw_2818 : (.methodLink "PatternWorkshopModel" 542 yX12_wrongSubject : Cond) ∈ TW := tw_in (tb_10 (List.mem_of_getElem? (i := 183) rfl)) (by decide +kernel)
theorem tw_2820 : (.instanceMethod yX12_wrongSubject : Cond) ∈ TW := tw_in (tb_10 (List.mem_of_getElem? (i := 185) rfl)) (by decide +kernel)
theorem tw_2821 : (.code yX12_wrongSubject cX12_wrongSubject 2 (some (.int)) : Cond) ∈ TW := tw_in (tb_10 (List.mem_of_getElem? (i := 186) rfl)) (by decide +kernel)
theorem tw_2825 : (.code yX12_sign cX12_sign 3 (some (.char)) : Cond) ∈ TW := tw_in (tb_10 (List.mem_of_getElem? (i := 190) rfl)) (by decide +kernel)
theorem tw_2829 : (.code yX12_find cX12_find 8 (some (.int)) : Cond) ∈ TW := tw_in (tb_10 (List.mem_of_getElem? (i := 194) rfl)) (by decide +kernel)
theorem tw_2830 : (.methodLink "PatternWorkshopModel" 687 yX12_wrongBoth : Cond) ∈ TW := tw_in (tb_10 (List.mem_of_getElem? (i := 195) rfl)) (by decide +kernel)
theorem tw_2832 : (.instanceMethod yX12_wrongBoth : Cond) ∈ TW := tw_in (tb_10 (List.mem_of_getElem? (i := 197) rfl)) (by decide +kernel)
theorem tw_2833 : (.code yX12_wrongBoth cX12_wrongBoth 4 (some (.int)) : Cond) ∈ TW := tw_in (tb_10 (List.mem_of_getElem? (i := 198) rfl)) (by decide +kernel)
theorem tw_2834 : (.methodLink "PatternWorkshopModel" 690 yX12_bars : Cond) ∈ TW := tw_in (tb_10 (List.mem_of_getElem? (i := 199) rfl)) (by decide +kernel)
theorem tw_2836 : (.instanceMethod yX12_bars : Cond) ∈ TW := tw_in (tb_10 (List.mem_of_getElem? (i := 201) rfl)) (by decide +kernel)
theorem tw_2837 : (.code yX12_bars cX12_bars 4 (some (.int)) : Cond) ∈ TW := tw_in (tb_10 (List.mem_of_getElem? (i := 202) rfl)) (by decide +kernel)
theorem tw_2838 : (.methodLink "PatternWorkshopModel" 658 yX12_kindBars : Cond) ∈ TW := tw_in (tb_10 (List.mem_of_getElem? (i := 203) rfl)) (by decide +kernel)
theorem tw_2840 : (.instanceMethod yX12_kindBars : Cond) ∈ TW := tw_in (tb_10 (List.mem_of_getElem? (i := 205) rfl)) (by decide +kernel)
theorem tw_2841 : (.code yX12_kindBars cX12_kindBars 8 (some (.int)) : Cond) ∈ TW := tw_in (tb_10 (List.mem_of_getElem? (i := 206) rfl)) (by decide +kernel)
theorem tw_2842 : (.methodLink "PatternWorkshopModel" 661 yX12_sizeBars : Cond) ∈ TW := tw_in (tb_10 (List.mem_of_getElem? (i := 207) rfl)) (by decide +kernel)
theorem tw_2844 : (.instanceMethod yX12_sizeBars : Cond) ∈ TW := tw_in (tb_10 (List.mem_of_getElem? (i := 209) rfl)) (by decide +kernel)
theorem tw_2845 : (.code yX12_sizeBars cX12_sizeBars 4 (some (.int)) : Cond) ∈ TW := tw_in (tb_10 (List.mem_of_getElem? (i := 210) rfl)) (by decide +kernel)
theorem tw_2846 : (.methodLink "PatternWorkshopModel" 693 yX12_goes : Cond) ∈ TW := tw_in (tb_10 (List.mem_of_getElem? (i := 211) rfl)) (by decide +kernel)
theorem tw_2848 : (.instanceMethod yX12_goes : Cond) ∈ TW := tw_in (tb_10 (List.mem_of_getElem? (i := 213) rfl)) (by decide +kernel)
theorem tw_2849 : (.code yX12_goes cX12_goes 3 (some (.int)) : Cond) ∈ TW := tw_in (tb_10 (List.mem_of_getElem? (i := 214) rfl)) (by decide +kernel)
theorem tw_2850 : (.methodLink "PatternWorkshopModel" 673 yX12_compile : Cond) ∈ TW := tw_in (tb_10 (List.mem_of_getElem? (i := 215) rfl)) (by decide +kernel)
theorem tw_2852 : (.instanceMethod yX12_compile : Cond) ∈ TW := tw_in (tb_10 (List.mem_of_getElem? (i := 217) rfl)) (by decide +kernel)
theorem tw_2853 : (.code yX12_compile cX12_compile 5 none : Cond) ∈ TW := tw_in (tb_10 (List.mem_of_getElem? (i := 218) rfl)) (by decide +kernel)
theorem tw_2854 : (.methodLink "PatternWorkshopModel" 554 yX12_later : Cond) ∈ TW := tw_in (tb_10 (List.mem_of_getElem? (i := 219) rfl)) (by decide +kernel)
theorem tw_2856 : (.instanceMethod yX12_later : Cond) ∈ TW := tw_in (tb_10 (List.mem_of_getElem? (i := 221) rfl)) (by decide +kernel)
theorem tw_2857 : (.code yX12_later cX12_later 4 none : Cond) ∈ TW := tw_in (tb_10 (List.mem_of_getElem? (i := 222) rfl)) (by decide +kernel)
theorem tw_2858 : (.methodLink "PatternWorkshopModel" 558 yX12_compileNode : Cond) ∈ TW := tw_in (tb_10 (List.mem_of_getElem? (i := 223) rfl)) (by decide +kernel)
theorem tw_2860 : (.instanceMethod yX12_compileNode : Cond) ∈ TW := tw_in (tb_10 (List.mem_of_getElem? (i := 225) rfl)) (by decide +kernel)
theorem tw_2861 : (.code yX12_compileNode cX12_compileNode 8 none : Cond) ∈ TW := tw_in (tb_10 (List.mem_of_getElem? (i := 226) rfl)) (by decide +kernel)
theorem tw_2862 : (.methodLink "PatternWorkshopModel" 562 yX12_compileChoice : Cond) ∈ TW := tw_in (tb_10 (List.mem_of_getElem? (i := 227) rfl)) (by decide +kernel)
theorem tw_2864 : (.instanceMethod yX12_compileChoice : Cond) ∈ TW := tw_in (tb_10 (List.mem_of_getElem? (i := 229) rfl)) (by decide +kernel)
theorem tw_2865 : (.code yX12_compileChoice cX12_compileChoice 5 none : Cond) ∈ TW := tw_in (tb_10 (List.mem_of_getElem? (i := 230) rfl)) (by decide +kernel)
theorem tw_2866 : (.methodLink "PatternWorkshopModel" 574 yX12_newLabel : Cond) ∈ TW := tw_in (tb_10 (List.mem_of_getElem? (i := 231) rfl)) (by decide +kernel)
theorem tw_2868 : (.instanceMethod yX12_newLabel : Cond) ∈ TW := tw_in (tb_10 (List.mem_of_getElem? (i := 233) rfl)) (by decide +kernel)
theorem tw_2869 : (.code yX12_newLabel cX12_newLabel 1 (some (.int)) : Cond) ∈ TW := tw_in (tb_10 (List.mem_of_getElem? (i := 234) rfl)) (by decide +kernel)
theorem tw_2870 : (.methodLink "PatternWorkshopModel" 565 yX12_compileCopies : Cond) ∈ TW := tw_in (tb_10 (List.mem_of_getElem? (i := 235) rfl)) (by decide +kernel)
theorem tw_2872 : (.instanceMethod yX12_compileCopies : Cond) ∈ TW := tw_in (tb_10 (List.mem_of_getElem? (i := 237) rfl)) (by decide +kernel)
theorem tw_2873 : (.code yX12_compileCopies cX12_compileCopies 6 none : Cond) ∈ TW := tw_in (tb_10 (List.mem_of_getElem? (i := 238) rfl)) (by decide +kernel)
theorem tw_2874 : (.methodLink "PatternWorkshopModel" 568 yX12_compileLoop : Cond) ∈ TW := tw_in (tb_10 (List.mem_of_getElem? (i := 239) rfl)) (by decide +kernel)
theorem tw_2876 : (.instanceMethod yX12_compileLoop : Cond) ∈ TW := tw_in (tb_11 (List.mem_of_getElem? (i := 1) rfl)) (by decide +kernel)
theorem tw_2877 : (.code yX12_compileLoop cX12_compileLoop 6 none : Cond) ∈ TW := tw_in (tb_11 (List.mem_of_getElem? (i := 2) rfl)) (by decide +kernel)
theorem tw_2878 : (.methodLink "PatternWorkshopModel" 571 yX12_compileLook : Cond) ∈ TW := tw_in (tb_11 (List.mem_of_getElem? (i := 3) rfl)) (by decide +kernel)
theorem tw_2880 : (.instanceMethod yX12_compileLook : Cond) ∈ TW := tw_in (tb_11 (List.mem_of_getElem? (i := 5) rfl)) (by decide +kernel)
theorem tw_2881 : (.code yX12_compileLook cX12_compileLook 5 none : Cond) ∈ TW := tw_in (tb_11 (List.mem_of_getElem? (i := 6) rfl)) (by decide +kernel)
theorem tw_2882 : (.methodLink "PatternWorkshopModel" 680 yX12_searched : Cond) ∈ TW := tw_in (tb_11 (List.mem_of_getElem? (i := 7) rfl)) (by decide +kernel)
theorem tw_2884 : (.instanceMethod yX12_searched : Cond) ∈ TW := tw_in (tb_11 (List.mem_of_getElem? (i := 9) rfl)) (by decide +kernel)
theorem tw_2885 : (.code yX12_searched cX12_searched 10 (some (.int)) : Cond) ∈ TW := tw_in (tb_11 (List.mem_of_getElem? (i := 10) rfl)) (by decide +kernel)
theorem tw_2886 : (.constant "PatternWorkshopModel" 653 2147483647 : Cond) ∈ TW := tw_in (tb_11 (List.mem_of_getElem? (i := 11) rfl)) (by decide +kernel)
theorem tw_2887 : (.methodLink "PatternWorkshopModel" 654 yX12_tried : Cond) ∈ TW := tw_in (tb_11 (List.mem_of_getElem? (i := 12) rfl)) (by decide +kernel)
theorem tw_2889 : (.instanceMethod yX12_tried : Cond) ∈ TW := tw_in (tb_11 (List.mem_of_getElem? (i := 14) rfl)) (by decide +kernel)
theorem tw_2890 : (.code yX12_tried cX12_tried 6 (some (.int)) : Cond) ∈ TW := tw_in (tb_11 (List.mem_of_getElem? (i := 15) rfl)) (by decide +kernel)
theorem tw_2891 : (.methodLink "PatternWorkshopModel" 647 yX12_isDone : Cond) ∈ TW := tw_in (tb_11 (List.mem_of_getElem? (i := 16) rfl)) (by decide +kernel)
theorem tw_2893 : (.instanceMethod yX12_isDone : Cond) ∈ TW := tw_in (tb_11 (List.mem_of_getElem? (i := 18) rfl)) (by decide +kernel)
theorem tw_2894 : (.code yX12_isDone cX12_isDone 5 (some (.boolean)) : Cond) ∈ TW := tw_in (tb_11 (List.mem_of_getElem? (i := 19) rfl)) (by decide +kernel)
theorem tw_2895 : (.methodLink "PatternWorkshopModel" 610 yX12_isStep : Cond) ∈ TW := tw_in (tb_11 (List.mem_of_getElem? (i := 20) rfl)) (by decide +kernel)
theorem tw_2897 : (.instanceMethod yX12_isStep : Cond) ∈ TW := tw_in (tb_11 (List.mem_of_getElem? (i := 22) rfl)) (by decide +kernel)
theorem tw_2898 : (.code yX12_isStep cX12_isStep 1 (some (.boolean)) : Cond) ∈ TW := tw_in (tb_11 (List.mem_of_getElem? (i := 23) rfl)) (by decide +kernel)
theorem tw_2899 : (.methodLink "PatternWorkshopModel" 598 yX12_signOf : Cond) ∈ TW := tw_in (tb_11 (List.mem_of_getElem? (i := 24) rfl)) (by decide +kernel)
theorem tw_2901 : (.instanceMethod yX12_signOf : Cond) ∈ TW := tw_in (tb_11 (List.mem_of_getElem? (i := 26) rfl)) (by decide +kernel)
theorem tw_2902 : (.code yX12_signOf cX12_signOf 2 (some (.int)) : Cond) ∈ TW := tw_in (tb_11 (List.mem_of_getElem? (i := 27) rfl)) (by decide +kernel)
theorem tw_2903 : (.methodLink "PatternWorkshopModel" 632 yX12_isEdge : Cond) ∈ TW := tw_in (tb_11 (List.mem_of_getElem? (i := 28) rfl)) (by decide +kernel)
theorem tw_2905 : (.instanceMethod yX12_isEdge : Cond) ∈ TW := tw_in (tb_11 (List.mem_of_getElem? (i := 30) rfl)) (by decide +kernel)
theorem tw_2906 : (.code yX12_isEdge cX12_isEdge 3 (some (.boolean)) : Cond) ∈ TW := tw_in (tb_11 (List.mem_of_getElem? (i := 31) rfl)) (by decide +kernel)
theorem tw_2907 : (.methodLink "PatternWorkshopModel" 607 yX12_isWordAt : Cond) ∈ TW := tw_in (tb_11 (List.mem_of_getElem? (i := 32) rfl)) (by decide +kernel)
theorem tw_2909 : (.instanceMethod yX12_isWordAt : Cond) ∈ TW := tw_in (tb_11 (List.mem_of_getElem? (i := 34) rfl)) (by decide +kernel)
theorem tw_2910 : (.code yX12_isWordAt cX12_isWordAt 2 (some (.boolean)) : Cond) ∈ TW := tw_in (tb_11 (List.mem_of_getElem? (i := 35) rfl)) (by decide +kernel)
theorem tw_2911 : (.methodLink "PatternWorkshopModel" 601 yX12_isWord : Cond) ∈ TW := tw_in (tb_11 (List.mem_of_getElem? (i := 36) rfl)) (by decide +kernel)
theorem tw_2912 : (.static yX12_isWord : Cond) ∈ TW := tw_in (tb_11 (List.mem_of_getElem? (i := 37) rfl)) (by decide +kernel)
theorem tw_2913 : (.code yX12_isWord cX12_isWord 1 (some (.boolean)) : Cond) ∈ TW := tw_in (tb_11 (List.mem_of_getElem? (i := 38) rfl)) (by decide +kernel)
theorem tw_2914 : (.methodLink "PatternWorkshopModel" 635 yX12_isBack : Cond) ∈ TW := tw_in (tb_11 (List.mem_of_getElem? (i := 39) rfl)) (by decide +kernel)
theorem tw_2916 : (.instanceMethod yX12_isBack : Cond) ∈ TW := tw_in (tb_11 (List.mem_of_getElem? (i := 41) rfl)) (by decide +kernel)
theorem tw_2917 : (.code yX12_isBack cX12_isBack 8 (some (.boolean)) : Cond) ∈ TW := tw_in (tb_11 (List.mem_of_getElem? (i := 42) rfl)) (by decide +kernel)
theorem tw_2918 : (.methodLink "PatternWorkshopModel" 620 yX12_choose : Cond) ∈ TW := tw_in (tb_11 (List.mem_of_getElem? (i := 43) rfl)) (by decide +kernel)
theorem tw_2920 : (.instanceMethod yX12_choose : Cond) ∈ TW := tw_in (tb_11 (List.mem_of_getElem? (i := 45) rfl)) (by decide +kernel)
theorem tw_2921 : (.code yX12_choose cX12_choose 4 none : Cond) ∈ TW := tw_in (tb_11 (List.mem_of_getElem? (i := 46) rfl)) (by decide +kernel)
theorem tw_2922 : (.methodLink "PatternWorkshopModel" 614 yX12_set : Cond) ∈ TW := tw_in (tb_11 (List.mem_of_getElem? (i := 47) rfl)) (by decide +kernel)
theorem tw_2924 : (.instanceMethod yX12_set : Cond) ∈ TW := tw_in (tb_11 (List.mem_of_getElem? (i := 49) rfl)) (by decide +kernel)
theorem tw_2925 : (.code yX12_set cX12_set 3 none : Cond) ∈ TW := tw_in (tb_11 (List.mem_of_getElem? (i := 50) rfl)) (by decide +kernel)
theorem tw_2926 : (.methodLink "PatternWorkshopModel" 638 yX12_testLoop : Cond) ∈ TW := tw_in (tb_11 (List.mem_of_getElem? (i := 51) rfl)) (by decide +kernel)
theorem tw_2928 : (.instanceMethod yX12_testLoop : Cond) ∈ TW := tw_in (tb_11 (List.mem_of_getElem? (i := 53) rfl)) (by decide +kernel)
theorem tw_2929 : (.code yX12_testLoop cX12_testLoop 6 none : Cond) ∈ TW := tw_in (tb_11 (List.mem_of_getElem? (i := 54) rfl)) (by decide +kernel)
theorem tw_2930 : (.methodLink "PatternWorkshopModel" 623 yX12_beginTurn : Cond) ∈ TW := tw_in (tb_11 (List.mem_of_getElem? (i := 55) rfl)) (by decide +kernel)
theorem tw_2932 : (.instanceMethod yX12_beginTurn : Cond) ∈ TW := tw_in (tb_11 (List.mem_of_getElem? (i := 57) rfl)) (by decide +kernel)
theorem tw_2933 : (.code yX12_beginTurn cX12_beginTurn 2 none : Cond) ∈ TW := tw_in (tb_11 (List.mem_of_getElem? (i := 58) rfl)) (by decide +kernel)
theorem tw_2934 : (.methodLink "PatternWorkshopModel" 641 yX12_beginLook : Cond) ∈ TW := tw_in (tb_11 (List.mem_of_getElem? (i := 59) rfl)) (by decide +kernel)
theorem tw_2936 : (.instanceMethod yX12_beginLook : Cond) ∈ TW := tw_in (tb_11 (List.mem_of_getElem? (i := 61) rfl)) (by decide +kernel)
theorem tw_2937 : (.code yX12_beginLook cX12_beginLook 4 none : Cond) ∈ TW := tw_in (tb_11 (List.mem_of_getElem? (i := 62) rfl)) (by decide +kernel)
theorem tw_2938 : (.methodLink "PatternWorkshopModel" 626 yX12_tryBehind : Cond) ∈ TW := tw_in (tb_11 (List.mem_of_getElem? (i := 63) rfl)) (by decide +kernel)
theorem tw_2940 : (.instanceMethod yX12_tryBehind : Cond) ∈ TW := tw_in (tb_11 (List.mem_of_getElem? (i := 65) rfl)) (by decide +kernel)
theorem tw_2941 : (.code yX12_tryBehind cX12_tryBehind 3 none : Cond) ∈ TW := tw_in (tb_11 (List.mem_of_getElem? (i := 66) rfl)) (by decide +kernel)
theorem tw_2942 : (.methodLink "PatternWorkshopModel" 650 yX12_goesBack : Cond) ∈ TW := tw_in (tb_11 (List.mem_of_getElem? (i := 67) rfl)) (by decide +kernel)
theorem tw_2944 : (.instanceMethod yX12_goesBack : Cond) ∈ TW := tw_in (tb_11 (List.mem_of_getElem? (i := 69) rfl)) (by decide +kernel)
theorem tw_2945 : (.code yX12_goesBack cX12_goesBack 1 (some (.boolean)) : Cond) ∈ TW := tw_in (tb_11 (List.mem_of_getElem? (i := 70) rfl)) (by decide +kernel)
theorem tw_2946 : (.methodLink "PatternWorkshopModel" 684 yX12_keepSpan : Cond) ∈ TW := tw_in (tb_11 (List.mem_of_getElem? (i := 71) rfl)) (by decide +kernel)
theorem tw_2948 : (.instanceMethod yX12_keepSpan : Cond) ∈ TW := tw_in (tb_11 (List.mem_of_getElem? (i := 73) rfl)) (by decide +kernel)
theorem tw_2949 : (.code yX12_keepSpan cX12_keepSpan 4 none : Cond) ∈ TW := tw_in (tb_11 (List.mem_of_getElem? (i := 74) rfl)) (by decide +kernel)
theorem tw_2953 : (.code yX12_goOn cX12_goOn 2 (some (.int)) : Cond) ∈ TW := tw_in (tb_11 (List.mem_of_getElem? (i := 78) rfl)) (by decide +kernel)
theorem tw_2957 : (.code yX12_span cX12_span 3 (some (.int)) : Cond) ∈ TW := tw_in (tb_11 (List.mem_of_getElem? (i := 82) rfl)) (by decide +kernel)
theorem tw_2961 : (.code yX12_named cX12_named 4 (some (.int)) : Cond) ∈ TW := tw_in (tb_11 (List.mem_of_getElem? (i := 86) rfl)) (by decide +kernel)
theorem tw_2965 : (.code yX12_whole cX12_whole 6 (some (.int)) : Cond) ∈ TW := tw_in (tb_11 (List.mem_of_getElem? (i := 90) rfl)) (by decide +kernel)
theorem tw_2969 : (.code yX12_all cX12_all 6 (some (.int)) : Cond) ∈ TW := tw_in (tb_11 (List.mem_of_getElem? (i := 94) rfl)) (by decide +kernel)
theorem tw_2970 : (.methodLink "PatternWorkshopModel" 699 yX12_findAll : Cond) ∈ TW := tw_in (tb_11 (List.mem_of_getElem? (i := 95) rfl)) (by decide +kernel)
theorem tw_2972 : (.instanceMethod yX12_findAll : Cond) ∈ TW := tw_in (tb_11 (List.mem_of_getElem? (i := 97) rfl)) (by decide +kernel)
theorem tw_2973 : (.code yX12_findAll cX12_findAll 7 (some (.int)) : Cond) ∈ TW := tw_in (tb_11 (List.mem_of_getElem? (i := 98) rfl)) (by decide +kernel)
theorem tw_2977 : (.code yX12_replace cX12_replace 9 (some (.int)) : Cond) ∈ TW := tw_in (tb_11 (List.mem_of_getElem? (i := 102) rfl)) (by decide +kernel)
theorem tw_2978 : (.methodLink "PatternWorkshopModel" 708 yX12_isReplacing : Cond) ∈ TW := tw_in (tb_11 (List.mem_of_getElem? (i := 103) rfl)) (by decide +kernel)
theorem tw_2980 : (.instanceMethod yX12_isReplacing : Cond) ∈ TW := tw_in (tb_11 (List.mem_of_getElem? (i := 105) rfl)) (by decide +kernel)
theorem tw_2981 : (.code yX12_isReplacing cX12_isReplacing 4 (some (.boolean)) : Cond) ∈ TW := tw_in (tb_11 (List.mem_of_getElem? (i := 106) rfl)) (by decide +kernel)
theorem tw_2982 : (.methodLink "PatternWorkshopModel" 711 yX12_makePart : Cond) ∈ TW := tw_in (tb_11 (List.mem_of_getElem? (i := 107) rfl)) (by decide +kernel)
theorem tw_2984 : (.instanceMethod yX12_makePart : Cond) ∈ TW := tw_in (tb_11 (List.mem_of_getElem? (i := 109) rfl)) (by decide +kernel)
theorem tw_2985 : (.code yX12_makePart cX12_makePart 5 none : Cond) ∈ TW := tw_in (tb_11 (List.mem_of_getElem? (i := 110) rfl)) (by decide +kernel)
theorem tw_2986 : (.methodLink "PatternWorkshopModel" 705 yX12_makeSign : Cond) ∈ TW := tw_in (tb_11 (List.mem_of_getElem? (i := 111) rfl)) (by decide +kernel)
theorem tw_2988 : (.instanceMethod yX12_makeSign : Cond) ∈ TW := tw_in (tb_11 (List.mem_of_getElem? (i := 113) rfl)) (by decide +kernel)
theorem tw_2989 : (.code yX12_makeSign cX12_makeSign 2 none : Cond) ∈ TW := tw_in (tb_11 (List.mem_of_getElem? (i := 114) rfl)) (by decide +kernel)
theorem tw_2993 : (.code yX12_first cX12_first 12 (some (.int)) : Cond) ∈ TW := tw_in (tb_11 (List.mem_of_getElem? (i := 118) rfl)) (by decide +kernel)
theorem tw_2997 : (.code yX12_steps cX12_steps 1 (some (.int)) : Cond) ∈ TW := tw_in (tb_11 (List.mem_of_getElem? (i := 122) rfl)) (by decide +kernel)
theorem tw_3001 : (.code yX12_table cX12_table 3 (some (.int)) : Cond) ∈ TW := tw_in (tb_11 (List.mem_of_getElem? (i := 126) rfl)) (by decide +kernel)
theorem tw_3002 : (.methodLink "PatternWorkshopModel" 730 yX12_tabled : Cond) ∈ TW := tw_in (tb_11 (List.mem_of_getElem? (i := 127) rfl)) (by decide +kernel)
theorem tw_3004 : (.instanceMethod yX12_tabled : Cond) ∈ TW := tw_in (tb_11 (List.mem_of_getElem? (i := 129) rfl)) (by decide +kernel)
theorem tw_3005 : (.code yX12_tabled cX12_tabled 3 (some (.int)) : Cond) ∈ TW := tw_in (tb_11 (List.mem_of_getElem? (i := 130) rfl)) (by decide +kernel)
theorem tw_3006 : (.methodLink "PatternWorkshopModel" 727 yX12_makeTable : Cond) ∈ TW := tw_in (tb_11 (List.mem_of_getElem? (i := 131) rfl)) (by decide +kernel)
theorem tw_3008 : (.instanceMethod yX12_makeTable : Cond) ∈ TW := tw_in (tb_11 (List.mem_of_getElem? (i := 133) rfl)) (by decide +kernel)
theorem tw_3009 : (.code yX12_makeTable cX12_makeTable 15 (some (.int)) : Cond) ∈ TW := tw_in (tb_11 (List.mem_of_getElem? (i := 134) rfl)) (by decide +kernel)
theorem tw_3010 : (.methodLink "PatternWorkshopModel" 724 yX12_reach : Cond) ∈ TW := tw_in (tb_11 (List.mem_of_getElem? (i := 135) rfl)) (by decide +kernel)
theorem tw_3012 : (.instanceMethod yX12_reach : Cond) ∈ TW := tw_in (tb_11 (List.mem_of_getElem? (i := 137) rfl)) (by decide +kernel)
theorem tw_3013 : (.code yX12_reach cX12_reach 4 none : Cond) ∈ TW := tw_in (tb_11 (List.mem_of_getElem? (i := 138) rfl)) (by decide +kernel)
theorem tw_3017 : (.code yX12_least cX12_least 7 (some (.int)) : Cond) ∈ TW := tw_in (tb_11 (List.mem_of_getElem? (i := 142) rfl)) (by decide +kernel)
theorem tw_3018 : (.methodLink "PatternWorkshopModel" 733 yX12_isAlike : Cond) ∈ TW := tw_in (tb_11 (List.mem_of_getElem? (i := 143) rfl)) (by decide +kernel)
theorem tw_3020 : (.instanceMethod yX12_isAlike : Cond) ∈ TW := tw_in (tb_11 (List.mem_of_getElem? (i := 145) rfl)) (by decide +kernel)
theorem tw_3021 : (.code yX12_isAlike cX12_isAlike 5 (some (.boolean)) : Cond) ∈ TW := tw_in (tb_11 (List.mem_of_getElem? (i := 146) rfl)) (by decide +kernel)
theorem tw_3025 : (.code yX12_prefix cX12_prefix 8 (some (.int)) : Cond) ∈ TW := tw_in (tb_11 (List.mem_of_getElem? (i := 150) rfl)) (by decide +kernel)
theorem tw_3026 : (.methodLink "PatternWorkshopModel" 736 yX12_findLive : Cond) ∈ TW := tw_in (tb_11 (List.mem_of_getElem? (i := 151) rfl)) (by decide +kernel)
theorem tw_3028 : (.instanceMethod yX12_findLive : Cond) ∈ TW := tw_in (tb_11 (List.mem_of_getElem? (i := 153) rfl)) (by decide +kernel)
theorem tw_3029 : (.code yX12_findLive cX12_findLive 4 none : Cond) ∈ TW := tw_in (tb_11 (List.mem_of_getElem? (i := 154) rfl)) (by decide +kernel)
theorem tw_3033 : (.code yX12_compare cX12_compare 7 (some (.int)) : Cond) ∈ TW := tw_in (tb_11 (List.mem_of_getElem? (i := 158) rfl)) (by decide +kernel)
theorem tw_3034 : (.methodLink "PatternWorkshopModel" 752 yX12_bothBars : Cond) ∈ TW := tw_in (tb_11 (List.mem_of_getElem? (i := 159) rfl)) (by decide +kernel)
theorem tw_3036 : (.instanceMethod yX12_bothBars : Cond) ∈ TW := tw_in (tb_11 (List.mem_of_getElem? (i := 161) rfl)) (by decide +kernel)
theorem tw_3037 : (.code yX12_bothBars cX12_bothBars 4 (some (.int)) : Cond) ∈ TW := tw_in (tb_11 (List.mem_of_getElem? (i := 162) rfl)) (by decide +kernel)
theorem tw_3038 : (.methodLink "PatternWorkshopModel" 739 yX12_findSorts : Cond) ∈ TW := tw_in (tb_11 (List.mem_of_getElem? (i := 163) rfl)) (by decide +kernel)
theorem tw_3040 : (.instanceMethod yX12_findSorts : Cond) ∈ TW := tw_in (tb_11 (List.mem_of_getElem? (i := 165) rfl)) (by decide +kernel)
theorem tw_3041 : (.code yX12_findSorts cX12_findSorts 5 none : Cond) ∈ TW := tw_in (tb_11 (List.mem_of_getElem? (i := 166) rfl)) (by decide +kernel)
theorem tw_3042 : (.methodLink "PatternWorkshopModel" 755 yX12_findPairs : Cond) ∈ TW := tw_in (tb_11 (List.mem_of_getElem? (i := 167) rfl)) (by decide +kernel)
theorem tw_3044 : (.instanceMethod yX12_findPairs : Cond) ∈ TW := tw_in (tb_11 (List.mem_of_getElem? (i := 169) rfl)) (by decide +kernel)
theorem tw_3045 : (.code yX12_findPairs cX12_findPairs 3 none : Cond) ∈ TW := tw_in (tb_11 (List.mem_of_getElem? (i := 170) rfl)) (by decide +kernel)
theorem tw_3046 : (.methodLink "PatternWorkshopModel" 748 yX12_meet : Cond) ∈ TW := tw_in (tb_11 (List.mem_of_getElem? (i := 171) rfl)) (by decide +kernel)
theorem tw_3048 : (.instanceMethod yX12_meet : Cond) ∈ TW := tw_in (tb_11 (List.mem_of_getElem? (i := 173) rfl)) (by decide +kernel)
theorem tw_3049 : (.code yX12_meet cX12_meet 5 none : Cond) ∈ TW := tw_in (tb_11 (List.mem_of_getElem? (i := 174) rfl)) (by decide +kernel)
theorem tw_3050 : (.methodLink "PatternWorkshopModel" 758 yX12_isParted : Cond) ∈ TW := tw_in (tb_11 (List.mem_of_getElem? (i := 175) rfl)) (by decide +kernel)
theorem tw_3052 : (.instanceMethod yX12_isParted : Cond) ∈ TW := tw_in (tb_11 (List.mem_of_getElem? (i := 177) rfl)) (by decide +kernel)
theorem tw_3053 : (.code yX12_isParted cX12_isParted 2 (some (.boolean)) : Cond) ∈ TW := tw_in (tb_11 (List.mem_of_getElem? (i := 178) rfl)) (by decide +kernel)
theorem tw_3057 : (.code yX12_parting cX12_parting 7 (some (.int)) : Cond) ∈ TW := tw_in (tb_11 (List.mem_of_getElem? (i := 182) rfl)) (by decide +kernel)
theorem tw_3061 : (.code yX12_out cX12_out 2 (some (.int)) : Cond) ∈ TW := tw_in (tb_11 (List.mem_of_getElem? (i := 186) rfl)) (by decide +kernel)
theorem tw_3065 : (.code yX12_finding cX12_finding 1 (some (.int)) : Cond) ∈ TW := tw_in (tb_11 (List.mem_of_getElem? (i := 190) rfl)) (by decide +kernel)
theorem tw_3069 : (.code yX12_told cX12_told 5 (some (.int)) : Cond) ∈ TW := tw_in (tb_11 (List.mem_of_getElem? (i := 194) rfl)) (by decide +kernel)
theorem tw_3073 : (.code yX12_clear cX12_clear 3 (some (.int)) : Cond) ∈ TW := tw_in (tb_11 (List.mem_of_getElem? (i := 198) rfl)) (by decide +kernel)
theorem gw_X12_addNode : GoodIn TW (WS yX12_addNode cX12_addNode 2 none) := goodC tw_2640
theorem gw_X12_addPart : GoodIn TW (WS yX12_addPart cX12_addPart 3 none) := goodC tw_2660
theorem gw_X12_all : GoodIn TW (WS yX12_all cX12_all 6 (some (.int))) := goodC tw_2969
theorem gw_X12_bars : GoodIn TW (WS yX12_bars cX12_bars 4 (some (.int))) := goodC tw_2837
theorem gw_X12_beginGroup : GoodIn TW (WS yX12_beginGroup cX12_beginGroup 3 none) := goodC tw_2589
theorem gw_X12_beginLook : GoodIn TW (WS yX12_beginLook cX12_beginLook 4 none) := goodC tw_2937
theorem gw_X12_beginRow : GoodIn TW (WS yX12_beginRow cX12_beginRow 1 none) := goodC tw_2593
theorem gw_X12_beginTurn : GoodIn TW (WS yX12_beginTurn cX12_beginTurn 2 none) := goodC tw_2933
theorem gw_X12_begins : GoodIn TW (WS yX12_begins cX12_begins 3 (some (.int))) := goodC tw_2775
theorem gw_X12_bothBars : GoodIn TW (WS yX12_bothBars cX12_bothBars 4 (some (.int))) := goodC tw_3037
theorem gw_X12_capped : GoodIn TW (WS yX12_capped cX12_capped 1 (some (.int))) := goodC tw_2697
theorem gw_X12_captureOf : GoodIn TW (WS yX12_captureOf cX12_captureOf 3 (some (.int))) := goodC tw_2648
theorem gw_X12_choose : GoodIn TW (WS yX12_choose cX12_choose 4 none) := goodC tw_2921
theorem gw_X12_clear : GoodIn TW (WS yX12_clear cX12_clear 3 (some (.int))) := goodC tw_3073
theorem gw_X12_closeChoice : GoodIn TW (WS yX12_closeChoice cX12_closeChoice 2 (some (.int))) := goodC tw_2617
theorem gw_X12_closeGroup : GoodIn TW (WS yX12_closeGroup cX12_closeGroup 4 none) := goodC tw_2609
theorem gw_X12_closeRow : GoodIn TW (WS yX12_closeRow cX12_closeRow 2 none) := goodC tw_2601
theorem gw_X12_compare : GoodIn TW (WS yX12_compare cX12_compare 7 (some (.int))) := goodC tw_3033
theorem gw_X12_compile : GoodIn TW (WS yX12_compile cX12_compile 5 none) := goodC tw_2853
theorem gw_X12_compileChoice : GoodIn TW (WS yX12_compileChoice cX12_compileChoice 5 none) := goodC tw_2865
theorem gw_X12_compileCopies : GoodIn TW (WS yX12_compileCopies cX12_compileCopies 6 none) := goodC tw_2873
theorem gw_X12_compileLook : GoodIn TW (WS yX12_compileLook cX12_compileLook 5 none) := goodC tw_2881
theorem gw_X12_compileLoop : GoodIn TW (WS yX12_compileLoop cX12_compileLoop 6 none) := goodC tw_2877
theorem gw_X12_compileNode : GoodIn TW (WS yX12_compileNode cX12_compileNode 8 none) := goodC tw_2861
theorem gw_X12_countItem : GoodIn TW (WS yX12_countItem cX12_countItem 2 none) := goodC tw_2629
theorem gw_X12_dead : GoodIn TW (WS yX12_dead cX12_dead 9 (some (.int))) := goodC tw_2767
theorem gw_X12_drop : GoodIn TW (WS yX12_drop cX12_drop 3 (some (.int))) := goodC tw_2817
theorem gw_X12_escaped : GoodIn TW (WS yX12_escaped cX12_escaped 6 (some (.int))) := goodC tw_2656
theorem gw_X12_fail : GoodIn TW (WS yX12_fail cX12_fail 3 none) := goodC tw_2613
theorem gw_X12_feed : GoodIn TW (WS yX12_feed cX12_feed 6 (some (.int))) := goodC tw_2573
theorem gw_X12_find : GoodIn TW (WS yX12_find cX12_find 8 (some (.int))) := goodC tw_2829
theorem gw_X12_findAll : GoodIn TW (WS yX12_findAll cX12_findAll 7 (some (.int))) := goodC tw_2973
theorem gw_X12_findBegun : GoodIn TW (WS yX12_findBegun cX12_findBegun 10 none) := goodC tw_2780
theorem gw_X12_findBounds : GoodIn TW (WS yX12_findBounds cX12_findBounds 2 none) := goodC tw_2803
theorem gw_X12_findLive : GoodIn TW (WS yX12_findLive cX12_findLive 4 none) := goodC tw_3029
theorem gw_X12_findPairs : GoodIn TW (WS yX12_findPairs cX12_findPairs 3 none) := goodC tw_3045
theorem gw_X12_findSorts : GoodIn TW (WS yX12_findSorts cX12_findSorts 5 none) := goodC tw_3041
theorem gw_X12_finding : GoodIn TW (WS yX12_finding cX12_finding 1 (some (.int))) := goodC tw_3065
theorem gw_X12_first : GoodIn TW (WS yX12_first cX12_first 12 (some (.int))) := goodC tw_2993
theorem gw_X12_forget : GoodIn TW (WS yX12_forget cX12_forget 2 (some (.int))) := goodC tw_2705
theorem gw_X12_goOn : GoodIn TW (WS yX12_goOn cX12_goOn 2 (some (.int))) := goodC tw_2953
theorem gw_X12_goes : GoodIn TW (WS yX12_goes cX12_goes 3 (some (.int))) := goodC tw_2849
theorem gw_X12_goesBack : GoodIn TW (WS yX12_goesBack cX12_goesBack 1 (some (.boolean))) := goodC tw_2945
theorem gw_X12_hexes : GoodIn TW (WS yX12_hexes cX12_hexes 5 (some (.int))) := goodC tw_2672
theorem gw_X12_holding : GoodIn TW (WS yX12_holding cX12_holding 5 (some (.int))) := goodC tw_2621
theorem gw_X12_in : GoodIn TW (WS yX12_in cX12_in 3 (some (.boolean))) := goodC tw_2576
theorem gw_X12_isAlike : GoodIn TW (WS yX12_isAlike cX12_isAlike 5 (some (.boolean))) := goodC tw_3021
theorem gw_X12_isBack : GoodIn TW (WS yX12_isBack cX12_isBack 8 (some (.boolean))) := goodC tw_2917
theorem gw_X12_isDigit : GoodIn TW (WS yX12_isDigit cX12_isDigit 1 (some (.boolean))) := goodC tw_2636
theorem gw_X12_isDone : GoodIn TW (WS yX12_isDone cX12_isDone 5 (some (.boolean))) := goodC tw_2894
theorem gw_X12_isEdge : GoodIn TW (WS yX12_isEdge cX12_isEdge 3 (some (.boolean))) := goodC tw_2906
theorem gw_X12_isEndless : GoodIn TW (WS yX12_isEndless cX12_isEndless 2 (some (.boolean))) := goodC tw_2808
theorem gw_X12_isHex : GoodIn TW (WS yX12_isHex cX12_isHex 1 (some (.boolean))) := goodC tw_2675
theorem gw_X12_isInParts : GoodIn TW (WS yX12_isInParts cX12_isInParts 5 (some (.boolean))) := goodC tw_2791
theorem gw_X12_isLetter : GoodIn TW (WS yX12_isLetter cX12_isLetter 1 (some (.boolean))) := goodC tw_2678
theorem gw_X12_isMark : GoodIn TW (WS yX12_isMark cX12_isMark 1 (some (.boolean))) := goodC tw_2744
theorem gw_X12_isParted : GoodIn TW (WS yX12_isParted cX12_isParted 2 (some (.boolean))) := goodC tw_3053
theorem gw_X12_isPlain : GoodIn TW (WS yX12_isPlain cX12_isPlain 1 (some (.boolean))) := goodC tw_2751
theorem gw_X12_isReplacing : GoodIn TW (WS yX12_isReplacing cX12_isReplacing 4 (some (.boolean))) := goodC tw_2981
theorem gw_X12_isSamePrint : GoodIn TW (WS yX12_isSamePrint cX12_isSamePrint 7 (some (.boolean))) := goodC tw_2771
theorem gw_X12_isStep : GoodIn TW (WS yX12_isStep cX12_isStep 1 (some (.boolean))) := goodC tw_2898
theorem gw_X12_isWord : GoodIn TW (WS yX12_isWord cX12_isWord 1 (some (.boolean))) := goodC tw_2913
theorem gw_X12_isWordAt : GoodIn TW (WS yX12_isWordAt cX12_isWordAt 2 (some (.boolean))) := goodC tw_2910
theorem gw_X12_isWrapped : GoodIn TW (WS yX12_isWrapped cX12_isWrapped 6 (some (.boolean))) := goodC tw_2737
theorem gw_X12_joinParts : GoodIn TW (WS yX12_joinParts cX12_joinParts 6 none) := goodC tw_2668
theorem gw_X12_keepPattern : GoodIn TW (WS yX12_keepPattern cX12_keepPattern 9 none) := goodC tw_2690
theorem gw_X12_keepSpan : GoodIn TW (WS yX12_keepSpan cX12_keepSpan 4 none) := goodC tw_2949
theorem gw_X12_kindBars : GoodIn TW (WS yX12_kindBars cX12_kindBars 8 (some (.int))) := goodC tw_2841
theorem gw_X12_later : GoodIn TW (WS yX12_later cX12_later 4 none) := goodC tw_2857
theorem gw_X12_least : GoodIn TW (WS yX12_least cX12_least 7 (some (.int))) := goodC tw_3017
theorem gw_X12_looped : GoodIn TW (WS yX12_looped cX12_looped 5 (some (.int))) := goodC tw_2625
theorem gw_X12_made : GoodIn TW (WS yX12_made cX12_made 4 (some (.int))) := goodC tw_2605
theorem gw_X12_makePart : GoodIn TW (WS yX12_makePart cX12_makePart 5 none) := goodC tw_2985
theorem gw_X12_makeSign : GoodIn TW (WS yX12_makeSign cX12_makeSign 2 none) := goodC tw_2989
theorem gw_X12_makeTable : GoodIn TW (WS yX12_makeTable cX12_makeTable 15 (some (.int))) := goodC tw_3009
theorem gw_X12_markBounds : GoodIn TW (WS yX12_markBounds cX12_markBounds 6 none) := goodC tw_2799
theorem gw_X12_measure : GoodIn TW (WS yX12_measure cX12_measure 11 none) := goodC tw_2694
theorem gw_X12_meet : GoodIn TW (WS yX12_meet cX12_meet 5 none) := goodC tw_3049
theorem gw_X12_member : GoodIn TW (WS yX12_member cX12_member 4 none) := goodC tw_2686
theorem gw_X12_named : GoodIn TW (WS yX12_named cX12_named 4 (some (.int))) := goodC tw_2961
theorem gw_X12_newLabel : GoodIn TW (WS yX12_newLabel cX12_newLabel 1 (some (.int))) := goodC tw_2869
theorem gw_X12_node : GoodIn TW (WS yX12_node cX12_node 6 (some (.int))) := goodC tw_2713
theorem gw_X12_numberFrom : GoodIn TW (WS yX12_numberFrom cX12_numberFrom 5 (some (.int))) := goodC tw_2633
theorem gw_X12_openGroup : GoodIn TW (WS yX12_openGroup cX12_openGroup 4 none) := goodC tw_2644
theorem gw_X12_otherCase : GoodIn TW (WS yX12_otherCase cX12_otherCase 1 (some (.int))) := goodC tw_2787
theorem gw_X12_otherSort : GoodIn TW (WS yX12_otherSort cX12_otherSort 1 (some (.int))) := goodC tw_2717
theorem gw_X12_out : GoodIn TW (WS yX12_out cX12_out 2 (some (.int))) := goodC tw_3061
theorem gw_X12_part : GoodIn TW (WS yX12_part cX12_part 6 (some (.int))) := goodC tw_2721
theorem gw_X12_parting : GoodIn TW (WS yX12_parting cX12_parting 7 (some (.int))) := goodC tw_3057
theorem gw_X12_pattern : GoodIn TW (WS yX12_pattern cX12_pattern 3 (some (.int))) := goodC tw_2581
theorem gw_X12_place : GoodIn TW (WS yX12_place cX12_place 1 (some (.int))) := goodC tw_2701
theorem gw_X12_prefix : GoodIn TW (WS yX12_prefix cX12_prefix 8 (some (.int))) := goodC tw_3025
theorem gw_X12_print : GoodIn TW (WS yX12_print cX12_print 3 (some (.int))) := goodC tw_2725
theorem gw_X12_printFrom : GoodIn TW (WS yX12_printFrom cX12_printFrom 7 none) := goodC tw_2729
theorem gw_X12_printHead : GoodIn TW (WS yX12_printHead cX12_printHead 6 none) := goodC tw_2733
theorem gw_X12_printTail : GoodIn TW (WS yX12_printTail cX12_printTail 6 none) := goodC tw_2759
theorem gw_X12_put : GoodIn TW (WS yX12_put cX12_put 2 none) := goodC tw_2741
theorem gw_X12_putHex : GoodIn TW (WS yX12_putHex cX12_putHex 4 none) := goodC tw_2748
theorem gw_X12_putMember : GoodIn TW (WS yX12_putMember cX12_putMember 2 none) := goodC tw_2755
theorem gw_X12_putNumber : GoodIn TW (WS yX12_putNumber cX12_putNumber 2 none) := goodC tw_2763
theorem gw_X12_put_ : GoodIn TW (WS yX12_put_ cX12_put_ 7 (some (.int))) := goodC tw_2812
theorem gw_X12_reach : GoodIn TW (WS yX12_reach cX12_reach 4 none) := goodC tw_3013
theorem gw_X12_readAll : GoodIn TW (WS yX12_readAll cX12_readAll 2 (some (.int))) := goodC tw_2585
theorem gw_X12_readOne : GoodIn TW (WS yX12_readOne cX12_readOne 3 none) := goodC tw_2652
theorem gw_X12_readSet : GoodIn TW (WS yX12_readSet cX12_readSet 8 (some (.int))) := goodC tw_2682
theorem gw_X12_replace : GoodIn TW (WS yX12_replace cX12_replace 9 (some (.int))) := goodC tw_2977
theorem gw_X12_risky : GoodIn TW (WS yX12_risky cX12_risky 7 (some (.int))) := goodC tw_2795
theorem gw_X12_searched : GoodIn TW (WS yX12_searched cX12_searched 10 (some (.int))) := goodC tw_2885
theorem gw_X12_set : GoodIn TW (WS yX12_set cX12_set 3 none) := goodC tw_2925
theorem gw_X12_setNode : GoodIn TW (WS yX12_setNode cX12_setNode 4 (some (.int))) := goodC tw_2664
theorem gw_X12_sign : GoodIn TW (WS yX12_sign cX12_sign 3 (some (.char))) := goodC tw_2825
theorem gw_X12_signAt : GoodIn TW (WS yX12_signAt cX12_signAt 2 (some (.int))) := goodC tw_2597
theorem gw_X12_signOf : GoodIn TW (WS yX12_signOf cX12_signOf 2 (some (.int))) := goodC tw_2902
theorem gw_X12_sizeBars : GoodIn TW (WS yX12_sizeBars cX12_sizeBars 4 (some (.int))) := goodC tw_2845
theorem gw_X12_span : GoodIn TW (WS yX12_span cX12_span 3 (some (.int))) := goodC tw_2957
theorem gw_X12_steps : GoodIn TW (WS yX12_steps cX12_steps 1 (some (.int))) := goodC tw_2997
theorem gw_X12_table : GoodIn TW (WS yX12_table cX12_table 3 (some (.int))) := goodC tw_3001
theorem gw_X12_tabled : GoodIn TW (WS yX12_tabled cX12_tabled 3 (some (.int))) := goodC tw_3005
theorem gw_X12_takes : GoodIn TW (WS yX12_takes cX12_takes 4 (some (.boolean))) := goodC tw_2784
theorem gw_X12_testLoop : GoodIn TW (WS yX12_testLoop cX12_testLoop 6 none) := goodC tw_2929
theorem gw_X12_told : GoodIn TW (WS yX12_told cX12_told 5 (some (.int))) := goodC tw_3069
theorem gw_X12_tried : GoodIn TW (WS yX12_tried cX12_tried 6 (some (.int))) := goodC tw_2890
theorem gw_X12_tryBehind : GoodIn TW (WS yX12_tryBehind cX12_tryBehind 3 none) := goodC tw_2941
theorem gw_X12_whole : GoodIn TW (WS yX12_whole cX12_whole 6 (some (.int))) := goodC tw_2965
theorem gw_X12_wrongBoth : GoodIn TW (WS yX12_wrongBoth cX12_wrongBoth 4 (some (.int))) := goodC tw_2833
theorem gw_X12_wrongSlot : GoodIn TW (WS yX12_wrongSlot cX12_wrongSlot 2 (some (.int))) := goodC tw_2709
theorem gw_X12_wrongSubject : GoodIn TW (WS yX12_wrongSubject cX12_wrongSubject 2 (some (.int))) := goodC tw_2821
theorem dX12_addNode_0 : decode cX12_addNode 0 = .ok (.aload_n 0, 1) := by decide +kernel
theorem dX12_addNode_1 : decode cX12_addNode 1 = .ok (.getfield 131, 3) := by decide +kernel
theorem dX12_addNode_4 : decode cX12_addNode 4 = .ok (.aload_n 0, 1) := by decide +kernel
theorem dX12_addNode_5 : decode cX12_addNode 5 = .ok (.getfield 329, 3) := by decide +kernel
theorem dX12_addNode_8 : decode cX12_addNode 8 = .ok (.iaload, 1) := by decide +kernel
theorem dX12_addNode_9 : decode cX12_addNode 9 = .ok (.ifCond .ne 16, 3) := by decide +kernel
theorem dX12_addNode_12 : decode cX12_addNode 12 = .ok (.aload_n 0, 1) := by decide +kernel
theorem dX12_addNode_13 : decode cX12_addNode 13 = .ok (.getfield 125, 3) := by decide +kernel
theorem dX12_addNode_16 : decode cX12_addNode 16 = .ok (.aload_n 0, 1) := by decide +kernel
theorem dX12_addNode_17 : decode cX12_addNode 17 = .ok (.getfield 329, 3) := by decide +kernel
theorem dX12_addNode_20 : decode cX12_addNode 20 = .ok (.iload_n 1, 1) := by decide +kernel
theorem dX12_addNode_21 : decode cX12_addNode 21 = .ok (.iastore, 1) := by decide +kernel
theorem dX12_addNode_22 : decode cX12_addNode 22 = .ok (.goto 18, 3) := by decide +kernel
theorem dX12_addNode_25 : decode cX12_addNode 25 = .ok (.aload_n 0, 1) := by decide +kernel
theorem dX12_addNode_26 : decode cX12_addNode 26 = .ok (.getfield 101, 3) := by decide +kernel
theorem dX12_addNode_29 : decode cX12_addNode 29 = .ok (.aload_n 0, 1) := by decide +kernel
theorem dX12_addNode_30 : decode cX12_addNode 30 = .ok (.getfield 128, 3) := by decide +kernel
theorem dX12_addNode_33 : decode cX12_addNode 33 = .ok (.aload_n 0, 1) := by decide +kernel
theorem dX12_addNode_34 : decode cX12_addNode 34 = .ok (.getfield 329, 3) := by decide +kernel
theorem dX12_addNode_37 : decode cX12_addNode 37 = .ok (.iaload, 1) := by decide +kernel
theorem dX12_addNode_38 : decode cX12_addNode 38 = .ok (.iload_n 1, 1) := by decide +kernel
theorem dX12_addNode_39 : decode cX12_addNode 39 = .ok (.iastore, 1) := by decide +kernel
theorem dX12_addNode_40 : decode cX12_addNode 40 = .ok (.aload_n 0, 1) := by decide +kernel
theorem dX12_addNode_41 : decode cX12_addNode 41 = .ok (.getfield 128, 3) := by decide +kernel
theorem dX12_addNode_44 : decode cX12_addNode 44 = .ok (.aload_n 0, 1) := by decide +kernel
theorem dX12_addNode_45 : decode cX12_addNode 45 = .ok (.getfield 329, 3) := by decide +kernel
theorem dX12_addNode_48 : decode cX12_addNode 48 = .ok (.iload_n 1, 1) := by decide +kernel
theorem dX12_addNode_49 : decode cX12_addNode 49 = .ok (.iastore, 1) := by decide +kernel
theorem dX12_addNode_50 : decode cX12_addNode 50 = .ok (.aload_n 0, 1) := by decide +kernel
theorem dX12_addNode_51 : decode cX12_addNode 51 = .ok (.getfield 131, 3) := by decide +kernel
theorem dX12_addNode_54 : decode cX12_addNode 54 = .ok (.aload_n 0, 1) := by decide +kernel
theorem dX12_addNode_55 : decode cX12_addNode 55 = .ok (.getfield 329, 3) := by decide +kernel
theorem dX12_addNode_58 : decode cX12_addNode 58 = .ok (.dup2, 1) := by decide +kernel
theorem dX12_addNode_59 : decode cX12_addNode 59 = .ok (.iaload, 1) := by decide +kernel
theorem dX12_addNode_60 : decode cX12_addNode 60 = .ok (.iconst 1, 1) := by decide +kernel
theorem dX12_addNode_61 : decode cX12_addNode 61 = .ok (.iadd, 1) := by decide +kernel
theorem dX12_addNode_62 : decode cX12_addNode 62 = .ok (.iastore, 1) := by decide +kernel
theorem dX12_addNode_63 : decode cX12_addNode 63 = .ok (.return_, 1) := by decide +kernel
theorem dX12_addPart_0 : decode cX12_addPart 0 = .ok (.aload_n 0, 1) := by decide +kernel
theorem dX12_addPart_1 : decode cX12_addPart 1 = .ok (.getfield 110, 3) := by decide +kernel
theorem dX12_addPart_4 : decode cX12_addPart 4 = .ok (.aload_n 0, 1) := by decide +kernel
theorem dX12_addPart_5 : decode cX12_addPart 5 = .ok (.getfield 396, 3) := by decide +kernel
theorem dX12_addPart_8 : decode cX12_addPart 8 = .ok (.iload_n 1, 1) := by decide +kernel
theorem dX12_addPart_9 : decode cX12_addPart 9 = .ok (.iastore, 1) := by decide +kernel
theorem dX12_addPart_10 : decode cX12_addPart 10 = .ok (.aload_n 0, 1) := by decide +kernel
theorem dX12_addPart_11 : decode cX12_addPart 11 = .ok (.getfield 113, 3) := by decide +kernel
theorem dX12_addPart_14 : decode cX12_addPart 14 = .ok (.aload_n 0, 1) := by decide +kernel
theorem dX12_addPart_15 : decode cX12_addPart 15 = .ok (.getfield 396, 3) := by decide +kernel
theorem dX12_addPart_18 : decode cX12_addPart 18 = .ok (.iload_n 2, 1) := by decide +kernel
theorem dX12_addPart_19 : decode cX12_addPart 19 = .ok (.iastore, 1) := by decide +kernel
theorem dX12_addPart_20 : decode cX12_addPart 20 = .ok (.aload_n 0, 1) := by decide +kernel
theorem dX12_addPart_21 : decode cX12_addPart 21 = .ok (.dup, 1) := by decide +kernel
theorem dX12_addPart_22 : decode cX12_addPart 22 = .ok (.getfield 396, 3) := by decide +kernel
theorem dX12_addPart_25 : decode cX12_addPart 25 = .ok (.iconst 1, 1) := by decide +kernel
theorem dX12_addPart_26 : decode cX12_addPart 26 = .ok (.iadd, 1) := by decide +kernel
theorem dX12_addPart_27 : decode cX12_addPart 27 = .ok (.putfield 396, 3) := by decide +kernel
theorem dX12_addPart_30 : decode cX12_addPart 30 = .ok (.return_, 1) := by decide +kernel
theorem dX12_all_0 : decode cX12_all 0 = .ok (.aload_n 0, 1) := by decide +kernel
theorem dX12_all_1 : decode cX12_all 1 = .ok (.iconst 0, 1) := by decide +kernel
theorem dX12_all_2 : decode cX12_all 2 = .ok (.putfield 1, 3) := by decide +kernel
theorem dX12_all_5 : decode cX12_all 5 = .ok (.aload_n 0, 1) := by decide +kernel
theorem dX12_all_6 : decode cX12_all 6 = .ok (.iload_n 1, 1) := by decide +kernel
theorem dX12_all_7 : decode cX12_all 7 = .ok (.iload_n 2, 1) := by decide +kernel
theorem dX12_all_8 : decode cX12_all 8 = .ok (.invokevirtual 687, 3) := by decide +kernel
theorem dX12_all_11 : decode cX12_all 11 = .ok (.istore 4, 2) := by decide +kernel
theorem dX12_all_13 : decode cX12_all 13 = .ok (.iload 4, 2) := by decide +kernel
theorem dX12_all_15 : decode cX12_all 15 = .ok (.ifCond .ne 17, 3) := by decide +kernel
theorem dX12_all_18 : decode cX12_all 18 = .ok (.iload_n 3, 1) := by decide +kernel
theorem dX12_all_19 : decode cX12_all 19 = .ok (.iconst 0, 1) := by decide +kernel
theorem dX12_all_20 : decode cX12_all 20 = .ok (.iconst 2, 1) := by decide +kernel
theorem dX12_all_21 : decode cX12_all 21 = .ok (.invokestatic 7, 3) := by decide +kernel
theorem dX12_all_24 : decode cX12_all 24 = .ok (.ifCond .ne 8, 3) := by decide +kernel
theorem dX12_all_27 : decode cX12_all 27 = .ok (.bipush (-4), 2) := by decide +kernel
theorem dX12_all_29 : decode cX12_all 29 = .ok (.goto 5, 3) := by decide +kernel
theorem dX12_all_32 : decode cX12_all 32 = .ok (.iload 4, 2) := by decide +kernel
theorem dX12_all_34 : decode cX12_all 34 = .ok (.istore 4, 2) := by decide +kernel
theorem dX12_all_36 : decode cX12_all 36 = .ok (.iload 4, 2) := by decide +kernel
theorem dX12_all_38 : decode cX12_all 38 = .ok (.ifCond .ne 12, 3) := by decide +kernel
theorem dX12_all_41 : decode cX12_all 41 = .ok (.aload_n 0, 1) := by decide +kernel
theorem dX12_all_42 : decode cX12_all 42 = .ok (.iload_n 1, 1) := by decide +kernel
theorem dX12_all_43 : decode cX12_all 43 = .ok (.iload_n 3, 1) := by decide +kernel
theorem dX12_all_44 : decode cX12_all 44 = .ok (.invokevirtual 690, 3) := by decide +kernel
theorem dX12_all_47 : decode cX12_all 47 = .ok (.goto 5, 3) := by decide +kernel
theorem dX12_all_50 : decode cX12_all 50 = .ok (.iload 4, 2) := by decide +kernel
theorem dX12_all_52 : decode cX12_all 52 = .ok (.istore 4, 2) := by decide +kernel
theorem dX12_all_54 : decode cX12_all 54 = .ok (.iload 4, 2) := by decide +kernel
theorem dX12_all_56 : decode cX12_all 56 = .ok (.ifCond .ne 13, 3) := by decide +kernel
theorem dX12_all_59 : decode cX12_all 59 = .ok (.aload_n 0, 1) := by decide +kernel
theorem dX12_all_60 : decode cX12_all 60 = .ok (.iload_n 1, 1) := by decide +kernel
theorem dX12_all_61 : decode cX12_all 61 = .ok (.iload_n 2, 1) := by decide +kernel
theorem dX12_all_62 : decode cX12_all 62 = .ok (.iload_n 3, 1) := by decide +kernel
theorem dX12_all_63 : decode cX12_all 63 = .ok (.invokevirtual 699, 3) := by decide +kernel
theorem dX12_all_66 : decode cX12_all 66 = .ok (.goto 5, 3) := by decide +kernel
theorem dX12_all_69 : decode cX12_all 69 = .ok (.iload 4, 2) := by decide +kernel
theorem dX12_all_71 : decode cX12_all 71 = .ok (.istore 4, 2) := by decide +kernel
theorem dX12_all_73 : decode cX12_all 73 = .ok (.iload 4, 2) := by decide +kernel
theorem dX12_all_75 : decode cX12_all 75 = .ok (.ifCond .eq 6, 3) := by decide +kernel
theorem dX12_all_78 : decode cX12_all 78 = .ok (.iload 4, 2) := by decide +kernel
theorem dX12_all_80 : decode cX12_all 80 = .ok (.ireturn, 1) := by decide +kernel
theorem dX12_all_81 : decode cX12_all 81 = .ok (.aload_n 0, 1) := by decide +kernel
theorem dX12_all_82 : decode cX12_all 82 = .ok (.iconst 2, 1) := by decide +kernel
theorem dX12_all_83 : decode cX12_all 83 = .ok (.aload_n 0, 1) := by decide +kernel
theorem dX12_all_84 : decode cX12_all 84 = .ok (.getfield 696, 3) := by decide +kernel
theorem dX12_all_87 : decode cX12_all 87 = .ok (.imul, 1) := by decide +kernel
theorem dX12_all_88 : decode cX12_all 88 = .ok (.putfield 502, 3) := by decide +kernel
theorem dX12_all_91 : decode cX12_all 91 = .ok (.aload_n 0, 1) := by decide +kernel
theorem dX12_all_92 : decode cX12_all 92 = .ok (.iconst 1, 1) := by decide +kernel
theorem dX12_all_93 : decode cX12_all 93 = .ok (.putfield 505, 3) := by decide +kernel
theorem dX12_all_96 : decode cX12_all 96 = .ok (.iconst 0, 1) := by decide +kernel
theorem dX12_all_97 : decode cX12_all 97 = .ok (.istore 5, 2) := by decide +kernel
theorem dX12_all_99 : decode cX12_all 99 = .ok (.iload 5, 2) := by decide +kernel
theorem dX12_all_101 : decode cX12_all 101 = .ok (.aload_n 0, 1) := by decide +kernel
theorem dX12_all_102 : decode cX12_all 102 = .ok (.getfield 696, 3) := by decide +kernel
theorem dX12_all_105 : decode cX12_all 105 = .ok (.if_icmp .ge 51, 3) := by decide +kernel
theorem dX12_all_108 : decode cX12_all 108 = .ok (.aload_n 0, 1) := by decide +kernel
theorem dX12_all_109 : decode cX12_all 109 = .ok (.getfield 155, 3) := by decide +kernel
theorem dX12_all_112 : decode cX12_all 112 = .ok (.iconst 2, 1) := by decide +kernel
theorem dX12_all_113 : decode cX12_all 113 = .ok (.iload 5, 2) := by decide +kernel
theorem dX12_all_115 : decode cX12_all 115 = .ok (.imul, 1) := by decide +kernel
theorem dX12_all_116 : decode cX12_all 116 = .ok (.aload_n 0, 1) := by decide +kernel
theorem dX12_all_117 : decode cX12_all 117 = .ok (.getfield 237, 3) := by decide +kernel
theorem dX12_all_120 : decode cX12_all 120 = .ok (.bipush 20, 2) := by decide +kernel
theorem dX12_all_122 : decode cX12_all 122 = .ok (.iload 5, 2) := by decide +kernel
theorem dX12_all_124 : decode cX12_all 124 = .ok (.imul, 1) := by decide +kernel
theorem dX12_all_125 : decode cX12_all 125 = .ok (.iaload, 1) := by decide +kernel
theorem dX12_all_126 : decode cX12_all 126 = .ok (.iastore, 1) := by decide +kernel
theorem dX12_all_127 : decode cX12_all 127 = .ok (.aload_n 0, 1) := by decide +kernel
theorem dX12_all_128 : decode cX12_all 128 = .ok (.getfield 155, 3) := by decide +kernel
theorem dX12_all_131 : decode cX12_all 131 = .ok (.iconst 2, 1) := by decide +kernel
theorem dX12_all_132 : decode cX12_all 132 = .ok (.iload 5, 2) := by decide +kernel
theorem dX12_all_134 : decode cX12_all 134 = .ok (.imul, 1) := by decide +kernel
theorem dX12_all_135 : decode cX12_all 135 = .ok (.iconst 1, 1) := by decide +kernel
theorem dX12_all_136 : decode cX12_all 136 = .ok (.iadd, 1) := by decide +kernel
theorem dX12_all_137 : decode cX12_all 137 = .ok (.aload_n 0, 1) := by decide +kernel
theorem dX12_all_138 : decode cX12_all 138 = .ok (.getfield 237, 3) := by decide +kernel
theorem dX12_all_141 : decode cX12_all 141 = .ok (.bipush 20, 2) := by decide +kernel
theorem dX12_all_143 : decode cX12_all 143 = .ok (.iload 5, 2) := by decide +kernel
theorem dX12_all_145 : decode cX12_all 145 = .ok (.imul, 1) := by decide +kernel
theorem dX12_all_146 : decode cX12_all 146 = .ok (.iconst 1, 1) := by decide +kernel
theorem dX12_all_147 : decode cX12_all 147 = .ok (.iadd, 1) := by decide +kernel
theorem dX12_all_148 : decode cX12_all 148 = .ok (.iaload, 1) := by decide +kernel
theorem dX12_all_149 : decode cX12_all 149 = .ok (.iastore, 1) := by decide +kernel
theorem dX12_all_150 : decode cX12_all 150 = .ok (.iinc 5 1, 3) := by decide +kernel
theorem dX12_all_153 : decode cX12_all 153 = .ok (.goto (-54), 3) := by decide +kernel
theorem dX12_all_156 : decode cX12_all 156 = .ok (.aload_n 0, 1) := by decide +kernel
theorem dX12_all_157 : decode cX12_all 157 = .ok (.getfield 696, 3) := by decide +kernel
theorem dX12_all_160 : decode cX12_all 160 = .ok (.ireturn, 1) := by decide +kernel
theorem dX12_bars_0 : decode cX12_bars 0 = .ok (.aload_n 0, 1) := by decide +kernel
theorem dX12_bars_1 : decode cX12_bars 1 = .ok (.iload_n 1, 1) := by decide +kernel
theorem dX12_bars_2 : decode cX12_bars 2 = .ok (.iload_n 2, 1) := by decide +kernel
theorem dX12_bars_3 : decode cX12_bars 3 = .ok (.invokevirtual 658, 3) := by decide +kernel
theorem dX12_bars_6 : decode cX12_bars 6 = .ok (.istore_n 3, 1) := by decide +kernel
theorem dX12_bars_7 : decode cX12_bars 7 = .ok (.iload_n 3, 1) := by decide +kernel
theorem dX12_bars_8 : decode cX12_bars 8 = .ok (.ifCond .eq 7, 3) := by decide +kernel
theorem dX12_bars_11 : decode cX12_bars 11 = .ok (.iload_n 3, 1) := by decide +kernel
theorem dX12_bars_12 : decode cX12_bars 12 = .ok (.goto 9, 3) := by decide +kernel
theorem dX12_bars_15 : decode cX12_bars 15 = .ok (.aload_n 0, 1) := by decide +kernel
theorem dX12_bars_16 : decode cX12_bars 16 = .ok (.iload_n 1, 1) := by decide +kernel
theorem dX12_bars_17 : decode cX12_bars 17 = .ok (.iload_n 2, 1) := by decide +kernel
theorem dX12_bars_18 : decode cX12_bars 18 = .ok (.invokevirtual 661, 3) := by decide +kernel
theorem dX12_bars_21 : decode cX12_bars 21 = .ok (.ireturn, 1) := by decide +kernel
theorem dX12_beginGroup_0 : decode cX12_beginGroup 0 = .ok (.aload_n 0, 1) := by decide +kernel
theorem dX12_beginGroup_1 : decode cX12_beginGroup 1 = .ok (.getfield 119, 3) := by decide +kernel
theorem dX12_beginGroup_4 : decode cX12_beginGroup 4 = .ok (.aload_n 0, 1) := by decide +kernel
theorem dX12_beginGroup_5 : decode cX12_beginGroup 5 = .ok (.getfield 329, 3) := by decide +kernel
theorem dX12_beginGroup_8 : decode cX12_beginGroup 8 = .ok (.iload_n 1, 1) := by decide +kernel
theorem dX12_beginGroup_9 : decode cX12_beginGroup 9 = .ok (.iastore, 1) := by decide +kernel
theorem dX12_beginGroup_10 : decode cX12_beginGroup 10 = .ok (.aload_n 0, 1) := by decide +kernel
theorem dX12_beginGroup_11 : decode cX12_beginGroup 11 = .ok (.getfield 122, 3) := by decide +kernel
theorem dX12_beginGroup_14 : decode cX12_beginGroup 14 = .ok (.aload_n 0, 1) := by decide +kernel
theorem dX12_beginGroup_15 : decode cX12_beginGroup 15 = .ok (.getfield 329, 3) := by decide +kernel
theorem dX12_beginGroup_18 : decode cX12_beginGroup 18 = .ok (.iload_n 2, 1) := by decide +kernel
theorem dX12_beginGroup_19 : decode cX12_beginGroup 19 = .ok (.iastore, 1) := by decide +kernel
theorem dX12_beginGroup_20 : decode cX12_beginGroup 20 = .ok (.aload_n 0, 1) := by decide +kernel
theorem dX12_beginGroup_21 : decode cX12_beginGroup 21 = .ok (.getfield 134, 3) := by decide +kernel
theorem dX12_beginGroup_24 : decode cX12_beginGroup 24 = .ok (.aload_n 0, 1) := by decide +kernel
theorem dX12_beginGroup_25 : decode cX12_beginGroup 25 = .ok (.getfield 329, 3) := by decide +kernel
theorem dX12_beginGroup_28 : decode cX12_beginGroup 28 = .ok (.iconst (-1), 1) := by decide +kernel
theorem dX12_beginGroup_29 : decode cX12_beginGroup 29 = .ok (.iastore, 1) := by decide +kernel
theorem dX12_beginGroup_30 : decode cX12_beginGroup 30 = .ok (.aload_n 0, 1) := by decide +kernel
theorem dX12_beginGroup_31 : decode cX12_beginGroup 31 = .ok (.getfield 137, 3) := by decide +kernel
theorem dX12_beginGroup_34 : decode cX12_beginGroup 34 = .ok (.aload_n 0, 1) := by decide +kernel
theorem dX12_beginGroup_35 : decode cX12_beginGroup 35 = .ok (.getfield 329, 3) := by decide +kernel
theorem dX12_beginGroup_38 : decode cX12_beginGroup 38 = .ok (.iconst (-1), 1) := by decide +kernel
theorem dX12_beginGroup_39 : decode cX12_beginGroup 39 = .ok (.iastore, 1) := by decide +kernel
theorem dX12_beginGroup_40 : decode cX12_beginGroup 40 = .ok (.aload_n 0, 1) := by decide +kernel
theorem dX12_beginGroup_41 : decode cX12_beginGroup 41 = .ok (.getfield 140, 3) := by decide +kernel
theorem dX12_beginGroup_44 : decode cX12_beginGroup 44 = .ok (.aload_n 0, 1) := by decide +kernel
theorem dX12_beginGroup_45 : decode cX12_beginGroup 45 = .ok (.getfield 329, 3) := by decide +kernel
theorem dX12_beginGroup_48 : decode cX12_beginGroup 48 = .ok (.iconst 0, 1) := by decide +kernel
theorem dX12_beginGroup_49 : decode cX12_beginGroup 49 = .ok (.iastore, 1) := by decide +kernel
theorem dX12_beginGroup_50 : decode cX12_beginGroup 50 = .ok (.aload_n 0, 1) := by decide +kernel
theorem dX12_beginGroup_51 : decode cX12_beginGroup 51 = .ok (.invokevirtual 332, 3) := by decide +kernel
theorem dX12_beginGroup_54 : decode cX12_beginGroup 54 = .ok (.return_, 1) := by decide +kernel
theorem dX12_beginLook_0 : decode cX12_beginLook 0 = .ok (.aload_n 0, 1) := by decide +kernel
theorem dX12_beginLook_1 : decode cX12_beginLook 1 = .ok (.invokevirtual 610, 3) := by decide +kernel
theorem dX12_beginLook_4 : decode cX12_beginLook 4 = .ok (.ifCond .ne 4, 3) := by decide +kernel
theorem dX12_beginLook_7 : decode cX12_beginLook 7 = .ok (.return_, 1) := by decide +kernel
theorem dX12_beginLook_8 : decode cX12_beginLook 8 = .ok (.aload_n 0, 1) := by decide +kernel
theorem dX12_beginLook_9 : decode cX12_beginLook 9 = .ok (.sipush 470, 3) := by decide +kernel
theorem dX12_beginLook_12 : decode cX12_beginLook 12 = .ok (.iload_n 1, 1) := by decide +kernel
theorem dX12_beginLook_13 : decode cX12_beginLook 13 = .ok (.iadd, 1) := by decide +kernel
theorem dX12_beginLook_14 : decode cX12_beginLook 14 = .ok (.aload_n 0, 1) := by decide +kernel
theorem dX12_beginLook_15 : decode cX12_beginLook 15 = .ok (.getfield 580, 3) := by decide +kernel
theorem dX12_beginLook_18 : decode cX12_beginLook 18 = .ok (.invokevirtual 614, 3) := by decide +kernel
theorem dX12_beginLook_21 : decode cX12_beginLook 21 = .ok (.aload_n 0, 1) := by decide +kernel
theorem dX12_beginLook_22 : decode cX12_beginLook 22 = .ok (.sipush 690, 3) := by decide +kernel
theorem dX12_beginLook_25 : decode cX12_beginLook 25 = .ok (.iload_n 1, 1) := by decide +kernel
theorem dX12_beginLook_26 : decode cX12_beginLook 26 = .ok (.iadd, 1) := by decide +kernel
theorem dX12_beginLook_27 : decode cX12_beginLook 27 = .ok (.aload_n 0, 1) := by decide +kernel
theorem dX12_beginLook_28 : decode cX12_beginLook 28 = .ok (.getfield 604, 3) := by decide +kernel
theorem dX12_beginLook_31 : decode cX12_beginLook 31 = .ok (.invokevirtual 614, 3) := by decide +kernel
theorem dX12_beginLook_34 : decode cX12_beginLook 34 = .ok (.iload_n 2, 1) := by decide +kernel
theorem dX12_beginLook_35 : decode cX12_beginLook 35 = .ok (.iconst (-1), 1) := by decide +kernel
theorem dX12_beginLook_36 : decode cX12_beginLook 36 = .ok (.if_icmp .eq 18, 3) := by decide +kernel
theorem dX12_beginLook_39 : decode cX12_beginLook 39 = .ok (.aload_n 0, 1) := by decide +kernel
theorem dX12_beginLook_40 : decode cX12_beginLook 40 = .ok (.iconst 0, 1) := by decide +kernel
theorem dX12_beginLook_41 : decode cX12_beginLook 41 = .ok (.aload_n 0, 1) := by decide +kernel
theorem dX12_beginLook_42 : decode cX12_beginLook 42 = .ok (.getfield 189, 3) := by decide +kernel
theorem dX12_beginLook_45 : decode cX12_beginLook 45 = .ok (.iload_n 2, 1) := by decide +kernel
theorem dX12_beginLook_46 : decode cX12_beginLook 46 = .ok (.iaload, 1) := by decide +kernel
theorem dX12_beginLook_47 : decode cX12_beginLook 47 = .ok (.aload_n 0, 1) := by decide +kernel
theorem dX12_beginLook_48 : decode cX12_beginLook 48 = .ok (.getfield 604, 3) := by decide +kernel
theorem dX12_beginLook_51 : decode cX12_beginLook 51 = .ok (.invokevirtual 620, 3) := by decide +kernel
theorem dX12_beginLook_54 : decode cX12_beginLook 54 = .ok (.iload_n 3, 1) := by decide +kernel
theorem dX12_beginLook_55 : decode cX12_beginLook 55 = .ok (.ifCond .eq 15, 3) := by decide +kernel
theorem dX12_beginLook_58 : decode cX12_beginLook 58 = .ok (.aload_n 0, 1) := by decide +kernel
theorem dX12_beginLook_59 : decode cX12_beginLook 59 = .ok (.iload_n 1, 1) := by decide +kernel
theorem dX12_beginLook_60 : decode cX12_beginLook 60 = .ok (.aload_n 0, 1) := by decide +kernel
theorem dX12_beginLook_61 : decode cX12_beginLook 61 = .ok (.getfield 604, 3) := by decide +kernel
theorem dX12_beginLook_64 : decode cX12_beginLook 64 = .ok (.invokevirtual 626, 3) := by decide +kernel
theorem dX12_beginLook_67 : decode cX12_beginLook 67 = .ok (.goto 13, 3) := by decide +kernel
theorem dX12_beginLook_70 : decode cX12_beginLook 70 = .ok (.aload_n 0, 1) := by decide +kernel
theorem dX12_beginLook_71 : decode cX12_beginLook 71 = .ok (.dup, 1) := by decide +kernel
theorem dX12_beginLook_72 : decode cX12_beginLook 72 = .ok (.getfield 617, 3) := by decide +kernel
theorem dX12_beginLook_75 : decode cX12_beginLook 75 = .ok (.iconst 1, 1) := by decide +kernel
theorem dX12_beginLook_76 : decode cX12_beginLook 76 = .ok (.iadd, 1) := by decide +kernel
theorem dX12_beginLook_77 : decode cX12_beginLook 77 = .ok (.putfield 617, 3) := by decide +kernel
theorem dX12_beginLook_80 : decode cX12_beginLook 80 = .ok (.return_, 1) := by decide +kernel
theorem dX12_beginRow_0 : decode cX12_beginRow 0 = .ok (.aload_n 0, 1) := by decide +kernel
theorem dX12_beginRow_1 : decode cX12_beginRow 1 = .ok (.getfield 125, 3) := by decide +kernel
theorem dX12_beginRow_4 : decode cX12_beginRow 4 = .ok (.aload_n 0, 1) := by decide +kernel
theorem dX12_beginRow_5 : decode cX12_beginRow 5 = .ok (.getfield 329, 3) := by decide +kernel
theorem dX12_beginRow_8 : decode cX12_beginRow 8 = .ok (.iconst (-1), 1) := by decide +kernel
theorem dX12_beginRow_9 : decode cX12_beginRow 9 = .ok (.iastore, 1) := by decide +kernel
theorem dX12_beginRow_10 : decode cX12_beginRow 10 = .ok (.aload_n 0, 1) := by decide +kernel
theorem dX12_beginRow_11 : decode cX12_beginRow 11 = .ok (.getfield 128, 3) := by decide +kernel
theorem dX12_beginRow_14 : decode cX12_beginRow 14 = .ok (.aload_n 0, 1) := by decide +kernel
theorem dX12_beginRow_15 : decode cX12_beginRow 15 = .ok (.getfield 329, 3) := by decide +kernel
theorem dX12_beginRow_18 : decode cX12_beginRow 18 = .ok (.iconst (-1), 1) := by decide +kernel
theorem dX12_beginRow_19 : decode cX12_beginRow 19 = .ok (.iastore, 1) := by decide +kernel
theorem dX12_beginRow_20 : decode cX12_beginRow 20 = .ok (.aload_n 0, 1) := by decide +kernel
theorem dX12_beginRow_21 : decode cX12_beginRow 21 = .ok (.getfield 131, 3) := by decide +kernel
theorem dX12_beginRow_24 : decode cX12_beginRow 24 = .ok (.aload_n 0, 1) := by decide +kernel
theorem dX12_beginRow_25 : decode cX12_beginRow 25 = .ok (.getfield 329, 3) := by decide +kernel
theorem dX12_beginRow_28 : decode cX12_beginRow 28 = .ok (.iconst 0, 1) := by decide +kernel
theorem dX12_beginRow_29 : decode cX12_beginRow 29 = .ok (.iastore, 1) := by decide +kernel
theorem dX12_beginRow_30 : decode cX12_beginRow 30 = .ok (.return_, 1) := by decide +kernel
theorem dX12_beginTurn_0 : decode cX12_beginTurn 0 = .ok (.aload_n 0, 1) := by decide +kernel
theorem dX12_beginTurn_1 : decode cX12_beginTurn 1 = .ok (.invokevirtual 610, 3) := by decide +kernel
theorem dX12_beginTurn_4 : decode cX12_beginTurn 4 = .ok (.ifCond .eq 45, 3) := by decide +kernel
theorem dX12_beginTurn_7 : decode cX12_beginTurn 7 = .ok (.aload_n 0, 1) := by decide +kernel
theorem dX12_beginTurn_8 : decode cX12_beginTurn 8 = .ok (.bipush 30, 2) := by decide +kernel
theorem dX12_beginTurn_10 : decode cX12_beginTurn 10 = .ok (.iload_n 1, 1) := by decide +kernel
theorem dX12_beginTurn_11 : decode cX12_beginTurn 11 = .ok (.iadd, 1) := by decide +kernel
theorem dX12_beginTurn_12 : decode cX12_beginTurn 12 = .ok (.aload_n 0, 1) := by decide +kernel
theorem dX12_beginTurn_13 : decode cX12_beginTurn 13 = .ok (.getfield 204, 3) := by decide +kernel
theorem dX12_beginTurn_16 : decode cX12_beginTurn 16 = .ok (.bipush 30, 2) := by decide +kernel
theorem dX12_beginTurn_18 : decode cX12_beginTurn 18 = .ok (.iload_n 1, 1) := by decide +kernel
theorem dX12_beginTurn_19 : decode cX12_beginTurn 19 = .ok (.iadd, 1) := by decide +kernel
theorem dX12_beginTurn_20 : decode cX12_beginTurn 20 = .ok (.iaload, 1) := by decide +kernel
theorem dX12_beginTurn_21 : decode cX12_beginTurn 21 = .ok (.iconst 1, 1) := by decide +kernel
theorem dX12_beginTurn_22 : decode cX12_beginTurn 22 = .ok (.iadd, 1) := by decide +kernel
theorem dX12_beginTurn_23 : decode cX12_beginTurn 23 = .ok (.invokevirtual 614, 3) := by decide +kernel
theorem dX12_beginTurn_26 : decode cX12_beginTurn 26 = .ok (.aload_n 0, 1) := by decide +kernel
theorem dX12_beginTurn_27 : decode cX12_beginTurn 27 = .ok (.sipush 250, 3) := by decide +kernel
theorem dX12_beginTurn_30 : decode cX12_beginTurn 30 = .ok (.iload_n 1, 1) := by decide +kernel
theorem dX12_beginTurn_31 : decode cX12_beginTurn 31 = .ok (.iadd, 1) := by decide +kernel
theorem dX12_beginTurn_32 : decode cX12_beginTurn 32 = .ok (.aload_n 0, 1) := by decide +kernel
theorem dX12_beginTurn_33 : decode cX12_beginTurn 33 = .ok (.getfield 604, 3) := by decide +kernel
theorem dX12_beginTurn_36 : decode cX12_beginTurn 36 = .ok (.invokevirtual 614, 3) := by decide +kernel
theorem dX12_beginTurn_39 : decode cX12_beginTurn 39 = .ok (.aload_n 0, 1) := by decide +kernel
theorem dX12_beginTurn_40 : decode cX12_beginTurn 40 = .ok (.dup, 1) := by decide +kernel
theorem dX12_beginTurn_41 : decode cX12_beginTurn 41 = .ok (.getfield 617, 3) := by decide +kernel
theorem dX12_beginTurn_44 : decode cX12_beginTurn 44 = .ok (.iconst 1, 1) := by decide +kernel
theorem dX12_beginTurn_45 : decode cX12_beginTurn 45 = .ok (.iadd, 1) := by decide +kernel
theorem dX12_beginTurn_46 : decode cX12_beginTurn 46 = .ok (.putfield 617, 3) := by decide +kernel
theorem dX12_beginTurn_49 : decode cX12_beginTurn 49 = .ok (.return_, 1) := by decide +kernel
theorem dX12_begins_0 : decode cX12_begins 0 = .ok (.aload_n 0, 1) := by decide +kernel
theorem dX12_begins_1 : decode cX12_begins 1 = .ok (.iconst 0, 1) := by decide +kernel
theorem dX12_begins_2 : decode cX12_begins 2 = .ok (.putfield 1, 3) := by decide +kernel
theorem dX12_begins_5 : decode cX12_begins 5 = .ok (.aload_n 0, 1) := by decide +kernel
theorem dX12_begins_6 : decode cX12_begins 6 = .ok (.iload_n 1, 1) := by decide +kernel
theorem dX12_begins_7 : decode cX12_begins 7 = .ok (.invokevirtual 459, 3) := by decide +kernel
theorem dX12_begins_10 : decode cX12_begins 10 = .ok (.ifCond .eq 6, 3) := by decide +kernel
theorem dX12_begins_13 : decode cX12_begins 13 = .ok (.bipush (-2), 2) := by decide +kernel
theorem dX12_begins_15 : decode cX12_begins 15 = .ok (.ireturn, 1) := by decide +kernel
theorem dX12_begins_16 : decode cX12_begins 16 = .ok (.iload_n 2, 1) := by decide +kernel
theorem dX12_begins_17 : decode cX12_begins 17 = .ok (.iconst 0, 1) := by decide +kernel
theorem dX12_begins_18 : decode cX12_begins 18 = .ok (.ldc_w 520, 3) := by decide +kernel
theorem dX12_begins_21 : decode cX12_begins 21 = .ok (.invokestatic 7, 3) := by decide +kernel
theorem dX12_begins_24 : decode cX12_begins 24 = .ok (.ifCond .ne 6, 3) := by decide +kernel
theorem dX12_begins_27 : decode cX12_begins 27 = .ok (.bipush (-4), 2) := by decide +kernel
theorem dX12_begins_29 : decode cX12_begins 29 = .ok (.ireturn, 1) := by decide +kernel
theorem dX12_begins_30 : decode cX12_begins 30 = .ok (.aload_n 0, 1) := by decide +kernel
theorem dX12_begins_31 : decode cX12_begins 31 = .ok (.iload_n 1, 1) := by decide +kernel
theorem dX12_begins_32 : decode cX12_begins 32 = .ok (.iload_n 2, 1) := by decide +kernel
theorem dX12_begins_33 : decode cX12_begins 33 = .ok (.invokevirtual 521, 3) := by decide +kernel
theorem dX12_begins_36 : decode cX12_begins 36 = .ok (.aload_n 0, 1) := by decide +kernel
theorem dX12_begins_37 : decode cX12_begins 37 = .ok (.getfield 158, 3) := by decide +kernel
theorem dX12_begins_40 : decode cX12_begins 40 = .ok (.iconst 0, 1) := by decide +kernel
theorem dX12_begins_41 : decode cX12_begins 41 = .ok (.baload, 1) := by decide +kernel
theorem dX12_begins_42 : decode cX12_begins 42 = .ok (.ifCond .eq 7, 3) := by decide +kernel
theorem dX12_begins_45 : decode cX12_begins 45 = .ok (.iconst 1, 1) := by decide +kernel
theorem dX12_begins_46 : decode cX12_begins 46 = .ok (.goto 4, 3) := by decide +kernel
theorem dX12_begins_49 : decode cX12_begins 49 = .ok (.iconst 0, 1) := by decide +kernel
theorem dX12_begins_50 : decode cX12_begins 50 = .ok (.ireturn, 1) := by decide +kernel
theorem dX12_bothBars_0 : decode cX12_bothBars 0 = .ok (.aload_n 0, 1) := by decide +kernel
theorem dX12_bothBars_1 : decode cX12_bothBars 1 = .ok (.iload_n 1, 1) := by decide +kernel
theorem dX12_bothBars_2 : decode cX12_bothBars 2 = .ok (.iconst 2, 1) := by decide +kernel
theorem dX12_bothBars_3 : decode cX12_bothBars 3 = .ok (.invokevirtual 658, 3) := by decide +kernel
theorem dX12_bothBars_6 : decode cX12_bothBars 6 = .ok (.ifCond .eq 8, 3) := by decide +kernel
theorem dX12_bothBars_9 : decode cX12_bothBars 9 = .ok (.bipush (-6), 2) := by decide +kernel
theorem dX12_bothBars_11 : decode cX12_bothBars 11 = .ok (.goto 9, 3) := by decide +kernel
theorem dX12_bothBars_14 : decode cX12_bothBars 14 = .ok (.aload_n 0, 1) := by decide +kernel
theorem dX12_bothBars_15 : decode cX12_bothBars 15 = .ok (.iload_n 2, 1) := by decide +kernel
theorem dX12_bothBars_16 : decode cX12_bothBars 16 = .ok (.iconst 2, 1) := by decide +kernel
theorem dX12_bothBars_17 : decode cX12_bothBars 17 = .ok (.invokevirtual 658, 3) := by decide +kernel
theorem dX12_bothBars_20 : decode cX12_bothBars 20 = .ok (.istore_n 3, 1) := by decide +kernel
theorem dX12_bothBars_21 : decode cX12_bothBars 21 = .ok (.iload_n 3, 1) := by decide +kernel
theorem dX12_bothBars_22 : decode cX12_bothBars 22 = .ok (.ifCond .ne 12, 3) := by decide +kernel
theorem dX12_bothBars_25 : decode cX12_bothBars 25 = .ok (.aload_n 0, 1) := by decide +kernel
theorem dX12_bothBars_26 : decode cX12_bothBars 26 = .ok (.iload_n 1, 1) := by decide +kernel
theorem dX12_bothBars_27 : decode cX12_bothBars 27 = .ok (.iconst 2, 1) := by decide +kernel
theorem dX12_bothBars_28 : decode cX12_bothBars 28 = .ok (.invokevirtual 661, 3) := by decide +kernel
theorem dX12_bothBars_31 : decode cX12_bothBars 31 = .ok (.goto 4, 3) := by decide +kernel
theorem dX12_bothBars_34 : decode cX12_bothBars 34 = .ok (.iload_n 3, 1) := by decide +kernel
theorem dX12_bothBars_35 : decode cX12_bothBars 35 = .ok (.istore_n 3, 1) := by decide +kernel
theorem dX12_bothBars_36 : decode cX12_bothBars 36 = .ok (.iload_n 3, 1) := by decide +kernel
theorem dX12_bothBars_37 : decode cX12_bothBars 37 = .ok (.ifCond .ne 12, 3) := by decide +kernel
theorem dX12_bothBars_40 : decode cX12_bothBars 40 = .ok (.aload_n 0, 1) := by decide +kernel
theorem dX12_bothBars_41 : decode cX12_bothBars 41 = .ok (.iload_n 2, 1) := by decide +kernel
theorem dX12_bothBars_42 : decode cX12_bothBars 42 = .ok (.iconst 2, 1) := by decide +kernel
theorem dX12_bothBars_43 : decode cX12_bothBars 43 = .ok (.invokevirtual 661, 3) := by decide +kernel
theorem dX12_bothBars_46 : decode cX12_bothBars 46 = .ok (.goto 4, 3) := by decide +kernel
theorem dX12_bothBars_49 : decode cX12_bothBars 49 = .ok (.iload_n 3, 1) := by decide +kernel
theorem dX12_bothBars_50 : decode cX12_bothBars 50 = .ok (.istore_n 3, 1) := by decide +kernel
theorem dX12_bothBars_51 : decode cX12_bothBars 51 = .ok (.iload_n 3, 1) := by decide +kernel
theorem dX12_bothBars_52 : decode cX12_bothBars 52 = .ok (.ifCond .eq 5, 3) := by decide +kernel
theorem dX12_bothBars_55 : decode cX12_bothBars 55 = .ok (.iload_n 3, 1) := by decide +kernel
theorem dX12_bothBars_56 : decode cX12_bothBars 56 = .ok (.ireturn, 1) := by decide +kernel
theorem dX12_bothBars_57 : decode cX12_bothBars 57 = .ok (.aload_n 0, 1) := by decide +kernel
theorem dX12_bothBars_58 : decode cX12_bothBars 58 = .ok (.iload_n 1, 1) := by decide +kernel
theorem dX12_bothBars_59 : decode cX12_bothBars 59 = .ok (.invokevirtual 528, 3) := by decide +kernel
theorem dX12_bothBars_62 : decode cX12_bothBars 62 = .ok (.aload_n 0, 1) := by decide +kernel
theorem dX12_bothBars_63 : decode cX12_bothBars 63 = .ok (.iload_n 2, 1) := by decide +kernel
theorem dX12_bothBars_64 : decode cX12_bothBars 64 = .ok (.invokevirtual 528, 3) := by decide +kernel
theorem dX12_bothBars_67 : decode cX12_bothBars 67 = .ok (.aload_n 0, 1) := by decide +kernel
theorem dX12_bothBars_68 : decode cX12_bothBars 68 = .ok (.invokevirtual 531, 3) := by decide +kernel
theorem dX12_bothBars_71 : decode cX12_bothBars 71 = .ok (.aload_n 0, 1) := by decide +kernel
theorem dX12_bothBars_72 : decode cX12_bothBars 72 = .ok (.iconst 0, 1) := by decide +kernel
theorem dX12_bothBars_73 : decode cX12_bothBars 73 = .ok (.iload_n 1, 1) := by decide +kernel
theorem dX12_bothBars_74 : decode cX12_bothBars 74 = .ok (.invokevirtual 727, 3) := by decide +kernel
theorem dX12_bothBars_77 : decode cX12_bothBars 77 = .ok (.istore_n 3, 1) := by decide +kernel
theorem dX12_bothBars_78 : decode cX12_bothBars 78 = .ok (.iload_n 3, 1) := by decide +kernel
theorem dX12_bothBars_79 : decode cX12_bothBars 79 = .ok (.ifCond .ne 12, 3) := by decide +kernel
theorem dX12_bothBars_82 : decode cX12_bothBars 82 = .ok (.aload_n 0, 1) := by decide +kernel
theorem dX12_bothBars_83 : decode cX12_bothBars 83 = .ok (.iconst 1, 1) := by decide +kernel
theorem dX12_bothBars_84 : decode cX12_bothBars 84 = .ok (.iload_n 2, 1) := by decide +kernel
theorem dX12_bothBars_85 : decode cX12_bothBars 85 = .ok (.invokevirtual 727, 3) := by decide +kernel
theorem dX12_bothBars_88 : decode cX12_bothBars 88 = .ok (.goto 4, 3) := by decide +kernel
theorem dX12_bothBars_91 : decode cX12_bothBars 91 = .ok (.iload_n 3, 1) := by decide +kernel
theorem dX12_bothBars_92 : decode cX12_bothBars 92 = .ok (.istore_n 3, 1) := by decide +kernel
theorem dX12_bothBars_93 : decode cX12_bothBars 93 = .ok (.iload_n 3, 1) := by decide +kernel
theorem dX12_bothBars_94 : decode cX12_bothBars 94 = .ok (.ifCond .ne 7, 3) := by decide +kernel
theorem dX12_bothBars_97 : decode cX12_bothBars 97 = .ok (.aload_n 0, 1) := by decide +kernel
theorem dX12_bothBars_98 : decode cX12_bothBars 98 = .ok (.invokevirtual 739, 3) := by decide +kernel
theorem dX12_bothBars_101 : decode cX12_bothBars 101 = .ok (.iload_n 3, 1) := by decide +kernel
theorem dX12_bothBars_102 : decode cX12_bothBars 102 = .ok (.ireturn, 1) := by decide +kernel
theorem dX12_capped_0 : decode cX12_capped 0 = .ok (.iload_n 0, 1) := by decide +kernel
theorem dX12_capped_1 : decode cX12_capped 1 = .ok (.sipush 20000, 3) := by decide +kernel
theorem dX12_capped_4 : decode cX12_capped 4 = .ok (.if_icmp .le 9, 3) := by decide +kernel
theorem dX12_capped_7 : decode cX12_capped 7 = .ok (.sipush 20000, 3) := by decide +kernel
theorem dX12_capped_10 : decode cX12_capped 10 = .ok (.goto 4, 3) := by decide +kernel
theorem dX12_capped_13 : decode cX12_capped 13 = .ok (.iload_n 0, 1) := by decide +kernel
theorem dX12_capped_14 : decode cX12_capped 14 = .ok (.ireturn, 1) := by decide +kernel
theorem dX12_captureOf_0 : decode cX12_captureOf 0 = .ok (.aload_n 0, 1) := by decide +kernel
theorem dX12_captureOf_1 : decode cX12_captureOf 1 = .ok (.getfield 377, 3) := by decide +kernel
theorem dX12_captureOf_4 : decode cX12_captureOf 4 = .ok (.istore_n 2, 1) := by decide +kernel
theorem dX12_captureOf_5 : decode cX12_captureOf 5 = .ok (.iload_n 2, 1) := by decide +kernel
theorem dX12_captureOf_6 : decode cX12_captureOf 6 = .ok (.ifCond .le 19, 3) := by decide +kernel
theorem dX12_captureOf_9 : decode cX12_captureOf 9 = .ok (.aload_n 0, 1) := by decide +kernel
theorem dX12_captureOf_10 : decode cX12_captureOf 10 = .ok (.getfield 116, 3) := by decide +kernel
theorem dX12_captureOf_13 : decode cX12_captureOf 13 = .ok (.iload_n 2, 1) := by decide +kernel
theorem dX12_captureOf_14 : decode cX12_captureOf 14 = .ok (.iaload, 1) := by decide +kernel
theorem dX12_captureOf_15 : decode cX12_captureOf 15 = .ok (.iload_n 1, 1) := by decide +kernel
theorem dX12_captureOf_16 : decode cX12_captureOf 16 = .ok (.if_icmp .eq 9, 3) := by decide +kernel
theorem dX12_captureOf_19 : decode cX12_captureOf 19 = .ok (.iinc 2 (-1), 3) := by decide +kernel
theorem dX12_captureOf_22 : decode cX12_captureOf 22 = .ok (.goto (-17), 3) := by decide +kernel
theorem dX12_captureOf_25 : decode cX12_captureOf 25 = .ok (.iload_n 2, 1) := by decide +kernel
theorem dX12_captureOf_26 : decode cX12_captureOf 26 = .ok (.ireturn, 1) := by decide +kernel
theorem dX12_choose_0 : decode cX12_choose 0 = .ok (.aload_n 0, 1) := by decide +kernel
theorem dX12_choose_1 : decode cX12_choose 1 = .ok (.getfield 215, 3) := by decide +kernel
theorem dX12_choose_4 : decode cX12_choose 4 = .ok (.aload_n 0, 1) := by decide +kernel
theorem dX12_choose_5 : decode cX12_choose 5 = .ok (.getfield 580, 3) := by decide +kernel
theorem dX12_choose_8 : decode cX12_choose 8 = .ok (.iload_n 1, 1) := by decide +kernel
theorem dX12_choose_9 : decode cX12_choose 9 = .ok (.iastore, 1) := by decide +kernel
theorem dX12_choose_10 : decode cX12_choose 10 = .ok (.aload_n 0, 1) := by decide +kernel
theorem dX12_choose_11 : decode cX12_choose 11 = .ok (.getfield 218, 3) := by decide +kernel
theorem dX12_choose_14 : decode cX12_choose 14 = .ok (.aload_n 0, 1) := by decide +kernel
theorem dX12_choose_15 : decode cX12_choose 15 = .ok (.getfield 580, 3) := by decide +kernel
theorem dX12_choose_18 : decode cX12_choose 18 = .ok (.iload_n 2, 1) := by decide +kernel
theorem dX12_choose_19 : decode cX12_choose 19 = .ok (.iastore, 1) := by decide +kernel
theorem dX12_choose_20 : decode cX12_choose 20 = .ok (.aload_n 0, 1) := by decide +kernel
theorem dX12_choose_21 : decode cX12_choose 21 = .ok (.getfield 221, 3) := by decide +kernel
theorem dX12_choose_24 : decode cX12_choose 24 = .ok (.aload_n 0, 1) := by decide +kernel
theorem dX12_choose_25 : decode cX12_choose 25 = .ok (.getfield 580, 3) := by decide +kernel
theorem dX12_choose_28 : decode cX12_choose 28 = .ok (.iload_n 3, 1) := by decide +kernel
theorem dX12_choose_29 : decode cX12_choose 29 = .ok (.iastore, 1) := by decide +kernel
theorem dX12_choose_30 : decode cX12_choose 30 = .ok (.aload_n 0, 1) := by decide +kernel
theorem dX12_choose_31 : decode cX12_choose 31 = .ok (.getfield 224, 3) := by decide +kernel
theorem dX12_choose_34 : decode cX12_choose 34 = .ok (.aload_n 0, 1) := by decide +kernel
theorem dX12_choose_35 : decode cX12_choose 35 = .ok (.getfield 580, 3) := by decide +kernel
theorem dX12_choose_38 : decode cX12_choose 38 = .ok (.aload_n 0, 1) := by decide +kernel
theorem dX12_choose_39 : decode cX12_choose 39 = .ok (.getfield 577, 3) := by decide +kernel
theorem dX12_choose_42 : decode cX12_choose 42 = .ok (.iastore, 1) := by decide +kernel
theorem dX12_choose_43 : decode cX12_choose 43 = .ok (.aload_n 0, 1) := by decide +kernel
theorem dX12_choose_44 : decode cX12_choose 44 = .ok (.dup, 1) := by decide +kernel
theorem dX12_choose_45 : decode cX12_choose 45 = .ok (.getfield 580, 3) := by decide +kernel
theorem dX12_choose_48 : decode cX12_choose 48 = .ok (.iconst 1, 1) := by decide +kernel
theorem dX12_choose_49 : decode cX12_choose 49 = .ok (.iadd, 1) := by decide +kernel
theorem dX12_choose_50 : decode cX12_choose 50 = .ok (.putfield 580, 3) := by decide +kernel
theorem dX12_choose_53 : decode cX12_choose 53 = .ok (.return_, 1) := by decide +kernel
theorem dX12_clear_0 : decode cX12_clear 0 = .ok (.aload_n 0, 1) := by decide +kernel
theorem dX12_clear_1 : decode cX12_clear 1 = .ok (.iconst 0, 1) := by decide +kernel
theorem dX12_clear_2 : decode cX12_clear 2 = .ok (.putfield 1, 3) := by decide +kernel
theorem dX12_clear_5 : decode cX12_clear 5 = .ok (.iconst 0, 1) := by decide +kernel
theorem dX12_clear_6 : decode cX12_clear 6 = .ok (.istore_n 1, 1) := by decide +kernel
theorem dX12_clear_7 : decode cX12_clear 7 = .ok (.iconst 0, 1) := by decide +kernel
theorem dX12_clear_8 : decode cX12_clear 8 = .ok (.istore_n 2, 1) := by decide +kernel
theorem dX12_clear_9 : decode cX12_clear 9 = .ok (.iload_n 2, 1) := by decide +kernel
theorem dX12_clear_10 : decode cX12_clear 10 = .ok (.bipush 6, 2) := by decide +kernel
theorem dX12_clear_12 : decode cX12_clear 12 = .ok (.if_icmp .ge 33, 3) := by decide +kernel
theorem dX12_clear_15 : decode cX12_clear 15 = .ok (.iload_n 1, 1) := by decide +kernel
theorem dX12_clear_16 : decode cX12_clear 16 = .ok (.aload_n 0, 1) := by decide +kernel
theorem dX12_clear_17 : decode cX12_clear 17 = .ok (.getfield 31, 3) := by decide +kernel
theorem dX12_clear_20 : decode cX12_clear 20 = .ok (.iload_n 2, 1) := by decide +kernel
theorem dX12_clear_21 : decode cX12_clear 21 = .ok (.baload, 1) := by decide +kernel
theorem dX12_clear_22 : decode cX12_clear 22 = .ok (.ifCond .eq 7, 3) := by decide +kernel
theorem dX12_clear_25 : decode cX12_clear 25 = .ok (.iconst 1, 1) := by decide +kernel
theorem dX12_clear_26 : decode cX12_clear 26 = .ok (.goto 4, 3) := by decide +kernel
theorem dX12_clear_29 : decode cX12_clear 29 = .ok (.iconst 0, 1) := by decide +kernel
theorem dX12_clear_30 : decode cX12_clear 30 = .ok (.iadd, 1) := by decide +kernel
theorem dX12_clear_31 : decode cX12_clear 31 = .ok (.istore_n 1, 1) := by decide +kernel
theorem dX12_clear_32 : decode cX12_clear 32 = .ok (.aload_n 0, 1) := by decide +kernel
theorem dX12_clear_33 : decode cX12_clear 33 = .ok (.getfield 31, 3) := by decide +kernel
theorem dX12_clear_36 : decode cX12_clear 36 = .ok (.iload_n 2, 1) := by decide +kernel
theorem dX12_clear_37 : decode cX12_clear 37 = .ok (.iconst 0, 1) := by decide +kernel
theorem dX12_clear_38 : decode cX12_clear 38 = .ok (.bastore, 1) := by decide +kernel
theorem dX12_clear_39 : decode cX12_clear 39 = .ok (.iinc 2 1, 3) := by decide +kernel
theorem dX12_clear_42 : decode cX12_clear 42 = .ok (.goto (-33), 3) := by decide +kernel
theorem dX12_clear_45 : decode cX12_clear 45 = .ok (.iconst 0, 1) := by decide +kernel
theorem dX12_clear_46 : decode cX12_clear 46 = .ok (.istore_n 2, 1) := by decide +kernel
theorem dX12_clear_47 : decode cX12_clear 47 = .ok (.iload_n 2, 1) := by decide +kernel
theorem dX12_clear_48 : decode cX12_clear 48 = .ok (.iconst 4, 1) := by decide +kernel
theorem dX12_clear_49 : decode cX12_clear 49 = .ok (.if_icmp .ge 16, 3) := by decide +kernel
theorem dX12_clear_52 : decode cX12_clear 52 = .ok (.aload_n 0, 1) := by decide +kernel
theorem dX12_clear_53 : decode cX12_clear 53 = .ok (.getfield 171, 3) := by decide +kernel
theorem dX12_clear_56 : decode cX12_clear 56 = .ok (.iload_n 2, 1) := by decide +kernel
theorem dX12_clear_57 : decode cX12_clear 57 = .ok (.iconst 0, 1) := by decide +kernel
theorem dX12_clear_58 : decode cX12_clear 58 = .ok (.bastore, 1) := by decide +kernel
theorem dX12_clear_59 : decode cX12_clear 59 = .ok (.iinc 2 1, 3) := by decide +kernel
theorem dX12_clear_62 : decode cX12_clear 62 = .ok (.goto (-15), 3) := by decide +kernel
theorem dX12_clear_65 : decode cX12_clear 65 = .ok (.aload_n 0, 1) := by decide +kernel
theorem dX12_clear_66 : decode cX12_clear 66 = .ok (.iconst 0, 1) := by decide +kernel
theorem dX12_clear_67 : decode cX12_clear 67 = .ok (.putfield 317, 3) := by decide +kernel
theorem dX12_clear_70 : decode cX12_clear 70 = .ok (.aload_n 0, 1) := by decide +kernel
theorem dX12_clear_71 : decode cX12_clear 71 = .ok (.iconst (-1), 1) := by decide +kernel
theorem dX12_clear_72 : decode cX12_clear 72 = .ok (.putfield 28, 3) := by decide +kernel
theorem dX12_clear_75 : decode cX12_clear 75 = .ok (.aload_n 0, 1) := by decide +kernel
theorem dX12_clear_76 : decode cX12_clear 76 = .ok (.iconst 0, 1) := by decide +kernel
theorem dX12_clear_77 : decode cX12_clear 77 = .ok (.putfield 456, 3) := by decide +kernel
theorem dX12_clear_80 : decode cX12_clear 80 = .ok (.aload_n 0, 1) := by decide +kernel
theorem dX12_clear_81 : decode cX12_clear 81 = .ok (.iconst 0, 1) := by decide +kernel
theorem dX12_clear_82 : decode cX12_clear 82 = .ok (.putfield 583, 3) := by decide +kernel
theorem dX12_clear_85 : decode cX12_clear 85 = .ok (.aload_n 0, 1) := by decide +kernel
theorem dX12_clear_86 : decode cX12_clear 86 = .ok (.iconst 0, 1) := by decide +kernel
theorem dX12_clear_87 : decode cX12_clear 87 = .ok (.putfield 502, 3) := by decide +kernel
theorem dX12_clear_90 : decode cX12_clear 90 = .ok (.aload_n 0, 1) := by decide +kernel
theorem dX12_clear_91 : decode cX12_clear 91 = .ok (.iconst 0, 1) := by decide +kernel
theorem dX12_clear_92 : decode cX12_clear 92 = .ok (.putfield 505, 3) := by decide +kernel
theorem dX12_clear_95 : decode cX12_clear 95 = .ok (.aload_n 0, 1) := by decide +kernel
theorem dX12_clear_96 : decode cX12_clear 96 = .ok (.iconst 0, 1) := by decide +kernel
theorem dX12_clear_97 : decode cX12_clear 97 = .ok (.putfield 664, 3) := by decide +kernel
theorem dX12_clear_100 : decode cX12_clear 100 = .ok (.aload_n 0, 1) := by decide +kernel
theorem dX12_clear_101 : decode cX12_clear 101 = .ok (.iconst 0, 1) := by decide +kernel
theorem dX12_clear_102 : decode cX12_clear 102 = .ok (.putfield 449, 3) := by decide +kernel
theorem dX12_clear_105 : decode cX12_clear 105 = .ok (.iload_n 1, 1) := by decide +kernel
theorem dX12_clear_106 : decode cX12_clear 106 = .ok (.ireturn, 1) := by decide +kernel
theorem dX12_closeChoice_0 : decode cX12_closeChoice 0 = .ok (.aload_n 0, 1) := by decide +kernel
theorem dX12_closeChoice_1 : decode cX12_closeChoice 1 = .ok (.invokevirtual 339, 3) := by decide +kernel
theorem dX12_closeChoice_4 : decode cX12_closeChoice 4 = .ok (.aload_n 0, 1) := by decide +kernel
theorem dX12_closeChoice_5 : decode cX12_closeChoice 5 = .ok (.getfield 140, 3) := by decide +kernel
theorem dX12_closeChoice_8 : decode cX12_closeChoice 8 = .ok (.aload_n 0, 1) := by decide +kernel
theorem dX12_closeChoice_9 : decode cX12_closeChoice 9 = .ok (.getfield 329, 3) := by decide +kernel
theorem dX12_closeChoice_12 : decode cX12_closeChoice 12 = .ok (.iaload, 1) := by decide +kernel
theorem dX12_closeChoice_13 : decode cX12_closeChoice 13 = .ok (.iconst 1, 1) := by decide +kernel
theorem dX12_closeChoice_14 : decode cX12_closeChoice 14 = .ok (.if_icmp .ne 13, 3) := by decide +kernel
theorem dX12_closeChoice_17 : decode cX12_closeChoice 17 = .ok (.aload_n 0, 1) := by decide +kernel
theorem dX12_closeChoice_18 : decode cX12_closeChoice 18 = .ok (.getfield 134, 3) := by decide +kernel
theorem dX12_closeChoice_21 : decode cX12_closeChoice 21 = .ok (.aload_n 0, 1) := by decide +kernel
theorem dX12_closeChoice_22 : decode cX12_closeChoice 22 = .ok (.getfield 329, 3) := by decide +kernel
theorem dX12_closeChoice_25 : decode cX12_closeChoice 25 = .ok (.iaload, 1) := by decide +kernel
theorem dX12_closeChoice_26 : decode cX12_closeChoice 26 = .ok (.ireturn, 1) := by decide +kernel
theorem dX12_closeChoice_27 : decode cX12_closeChoice 27 = .ok (.aload_n 0, 1) := by decide +kernel
theorem dX12_closeChoice_28 : decode cX12_closeChoice 28 = .ok (.bipush 6, 2) := by decide +kernel
theorem dX12_closeChoice_30 : decode cX12_closeChoice 30 = .ok (.iconst 0, 1) := by decide +kernel
theorem dX12_closeChoice_31 : decode cX12_closeChoice 31 = .ok (.invokevirtual 335, 3) := by decide +kernel
theorem dX12_closeChoice_34 : decode cX12_closeChoice 34 = .ok (.istore_n 1, 1) := by decide +kernel
theorem dX12_closeChoice_35 : decode cX12_closeChoice 35 = .ok (.aload_n 0, 1) := by decide +kernel
theorem dX12_closeChoice_36 : decode cX12_closeChoice 36 = .ok (.getfield 98, 3) := by decide +kernel
theorem dX12_closeChoice_39 : decode cX12_closeChoice 39 = .ok (.iload_n 1, 1) := by decide +kernel
theorem dX12_closeChoice_40 : decode cX12_closeChoice 40 = .ok (.aload_n 0, 1) := by decide +kernel
theorem dX12_closeChoice_41 : decode cX12_closeChoice 41 = .ok (.getfield 134, 3) := by decide +kernel
theorem dX12_closeChoice_44 : decode cX12_closeChoice 44 = .ok (.aload_n 0, 1) := by decide +kernel
theorem dX12_closeChoice_45 : decode cX12_closeChoice 45 = .ok (.getfield 329, 3) := by decide +kernel
theorem dX12_closeChoice_48 : decode cX12_closeChoice 48 = .ok (.iaload, 1) := by decide +kernel
theorem dX12_closeChoice_49 : decode cX12_closeChoice 49 = .ok (.iastore, 1) := by decide +kernel
theorem dX12_closeChoice_50 : decode cX12_closeChoice 50 = .ok (.aload_n 0, 1) := by decide +kernel
theorem dX12_closeChoice_51 : decode cX12_closeChoice 51 = .ok (.getfield 104, 3) := by decide +kernel
theorem dX12_closeChoice_54 : decode cX12_closeChoice 54 = .ok (.iload_n 1, 1) := by decide +kernel
theorem dX12_closeChoice_55 : decode cX12_closeChoice 55 = .ok (.aload_n 0, 1) := by decide +kernel
theorem dX12_closeChoice_56 : decode cX12_closeChoice 56 = .ok (.getfield 140, 3) := by decide +kernel
theorem dX12_closeChoice_59 : decode cX12_closeChoice 59 = .ok (.aload_n 0, 1) := by decide +kernel
theorem dX12_closeChoice_60 : decode cX12_closeChoice 60 = .ok (.getfield 329, 3) := by decide +kernel
theorem dX12_closeChoice_63 : decode cX12_closeChoice 63 = .ok (.iaload, 1) := by decide +kernel
theorem dX12_closeChoice_64 : decode cX12_closeChoice 64 = .ok (.iastore, 1) := by decide +kernel
theorem dX12_closeChoice_65 : decode cX12_closeChoice 65 = .ok (.iload_n 1, 1) := by decide +kernel
theorem dX12_closeChoice_66 : decode cX12_closeChoice 66 = .ok (.ireturn, 1) := by decide +kernel
theorem dX12_closeGroup_0 : decode cX12_closeGroup 0 = .ok (.aload_n 0, 1) := by decide +kernel
theorem dX12_closeGroup_1 : decode cX12_closeGroup 1 = .ok (.getfield 329, 3) := by decide +kernel
theorem dX12_closeGroup_4 : decode cX12_closeGroup 4 = .ok (.ifCond .ne 13, 3) := by decide +kernel
theorem dX12_closeGroup_7 : decode cX12_closeGroup 7 = .ok (.aload_n 0, 1) := by decide +kernel
theorem dX12_closeGroup_8 : decode cX12_closeGroup 8 = .ok (.iconst 1, 1) := by decide +kernel
theorem dX12_closeGroup_9 : decode cX12_closeGroup 9 = .ok (.aload_n 0, 1) := by decide +kernel
theorem dX12_closeGroup_10 : decode cX12_closeGroup 10 = .ok (.getfield 362, 3) := by decide +kernel
theorem dX12_closeGroup_13 : decode cX12_closeGroup 13 = .ok (.invokevirtual 345, 3) := by decide +kernel
theorem dX12_closeGroup_16 : decode cX12_closeGroup 16 = .ok (.return_, 1) := by decide +kernel
theorem dX12_closeGroup_17 : decode cX12_closeGroup 17 = .ok (.aload_n 0, 1) := by decide +kernel
theorem dX12_closeGroup_18 : decode cX12_closeGroup 18 = .ok (.invokevirtual 386, 3) := by decide +kernel
theorem dX12_closeGroup_21 : decode cX12_closeGroup 21 = .ok (.istore_n 1, 1) := by decide +kernel
theorem dX12_closeGroup_22 : decode cX12_closeGroup 22 = .ok (.aload_n 0, 1) := by decide +kernel
theorem dX12_closeGroup_23 : decode cX12_closeGroup 23 = .ok (.getfield 119, 3) := by decide +kernel
theorem dX12_closeGroup_26 : decode cX12_closeGroup 26 = .ok (.aload_n 0, 1) := by decide +kernel
theorem dX12_closeGroup_27 : decode cX12_closeGroup 27 = .ok (.getfield 329, 3) := by decide +kernel
theorem dX12_closeGroup_30 : decode cX12_closeGroup 30 = .ok (.iaload, 1) := by decide +kernel
theorem dX12_closeGroup_31 : decode cX12_closeGroup 31 = .ok (.istore_n 2, 1) := by decide +kernel
theorem dX12_closeGroup_32 : decode cX12_closeGroup 32 = .ok (.iload_n 2, 1) := by decide +kernel
theorem dX12_closeGroup_33 : decode cX12_closeGroup 33 = .ok (.iconst 5, 1) := by decide +kernel
theorem dX12_closeGroup_34 : decode cX12_closeGroup 34 = .ok (.if_icmp .ne 7, 3) := by decide +kernel
theorem dX12_closeGroup_37 : decode cX12_closeGroup 37 = .ok (.iload_n 1, 1) := by decide +kernel
theorem dX12_closeGroup_38 : decode cX12_closeGroup 38 = .ok (.goto 18, 3) := by decide +kernel
theorem dX12_closeGroup_41 : decode cX12_closeGroup 41 = .ok (.aload_n 0, 1) := by decide +kernel
theorem dX12_closeGroup_42 : decode cX12_closeGroup 42 = .ok (.iload_n 2, 1) := by decide +kernel
theorem dX12_closeGroup_43 : decode cX12_closeGroup 43 = .ok (.aload_n 0, 1) := by decide +kernel
theorem dX12_closeGroup_44 : decode cX12_closeGroup 44 = .ok (.getfield 122, 3) := by decide +kernel
theorem dX12_closeGroup_47 : decode cX12_closeGroup 47 = .ok (.aload_n 0, 1) := by decide +kernel
theorem dX12_closeGroup_48 : decode cX12_closeGroup 48 = .ok (.getfield 329, 3) := by decide +kernel
theorem dX12_closeGroup_51 : decode cX12_closeGroup 51 = .ok (.iaload, 1) := by decide +kernel
theorem dX12_closeGroup_52 : decode cX12_closeGroup 52 = .ok (.iload_n 1, 1) := by decide +kernel
theorem dX12_closeGroup_53 : decode cX12_closeGroup 53 = .ok (.invokevirtual 373, 3) := by decide +kernel
theorem dX12_closeGroup_56 : decode cX12_closeGroup 56 = .ok (.istore_n 3, 1) := by decide +kernel
theorem dX12_closeGroup_57 : decode cX12_closeGroup 57 = .ok (.aload_n 0, 1) := by decide +kernel
theorem dX12_closeGroup_58 : decode cX12_closeGroup 58 = .ok (.dup, 1) := by decide +kernel
theorem dX12_closeGroup_59 : decode cX12_closeGroup 59 = .ok (.getfield 329, 3) := by decide +kernel
theorem dX12_closeGroup_62 : decode cX12_closeGroup 62 = .ok (.iconst 1, 1) := by decide +kernel
theorem dX12_closeGroup_63 : decode cX12_closeGroup 63 = .ok (.isub, 1) := by decide +kernel
theorem dX12_closeGroup_64 : decode cX12_closeGroup 64 = .ok (.putfield 329, 3) := by decide +kernel
theorem dX12_closeGroup_67 : decode cX12_closeGroup 67 = .ok (.aload_n 0, 1) := by decide +kernel
theorem dX12_closeGroup_68 : decode cX12_closeGroup 68 = .ok (.dup, 1) := by decide +kernel
theorem dX12_closeGroup_69 : decode cX12_closeGroup 69 = .ok (.getfield 362, 3) := by decide +kernel
theorem dX12_closeGroup_72 : decode cX12_closeGroup 72 = .ok (.iconst 1, 1) := by decide +kernel
theorem dX12_closeGroup_73 : decode cX12_closeGroup 73 = .ok (.iadd, 1) := by decide +kernel
theorem dX12_closeGroup_74 : decode cX12_closeGroup 74 = .ok (.putfield 362, 3) := by decide +kernel
theorem dX12_closeGroup_77 : decode cX12_closeGroup 77 = .ok (.aload_n 0, 1) := by decide +kernel
theorem dX12_closeGroup_78 : decode cX12_closeGroup 78 = .ok (.aload_n 0, 1) := by decide +kernel
theorem dX12_closeGroup_79 : decode cX12_closeGroup 79 = .ok (.iload_n 3, 1) := by decide +kernel
theorem dX12_closeGroup_80 : decode cX12_closeGroup 80 = .ok (.invokevirtual 390, 3) := by decide +kernel
theorem dX12_closeGroup_83 : decode cX12_closeGroup 83 = .ok (.invokevirtual 393, 3) := by decide +kernel
theorem dX12_closeGroup_86 : decode cX12_closeGroup 86 = .ok (.return_, 1) := by decide +kernel
theorem dX12_closeRow_0 : decode cX12_closeRow 0 = .ok (.aload_n 0, 1) := by decide +kernel
theorem dX12_closeRow_1 : decode cX12_closeRow 1 = .ok (.getfield 125, 3) := by decide +kernel
theorem dX12_closeRow_4 : decode cX12_closeRow 4 = .ok (.aload_n 0, 1) := by decide +kernel
theorem dX12_closeRow_5 : decode cX12_closeRow 5 = .ok (.getfield 329, 3) := by decide +kernel
theorem dX12_closeRow_8 : decode cX12_closeRow 8 = .ok (.iaload, 1) := by decide +kernel
theorem dX12_closeRow_9 : decode cX12_closeRow 9 = .ok (.istore_n 1, 1) := by decide +kernel
theorem dX12_closeRow_10 : decode cX12_closeRow 10 = .ok (.aload_n 0, 1) := by decide +kernel
theorem dX12_closeRow_11 : decode cX12_closeRow 11 = .ok (.getfield 131, 3) := by decide +kernel
theorem dX12_closeRow_14 : decode cX12_closeRow 14 = .ok (.aload_n 0, 1) := by decide +kernel
theorem dX12_closeRow_15 : decode cX12_closeRow 15 = .ok (.getfield 329, 3) := by decide +kernel
theorem dX12_closeRow_18 : decode cX12_closeRow 18 = .ok (.iaload, 1) := by decide +kernel
theorem dX12_closeRow_19 : decode cX12_closeRow 19 = .ok (.iconst 1, 1) := by decide +kernel
theorem dX12_closeRow_20 : decode cX12_closeRow 20 = .ok (.if_icmp .eq 40, 3) := by decide +kernel
theorem dX12_closeRow_23 : decode cX12_closeRow 23 = .ok (.aload_n 0, 1) := by decide +kernel
theorem dX12_closeRow_24 : decode cX12_closeRow 24 = .ok (.iconst 5, 1) := by decide +kernel
theorem dX12_closeRow_25 : decode cX12_closeRow 25 = .ok (.iconst 0, 1) := by decide +kernel
theorem dX12_closeRow_26 : decode cX12_closeRow 26 = .ok (.invokevirtual 335, 3) := by decide +kernel
theorem dX12_closeRow_29 : decode cX12_closeRow 29 = .ok (.istore_n 1, 1) := by decide +kernel
theorem dX12_closeRow_30 : decode cX12_closeRow 30 = .ok (.aload_n 0, 1) := by decide +kernel
theorem dX12_closeRow_31 : decode cX12_closeRow 31 = .ok (.getfield 98, 3) := by decide +kernel
theorem dX12_closeRow_34 : decode cX12_closeRow 34 = .ok (.iload_n 1, 1) := by decide +kernel
theorem dX12_closeRow_35 : decode cX12_closeRow 35 = .ok (.aload_n 0, 1) := by decide +kernel
theorem dX12_closeRow_36 : decode cX12_closeRow 36 = .ok (.getfield 125, 3) := by decide +kernel
theorem dX12_closeRow_39 : decode cX12_closeRow 39 = .ok (.aload_n 0, 1) := by decide +kernel
theorem dX12_closeRow_40 : decode cX12_closeRow 40 = .ok (.getfield 329, 3) := by decide +kernel
theorem dX12_closeRow_43 : decode cX12_closeRow 43 = .ok (.iaload, 1) := by decide +kernel
theorem dX12_closeRow_44 : decode cX12_closeRow 44 = .ok (.iastore, 1) := by decide +kernel
theorem dX12_closeRow_45 : decode cX12_closeRow 45 = .ok (.aload_n 0, 1) := by decide +kernel
theorem dX12_closeRow_46 : decode cX12_closeRow 46 = .ok (.getfield 104, 3) := by decide +kernel
theorem dX12_closeRow_49 : decode cX12_closeRow 49 = .ok (.iload_n 1, 1) := by decide +kernel
theorem dX12_closeRow_50 : decode cX12_closeRow 50 = .ok (.aload_n 0, 1) := by decide +kernel
theorem dX12_closeRow_51 : decode cX12_closeRow 51 = .ok (.getfield 131, 3) := by decide +kernel
theorem dX12_closeRow_54 : decode cX12_closeRow 54 = .ok (.aload_n 0, 1) := by decide +kernel
theorem dX12_closeRow_55 : decode cX12_closeRow 55 = .ok (.getfield 329, 3) := by decide +kernel
theorem dX12_closeRow_58 : decode cX12_closeRow 58 = .ok (.iaload, 1) := by decide +kernel
theorem dX12_closeRow_59 : decode cX12_closeRow 59 = .ok (.iastore, 1) := by decide +kernel
theorem dX12_closeRow_60 : decode cX12_closeRow 60 = .ok (.aload_n 0, 1) := by decide +kernel
theorem dX12_closeRow_61 : decode cX12_closeRow 61 = .ok (.getfield 140, 3) := by decide +kernel
theorem dX12_closeRow_64 : decode cX12_closeRow 64 = .ok (.aload_n 0, 1) := by decide +kernel
theorem dX12_closeRow_65 : decode cX12_closeRow 65 = .ok (.getfield 329, 3) := by decide +kernel
theorem dX12_closeRow_68 : decode cX12_closeRow 68 = .ok (.iaload, 1) := by decide +kernel
theorem dX12_closeRow_69 : decode cX12_closeRow 69 = .ok (.ifCond .ne 16, 3) := by decide +kernel
theorem dX12_closeRow_72 : decode cX12_closeRow 72 = .ok (.aload_n 0, 1) := by decide +kernel
theorem dX12_closeRow_73 : decode cX12_closeRow 73 = .ok (.getfield 134, 3) := by decide +kernel
theorem dX12_closeRow_76 : decode cX12_closeRow 76 = .ok (.aload_n 0, 1) := by decide +kernel
theorem dX12_closeRow_77 : decode cX12_closeRow 77 = .ok (.getfield 329, 3) := by decide +kernel
theorem dX12_closeRow_80 : decode cX12_closeRow 80 = .ok (.iload_n 1, 1) := by decide +kernel
theorem dX12_closeRow_81 : decode cX12_closeRow 81 = .ok (.iastore, 1) := by decide +kernel
theorem dX12_closeRow_82 : decode cX12_closeRow 82 = .ok (.goto 18, 3) := by decide +kernel
theorem dX12_closeRow_85 : decode cX12_closeRow 85 = .ok (.aload_n 0, 1) := by decide +kernel
theorem dX12_closeRow_86 : decode cX12_closeRow 86 = .ok (.getfield 101, 3) := by decide +kernel
theorem dX12_closeRow_89 : decode cX12_closeRow 89 = .ok (.aload_n 0, 1) := by decide +kernel
theorem dX12_closeRow_90 : decode cX12_closeRow 90 = .ok (.getfield 137, 3) := by decide +kernel
theorem dX12_closeRow_93 : decode cX12_closeRow 93 = .ok (.aload_n 0, 1) := by decide +kernel
theorem dX12_closeRow_94 : decode cX12_closeRow 94 = .ok (.getfield 329, 3) := by decide +kernel
theorem dX12_closeRow_97 : decode cX12_closeRow 97 = .ok (.iaload, 1) := by decide +kernel
theorem dX12_closeRow_98 : decode cX12_closeRow 98 = .ok (.iload_n 1, 1) := by decide +kernel
theorem dX12_closeRow_99 : decode cX12_closeRow 99 = .ok (.iastore, 1) := by decide +kernel
theorem dX12_closeRow_100 : decode cX12_closeRow 100 = .ok (.aload_n 0, 1) := by decide +kernel
theorem dX12_closeRow_101 : decode cX12_closeRow 101 = .ok (.getfield 137, 3) := by decide +kernel
theorem dX12_closeRow_104 : decode cX12_closeRow 104 = .ok (.aload_n 0, 1) := by decide +kernel
theorem dX12_closeRow_105 : decode cX12_closeRow 105 = .ok (.getfield 329, 3) := by decide +kernel
theorem dX12_closeRow_108 : decode cX12_closeRow 108 = .ok (.iload_n 1, 1) := by decide +kernel
theorem dX12_closeRow_109 : decode cX12_closeRow 109 = .ok (.iastore, 1) := by decide +kernel
theorem dX12_closeRow_110 : decode cX12_closeRow 110 = .ok (.aload_n 0, 1) := by decide +kernel
theorem dX12_closeRow_111 : decode cX12_closeRow 111 = .ok (.getfield 140, 3) := by decide +kernel
theorem dX12_closeRow_114 : decode cX12_closeRow 114 = .ok (.aload_n 0, 1) := by decide +kernel
theorem dX12_closeRow_115 : decode cX12_closeRow 115 = .ok (.getfield 329, 3) := by decide +kernel
theorem dX12_closeRow_118 : decode cX12_closeRow 118 = .ok (.dup2, 1) := by decide +kernel
theorem dX12_closeRow_119 : decode cX12_closeRow 119 = .ok (.iaload, 1) := by decide +kernel
theorem dX12_closeRow_120 : decode cX12_closeRow 120 = .ok (.iconst 1, 1) := by decide +kernel
theorem dX12_closeRow_121 : decode cX12_closeRow 121 = .ok (.iadd, 1) := by decide +kernel
theorem dX12_closeRow_122 : decode cX12_closeRow 122 = .ok (.iastore, 1) := by decide +kernel
theorem dX12_closeRow_123 : decode cX12_closeRow 123 = .ok (.aload_n 0, 1) := by decide +kernel
theorem dX12_closeRow_124 : decode cX12_closeRow 124 = .ok (.invokevirtual 332, 3) := by decide +kernel
theorem dX12_closeRow_127 : decode cX12_closeRow 127 = .ok (.return_, 1) := by decide +kernel
theorem dX12_compare_0 : decode cX12_compare 0 = .ok (.aload_n 0, 1) := by decide +kernel
theorem dX12_compare_1 : decode cX12_compare 1 = .ok (.iconst 0, 1) := by decide +kernel
theorem dX12_compare_2 : decode cX12_compare 2 = .ok (.putfield 1, 3) := by decide +kernel
theorem dX12_compare_5 : decode cX12_compare 5 = .ok (.aload_n 0, 1) := by decide +kernel
theorem dX12_compare_6 : decode cX12_compare 6 = .ok (.iload_n 1, 1) := by decide +kernel
theorem dX12_compare_7 : decode cX12_compare 7 = .ok (.invokevirtual 459, 3) := by decide +kernel
theorem dX12_compare_10 : decode cX12_compare 10 = .ok (.ifCond .ne 11, 3) := by decide +kernel
theorem dX12_compare_13 : decode cX12_compare 13 = .ok (.aload_n 0, 1) := by decide +kernel
theorem dX12_compare_14 : decode cX12_compare 14 = .ok (.iload_n 2, 1) := by decide +kernel
theorem dX12_compare_15 : decode cX12_compare 15 = .ok (.invokevirtual 459, 3) := by decide +kernel
theorem dX12_compare_18 : decode cX12_compare 18 = .ok (.ifCond .eq 6, 3) := by decide +kernel
theorem dX12_compare_21 : decode cX12_compare 21 = .ok (.bipush (-2), 2) := by decide +kernel
theorem dX12_compare_23 : decode cX12_compare 23 = .ok (.ireturn, 1) := by decide +kernel
theorem dX12_compare_24 : decode cX12_compare 24 = .ok (.aload_n 0, 1) := by decide +kernel
theorem dX12_compare_25 : decode cX12_compare 25 = .ok (.iload_n 1, 1) := by decide +kernel
theorem dX12_compare_26 : decode cX12_compare 26 = .ok (.iload_n 2, 1) := by decide +kernel
theorem dX12_compare_27 : decode cX12_compare 27 = .ok (.invokevirtual 752, 3) := by decide +kernel
theorem dX12_compare_30 : decode cX12_compare 30 = .ok (.istore_n 3, 1) := by decide +kernel
theorem dX12_compare_31 : decode cX12_compare 31 = .ok (.iload_n 3, 1) := by decide +kernel
theorem dX12_compare_32 : decode cX12_compare 32 = .ok (.ifCond .eq 5, 3) := by decide +kernel
theorem dX12_compare_35 : decode cX12_compare 35 = .ok (.iload_n 3, 1) := by decide +kernel
theorem dX12_compare_36 : decode cX12_compare 36 = .ok (.ireturn, 1) := by decide +kernel
theorem dX12_compare_37 : decode cX12_compare 37 = .ok (.aload_n 0, 1) := by decide +kernel
theorem dX12_compare_38 : decode cX12_compare 38 = .ok (.invokevirtual 755, 3) := by decide +kernel
theorem dX12_compare_41 : decode cX12_compare 41 = .ok (.iconst 1, 1) := by decide +kernel
theorem dX12_compare_42 : decode cX12_compare 42 = .ok (.istore 4, 2) := by decide +kernel
theorem dX12_compare_44 : decode cX12_compare 44 = .ok (.iconst 1, 1) := by decide +kernel
theorem dX12_compare_45 : decode cX12_compare 45 = .ok (.istore 5, 2) := by decide +kernel
theorem dX12_compare_47 : decode cX12_compare 47 = .ok (.iconst 0, 1) := by decide +kernel
theorem dX12_compare_48 : decode cX12_compare 48 = .ok (.istore 6, 2) := by decide +kernel
theorem dX12_compare_50 : decode cX12_compare 50 = .ok (.iload 6, 2) := by decide +kernel
theorem dX12_compare_52 : decode cX12_compare 52 = .ok (.aload_n 0, 1) := by decide +kernel
theorem dX12_compare_53 : decode cX12_compare 53 = .ok (.getfield 745, 3) := by decide +kernel
theorem dX12_compare_56 : decode cX12_compare 56 = .ok (.if_icmp .ge 84, 3) := by decide +kernel
theorem dX12_compare_59 : decode cX12_compare 59 = .ok (.iload 4, 2) := by decide +kernel
theorem dX12_compare_61 : decode cX12_compare 61 = .ok (.ifCond .eq 31, 3) := by decide +kernel
theorem dX12_compare_64 : decode cX12_compare 64 = .ok (.aload_n 0, 1) := by decide +kernel
theorem dX12_compare_65 : decode cX12_compare 65 = .ok (.iload 6, 2) := by decide +kernel
theorem dX12_compare_67 : decode cX12_compare 67 = .ok (.invokevirtual 758, 3) := by decide +kernel
theorem dX12_compare_70 : decode cX12_compare 70 = .ok (.ifCond .eq 18, 3) := by decide +kernel
theorem dX12_compare_73 : decode cX12_compare 73 = .ok (.aload_n 0, 1) := by decide +kernel
theorem dX12_compare_74 : decode cX12_compare 74 = .ok (.getfield 268, 3) := by decide +kernel
theorem dX12_compare_77 : decode cX12_compare 77 = .ok (.aload_n 0, 1) := by decide +kernel
theorem dX12_compare_78 : decode cX12_compare 78 = .ok (.getfield 293, 3) := by decide +kernel
theorem dX12_compare_81 : decode cX12_compare 81 = .ok (.iload 6, 2) := by decide +kernel
theorem dX12_compare_83 : decode cX12_compare 83 = .ok (.iaload, 1) := by decide +kernel
theorem dX12_compare_84 : decode cX12_compare 84 = .ok (.baload, 1) := by decide +kernel
theorem dX12_compare_85 : decode cX12_compare 85 = .ok (.ifCond .ne 7, 3) := by decide +kernel
theorem dX12_compare_88 : decode cX12_compare 88 = .ok (.iconst 1, 1) := by decide +kernel
theorem dX12_compare_89 : decode cX12_compare 89 = .ok (.goto 4, 3) := by decide +kernel
theorem dX12_compare_92 : decode cX12_compare 92 = .ok (.iconst 0, 1) := by decide +kernel
theorem dX12_compare_93 : decode cX12_compare 93 = .ok (.istore 4, 2) := by decide +kernel
theorem dX12_compare_95 : decode cX12_compare 95 = .ok (.iload 5, 2) := by decide +kernel
theorem dX12_compare_97 : decode cX12_compare 97 = .ok (.ifCond .eq 34, 3) := by decide +kernel
theorem dX12_compare_100 : decode cX12_compare 100 = .ok (.aload_n 0, 1) := by decide +kernel
theorem dX12_compare_101 : decode cX12_compare 101 = .ok (.iload 6, 2) := by decide +kernel
theorem dX12_compare_103 : decode cX12_compare 103 = .ok (.invokevirtual 758, 3) := by decide +kernel
theorem dX12_compare_106 : decode cX12_compare 106 = .ok (.ifCond .eq 21, 3) := by decide +kernel
theorem dX12_compare_109 : decode cX12_compare 109 = .ok (.aload_n 0, 1) := by decide +kernel
theorem dX12_compare_110 : decode cX12_compare 110 = .ok (.getfield 268, 3) := by decide +kernel
theorem dX12_compare_113 : decode cX12_compare 113 = .ok (.bipush 61, 2) := by decide +kernel
theorem dX12_compare_115 : decode cX12_compare 115 = .ok (.aload_n 0, 1) := by decide +kernel
theorem dX12_compare_116 : decode cX12_compare 116 = .ok (.getfield 296, 3) := by decide +kernel
theorem dX12_compare_119 : decode cX12_compare 119 = .ok (.iload 6, 2) := by decide +kernel
theorem dX12_compare_121 : decode cX12_compare 121 = .ok (.iaload, 1) := by decide +kernel
theorem dX12_compare_122 : decode cX12_compare 122 = .ok (.iadd, 1) := by decide +kernel
theorem dX12_compare_123 : decode cX12_compare 123 = .ok (.baload, 1) := by decide +kernel
theorem dX12_compare_124 : decode cX12_compare 124 = .ok (.ifCond .ne 7, 3) := by decide +kernel
theorem dX12_compare_127 : decode cX12_compare 127 = .ok (.iconst 1, 1) := by decide +kernel
theorem dX12_compare_128 : decode cX12_compare 128 = .ok (.goto 4, 3) := by decide +kernel
theorem dX12_compare_131 : decode cX12_compare 131 = .ok (.iconst 0, 1) := by decide +kernel
theorem dX12_compare_132 : decode cX12_compare 132 = .ok (.istore 5, 2) := by decide +kernel
theorem dX12_compare_134 : decode cX12_compare 134 = .ok (.iinc 6 1, 3) := by decide +kernel
theorem dX12_compare_137 : decode cX12_compare 137 = .ok (.goto (-87), 3) := by decide +kernel
theorem dX12_compare_140 : decode cX12_compare 140 = .ok (.iload 4, 2) := by decide +kernel
theorem dX12_compare_142 : decode cX12_compare 142 = .ok (.ifCond .eq 7, 3) := by decide +kernel
theorem dX12_compare_145 : decode cX12_compare 145 = .ok (.iconst 1, 1) := by decide +kernel
theorem dX12_compare_146 : decode cX12_compare 146 = .ok (.goto 4, 3) := by decide +kernel
theorem dX12_compare_149 : decode cX12_compare 149 = .ok (.iconst 0, 1) := by decide +kernel
theorem dX12_compare_150 : decode cX12_compare 150 = .ok (.iload 5, 2) := by decide +kernel
theorem dX12_compare_152 : decode cX12_compare 152 = .ok (.ifCond .eq 7, 3) := by decide +kernel
theorem dX12_compare_155 : decode cX12_compare 155 = .ok (.iconst 2, 1) := by decide +kernel
theorem dX12_compare_156 : decode cX12_compare 156 = .ok (.goto 4, 3) := by decide +kernel
theorem dX12_compare_159 : decode cX12_compare 159 = .ok (.iconst 0, 1) := by decide +kernel
theorem dX12_compare_160 : decode cX12_compare 160 = .ok (.iadd, 1) := by decide +kernel
theorem dX12_compare_161 : decode cX12_compare 161 = .ok (.ireturn, 1) := by decide +kernel
theorem dX12_compile_0 : decode cX12_compile 0 = .ok (.aload_n 0, 1) := by decide +kernel
theorem dX12_compile_1 : decode cX12_compile 1 = .ok (.iconst 0, 1) := by decide +kernel
theorem dX12_compile_2 : decode cX12_compile 2 = .ok (.putfield 551, 3) := by decide +kernel
theorem dX12_compile_5 : decode cX12_compile 5 = .ok (.aload_n 0, 1) := by decide +kernel
theorem dX12_compile_6 : decode cX12_compile 6 = .ok (.iconst 0, 1) := by decide +kernel
theorem dX12_compile_7 : decode cX12_compile 7 = .ok (.putfield 548, 3) := by decide +kernel
theorem dX12_compile_10 : decode cX12_compile 10 = .ok (.aload_n 0, 1) := by decide +kernel
theorem dX12_compile_11 : decode cX12_compile 11 = .ok (.iconst 0, 1) := by decide +kernel
theorem dX12_compile_12 : decode cX12_compile 12 = .ok (.putfield 545, 3) := by decide +kernel
theorem dX12_compile_15 : decode cX12_compile 15 = .ok (.aload_n 0, 1) := by decide +kernel
theorem dX12_compile_16 : decode cX12_compile 16 = .ok (.bipush 19, 2) := by decide +kernel
theorem dX12_compile_18 : decode cX12_compile 18 = .ok (.iconst 0, 1) := by decide +kernel
theorem dX12_compile_19 : decode cX12_compile 19 = .ok (.iconst 0, 1) := by decide +kernel
theorem dX12_compile_20 : decode cX12_compile 20 = .ok (.invokevirtual 554, 3) := by decide +kernel
theorem dX12_compile_23 : decode cX12_compile 23 = .ok (.aload_n 0, 1) := by decide +kernel
theorem dX12_compile_24 : decode cX12_compile 24 = .ok (.bipush 100, 2) := by decide +kernel
theorem dX12_compile_26 : decode cX12_compile 26 = .ok (.iconst 0, 1) := by decide +kernel
theorem dX12_compile_27 : decode cX12_compile 27 = .ok (.iconst 0, 1) := by decide +kernel
theorem dX12_compile_28 : decode cX12_compile 28 = .ok (.invokevirtual 554, 3) := by decide +kernel
theorem dX12_compile_31 : decode cX12_compile 31 = .ok (.aload_n 0, 1) := by decide +kernel
theorem dX12_compile_32 : decode cX12_compile 32 = .ok (.getfield 545, 3) := by decide +kernel
theorem dX12_compile_35 : decode cX12_compile 35 = .ok (.ifCond .le 123, 3) := by decide +kernel
theorem dX12_compile_38 : decode cX12_compile 38 = .ok (.aload_n 0, 1) := by decide +kernel
theorem dX12_compile_39 : decode cX12_compile 39 = .ok (.dup, 1) := by decide +kernel
theorem dX12_compile_40 : decode cX12_compile 40 = .ok (.getfield 545, 3) := by decide +kernel
theorem dX12_compile_43 : decode cX12_compile 43 = .ok (.iconst 1, 1) := by decide +kernel
theorem dX12_compile_44 : decode cX12_compile 44 = .ok (.isub, 1) := by decide +kernel
theorem dX12_compile_45 : decode cX12_compile 45 = .ok (.putfield 545, 3) := by decide +kernel
theorem dX12_compile_48 : decode cX12_compile 48 = .ok (.aload_n 0, 1) := by decide +kernel
theorem dX12_compile_49 : decode cX12_compile 49 = .ok (.getfield 192, 3) := by decide +kernel
theorem dX12_compile_52 : decode cX12_compile 52 = .ok (.aload_n 0, 1) := by decide +kernel
theorem dX12_compile_53 : decode cX12_compile 53 = .ok (.getfield 545, 3) := by decide +kernel
theorem dX12_compile_56 : decode cX12_compile 56 = .ok (.iaload, 1) := by decide +kernel
theorem dX12_compile_57 : decode cX12_compile 57 = .ok (.istore_n 3, 1) := by decide +kernel
theorem dX12_compile_58 : decode cX12_compile 58 = .ok (.aload_n 0, 1) := by decide +kernel
theorem dX12_compile_59 : decode cX12_compile 59 = .ok (.getfield 195, 3) := by decide +kernel
theorem dX12_compile_62 : decode cX12_compile 62 = .ok (.aload_n 0, 1) := by decide +kernel
theorem dX12_compile_63 : decode cX12_compile 63 = .ok (.getfield 545, 3) := by decide +kernel
theorem dX12_compile_66 : decode cX12_compile 66 = .ok (.iaload, 1) := by decide +kernel
theorem dX12_compile_67 : decode cX12_compile 67 = .ok (.istore 4, 2) := by decide +kernel
theorem dX12_compile_69 : decode cX12_compile 69 = .ok (.iload_n 3, 1) := by decide +kernel
theorem dX12_compile_70 : decode cX12_compile 70 = .ok (.bipush 100, 2) := by decide +kernel
theorem dX12_compile_72 : decode cX12_compile 72 = .ok (.if_icmp .ne 14, 3) := by decide +kernel
theorem dX12_compile_75 : decode cX12_compile 75 = .ok (.aload_n 0, 1) := by decide +kernel
theorem dX12_compile_76 : decode cX12_compile 76 = .ok (.iload_n 1, 1) := by decide +kernel
theorem dX12_compile_77 : decode cX12_compile 77 = .ok (.iload 4, 2) := by decide +kernel
theorem dX12_compile_79 : decode cX12_compile 79 = .ok (.iload_n 2, 1) := by decide +kernel
theorem dX12_compile_80 : decode cX12_compile 80 = .ok (.invokevirtual 558, 3) := by decide +kernel
theorem dX12_compile_83 : decode cX12_compile 83 = .ok (.goto 72, 3) := by decide +kernel
theorem dX12_compile_86 : decode cX12_compile 86 = .ok (.iload_n 3, 1) := by decide +kernel
theorem dX12_compile_87 : decode cX12_compile 87 = .ok (.bipush 101, 2) := by decide +kernel
theorem dX12_compile_89 : decode cX12_compile 89 = .ok (.if_icmp .ne 17, 3) := by decide +kernel
theorem dX12_compile_92 : decode cX12_compile 92 = .ok (.aload_n 0, 1) := by decide +kernel
theorem dX12_compile_93 : decode cX12_compile 93 = .ok (.getfield 189, 3) := by decide +kernel
theorem dX12_compile_96 : decode cX12_compile 96 = .ok (.iload 4, 2) := by decide +kernel
theorem dX12_compile_98 : decode cX12_compile 98 = .ok (.aload_n 0, 1) := by decide +kernel
theorem dX12_compile_99 : decode cX12_compile 99 = .ok (.getfield 551, 3) := by decide +kernel
theorem dX12_compile_102 : decode cX12_compile 102 = .ok (.iastore, 1) := by decide +kernel
theorem dX12_compile_103 : decode cX12_compile 103 = .ok (.goto 52, 3) := by decide +kernel
theorem dX12_compile_106 : decode cX12_compile 106 = .ok (.aload_n 0, 1) := by decide +kernel
theorem dX12_compile_107 : decode cX12_compile 107 = .ok (.getfield 180, 3) := by decide +kernel
theorem dX12_compile_110 : decode cX12_compile 110 = .ok (.aload_n 0, 1) := by decide +kernel
theorem dX12_compile_111 : decode cX12_compile 111 = .ok (.getfield 551, 3) := by decide +kernel
theorem dX12_compile_114 : decode cX12_compile 114 = .ok (.iload_n 3, 1) := by decide +kernel
theorem dX12_compile_115 : decode cX12_compile 115 = .ok (.iastore, 1) := by decide +kernel
theorem dX12_compile_116 : decode cX12_compile 116 = .ok (.aload_n 0, 1) := by decide +kernel
theorem dX12_compile_117 : decode cX12_compile 117 = .ok (.getfield 183, 3) := by decide +kernel
theorem dX12_compile_120 : decode cX12_compile 120 = .ok (.aload_n 0, 1) := by decide +kernel
theorem dX12_compile_121 : decode cX12_compile 121 = .ok (.getfield 551, 3) := by decide +kernel
theorem dX12_compile_124 : decode cX12_compile 124 = .ok (.iload 4, 2) := by decide +kernel
theorem dX12_compile_126 : decode cX12_compile 126 = .ok (.iastore, 1) := by decide +kernel
theorem dX12_compile_127 : decode cX12_compile 127 = .ok (.aload_n 0, 1) := by decide +kernel
theorem dX12_compile_128 : decode cX12_compile 128 = .ok (.getfield 186, 3) := by decide +kernel
theorem dX12_compile_131 : decode cX12_compile 131 = .ok (.aload_n 0, 1) := by decide +kernel
theorem dX12_compile_132 : decode cX12_compile 132 = .ok (.getfield 551, 3) := by decide +kernel
theorem dX12_compile_135 : decode cX12_compile 135 = .ok (.aload_n 0, 1) := by decide +kernel
theorem dX12_compile_136 : decode cX12_compile 136 = .ok (.getfield 198, 3) := by decide +kernel
theorem dX12_compile_139 : decode cX12_compile 139 = .ok (.aload_n 0, 1) := by decide +kernel
theorem dX12_compile_140 : decode cX12_compile 140 = .ok (.getfield 545, 3) := by decide +kernel
theorem dX12_compile_143 : decode cX12_compile 143 = .ok (.iaload, 1) := by decide +kernel
theorem dX12_compile_144 : decode cX12_compile 144 = .ok (.iastore, 1) := by decide +kernel
theorem dX12_compile_145 : decode cX12_compile 145 = .ok (.aload_n 0, 1) := by decide +kernel
theorem dX12_compile_146 : decode cX12_compile 146 = .ok (.dup, 1) := by decide +kernel
theorem dX12_compile_147 : decode cX12_compile 147 = .ok (.getfield 551, 3) := by decide +kernel
theorem dX12_compile_150 : decode cX12_compile 150 = .ok (.iconst 1, 1) := by decide +kernel
theorem dX12_compile_151 : decode cX12_compile 151 = .ok (.iadd, 1) := by decide +kernel
theorem dX12_compile_152 : decode cX12_compile 152 = .ok (.putfield 551, 3) := by decide +kernel
theorem dX12_compile_155 : decode cX12_compile 155 = .ok (.goto (-124), 3) := by decide +kernel
theorem dX12_compile_158 : decode cX12_compile 158 = .ok (.return_, 1) := by decide +kernel
theorem dX12_compileChoice_0 : decode cX12_compileChoice 0 = .ok (.aload_n 0, 1) := by decide +kernel
theorem dX12_compileChoice_1 : decode cX12_compileChoice 1 = .ok (.invokevirtual 574, 3) := by decide +kernel
theorem dX12_compileChoice_4 : decode cX12_compileChoice 4 = .ok (.istore_n 2, 1) := by decide +kernel
theorem dX12_compileChoice_5 : decode cX12_compileChoice 5 = .ok (.aload_n 0, 1) := by decide +kernel
theorem dX12_compileChoice_6 : decode cX12_compileChoice 6 = .ok (.bipush 101, 2) := by decide +kernel
theorem dX12_compileChoice_8 : decode cX12_compileChoice 8 = .ok (.iload_n 2, 1) := by decide +kernel
theorem dX12_compileChoice_9 : decode cX12_compileChoice 9 = .ok (.iconst 0, 1) := by decide +kernel
theorem dX12_compileChoice_10 : decode cX12_compileChoice 10 = .ok (.invokevirtual 554, 3) := by decide +kernel
theorem dX12_compileChoice_13 : decode cX12_compileChoice 13 = .ok (.aload_n 0, 1) := by decide +kernel
theorem dX12_compileChoice_14 : decode cX12_compileChoice 14 = .ok (.bipush 100, 2) := by decide +kernel
theorem dX12_compileChoice_16 : decode cX12_compileChoice 16 = .ok (.aload_n 0, 1) := by decide +kernel
theorem dX12_compileChoice_17 : decode cX12_compileChoice 17 = .ok (.getfield 201, 3) := by decide +kernel
theorem dX12_compileChoice_20 : decode cX12_compileChoice 20 = .ok (.iload_n 1, 1) := by decide +kernel
theorem dX12_compileChoice_21 : decode cX12_compileChoice 21 = .ok (.iconst 1, 1) := by decide +kernel
theorem dX12_compileChoice_22 : decode cX12_compileChoice 22 = .ok (.isub, 1) := by decide +kernel
theorem dX12_compileChoice_23 : decode cX12_compileChoice 23 = .ok (.iaload, 1) := by decide +kernel
theorem dX12_compileChoice_24 : decode cX12_compileChoice 24 = .ok (.iconst 0, 1) := by decide +kernel
theorem dX12_compileChoice_25 : decode cX12_compileChoice 25 = .ok (.invokevirtual 554, 3) := by decide +kernel
theorem dX12_compileChoice_28 : decode cX12_compileChoice 28 = .ok (.iload_n 1, 1) := by decide +kernel
theorem dX12_compileChoice_29 : decode cX12_compileChoice 29 = .ok (.iconst 2, 1) := by decide +kernel
theorem dX12_compileChoice_30 : decode cX12_compileChoice 30 = .ok (.isub, 1) := by decide +kernel
theorem dX12_compileChoice_31 : decode cX12_compileChoice 31 = .ok (.istore_n 3, 1) := by decide +kernel
theorem dX12_compileChoice_32 : decode cX12_compileChoice 32 = .ok (.iload_n 3, 1) := by decide +kernel
theorem dX12_compileChoice_33 : decode cX12_compileChoice 33 = .ok (.ifCond .lt 52, 3) := by decide +kernel
theorem dX12_compileChoice_36 : decode cX12_compileChoice 36 = .ok (.aload_n 0, 1) := by decide +kernel
theorem dX12_compileChoice_37 : decode cX12_compileChoice 37 = .ok (.invokevirtual 574, 3) := by decide +kernel
theorem dX12_compileChoice_40 : decode cX12_compileChoice 40 = .ok (.istore 4, 2) := by decide +kernel
theorem dX12_compileChoice_42 : decode cX12_compileChoice 42 = .ok (.aload_n 0, 1) := by decide +kernel
theorem dX12_compileChoice_43 : decode cX12_compileChoice 43 = .ok (.bipush 101, 2) := by decide +kernel
theorem dX12_compileChoice_45 : decode cX12_compileChoice 45 = .ok (.iload 4, 2) := by decide +kernel
theorem dX12_compileChoice_47 : decode cX12_compileChoice 47 = .ok (.iconst 0, 1) := by decide +kernel
theorem dX12_compileChoice_48 : decode cX12_compileChoice 48 = .ok (.invokevirtual 554, 3) := by decide +kernel
theorem dX12_compileChoice_51 : decode cX12_compileChoice 51 = .ok (.aload_n 0, 1) := by decide +kernel
theorem dX12_compileChoice_52 : decode cX12_compileChoice 52 = .ok (.iconst 5, 1) := by decide +kernel
theorem dX12_compileChoice_53 : decode cX12_compileChoice 53 = .ok (.iload_n 2, 1) := by decide +kernel
theorem dX12_compileChoice_54 : decode cX12_compileChoice 54 = .ok (.iconst 0, 1) := by decide +kernel
theorem dX12_compileChoice_55 : decode cX12_compileChoice 55 = .ok (.invokevirtual 554, 3) := by decide +kernel
theorem dX12_compileChoice_58 : decode cX12_compileChoice 58 = .ok (.aload_n 0, 1) := by decide +kernel
theorem dX12_compileChoice_59 : decode cX12_compileChoice 59 = .ok (.bipush 100, 2) := by decide +kernel
theorem dX12_compileChoice_61 : decode cX12_compileChoice 61 = .ok (.aload_n 0, 1) := by decide +kernel
theorem dX12_compileChoice_62 : decode cX12_compileChoice 62 = .ok (.getfield 201, 3) := by decide +kernel
theorem dX12_compileChoice_65 : decode cX12_compileChoice 65 = .ok (.iload_n 3, 1) := by decide +kernel
theorem dX12_compileChoice_66 : decode cX12_compileChoice 66 = .ok (.iaload, 1) := by decide +kernel
theorem dX12_compileChoice_67 : decode cX12_compileChoice 67 = .ok (.iconst 0, 1) := by decide +kernel
theorem dX12_compileChoice_68 : decode cX12_compileChoice 68 = .ok (.invokevirtual 554, 3) := by decide +kernel
theorem dX12_compileChoice_71 : decode cX12_compileChoice 71 = .ok (.aload_n 0, 1) := by decide +kernel
theorem dX12_compileChoice_72 : decode cX12_compileChoice 72 = .ok (.iconst 3, 1) := by decide +kernel
theorem dX12_compileChoice_73 : decode cX12_compileChoice 73 = .ok (.iload 4, 2) := by decide +kernel
theorem dX12_compileChoice_75 : decode cX12_compileChoice 75 = .ok (.iconst 0, 1) := by decide +kernel
theorem dX12_compileChoice_76 : decode cX12_compileChoice 76 = .ok (.invokevirtual 554, 3) := by decide +kernel
theorem dX12_compileChoice_79 : decode cX12_compileChoice 79 = .ok (.iinc 3 (-1), 3) := by decide +kernel
theorem dX12_compileChoice_82 : decode cX12_compileChoice 82 = .ok (.goto (-50), 3) := by decide +kernel
theorem dX12_compileChoice_85 : decode cX12_compileChoice 85 = .ok (.return_, 1) := by decide +kernel
theorem dX12_compileCopies_0 : decode cX12_compileCopies 0 = .ok (.aload_n 0, 1) := by decide +kernel
theorem dX12_compileCopies_1 : decode cX12_compileCopies 1 = .ok (.invokevirtual 574, 3) := by decide +kernel
theorem dX12_compileCopies_4 : decode cX12_compileCopies 4 = .ok (.istore_n 3, 1) := by decide +kernel
theorem dX12_compileCopies_5 : decode cX12_compileCopies 5 = .ok (.aload_n 0, 1) := by decide +kernel
theorem dX12_compileCopies_6 : decode cX12_compileCopies 6 = .ok (.getfield 47, 3) := by decide +kernel
theorem dX12_compileCopies_9 : decode cX12_compileCopies 9 = .ok (.iload_n 1, 1) := by decide +kernel
theorem dX12_compileCopies_10 : decode cX12_compileCopies 10 = .ok (.iaload, 1) := by decide +kernel
theorem dX12_compileCopies_11 : decode cX12_compileCopies 11 = .ok (.iconst 1, 1) := by decide +kernel
theorem dX12_compileCopies_12 : decode cX12_compileCopies 12 = .ok (.if_icmp .ne 7, 3) := by decide +kernel
theorem dX12_compileCopies_15 : decode cX12_compileCopies 15 = .ok (.iconst 4, 1) := by decide +kernel
theorem dX12_compileCopies_16 : decode cX12_compileCopies 16 = .ok (.goto 4, 3) := by decide +kernel
theorem dX12_compileCopies_19 : decode cX12_compileCopies 19 = .ok (.iconst 3, 1) := by decide +kernel
theorem dX12_compileCopies_20 : decode cX12_compileCopies 20 = .ok (.istore 4, 2) := by decide +kernel
theorem dX12_compileCopies_22 : decode cX12_compileCopies 22 = .ok (.aload_n 0, 1) := by decide +kernel
theorem dX12_compileCopies_23 : decode cX12_compileCopies 23 = .ok (.bipush 101, 2) := by decide +kernel
theorem dX12_compileCopies_25 : decode cX12_compileCopies 25 = .ok (.iload_n 3, 1) := by decide +kernel
theorem dX12_compileCopies_26 : decode cX12_compileCopies 26 = .ok (.iconst 0, 1) := by decide +kernel
theorem dX12_compileCopies_27 : decode cX12_compileCopies 27 = .ok (.invokevirtual 554, 3) := by decide +kernel
theorem dX12_compileCopies_30 : decode cX12_compileCopies 30 = .ok (.aload_n 0, 1) := by decide +kernel
theorem dX12_compileCopies_31 : decode cX12_compileCopies 31 = .ok (.getfield 53, 3) := by decide +kernel
theorem dX12_compileCopies_34 : decode cX12_compileCopies 34 = .ok (.iload_n 1, 1) := by decide +kernel
theorem dX12_compileCopies_35 : decode cX12_compileCopies 35 = .ok (.iaload, 1) := by decide +kernel
theorem dX12_compileCopies_36 : decode cX12_compileCopies 36 = .ok (.iconst (-1), 1) := by decide +kernel
theorem dX12_compileCopies_37 : decode cX12_compileCopies 37 = .ok (.if_icmp .ne 44, 3) := by decide +kernel
theorem dX12_compileCopies_40 : decode cX12_compileCopies 40 = .ok (.aload_n 0, 1) := by decide +kernel
theorem dX12_compileCopies_41 : decode cX12_compileCopies 41 = .ok (.invokevirtual 574, 3) := by decide +kernel
theorem dX12_compileCopies_44 : decode cX12_compileCopies 44 = .ok (.istore 5, 2) := by decide +kernel
theorem dX12_compileCopies_46 : decode cX12_compileCopies 46 = .ok (.aload_n 0, 1) := by decide +kernel
theorem dX12_compileCopies_47 : decode cX12_compileCopies 47 = .ok (.iconst 5, 1) := by decide +kernel
theorem dX12_compileCopies_48 : decode cX12_compileCopies 48 = .ok (.iload 5, 2) := by decide +kernel
theorem dX12_compileCopies_50 : decode cX12_compileCopies 50 = .ok (.iconst 0, 1) := by decide +kernel
theorem dX12_compileCopies_51 : decode cX12_compileCopies 51 = .ok (.invokevirtual 554, 3) := by decide +kernel
theorem dX12_compileCopies_54 : decode cX12_compileCopies 54 = .ok (.aload_n 0, 1) := by decide +kernel
theorem dX12_compileCopies_55 : decode cX12_compileCopies 55 = .ok (.bipush 100, 2) := by decide +kernel
theorem dX12_compileCopies_57 : decode cX12_compileCopies 57 = .ok (.iload_n 2, 1) := by decide +kernel
theorem dX12_compileCopies_58 : decode cX12_compileCopies 58 = .ok (.iconst 1, 1) := by decide +kernel
theorem dX12_compileCopies_59 : decode cX12_compileCopies 59 = .ok (.iadd, 1) := by decide +kernel
theorem dX12_compileCopies_60 : decode cX12_compileCopies 60 = .ok (.iconst 0, 1) := by decide +kernel
theorem dX12_compileCopies_61 : decode cX12_compileCopies 61 = .ok (.invokevirtual 554, 3) := by decide +kernel
theorem dX12_compileCopies_64 : decode cX12_compileCopies 64 = .ok (.aload_n 0, 1) := by decide +kernel
theorem dX12_compileCopies_65 : decode cX12_compileCopies 65 = .ok (.iload 4, 2) := by decide +kernel
theorem dX12_compileCopies_67 : decode cX12_compileCopies 67 = .ok (.iload_n 3, 1) := by decide +kernel
theorem dX12_compileCopies_68 : decode cX12_compileCopies 68 = .ok (.iconst 0, 1) := by decide +kernel
theorem dX12_compileCopies_69 : decode cX12_compileCopies 69 = .ok (.invokevirtual 554, 3) := by decide +kernel
theorem dX12_compileCopies_72 : decode cX12_compileCopies 72 = .ok (.aload_n 0, 1) := by decide +kernel
theorem dX12_compileCopies_73 : decode cX12_compileCopies 73 = .ok (.bipush 101, 2) := by decide +kernel
theorem dX12_compileCopies_75 : decode cX12_compileCopies 75 = .ok (.iload 5, 2) := by decide +kernel
theorem dX12_compileCopies_77 : decode cX12_compileCopies 77 = .ok (.iconst 0, 1) := by decide +kernel
theorem dX12_compileCopies_78 : decode cX12_compileCopies 78 = .ok (.invokevirtual 554, 3) := by decide +kernel
theorem dX12_compileCopies_81 : decode cX12_compileCopies 81 = .ok (.aload_n 0, 1) := by decide +kernel
theorem dX12_compileCopies_82 : decode cX12_compileCopies 82 = .ok (.getfield 50, 3) := by decide +kernel
theorem dX12_compileCopies_85 : decode cX12_compileCopies 85 = .ok (.iload_n 1, 1) := by decide +kernel
theorem dX12_compileCopies_86 : decode cX12_compileCopies 86 = .ok (.iaload, 1) := by decide +kernel
theorem dX12_compileCopies_87 : decode cX12_compileCopies 87 = .ok (.istore 5, 2) := by decide +kernel
theorem dX12_compileCopies_89 : decode cX12_compileCopies 89 = .ok (.iload 5, 2) := by decide +kernel
theorem dX12_compileCopies_91 : decode cX12_compileCopies 91 = .ok (.aload_n 0, 1) := by decide +kernel
theorem dX12_compileCopies_92 : decode cX12_compileCopies 92 = .ok (.getfield 53, 3) := by decide +kernel
theorem dX12_compileCopies_95 : decode cX12_compileCopies 95 = .ok (.iload_n 1, 1) := by decide +kernel
theorem dX12_compileCopies_96 : decode cX12_compileCopies 96 = .ok (.iaload, 1) := by decide +kernel
theorem dX12_compileCopies_97 : decode cX12_compileCopies 97 = .ok (.if_icmp .ge 27, 3) := by decide +kernel
theorem dX12_compileCopies_100 : decode cX12_compileCopies 100 = .ok (.aload_n 0, 1) := by decide +kernel
theorem dX12_compileCopies_101 : decode cX12_compileCopies 101 = .ok (.bipush 100, 2) := by decide +kernel
theorem dX12_compileCopies_103 : decode cX12_compileCopies 103 = .ok (.iload_n 2, 1) := by decide +kernel
theorem dX12_compileCopies_104 : decode cX12_compileCopies 104 = .ok (.iconst 1, 1) := by decide +kernel
theorem dX12_compileCopies_105 : decode cX12_compileCopies 105 = .ok (.iadd, 1) := by decide +kernel
theorem dX12_compileCopies_106 : decode cX12_compileCopies 106 = .ok (.iconst 0, 1) := by decide +kernel
theorem dX12_compileCopies_107 : decode cX12_compileCopies 107 = .ok (.invokevirtual 554, 3) := by decide +kernel
theorem dX12_compileCopies_110 : decode cX12_compileCopies 110 = .ok (.aload_n 0, 1) := by decide +kernel
theorem dX12_compileCopies_111 : decode cX12_compileCopies 111 = .ok (.iload 4, 2) := by decide +kernel
theorem dX12_compileCopies_113 : decode cX12_compileCopies 113 = .ok (.iload_n 3, 1) := by decide +kernel
theorem dX12_compileCopies_114 : decode cX12_compileCopies 114 = .ok (.iconst 0, 1) := by decide +kernel
theorem dX12_compileCopies_115 : decode cX12_compileCopies 115 = .ok (.invokevirtual 554, 3) := by decide +kernel
theorem dX12_compileCopies_118 : decode cX12_compileCopies 118 = .ok (.iinc 5 1, 3) := by decide +kernel
theorem dX12_compileCopies_121 : decode cX12_compileCopies 121 = .ok (.goto (-32), 3) := by decide +kernel
theorem dX12_compileCopies_124 : decode cX12_compileCopies 124 = .ok (.iconst 0, 1) := by decide +kernel
theorem dX12_compileCopies_125 : decode cX12_compileCopies 125 = .ok (.istore 5, 2) := by decide +kernel
theorem dX12_compileCopies_127 : decode cX12_compileCopies 127 = .ok (.iload 5, 2) := by decide +kernel
theorem dX12_compileCopies_129 : decode cX12_compileCopies 129 = .ok (.aload_n 0, 1) := by decide +kernel
theorem dX12_compileCopies_130 : decode cX12_compileCopies 130 = .ok (.getfield 50, 3) := by decide +kernel
theorem dX12_compileCopies_133 : decode cX12_compileCopies 133 = .ok (.iload_n 1, 1) := by decide +kernel
theorem dX12_compileCopies_134 : decode cX12_compileCopies 134 = .ok (.iaload, 1) := by decide +kernel
theorem dX12_compileCopies_135 : decode cX12_compileCopies 135 = .ok (.if_icmp .ge 19, 3) := by decide +kernel
theorem dX12_compileCopies_138 : decode cX12_compileCopies 138 = .ok (.aload_n 0, 1) := by decide +kernel
theorem dX12_compileCopies_139 : decode cX12_compileCopies 139 = .ok (.bipush 100, 2) := by decide +kernel
theorem dX12_compileCopies_141 : decode cX12_compileCopies 141 = .ok (.iload_n 2, 1) := by decide +kernel
theorem dX12_compileCopies_142 : decode cX12_compileCopies 142 = .ok (.iconst 1, 1) := by decide +kernel
theorem dX12_compileCopies_143 : decode cX12_compileCopies 143 = .ok (.iadd, 1) := by decide +kernel
theorem dX12_compileCopies_144 : decode cX12_compileCopies 144 = .ok (.iconst 0, 1) := by decide +kernel
theorem dX12_compileCopies_145 : decode cX12_compileCopies 145 = .ok (.invokevirtual 554, 3) := by decide +kernel
theorem dX12_compileCopies_148 : decode cX12_compileCopies 148 = .ok (.iinc 5 1, 3) := by decide +kernel
theorem dX12_compileCopies_151 : decode cX12_compileCopies 151 = .ok (.goto (-24), 3) := by decide +kernel
theorem dX12_compileCopies_154 : decode cX12_compileCopies 154 = .ok (.return_, 1) := by decide +kernel
theorem dX12_compileLook_0 : decode cX12_compileLook 0 = .ok (.aload_n 0, 1) := by decide +kernel
theorem dX12_compileLook_1 : decode cX12_compileLook 1 = .ok (.invokevirtual 574, 3) := by decide +kernel
theorem dX12_compileLook_4 : decode cX12_compileLook 4 = .ok (.istore_n 3, 1) := by decide +kernel
theorem dX12_compileLook_5 : decode cX12_compileLook 5 = .ok (.aload_n 0, 1) := by decide +kernel
theorem dX12_compileLook_6 : decode cX12_compileLook 6 = .ok (.getfield 47, 3) := by decide +kernel
theorem dX12_compileLook_9 : decode cX12_compileLook 9 = .ok (.iload_n 1, 1) := by decide +kernel
theorem dX12_compileLook_10 : decode cX12_compileLook 10 = .ok (.iaload, 1) := by decide +kernel
theorem dX12_compileLook_11 : decode cX12_compileLook 11 = .ok (.istore 4, 2) := by decide +kernel
theorem dX12_compileLook_13 : decode cX12_compileLook 13 = .ok (.aload_n 0, 1) := by decide +kernel
theorem dX12_compileLook_14 : decode cX12_compileLook 14 = .ok (.bipush 101, 2) := by decide +kernel
theorem dX12_compileLook_16 : decode cX12_compileLook 16 = .ok (.iload_n 3, 1) := by decide +kernel
theorem dX12_compileLook_17 : decode cX12_compileLook 17 = .ok (.iconst 0, 1) := by decide +kernel
theorem dX12_compileLook_18 : decode cX12_compileLook 18 = .ok (.invokevirtual 554, 3) := by decide +kernel
theorem dX12_compileLook_21 : decode cX12_compileLook 21 = .ok (.aload_n 0, 1) := by decide +kernel
theorem dX12_compileLook_22 : decode cX12_compileLook 22 = .ok (.iload 4, 2) := by decide +kernel
theorem dX12_compileLook_24 : decode cX12_compileLook 24 = .ok (.ifCond .ne 8, 3) := by decide +kernel
theorem dX12_compileLook_27 : decode cX12_compileLook 27 = .ok (.bipush 14, 2) := by decide +kernel
theorem dX12_compileLook_29 : decode cX12_compileLook 29 = .ok (.goto 27, 3) := by decide +kernel
theorem dX12_compileLook_32 : decode cX12_compileLook 32 = .ok (.iload 4, 2) := by decide +kernel
theorem dX12_compileLook_34 : decode cX12_compileLook 34 = .ok (.iconst 1, 1) := by decide +kernel
theorem dX12_compileLook_35 : decode cX12_compileLook 35 = .ok (.if_icmp .ne 8, 3) := by decide +kernel
theorem dX12_compileLook_38 : decode cX12_compileLook 38 = .ok (.bipush 16, 2) := by decide +kernel
theorem dX12_compileLook_40 : decode cX12_compileLook 40 = .ok (.goto 16, 3) := by decide +kernel
theorem dX12_compileLook_43 : decode cX12_compileLook 43 = .ok (.iload 4, 2) := by decide +kernel
theorem dX12_compileLook_45 : decode cX12_compileLook 45 = .ok (.iconst 2, 1) := by decide +kernel
theorem dX12_compileLook_46 : decode cX12_compileLook 46 = .ok (.if_icmp .ne 8, 3) := by decide +kernel
theorem dX12_compileLook_49 : decode cX12_compileLook 49 = .ok (.bipush 18, 2) := by decide +kernel
theorem dX12_compileLook_51 : decode cX12_compileLook 51 = .ok (.goto 5, 3) := by decide +kernel
theorem dX12_compileLook_54 : decode cX12_compileLook 54 = .ok (.bipush 20, 2) := by decide +kernel
theorem dX12_compileLook_56 : decode cX12_compileLook 56 = .ok (.iload_n 2, 1) := by decide +kernel
theorem dX12_compileLook_57 : decode cX12_compileLook 57 = .ok (.iconst 0, 1) := by decide +kernel
theorem dX12_compileLook_58 : decode cX12_compileLook 58 = .ok (.invokevirtual 554, 3) := by decide +kernel
theorem dX12_compileLook_61 : decode cX12_compileLook 61 = .ok (.aload_n 0, 1) := by decide +kernel
theorem dX12_compileLook_62 : decode cX12_compileLook 62 = .ok (.bipush 100, 2) := by decide +kernel
theorem dX12_compileLook_64 : decode cX12_compileLook 64 = .ok (.iload_n 2, 1) := by decide +kernel
theorem dX12_compileLook_65 : decode cX12_compileLook 65 = .ok (.iconst 1, 1) := by decide +kernel
theorem dX12_compileLook_66 : decode cX12_compileLook 66 = .ok (.iadd, 1) := by decide +kernel
theorem dX12_compileLook_67 : decode cX12_compileLook 67 = .ok (.iconst 0, 1) := by decide +kernel
theorem dX12_compileLook_68 : decode cX12_compileLook 68 = .ok (.invokevirtual 554, 3) := by decide +kernel
theorem dX12_compileLook_71 : decode cX12_compileLook 71 = .ok (.aload_n 0, 1) := by decide +kernel
theorem dX12_compileLook_72 : decode cX12_compileLook 72 = .ok (.iload 4, 2) := by decide +kernel
theorem dX12_compileLook_74 : decode cX12_compileLook 74 = .ok (.ifCond .ne 8, 3) := by decide +kernel
theorem dX12_compileLook_77 : decode cX12_compileLook 77 = .ok (.bipush 13, 2) := by decide +kernel
theorem dX12_compileLook_79 : decode cX12_compileLook 79 = .ok (.goto 16, 3) := by decide +kernel
theorem dX12_compileLook_82 : decode cX12_compileLook 82 = .ok (.iload 4, 2) := by decide +kernel
theorem dX12_compileLook_84 : decode cX12_compileLook 84 = .ok (.iconst 1, 1) := by decide +kernel
theorem dX12_compileLook_85 : decode cX12_compileLook 85 = .ok (.if_icmp .ne 8, 3) := by decide +kernel
theorem dX12_compileLook_88 : decode cX12_compileLook 88 = .ok (.bipush 15, 2) := by decide +kernel
theorem dX12_compileLook_90 : decode cX12_compileLook 90 = .ok (.goto 5, 3) := by decide +kernel
theorem dX12_compileLook_93 : decode cX12_compileLook 93 = .ok (.bipush 17, 2) := by decide +kernel
theorem dX12_compileLook_95 : decode cX12_compileLook 95 = .ok (.iload_n 2, 1) := by decide +kernel
theorem dX12_compileLook_96 : decode cX12_compileLook 96 = .ok (.iload 4, 2) := by decide +kernel
theorem dX12_compileLook_98 : decode cX12_compileLook 98 = .ok (.iconst 3, 1) := by decide +kernel
theorem dX12_compileLook_99 : decode cX12_compileLook 99 = .ok (.if_icmp .eq 9, 3) := by decide +kernel
theorem dX12_compileLook_102 : decode cX12_compileLook 102 = .ok (.iload 4, 2) := by decide +kernel
theorem dX12_compileLook_104 : decode cX12_compileLook 104 = .ok (.iconst 1, 1) := by decide +kernel
theorem dX12_compileLook_105 : decode cX12_compileLook 105 = .ok (.if_icmp .ne 7, 3) := by decide +kernel
theorem dX12_compileLook_108 : decode cX12_compileLook 108 = .ok (.iload_n 3, 1) := by decide +kernel
theorem dX12_compileLook_109 : decode cX12_compileLook 109 = .ok (.goto 4, 3) := by decide +kernel
theorem dX12_compileLook_112 : decode cX12_compileLook 112 = .ok (.iconst (-1), 1) := by decide +kernel
theorem dX12_compileLook_113 : decode cX12_compileLook 113 = .ok (.invokevirtual 554, 3) := by decide +kernel
theorem dX12_compileLook_116 : decode cX12_compileLook 116 = .ok (.return_, 1) := by decide +kernel
theorem dX12_compileLoop_0 : decode cX12_compileLoop 0 = .ok (.aload_n 0, 1) := by decide +kernel
theorem dX12_compileLoop_1 : decode cX12_compileLoop 1 = .ok (.invokevirtual 574, 3) := by decide +kernel
theorem dX12_compileLoop_4 : decode cX12_compileLoop 4 = .ok (.istore_n 3, 1) := by decide +kernel
theorem dX12_compileLoop_5 : decode cX12_compileLoop 5 = .ok (.aload_n 0, 1) := by decide +kernel
theorem dX12_compileLoop_6 : decode cX12_compileLoop 6 = .ok (.invokevirtual 574, 3) := by decide +kernel
theorem dX12_compileLoop_9 : decode cX12_compileLoop 9 = .ok (.istore 4, 2) := by decide +kernel
theorem dX12_compileLoop_11 : decode cX12_compileLoop 11 = .ok (.aload_n 0, 1) := by decide +kernel
theorem dX12_compileLoop_12 : decode cX12_compileLoop 12 = .ok (.getfield 47, 3) := by decide +kernel
theorem dX12_compileLoop_15 : decode cX12_compileLoop 15 = .ok (.iload_n 1, 1) := by decide +kernel
theorem dX12_compileLoop_16 : decode cX12_compileLoop 16 = .ok (.iaload, 1) := by decide +kernel
theorem dX12_compileLoop_17 : decode cX12_compileLoop 17 = .ok (.iconst 2, 1) := by decide +kernel
theorem dX12_compileLoop_18 : decode cX12_compileLoop 18 = .ok (.if_icmp .ne 7, 3) := by decide +kernel
theorem dX12_compileLoop_21 : decode cX12_compileLoop 21 = .ok (.iconst 1, 1) := by decide +kernel
theorem dX12_compileLoop_22 : decode cX12_compileLoop 22 = .ok (.goto 4, 3) := by decide +kernel
theorem dX12_compileLoop_25 : decode cX12_compileLoop 25 = .ok (.iconst 0, 1) := by decide +kernel
theorem dX12_compileLoop_26 : decode cX12_compileLoop 26 = .ok (.istore 5, 2) := by decide +kernel
theorem dX12_compileLoop_28 : decode cX12_compileLoop 28 = .ok (.iload 5, 2) := by decide +kernel
theorem dX12_compileLoop_30 : decode cX12_compileLoop 30 = .ok (.ifCond .eq 11, 3) := by decide +kernel
theorem dX12_compileLoop_33 : decode cX12_compileLoop 33 = .ok (.aload_n 0, 1) := by decide +kernel
theorem dX12_compileLoop_34 : decode cX12_compileLoop 34 = .ok (.bipush 12, 2) := by decide +kernel
theorem dX12_compileLoop_36 : decode cX12_compileLoop 36 = .ok (.iload_n 2, 1) := by decide +kernel
theorem dX12_compileLoop_37 : decode cX12_compileLoop 37 = .ok (.iconst 0, 1) := by decide +kernel
theorem dX12_compileLoop_38 : decode cX12_compileLoop 38 = .ok (.invokevirtual 554, 3) := by decide +kernel
theorem dX12_compileLoop_41 : decode cX12_compileLoop 41 = .ok (.aload_n 0, 1) := by decide +kernel
theorem dX12_compileLoop_42 : decode cX12_compileLoop 42 = .ok (.bipush 101, 2) := by decide +kernel
theorem dX12_compileLoop_44 : decode cX12_compileLoop 44 = .ok (.iload 4, 2) := by decide +kernel
theorem dX12_compileLoop_46 : decode cX12_compileLoop 46 = .ok (.iconst 0, 1) := by decide +kernel
theorem dX12_compileLoop_47 : decode cX12_compileLoop 47 = .ok (.invokevirtual 554, 3) := by decide +kernel
theorem dX12_compileLoop_50 : decode cX12_compileLoop 50 = .ok (.aload_n 0, 1) := by decide +kernel
theorem dX12_compileLoop_51 : decode cX12_compileLoop 51 = .ok (.bipush 10, 2) := by decide +kernel
theorem dX12_compileLoop_53 : decode cX12_compileLoop 53 = .ok (.iload_n 2, 1) := by decide +kernel
theorem dX12_compileLoop_54 : decode cX12_compileLoop 54 = .ok (.iload_n 3, 1) := by decide +kernel
theorem dX12_compileLoop_55 : decode cX12_compileLoop 55 = .ok (.invokevirtual 554, 3) := by decide +kernel
theorem dX12_compileLoop_58 : decode cX12_compileLoop 58 = .ok (.aload_n 0, 1) := by decide +kernel
theorem dX12_compileLoop_59 : decode cX12_compileLoop 59 = .ok (.bipush 100, 2) := by decide +kernel
theorem dX12_compileLoop_61 : decode cX12_compileLoop 61 = .ok (.iload_n 2, 1) := by decide +kernel
theorem dX12_compileLoop_62 : decode cX12_compileLoop 62 = .ok (.iconst 1, 1) := by decide +kernel
theorem dX12_compileLoop_63 : decode cX12_compileLoop 63 = .ok (.iadd, 1) := by decide +kernel
theorem dX12_compileLoop_64 : decode cX12_compileLoop 64 = .ok (.iconst 0, 1) := by decide +kernel
theorem dX12_compileLoop_65 : decode cX12_compileLoop 65 = .ok (.invokevirtual 554, 3) := by decide +kernel
theorem dX12_compileLoop_68 : decode cX12_compileLoop 68 = .ok (.aload_n 0, 1) := by decide +kernel
theorem dX12_compileLoop_69 : decode cX12_compileLoop 69 = .ok (.bipush 9, 2) := by decide +kernel
theorem dX12_compileLoop_71 : decode cX12_compileLoop 71 = .ok (.iload_n 2, 1) := by decide +kernel
theorem dX12_compileLoop_72 : decode cX12_compileLoop 72 = .ok (.iload 4, 2) := by decide +kernel
theorem dX12_compileLoop_74 : decode cX12_compileLoop 74 = .ok (.invokevirtual 554, 3) := by decide +kernel
theorem dX12_compileLoop_77 : decode cX12_compileLoop 77 = .ok (.aload_n 0, 1) := by decide +kernel
theorem dX12_compileLoop_78 : decode cX12_compileLoop 78 = .ok (.bipush 101, 2) := by decide +kernel
theorem dX12_compileLoop_80 : decode cX12_compileLoop 80 = .ok (.iload_n 3, 1) := by decide +kernel
theorem dX12_compileLoop_81 : decode cX12_compileLoop 81 = .ok (.iconst 0, 1) := by decide +kernel
theorem dX12_compileLoop_82 : decode cX12_compileLoop 82 = .ok (.invokevirtual 554, 3) := by decide +kernel
theorem dX12_compileLoop_85 : decode cX12_compileLoop 85 = .ok (.aload_n 0, 1) := by decide +kernel
theorem dX12_compileLoop_86 : decode cX12_compileLoop 86 = .ok (.bipush 8, 2) := by decide +kernel
theorem dX12_compileLoop_88 : decode cX12_compileLoop 88 = .ok (.iload_n 2, 1) := by decide +kernel
theorem dX12_compileLoop_89 : decode cX12_compileLoop 89 = .ok (.iconst 0, 1) := by decide +kernel
theorem dX12_compileLoop_90 : decode cX12_compileLoop 90 = .ok (.invokevirtual 554, 3) := by decide +kernel
theorem dX12_compileLoop_93 : decode cX12_compileLoop 93 = .ok (.iload 5, 2) := by decide +kernel
theorem dX12_compileLoop_95 : decode cX12_compileLoop 95 = .ok (.ifCond .eq 11, 3) := by decide +kernel
theorem dX12_compileLoop_98 : decode cX12_compileLoop 98 = .ok (.aload_n 0, 1) := by decide +kernel
theorem dX12_compileLoop_99 : decode cX12_compileLoop 99 = .ok (.bipush 11, 2) := by decide +kernel
theorem dX12_compileLoop_101 : decode cX12_compileLoop 101 = .ok (.iload_n 2, 1) := by decide +kernel
theorem dX12_compileLoop_102 : decode cX12_compileLoop 102 = .ok (.iconst 0, 1) := by decide +kernel
theorem dX12_compileLoop_103 : decode cX12_compileLoop 103 = .ok (.invokevirtual 554, 3) := by decide +kernel
theorem dX12_compileLoop_106 : decode cX12_compileLoop 106 = .ok (.return_, 1) := by decide +kernel
theorem dX12_compileNode_0 : decode cX12_compileNode 0 = .ok (.sipush 220, 3) := by decide +kernel
theorem dX12_compileNode_3 : decode cX12_compileNode 3 = .ok (.iload_n 1, 1) := by decide +kernel
theorem dX12_compileNode_4 : decode cX12_compileNode 4 = .ok (.imul, 1) := by decide +kernel
theorem dX12_compileNode_5 : decode cX12_compileNode 5 = .ok (.istore 4, 2) := by decide +kernel
theorem dX12_compileNode_7 : decode cX12_compileNode 7 = .ok (.iload 4, 2) := by decide +kernel
theorem dX12_compileNode_9 : decode cX12_compileNode 9 = .ok (.iload_n 2, 1) := by decide +kernel
theorem dX12_compileNode_10 : decode cX12_compileNode 10 = .ok (.iadd, 1) := by decide +kernel
theorem dX12_compileNode_11 : decode cX12_compileNode 11 = .ok (.istore 5, 2) := by decide +kernel
theorem dX12_compileNode_13 : decode cX12_compileNode 13 = .ok (.iconst 0, 1) := by decide +kernel
theorem dX12_compileNode_14 : decode cX12_compileNode 14 = .ok (.istore 6, 2) := by decide +kernel
theorem dX12_compileNode_16 : decode cX12_compileNode 16 = .ok (.iload_n 2, 1) := by decide +kernel
theorem dX12_compileNode_17 : decode cX12_compileNode 17 = .ok (.iconst 1, 1) := by decide +kernel
theorem dX12_compileNode_18 : decode cX12_compileNode 18 = .ok (.iadd, 1) := by decide +kernel
theorem dX12_compileNode_19 : decode cX12_compileNode 19 = .ok (.istore 7, 2) := by decide +kernel
theorem dX12_compileNode_21 : decode cX12_compileNode 21 = .ok (.iload 7, 2) := by decide +kernel
theorem dX12_compileNode_23 : decode cX12_compileNode 23 = .ok (.aload_n 0, 1) := by decide +kernel
theorem dX12_compileNode_24 : decode cX12_compileNode 24 = .ok (.getfield 62, 3) := by decide +kernel
theorem dX12_compileNode_27 : decode cX12_compileNode 27 = .ok (.iload 5, 2) := by decide +kernel
theorem dX12_compileNode_29 : decode cX12_compileNode 29 = .ok (.iaload, 1) := by decide +kernel
theorem dX12_compileNode_30 : decode cX12_compileNode 30 = .ok (.if_icmp .ge 30, 3) := by decide +kernel
theorem dX12_compileNode_33 : decode cX12_compileNode 33 = .ok (.aload_n 0, 1) := by decide +kernel
theorem dX12_compileNode_34 : decode cX12_compileNode 34 = .ok (.getfield 201, 3) := by decide +kernel
theorem dX12_compileNode_37 : decode cX12_compileNode 37 = .ok (.iload 6, 2) := by decide +kernel
theorem dX12_compileNode_39 : decode cX12_compileNode 39 = .ok (.iload 7, 2) := by decide +kernel
theorem dX12_compileNode_41 : decode cX12_compileNode 41 = .ok (.iastore, 1) := by decide +kernel
theorem dX12_compileNode_42 : decode cX12_compileNode 42 = .ok (.iinc 6 1, 3) := by decide +kernel
theorem dX12_compileNode_45 : decode cX12_compileNode 45 = .ok (.aload_n 0, 1) := by decide +kernel
theorem dX12_compileNode_46 : decode cX12_compileNode 46 = .ok (.getfield 62, 3) := by decide +kernel
theorem dX12_compileNode_49 : decode cX12_compileNode 49 = .ok (.iload 4, 2) := by decide +kernel
theorem dX12_compileNode_51 : decode cX12_compileNode 51 = .ok (.iload 7, 2) := by decide +kernel
theorem dX12_compileNode_53 : decode cX12_compileNode 53 = .ok (.iadd, 1) := by decide +kernel
theorem dX12_compileNode_54 : decode cX12_compileNode 54 = .ok (.iaload, 1) := by decide +kernel
theorem dX12_compileNode_55 : decode cX12_compileNode 55 = .ok (.istore 7, 2) := by decide +kernel
theorem dX12_compileNode_57 : decode cX12_compileNode 57 = .ok (.goto (-36), 3) := by decide +kernel
theorem dX12_compileNode_60 : decode cX12_compileNode 60 = .ok (.aload_n 0, 1) := by decide +kernel
theorem dX12_compileNode_61 : decode cX12_compileNode 61 = .ok (.getfield 44, 3) := by decide +kernel
theorem dX12_compileNode_64 : decode cX12_compileNode 64 = .ok (.iload 5, 2) := by decide +kernel
theorem dX12_compileNode_66 : decode cX12_compileNode 66 = .ok (.iaload, 1) := by decide +kernel
theorem dX12_compileNode_67 : decode cX12_compileNode 67 = .ok (.tableswitch 241 3 11 #[49, 59, 69, 103, 124, 148, 189, 199, 228], 49) := by decide +kernel
theorem dX12_compileNode_116 : decode cX12_compileNode 116 = .ok (.aload_n 0, 1) := by decide +kernel
theorem dX12_compileNode_117 : decode cX12_compileNode 117 = .ok (.iconst 1, 1) := by decide +kernel
theorem dX12_compileNode_118 : decode cX12_compileNode 118 = .ok (.iload_n 2, 1) := by decide +kernel
theorem dX12_compileNode_119 : decode cX12_compileNode 119 = .ok (.iconst 0, 1) := by decide +kernel
theorem dX12_compileNode_120 : decode cX12_compileNode 120 = .ok (.invokevirtual 554, 3) := by decide +kernel
theorem dX12_compileNode_123 : decode cX12_compileNode 123 = .ok (.goto 192, 3) := by decide +kernel
theorem dX12_compileNode_126 : decode cX12_compileNode 126 = .ok (.aload_n 0, 1) := by decide +kernel
theorem dX12_compileNode_127 : decode cX12_compileNode 127 = .ok (.iconst 2, 1) := by decide +kernel
theorem dX12_compileNode_128 : decode cX12_compileNode 128 = .ok (.iload_n 2, 1) := by decide +kernel
theorem dX12_compileNode_129 : decode cX12_compileNode 129 = .ok (.iconst 0, 1) := by decide +kernel
theorem dX12_compileNode_130 : decode cX12_compileNode 130 = .ok (.invokevirtual 554, 3) := by decide +kernel
theorem dX12_compileNode_133 : decode cX12_compileNode 133 = .ok (.goto 182, 3) := by decide +kernel
theorem dX12_compileNode_136 : decode cX12_compileNode 136 = .ok (.iload 6, 2) := by decide +kernel
theorem dX12_compileNode_138 : decode cX12_compileNode 138 = .ok (.iconst 1, 1) := by decide +kernel
theorem dX12_compileNode_139 : decode cX12_compileNode 139 = .ok (.isub, 1) := by decide +kernel
theorem dX12_compileNode_140 : decode cX12_compileNode 140 = .ok (.istore 7, 2) := by decide +kernel
theorem dX12_compileNode_142 : decode cX12_compileNode 142 = .ok (.iload 7, 2) := by decide +kernel
theorem dX12_compileNode_144 : decode cX12_compileNode 144 = .ok (.ifCond .lt 23, 3) := by decide +kernel
theorem dX12_compileNode_147 : decode cX12_compileNode 147 = .ok (.aload_n 0, 1) := by decide +kernel
theorem dX12_compileNode_148 : decode cX12_compileNode 148 = .ok (.bipush 100, 2) := by decide +kernel
theorem dX12_compileNode_150 : decode cX12_compileNode 150 = .ok (.aload_n 0, 1) := by decide +kernel
theorem dX12_compileNode_151 : decode cX12_compileNode 151 = .ok (.getfield 201, 3) := by decide +kernel
theorem dX12_compileNode_154 : decode cX12_compileNode 154 = .ok (.iload 7, 2) := by decide +kernel
theorem dX12_compileNode_156 : decode cX12_compileNode 156 = .ok (.iaload, 1) := by decide +kernel
theorem dX12_compileNode_157 : decode cX12_compileNode 157 = .ok (.iconst 0, 1) := by decide +kernel
theorem dX12_compileNode_158 : decode cX12_compileNode 158 = .ok (.invokevirtual 554, 3) := by decide +kernel
theorem dX12_compileNode_161 : decode cX12_compileNode 161 = .ok (.iinc 7 (-1), 3) := by decide +kernel
theorem dX12_compileNode_164 : decode cX12_compileNode 164 = .ok (.goto (-22), 3) := by decide +kernel
theorem dX12_compileNode_167 : decode cX12_compileNode 167 = .ok (.goto 148, 3) := by decide +kernel
theorem dX12_compileNode_170 : decode cX12_compileNode 170 = .ok (.aload_n 0, 1) := by decide +kernel
theorem dX12_compileNode_171 : decode cX12_compileNode 171 = .ok (.iload 6, 2) := by decide +kernel
theorem dX12_compileNode_173 : decode cX12_compileNode 173 = .ok (.invokevirtual 562, 3) := by decide +kernel
theorem dX12_compileNode_176 : decode cX12_compileNode 176 = .ok (.iload_n 3, 1) := by decide +kernel
theorem dX12_compileNode_177 : decode cX12_compileNode 177 = .ok (.ifCond .ne 138, 3) := by decide +kernel
theorem dX12_compileNode_180 : decode cX12_compileNode 180 = .ok (.aload_n 0, 1) := by decide +kernel
theorem dX12_compileNode_181 : decode cX12_compileNode 181 = .ok (.bipush 21, 2) := by decide +kernel
theorem dX12_compileNode_183 : decode cX12_compileNode 183 = .ok (.iconst 0, 1) := by decide +kernel
theorem dX12_compileNode_184 : decode cX12_compileNode 184 = .ok (.iconst 0, 1) := by decide +kernel
theorem dX12_compileNode_185 : decode cX12_compileNode 185 = .ok (.invokevirtual 554, 3) := by decide +kernel
theorem dX12_compileNode_188 : decode cX12_compileNode 188 = .ok (.goto 127, 3) := by decide +kernel
theorem dX12_compileNode_191 : decode cX12_compileNode 191 = .ok (.iload_n 3, 1) := by decide +kernel
theorem dX12_compileNode_192 : decode cX12_compileNode 192 = .ok (.ifCond .eq 13, 3) := by decide +kernel
theorem dX12_compileNode_195 : decode cX12_compileNode 195 = .ok (.aload_n 0, 1) := by decide +kernel
theorem dX12_compileNode_196 : decode cX12_compileNode 196 = .ok (.iload 5, 2) := by decide +kernel
theorem dX12_compileNode_198 : decode cX12_compileNode 198 = .ok (.iload_n 2, 1) := by decide +kernel
theorem dX12_compileNode_199 : decode cX12_compileNode 199 = .ok (.invokevirtual 565, 3) := by decide +kernel
theorem dX12_compileNode_202 : decode cX12_compileNode 202 = .ok (.goto 113, 3) := by decide +kernel
theorem dX12_compileNode_205 : decode cX12_compileNode 205 = .ok (.aload_n 0, 1) := by decide +kernel
theorem dX12_compileNode_206 : decode cX12_compileNode 206 = .ok (.iload 5, 2) := by decide +kernel
theorem dX12_compileNode_208 : decode cX12_compileNode 208 = .ok (.iload_n 2, 1) := by decide +kernel
theorem dX12_compileNode_209 : decode cX12_compileNode 209 = .ok (.invokevirtual 568, 3) := by decide +kernel
theorem dX12_compileNode_212 : decode cX12_compileNode 212 = .ok (.goto 103, 3) := by decide +kernel
theorem dX12_compileNode_215 : decode cX12_compileNode 215 = .ok (.aload_n 0, 1) := by decide +kernel
theorem dX12_compileNode_216 : decode cX12_compileNode 216 = .ok (.bipush 7, 2) := by decide +kernel
theorem dX12_compileNode_218 : decode cX12_compileNode 218 = .ok (.aload_n 0, 1) := by decide +kernel
theorem dX12_compileNode_219 : decode cX12_compileNode 219 = .ok (.getfield 47, 3) := by decide +kernel
theorem dX12_compileNode_222 : decode cX12_compileNode 222 = .ok (.iload 5, 2) := by decide +kernel
theorem dX12_compileNode_224 : decode cX12_compileNode 224 = .ok (.iaload, 1) := by decide +kernel
theorem dX12_compileNode_225 : decode cX12_compileNode 225 = .ok (.iconst 0, 1) := by decide +kernel
theorem dX12_compileNode_226 : decode cX12_compileNode 226 = .ok (.invokevirtual 554, 3) := by decide +kernel
theorem dX12_compileNode_229 : decode cX12_compileNode 229 = .ok (.aload_n 0, 1) := by decide +kernel
theorem dX12_compileNode_230 : decode cX12_compileNode 230 = .ok (.bipush 100, 2) := by decide +kernel
theorem dX12_compileNode_232 : decode cX12_compileNode 232 = .ok (.iload_n 2, 1) := by decide +kernel
theorem dX12_compileNode_233 : decode cX12_compileNode 233 = .ok (.iconst 1, 1) := by decide +kernel
theorem dX12_compileNode_234 : decode cX12_compileNode 234 = .ok (.iadd, 1) := by decide +kernel
theorem dX12_compileNode_235 : decode cX12_compileNode 235 = .ok (.iconst 0, 1) := by decide +kernel
theorem dX12_compileNode_236 : decode cX12_compileNode 236 = .ok (.invokevirtual 554, 3) := by decide +kernel
theorem dX12_compileNode_239 : decode cX12_compileNode 239 = .ok (.aload_n 0, 1) := by decide +kernel
theorem dX12_compileNode_240 : decode cX12_compileNode 240 = .ok (.bipush 6, 2) := by decide +kernel
theorem dX12_compileNode_242 : decode cX12_compileNode 242 = .ok (.aload_n 0, 1) := by decide +kernel
theorem dX12_compileNode_243 : decode cX12_compileNode 243 = .ok (.getfield 47, 3) := by decide +kernel
theorem dX12_compileNode_246 : decode cX12_compileNode 246 = .ok (.iload 5, 2) := by decide +kernel
theorem dX12_compileNode_248 : decode cX12_compileNode 248 = .ok (.iaload, 1) := by decide +kernel
theorem dX12_compileNode_249 : decode cX12_compileNode 249 = .ok (.iconst 0, 1) := by decide +kernel
theorem dX12_compileNode_250 : decode cX12_compileNode 250 = .ok (.invokevirtual 554, 3) := by decide +kernel
theorem dX12_compileNode_253 : decode cX12_compileNode 253 = .ok (.goto 62, 3) := by decide +kernel
theorem dX12_compileNode_256 : decode cX12_compileNode 256 = .ok (.aload_n 0, 1) := by decide +kernel
theorem dX12_compileNode_257 : decode cX12_compileNode 257 = .ok (.iload 5, 2) := by decide +kernel
theorem dX12_compileNode_259 : decode cX12_compileNode 259 = .ok (.iload_n 2, 1) := by decide +kernel
theorem dX12_compileNode_260 : decode cX12_compileNode 260 = .ok (.invokevirtual 571, 3) := by decide +kernel
theorem dX12_compileNode_263 : decode cX12_compileNode 263 = .ok (.goto 52, 3) := by decide +kernel
theorem dX12_compileNode_266 : decode cX12_compileNode 266 = .ok (.aload_n 0, 1) := by decide +kernel
theorem dX12_compileNode_267 : decode cX12_compileNode 267 = .ok (.bipush 12, 2) := by decide +kernel
theorem dX12_compileNode_269 : decode cX12_compileNode 269 = .ok (.iload_n 2, 1) := by decide +kernel
theorem dX12_compileNode_270 : decode cX12_compileNode 270 = .ok (.iconst 0, 1) := by decide +kernel
theorem dX12_compileNode_271 : decode cX12_compileNode 271 = .ok (.invokevirtual 554, 3) := by decide +kernel
theorem dX12_compileNode_274 : decode cX12_compileNode 274 = .ok (.aload_n 0, 1) := by decide +kernel
theorem dX12_compileNode_275 : decode cX12_compileNode 275 = .ok (.bipush 100, 2) := by decide +kernel
theorem dX12_compileNode_277 : decode cX12_compileNode 277 = .ok (.iload_n 2, 1) := by decide +kernel
theorem dX12_compileNode_278 : decode cX12_compileNode 278 = .ok (.iconst 1, 1) := by decide +kernel
theorem dX12_compileNode_279 : decode cX12_compileNode 279 = .ok (.iadd, 1) := by decide +kernel
theorem dX12_compileNode_280 : decode cX12_compileNode 280 = .ok (.iconst 0, 1) := by decide +kernel
theorem dX12_compileNode_281 : decode cX12_compileNode 281 = .ok (.invokevirtual 554, 3) := by decide +kernel
theorem dX12_compileNode_284 : decode cX12_compileNode 284 = .ok (.aload_n 0, 1) := by decide +kernel
theorem dX12_compileNode_285 : decode cX12_compileNode 285 = .ok (.bipush 11, 2) := by decide +kernel
theorem dX12_compileNode_287 : decode cX12_compileNode 287 = .ok (.iload_n 2, 1) := by decide +kernel
theorem dX12_compileNode_288 : decode cX12_compileNode 288 = .ok (.iconst 0, 1) := by decide +kernel
theorem dX12_compileNode_289 : decode cX12_compileNode 289 = .ok (.invokevirtual 554, 3) := by decide +kernel
theorem dX12_compileNode_292 : decode cX12_compileNode 292 = .ok (.goto 23, 3) := by decide +kernel
theorem dX12_compileNode_295 : decode cX12_compileNode 295 = .ok (.aload_n 0, 1) := by decide +kernel
theorem dX12_compileNode_296 : decode cX12_compileNode 296 = .ok (.bipush 100, 2) := by decide +kernel
theorem dX12_compileNode_298 : decode cX12_compileNode 298 = .ok (.iload_n 2, 1) := by decide +kernel
theorem dX12_compileNode_299 : decode cX12_compileNode 299 = .ok (.iconst 1, 1) := by decide +kernel
theorem dX12_compileNode_300 : decode cX12_compileNode 300 = .ok (.iadd, 1) := by decide +kernel
theorem dX12_compileNode_301 : decode cX12_compileNode 301 = .ok (.iconst 0, 1) := by decide +kernel
theorem dX12_compileNode_302 : decode cX12_compileNode 302 = .ok (.invokevirtual 554, 3) := by decide +kernel
theorem dX12_compileNode_305 : decode cX12_compileNode 305 = .ok (.goto 10, 3) := by decide +kernel
theorem dX12_compileNode_308 : decode cX12_compileNode 308 = .ok (.aload_n 0, 1) := by decide +kernel
theorem dX12_compileNode_309 : decode cX12_compileNode 309 = .ok (.iconst 0, 1) := by decide +kernel
theorem dX12_compileNode_310 : decode cX12_compileNode 310 = .ok (.iload_n 2, 1) := by decide +kernel
theorem dX12_compileNode_311 : decode cX12_compileNode 311 = .ok (.iconst 0, 1) := by decide +kernel
theorem dX12_compileNode_312 : decode cX12_compileNode 312 = .ok (.invokevirtual 554, 3) := by decide +kernel
theorem dX12_compileNode_315 : decode cX12_compileNode 315 = .ok (.return_, 1) := by decide +kernel
theorem dX12_countItem_0 : decode cX12_countItem 0 = .ok (.aload_n 0, 1) := by decide +kernel
theorem dX12_countItem_1 : decode cX12_countItem 1 = .ok (.getfield 342, 3) := by decide +kernel
theorem dX12_countItem_4 : decode cX12_countItem 4 = .ok (.bipush 100, 2) := by decide +kernel
theorem dX12_countItem_6 : decode cX12_countItem 6 = .ok (.if_icmp .ne 9, 3) := by decide +kernel
theorem dX12_countItem_9 : decode cX12_countItem 9 = .ok (.aload_n 0, 1) := by decide +kernel
theorem dX12_countItem_10 : decode cX12_countItem 10 = .ok (.iconst 2, 1) := by decide +kernel
theorem dX12_countItem_11 : decode cX12_countItem 11 = .ok (.iload_n 1, 1) := by decide +kernel
theorem dX12_countItem_12 : decode cX12_countItem 12 = .ok (.invokevirtual 345, 3) := by decide +kernel
theorem dX12_countItem_15 : decode cX12_countItem 15 = .ok (.aload_n 0, 1) := by decide +kernel
theorem dX12_countItem_16 : decode cX12_countItem 16 = .ok (.dup, 1) := by decide +kernel
theorem dX12_countItem_17 : decode cX12_countItem 17 = .ok (.getfield 342, 3) := by decide +kernel
theorem dX12_countItem_20 : decode cX12_countItem 20 = .ok (.iconst 1, 1) := by decide +kernel
theorem dX12_countItem_21 : decode cX12_countItem 21 = .ok (.iadd, 1) := by decide +kernel
theorem dX12_countItem_22 : decode cX12_countItem 22 = .ok (.putfield 342, 3) := by decide +kernel
theorem dX12_countItem_25 : decode cX12_countItem 25 = .ok (.return_, 1) := by decide +kernel
theorem dX12_dead_0 : decode cX12_dead 0 = .ok (.aload_n 0, 1) := by decide +kernel
theorem dX12_dead_1 : decode cX12_dead 1 = .ok (.iconst 0, 1) := by decide +kernel
theorem dX12_dead_2 : decode cX12_dead 2 = .ok (.putfield 1, 3) := by decide +kernel
theorem dX12_dead_5 : decode cX12_dead 5 = .ok (.aload_n 0, 1) := by decide +kernel
theorem dX12_dead_6 : decode cX12_dead 6 = .ok (.iload_n 1, 1) := by decide +kernel
theorem dX12_dead_7 : decode cX12_dead 7 = .ok (.invokevirtual 459, 3) := by decide +kernel
theorem dX12_dead_10 : decode cX12_dead 10 = .ok (.ifCond .eq 6, 3) := by decide +kernel
theorem dX12_dead_13 : decode cX12_dead 13 = .ok (.bipush (-2), 2) := by decide +kernel
theorem dX12_dead_15 : decode cX12_dead 15 = .ok (.ireturn, 1) := by decide +kernel
theorem dX12_dead_16 : decode cX12_dead 16 = .ok (.iload_n 2, 1) := by decide +kernel
theorem dX12_dead_17 : decode cX12_dead 17 = .ok (.ifCond .ge 6, 3) := by decide +kernel
theorem dX12_dead_20 : decode cX12_dead 20 = .ok (.bipush (-4), 2) := by decide +kernel
theorem dX12_dead_22 : decode cX12_dead 22 = .ok (.ireturn, 1) := by decide +kernel
theorem dX12_dead_23 : decode cX12_dead 23 = .ok (.sipush 220, 3) := by decide +kernel
theorem dX12_dead_26 : decode cX12_dead 26 = .ok (.iload_n 1, 1) := by decide +kernel
theorem dX12_dead_27 : decode cX12_dead 27 = .ok (.imul, 1) := by decide +kernel
theorem dX12_dead_28 : decode cX12_dead 28 = .ok (.istore_n 3, 1) := by decide +kernel
theorem dX12_dead_29 : decode cX12_dead 29 = .ok (.iload_n 2, 1) := by decide +kernel
theorem dX12_dead_30 : decode cX12_dead 30 = .ok (.istore 4, 2) := by decide +kernel
theorem dX12_dead_32 : decode cX12_dead 32 = .ok (.iconst 1, 1) := by decide +kernel
theorem dX12_dead_33 : decode cX12_dead 33 = .ok (.istore 5, 2) := by decide +kernel
theorem dX12_dead_35 : decode cX12_dead 35 = .ok (.iload 5, 2) := by decide +kernel
theorem dX12_dead_37 : decode cX12_dead 37 = .ok (.aload_n 0, 1) := by decide +kernel
theorem dX12_dead_38 : decode cX12_dead 38 = .ok (.getfield 35, 3) := by decide +kernel
theorem dX12_dead_41 : decode cX12_dead 41 = .ok (.iload_n 1, 1) := by decide +kernel
theorem dX12_dead_42 : decode cX12_dead 42 = .ok (.iaload, 1) := by decide +kernel
theorem dX12_dead_43 : decode cX12_dead 43 = .ok (.if_icmp .ge 116, 3) := by decide +kernel
theorem dX12_dead_46 : decode cX12_dead 46 = .ok (.aload_n 0, 1) := by decide +kernel
theorem dX12_dead_47 : decode cX12_dead 47 = .ok (.getfield 56, 3) := by decide +kernel
theorem dX12_dead_50 : decode cX12_dead 50 = .ok (.iload_n 3, 1) := by decide +kernel
theorem dX12_dead_51 : decode cX12_dead 51 = .ok (.iload 5, 2) := by decide +kernel
theorem dX12_dead_53 : decode cX12_dead 53 = .ok (.iadd, 1) := by decide +kernel
theorem dX12_dead_54 : decode cX12_dead 54 = .ok (.iaload, 1) := by decide +kernel
theorem dX12_dead_55 : decode cX12_dead 55 = .ok (.istore 6, 2) := by decide +kernel
theorem dX12_dead_57 : decode cX12_dead 57 = .ok (.iconst 0, 1) := by decide +kernel
theorem dX12_dead_58 : decode cX12_dead 58 = .ok (.istore 7, 2) := by decide +kernel
theorem dX12_dead_60 : decode cX12_dead 60 = .ok (.aload_n 0, 1) := by decide +kernel
theorem dX12_dead_61 : decode cX12_dead 61 = .ok (.getfield 44, 3) := by decide +kernel
theorem dX12_dead_64 : decode cX12_dead 64 = .ok (.iload_n 3, 1) := by decide +kernel
theorem dX12_dead_65 : decode cX12_dead 65 = .ok (.iload 6, 2) := by decide +kernel
theorem dX12_dead_67 : decode cX12_dead 67 = .ok (.iadd, 1) := by decide +kernel
theorem dX12_dead_68 : decode cX12_dead 68 = .ok (.iaload, 1) := by decide +kernel
theorem dX12_dead_69 : decode cX12_dead 69 = .ok (.bipush 6, 2) := by decide +kernel
theorem dX12_dead_71 : decode cX12_dead 71 = .ok (.if_icmp .ne 54, 3) := by decide +kernel
theorem dX12_dead_74 : decode cX12_dead 74 = .ok (.iload 6, 2) := by decide +kernel
theorem dX12_dead_76 : decode cX12_dead 76 = .ok (.iconst 1, 1) := by decide +kernel
theorem dX12_dead_77 : decode cX12_dead 77 = .ok (.iadd, 1) := by decide +kernel
theorem dX12_dead_78 : decode cX12_dead 78 = .ok (.istore 8, 2) := by decide +kernel
theorem dX12_dead_80 : decode cX12_dead 80 = .ok (.iload 8, 2) := by decide +kernel
theorem dX12_dead_82 : decode cX12_dead 82 = .ok (.iload 5, 2) := by decide +kernel
theorem dX12_dead_84 : decode cX12_dead 84 = .ok (.if_icmp .ge 41, 3) := by decide +kernel
theorem dX12_dead_87 : decode cX12_dead 87 = .ok (.iload 7, 2) := by decide +kernel
theorem dX12_dead_89 : decode cX12_dead 89 = .ok (.ifCond .ne 15, 3) := by decide +kernel
theorem dX12_dead_92 : decode cX12_dead 92 = .ok (.aload_n 0, 1) := by decide +kernel
theorem dX12_dead_93 : decode cX12_dead 93 = .ok (.iload_n 1, 1) := by decide +kernel
theorem dX12_dead_94 : decode cX12_dead 94 = .ok (.iload 8, 2) := by decide +kernel
theorem dX12_dead_96 : decode cX12_dead 96 = .ok (.iload 5, 2) := by decide +kernel
theorem dX12_dead_98 : decode cX12_dead 98 = .ok (.invokevirtual 508, 3) := by decide +kernel
theorem dX12_dead_101 : decode cX12_dead 101 = .ok (.ifCond .eq 7, 3) := by decide +kernel
theorem dX12_dead_104 : decode cX12_dead 104 = .ok (.iconst 1, 1) := by decide +kernel
theorem dX12_dead_105 : decode cX12_dead 105 = .ok (.goto 4, 3) := by decide +kernel
theorem dX12_dead_108 : decode cX12_dead 108 = .ok (.iconst 0, 1) := by decide +kernel
theorem dX12_dead_109 : decode cX12_dead 109 = .ok (.istore 7, 2) := by decide +kernel
theorem dX12_dead_111 : decode cX12_dead 111 = .ok (.aload_n 0, 1) := by decide +kernel
theorem dX12_dead_112 : decode cX12_dead 112 = .ok (.getfield 62, 3) := by decide +kernel
theorem dX12_dead_115 : decode cX12_dead 115 = .ok (.iload_n 3, 1) := by decide +kernel
theorem dX12_dead_116 : decode cX12_dead 116 = .ok (.iload 8, 2) := by decide +kernel
theorem dX12_dead_118 : decode cX12_dead 118 = .ok (.iadd, 1) := by decide +kernel
theorem dX12_dead_119 : decode cX12_dead 119 = .ok (.iaload, 1) := by decide +kernel
theorem dX12_dead_120 : decode cX12_dead 120 = .ok (.istore 8, 2) := by decide +kernel
theorem dX12_dead_122 : decode cX12_dead 122 = .ok (.goto (-42), 3) := by decide +kernel
theorem dX12_dead_125 : decode cX12_dead 125 = .ok (.iload 7, 2) := by decide +kernel
theorem dX12_dead_127 : decode cX12_dead 127 = .ok (.ifCond .eq 11, 3) := by decide +kernel
theorem dX12_dead_130 : decode cX12_dead 130 = .ok (.iload 4, 2) := by decide +kernel
theorem dX12_dead_132 : decode cX12_dead 132 = .ok (.ifCond .ne 6, 3) := by decide +kernel
theorem dX12_dead_135 : decode cX12_dead 135 = .ok (.iload 5, 2) := by decide +kernel
theorem dX12_dead_137 : decode cX12_dead 137 = .ok (.ireturn, 1) := by decide +kernel
theorem dX12_dead_138 : decode cX12_dead 138 = .ok (.iload 4, 2) := by decide +kernel
theorem dX12_dead_140 : decode cX12_dead 140 = .ok (.iload 7, 2) := by decide +kernel
theorem dX12_dead_142 : decode cX12_dead 142 = .ok (.ifCond .eq 7, 3) := by decide +kernel
theorem dX12_dead_145 : decode cX12_dead 145 = .ok (.iconst 1, 1) := by decide +kernel
theorem dX12_dead_146 : decode cX12_dead 146 = .ok (.goto 4, 3) := by decide +kernel
theorem dX12_dead_149 : decode cX12_dead 149 = .ok (.iconst 0, 1) := by decide +kernel
theorem dX12_dead_150 : decode cX12_dead 150 = .ok (.isub, 1) := by decide +kernel
theorem dX12_dead_151 : decode cX12_dead 151 = .ok (.istore 4, 2) := by decide +kernel
theorem dX12_dead_153 : decode cX12_dead 153 = .ok (.iinc 5 1, 3) := by decide +kernel
theorem dX12_dead_156 : decode cX12_dead 156 = .ok (.goto (-121), 3) := by decide +kernel
theorem dX12_dead_159 : decode cX12_dead 159 = .ok (.iconst (-1), 1) := by decide +kernel
theorem dX12_dead_160 : decode cX12_dead 160 = .ok (.ireturn, 1) := by decide +kernel
theorem dX12_drop_0 : decode cX12_drop 0 = .ok (.aload_n 0, 1) := by decide +kernel
theorem dX12_drop_1 : decode cX12_drop 1 = .ok (.iconst 0, 1) := by decide +kernel
theorem dX12_drop_2 : decode cX12_drop 2 = .ok (.putfield 1, 3) := by decide +kernel
theorem dX12_drop_5 : decode cX12_drop 5 = .ok (.aload_n 0, 1) := by decide +kernel
theorem dX12_drop_6 : decode cX12_drop 6 = .ok (.iload_n 1, 1) := by decide +kernel
theorem dX12_drop_7 : decode cX12_drop 7 = .ok (.invokevirtual 542, 3) := by decide +kernel
theorem dX12_drop_10 : decode cX12_drop 10 = .ok (.istore_n 2, 1) := by decide +kernel
theorem dX12_drop_11 : decode cX12_drop 11 = .ok (.iload_n 2, 1) := by decide +kernel
theorem dX12_drop_12 : decode cX12_drop 12 = .ok (.ifCond .eq 5, 3) := by decide +kernel
theorem dX12_drop_15 : decode cX12_drop 15 = .ok (.iload_n 2, 1) := by decide +kernel
theorem dX12_drop_16 : decode cX12_drop 16 = .ok (.ireturn, 1) := by decide +kernel
theorem dX12_drop_17 : decode cX12_drop 17 = .ok (.aload_n 0, 1) := by decide +kernel
theorem dX12_drop_18 : decode cX12_drop 18 = .ok (.getfield 171, 3) := by decide +kernel
theorem dX12_drop_21 : decode cX12_drop 21 = .ok (.iload_n 1, 1) := by decide +kernel
theorem dX12_drop_22 : decode cX12_drop 22 = .ok (.iconst 0, 1) := by decide +kernel
theorem dX12_drop_23 : decode cX12_drop 23 = .ok (.bastore, 1) := by decide +kernel
theorem dX12_drop_24 : decode cX12_drop 24 = .ok (.aload_n 0, 1) := by decide +kernel
theorem dX12_drop_25 : decode cX12_drop 25 = .ok (.aload_n 0, 1) := by decide +kernel
theorem dX12_drop_26 : decode cX12_drop 26 = .ok (.getfield 449, 3) := by decide +kernel
theorem dX12_drop_29 : decode cX12_drop 29 = .ok (.ifCond .eq 15, 3) := by decide +kernel
theorem dX12_drop_32 : decode cX12_drop 32 = .ok (.aload_n 0, 1) := by decide +kernel
theorem dX12_drop_33 : decode cX12_drop 33 = .ok (.getfield 539, 3) := by decide +kernel
theorem dX12_drop_36 : decode cX12_drop 36 = .ok (.iload_n 1, 1) := by decide +kernel
theorem dX12_drop_37 : decode cX12_drop 37 = .ok (.if_icmp .eq 7, 3) := by decide +kernel
theorem dX12_drop_40 : decode cX12_drop 40 = .ok (.iconst 1, 1) := by decide +kernel
theorem dX12_drop_41 : decode cX12_drop 41 = .ok (.goto 4, 3) := by decide +kernel
theorem dX12_drop_44 : decode cX12_drop 44 = .ok (.iconst 0, 1) := by decide +kernel
theorem dX12_drop_45 : decode cX12_drop 45 = .ok (.putfield 449, 3) := by decide +kernel
theorem dX12_drop_48 : decode cX12_drop 48 = .ok (.aload_n 0, 1) := by decide +kernel
theorem dX12_drop_49 : decode cX12_drop 49 = .ok (.getfield 174, 3) := by decide +kernel
theorem dX12_drop_52 : decode cX12_drop 52 = .ok (.iload_n 1, 1) := by decide +kernel
theorem dX12_drop_53 : decode cX12_drop 53 = .ok (.iaload, 1) := by decide +kernel
theorem dX12_drop_54 : decode cX12_drop 54 = .ok (.ireturn, 1) := by decide +kernel
theorem dX12_escaped_0 : decode cX12_escaped 0 = .ok (.aload_n 0, 1) := by decide +kernel
theorem dX12_escaped_1 : decode cX12_escaped 1 = .ok (.aload_n 0, 1) := by decide +kernel
theorem dX12_escaped_2 : decode cX12_escaped 2 = .ok (.getfield 362, 3) := by decide +kernel
theorem dX12_escaped_5 : decode cX12_escaped 5 = .ok (.iconst 1, 1) := by decide +kernel
theorem dX12_escaped_6 : decode cX12_escaped 6 = .ok (.iadd, 1) := by decide +kernel
theorem dX12_escaped_7 : decode cX12_escaped 7 = .ok (.invokevirtual 349, 3) := by decide +kernel
theorem dX12_escaped_10 : decode cX12_escaped 10 = .ok (.istore_n 1, 1) := by decide +kernel
theorem dX12_escaped_11 : decode cX12_escaped 11 = .ok (.aload_n 0, 1) := by decide +kernel
theorem dX12_escaped_12 : decode cX12_escaped 12 = .ok (.getfield 396, 3) := by decide +kernel
theorem dX12_escaped_15 : decode cX12_escaped 15 = .ok (.istore_n 2, 1) := by decide +kernel
theorem dX12_escaped_16 : decode cX12_escaped 16 = .ok (.aload_n 0, 1) := by decide +kernel
theorem dX12_escaped_17 : decode cX12_escaped 17 = .ok (.getfield 362, 3) := by decide +kernel
theorem dX12_escaped_20 : decode cX12_escaped 20 = .ok (.iconst 1, 1) := by decide +kernel
theorem dX12_escaped_21 : decode cX12_escaped 21 = .ok (.iadd, 1) := by decide +kernel
theorem dX12_escaped_22 : decode cX12_escaped 22 = .ok (.istore_n 3, 1) := by decide +kernel
theorem dX12_escaped_23 : decode cX12_escaped 23 = .ok (.aload_n 0, 1) := by decide +kernel
theorem dX12_escaped_24 : decode cX12_escaped 24 = .ok (.dup, 1) := by decide +kernel
theorem dX12_escaped_25 : decode cX12_escaped 25 = .ok (.getfield 362, 3) := by decide +kernel
theorem dX12_escaped_28 : decode cX12_escaped 28 = .ok (.iconst 2, 1) := by decide +kernel
theorem dX12_escaped_29 : decode cX12_escaped 29 = .ok (.iadd, 1) := by decide +kernel
theorem dX12_escaped_30 : decode cX12_escaped 30 = .ok (.putfield 362, 3) := by decide +kernel
theorem dX12_escaped_33 : decode cX12_escaped 33 = .ok (.iload_n 1, 1) := by decide +kernel
theorem dX12_escaped_34 : decode cX12_escaped 34 = .ok (.bipush 98, 2) := by decide +kernel
theorem dX12_escaped_36 : decode cX12_escaped 36 = .ok (.if_icmp .eq 9, 3) := by decide +kernel
theorem dX12_escaped_39 : decode cX12_escaped 39 = .ok (.iload_n 1, 1) := by decide +kernel
theorem dX12_escaped_40 : decode cX12_escaped 40 = .ok (.bipush 66, 2) := by decide +kernel
theorem dX12_escaped_42 : decode cX12_escaped 42 = .ok (.if_icmp .ne 20, 3) := by decide +kernel
theorem dX12_escaped_45 : decode cX12_escaped 45 = .ok (.aload_n 0, 1) := by decide +kernel
theorem dX12_escaped_46 : decode cX12_escaped 46 = .ok (.iconst 3, 1) := by decide +kernel
theorem dX12_escaped_47 : decode cX12_escaped 47 = .ok (.iload_n 1, 1) := by decide +kernel
theorem dX12_escaped_48 : decode cX12_escaped 48 = .ok (.bipush 98, 2) := by decide +kernel
theorem dX12_escaped_50 : decode cX12_escaped 50 = .ok (.if_icmp .ne 7, 3) := by decide +kernel
theorem dX12_escaped_53 : decode cX12_escaped 53 = .ok (.iconst 2, 1) := by decide +kernel
theorem dX12_escaped_54 : decode cX12_escaped 54 = .ok (.goto 4, 3) := by decide +kernel
theorem dX12_escaped_57 : decode cX12_escaped 57 = .ok (.iconst 3, 1) := by decide +kernel
theorem dX12_escaped_58 : decode cX12_escaped 58 = .ok (.invokevirtual 335, 3) := by decide +kernel
theorem dX12_escaped_61 : decode cX12_escaped 61 = .ok (.ireturn, 1) := by decide +kernel
theorem dX12_escaped_62 : decode cX12_escaped 62 = .ok (.iload_n 1, 1) := by decide +kernel
theorem dX12_escaped_63 : decode cX12_escaped 63 = .ok (.bipush 100, 2) := by decide +kernel
theorem dX12_escaped_65 : decode cX12_escaped 65 = .ok (.if_icmp .eq 9, 3) := by decide +kernel
theorem dX12_escaped_68 : decode cX12_escaped 68 = .ok (.iload_n 1, 1) := by decide +kernel
theorem dX12_escaped_69 : decode cX12_escaped 69 = .ok (.bipush 119, 2) := by decide +kernel
theorem dX12_escaped_71 : decode cX12_escaped 71 = .ok (.if_icmp .ne 48, 3) := by decide +kernel
theorem dX12_escaped_74 : decode cX12_escaped 74 = .ok (.aload_n 0, 1) := by decide +kernel
theorem dX12_escaped_75 : decode cX12_escaped 75 = .ok (.bipush 48, 2) := by decide +kernel
theorem dX12_escaped_77 : decode cX12_escaped 77 = .ok (.bipush 57, 2) := by decide +kernel
theorem dX12_escaped_79 : decode cX12_escaped 79 = .ok (.invokevirtual 414, 3) := by decide +kernel
theorem dX12_escaped_82 : decode cX12_escaped 82 = .ok (.iload_n 1, 1) := by decide +kernel
theorem dX12_escaped_83 : decode cX12_escaped 83 = .ok (.bipush 119, 2) := by decide +kernel
theorem dX12_escaped_85 : decode cX12_escaped 85 = .ok (.if_icmp .ne 27, 3) := by decide +kernel
theorem dX12_escaped_88 : decode cX12_escaped 88 = .ok (.aload_n 0, 1) := by decide +kernel
theorem dX12_escaped_89 : decode cX12_escaped 89 = .ok (.bipush 65, 2) := by decide +kernel
theorem dX12_escaped_91 : decode cX12_escaped 91 = .ok (.bipush 90, 2) := by decide +kernel
theorem dX12_escaped_93 : decode cX12_escaped 93 = .ok (.invokevirtual 414, 3) := by decide +kernel
theorem dX12_escaped_96 : decode cX12_escaped 96 = .ok (.aload_n 0, 1) := by decide +kernel
theorem dX12_escaped_97 : decode cX12_escaped 97 = .ok (.bipush 95, 2) := by decide +kernel
theorem dX12_escaped_99 : decode cX12_escaped 99 = .ok (.bipush 95, 2) := by decide +kernel
theorem dX12_escaped_101 : decode cX12_escaped 101 = .ok (.invokevirtual 414, 3) := by decide +kernel
theorem dX12_escaped_104 : decode cX12_escaped 104 = .ok (.aload_n 0, 1) := by decide +kernel
theorem dX12_escaped_105 : decode cX12_escaped 105 = .ok (.bipush 97, 2) := by decide +kernel
theorem dX12_escaped_107 : decode cX12_escaped 107 = .ok (.bipush 122, 2) := by decide +kernel
theorem dX12_escaped_109 : decode cX12_escaped 109 = .ok (.invokevirtual 414, 3) := by decide +kernel
theorem dX12_escaped_112 : decode cX12_escaped 112 = .ok (.aload_n 0, 1) := by decide +kernel
theorem dX12_escaped_113 : decode cX12_escaped 113 = .ok (.iload_n 2, 1) := by decide +kernel
theorem dX12_escaped_114 : decode cX12_escaped 114 = .ok (.iconst 0, 1) := by decide +kernel
theorem dX12_escaped_115 : decode cX12_escaped 115 = .ok (.invokevirtual 417, 3) := by decide +kernel
theorem dX12_escaped_118 : decode cX12_escaped 118 = .ok (.ireturn, 1) := by decide +kernel
theorem dX12_escaped_119 : decode cX12_escaped 119 = .ok (.iload_n 1, 1) := by decide +kernel
theorem dX12_escaped_120 : decode cX12_escaped 120 = .ok (.bipush 49, 2) := by decide +kernel
theorem dX12_escaped_122 : decode cX12_escaped 122 = .ok (.bipush 57, 2) := by decide +kernel
theorem dX12_escaped_124 : decode cX12_escaped 124 = .ok (.invokestatic 7, 3) := by decide +kernel
theorem dX12_escaped_127 : decode cX12_escaped 127 = .ok (.ifCond .eq 30, 3) := by decide +kernel
theorem dX12_escaped_130 : decode cX12_escaped 130 = .ok (.iload_n 1, 1) := by decide +kernel
theorem dX12_escaped_131 : decode cX12_escaped 131 = .ok (.bipush 48, 2) := by decide +kernel
theorem dX12_escaped_133 : decode cX12_escaped 133 = .ok (.isub, 1) := by decide +kernel
theorem dX12_escaped_134 : decode cX12_escaped 134 = .ok (.aload_n 0, 1) := by decide +kernel
theorem dX12_escaped_135 : decode cX12_escaped 135 = .ok (.getfield 377, 3) := by decide +kernel
theorem dX12_escaped_138 : decode cX12_escaped 138 = .ok (.if_icmp .le 9, 3) := by decide +kernel
theorem dX12_escaped_141 : decode cX12_escaped 141 = .ok (.aload_n 0, 1) := by decide +kernel
theorem dX12_escaped_142 : decode cX12_escaped 142 = .ok (.iconst 3, 1) := by decide +kernel
theorem dX12_escaped_143 : decode cX12_escaped 143 = .ok (.iload_n 3, 1) := by decide +kernel
theorem dX12_escaped_144 : decode cX12_escaped 144 = .ok (.invokevirtual 345, 3) := by decide +kernel
theorem dX12_escaped_147 : decode cX12_escaped 147 = .ok (.aload_n 0, 1) := by decide +kernel
theorem dX12_escaped_148 : decode cX12_escaped 148 = .ok (.iconst 4, 1) := by decide +kernel
theorem dX12_escaped_149 : decode cX12_escaped 149 = .ok (.iload_n 1, 1) := by decide +kernel
theorem dX12_escaped_150 : decode cX12_escaped 150 = .ok (.bipush 48, 2) := by decide +kernel
theorem dX12_escaped_152 : decode cX12_escaped 152 = .ok (.isub, 1) := by decide +kernel
theorem dX12_escaped_153 : decode cX12_escaped 153 = .ok (.invokevirtual 335, 3) := by decide +kernel
theorem dX12_escaped_156 : decode cX12_escaped 156 = .ok (.ireturn, 1) := by decide +kernel
theorem dX12_escaped_157 : decode cX12_escaped 157 = .ok (.iload_n 1, 1) := by decide +kernel
theorem dX12_escaped_158 : decode cX12_escaped 158 = .ok (.bipush 64, 2) := by decide +kernel
theorem dX12_escaped_160 : decode cX12_escaped 160 = .ok (.if_icmp .ne 74, 3) := by decide +kernel
theorem dX12_escaped_163 : decode cX12_escaped 163 = .ok (.aload_n 0, 1) := by decide +kernel
theorem dX12_escaped_164 : decode cX12_escaped 164 = .ok (.aload_n 0, 1) := by decide +kernel
theorem dX12_escaped_165 : decode cX12_escaped 165 = .ok (.getfield 362, 3) := by decide +kernel
theorem dX12_escaped_168 : decode cX12_escaped 168 = .ok (.invokevirtual 349, 3) := by decide +kernel
theorem dX12_escaped_171 : decode cX12_escaped 171 = .ok (.istore 4, 2) := by decide +kernel
theorem dX12_escaped_173 : decode cX12_escaped 173 = .ok (.iload 4, 2) := by decide +kernel
theorem dX12_escaped_175 : decode cX12_escaped 175 = .ok (.bipush 97, 2) := by decide +kernel
theorem dX12_escaped_177 : decode cX12_escaped 177 = .ok (.bipush 122, 2) := by decide +kernel
theorem dX12_escaped_179 : decode cX12_escaped 179 = .ok (.invokestatic 7, 3) := by decide +kernel
theorem dX12_escaped_182 : decode cX12_escaped 182 = .ok (.ifCond .ne 12, 3) := by decide +kernel
theorem dX12_escaped_185 : decode cX12_escaped 185 = .ok (.aload_n 0, 1) := by decide +kernel
theorem dX12_escaped_186 : decode cX12_escaped 186 = .ok (.iconst 1, 1) := by decide +kernel
theorem dX12_escaped_187 : decode cX12_escaped 187 = .ok (.aload_n 0, 1) := by decide +kernel
theorem dX12_escaped_188 : decode cX12_escaped 188 = .ok (.getfield 362, 3) := by decide +kernel
theorem dX12_escaped_191 : decode cX12_escaped 191 = .ok (.invokevirtual 345, 3) := by decide +kernel
theorem dX12_escaped_194 : decode cX12_escaped 194 = .ok (.aload_n 0, 1) := by decide +kernel
theorem dX12_escaped_195 : decode cX12_escaped 195 = .ok (.iload 4, 2) := by decide +kernel
theorem dX12_escaped_197 : decode cX12_escaped 197 = .ok (.invokevirtual 380, 3) := by decide +kernel
theorem dX12_escaped_200 : decode cX12_escaped 200 = .ok (.istore 5, 2) := by decide +kernel
theorem dX12_escaped_202 : decode cX12_escaped 202 = .ok (.iload 5, 2) := by decide +kernel
theorem dX12_escaped_204 : decode cX12_escaped 204 = .ok (.ifCond .ne 12, 3) := by decide +kernel
theorem dX12_escaped_207 : decode cX12_escaped 207 = .ok (.aload_n 0, 1) := by decide +kernel
theorem dX12_escaped_208 : decode cX12_escaped 208 = .ok (.iconst 3, 1) := by decide +kernel
theorem dX12_escaped_209 : decode cX12_escaped 209 = .ok (.aload_n 0, 1) := by decide +kernel
theorem dX12_escaped_210 : decode cX12_escaped 210 = .ok (.getfield 362, 3) := by decide +kernel
theorem dX12_escaped_213 : decode cX12_escaped 213 = .ok (.invokevirtual 345, 3) := by decide +kernel
theorem dX12_escaped_216 : decode cX12_escaped 216 = .ok (.aload_n 0, 1) := by decide +kernel
theorem dX12_escaped_217 : decode cX12_escaped 217 = .ok (.dup, 1) := by decide +kernel
theorem dX12_escaped_218 : decode cX12_escaped 218 = .ok (.getfield 362, 3) := by decide +kernel
theorem dX12_escaped_221 : decode cX12_escaped 221 = .ok (.iconst 1, 1) := by decide +kernel
theorem dX12_escaped_222 : decode cX12_escaped 222 = .ok (.iadd, 1) := by decide +kernel
theorem dX12_escaped_223 : decode cX12_escaped 223 = .ok (.putfield 362, 3) := by decide +kernel
theorem dX12_escaped_226 : decode cX12_escaped 226 = .ok (.aload_n 0, 1) := by decide +kernel
theorem dX12_escaped_227 : decode cX12_escaped 227 = .ok (.iconst 4, 1) := by decide +kernel
theorem dX12_escaped_228 : decode cX12_escaped 228 = .ok (.iload 5, 2) := by decide +kernel
theorem dX12_escaped_230 : decode cX12_escaped 230 = .ok (.invokevirtual 335, 3) := by decide +kernel
theorem dX12_escaped_233 : decode cX12_escaped 233 = .ok (.ireturn, 1) := by decide +kernel
theorem dX12_escaped_234 : decode cX12_escaped 234 = .ok (.iload_n 1, 1) := by decide +kernel
theorem dX12_escaped_235 : decode cX12_escaped 235 = .ok (.bipush 120, 2) := by decide +kernel
theorem dX12_escaped_237 : decode cX12_escaped 237 = .ok (.if_icmp .ne 31, 3) := by decide +kernel
theorem dX12_escaped_240 : decode cX12_escaped 240 = .ok (.aload_n 0, 1) := by decide +kernel
theorem dX12_escaped_241 : decode cX12_escaped 241 = .ok (.aload_n 0, 1) := by decide +kernel
theorem dX12_escaped_242 : decode cX12_escaped 242 = .ok (.getfield 362, 3) := by decide +kernel
theorem dX12_escaped_245 : decode cX12_escaped 245 = .ok (.invokevirtual 408, 3) := by decide +kernel
theorem dX12_escaped_248 : decode cX12_escaped 248 = .ok (.istore 4, 2) := by decide +kernel
theorem dX12_escaped_250 : decode cX12_escaped 250 = .ok (.aload_n 0, 1) := by decide +kernel
theorem dX12_escaped_251 : decode cX12_escaped 251 = .ok (.dup, 1) := by decide +kernel
theorem dX12_escaped_252 : decode cX12_escaped 252 = .ok (.getfield 362, 3) := by decide +kernel
theorem dX12_escaped_255 : decode cX12_escaped 255 = .ok (.iconst 4, 1) := by decide +kernel
theorem dX12_escaped_256 : decode cX12_escaped 256 = .ok (.iadd, 1) := by decide +kernel
theorem dX12_escaped_257 : decode cX12_escaped 257 = .ok (.putfield 362, 3) := by decide +kernel
theorem dX12_escaped_260 : decode cX12_escaped 260 = .ok (.aload_n 0, 1) := by decide +kernel
theorem dX12_escaped_261 : decode cX12_escaped 261 = .ok (.iconst 0, 1) := by decide +kernel
theorem dX12_escaped_262 : decode cX12_escaped 262 = .ok (.iload 4, 2) := by decide +kernel
theorem dX12_escaped_264 : decode cX12_escaped 264 = .ok (.invokevirtual 335, 3) := by decide +kernel
theorem dX12_escaped_267 : decode cX12_escaped 267 = .ok (.ireturn, 1) := by decide +kernel
theorem dX12_escaped_268 : decode cX12_escaped 268 = .ok (.iload_n 1, 1) := by decide +kernel
theorem dX12_escaped_269 : decode cX12_escaped 269 = .ok (.iconst (-1), 1) := by decide +kernel
theorem dX12_escaped_270 : decode cX12_escaped 270 = .ok (.if_icmp .eq 17, 3) := by decide +kernel
theorem dX12_escaped_273 : decode cX12_escaped 273 = .ok (.iload_n 1, 1) := by decide +kernel
theorem dX12_escaped_274 : decode cX12_escaped 274 = .ok (.invokestatic 11, 3) := by decide +kernel
theorem dX12_escaped_277 : decode cX12_escaped 277 = .ok (.ifCond .ne 10, 3) := by decide +kernel
theorem dX12_escaped_280 : decode cX12_escaped 280 = .ok (.iload_n 1, 1) := by decide +kernel
theorem dX12_escaped_281 : decode cX12_escaped 281 = .ok (.invokestatic 15, 3) := by decide +kernel
theorem dX12_escaped_284 : decode cX12_escaped 284 = .ok (.ifCond .eq 9, 3) := by decide +kernel
theorem dX12_escaped_287 : decode cX12_escaped 287 = .ok (.aload_n 0, 1) := by decide +kernel
theorem dX12_escaped_288 : decode cX12_escaped 288 = .ok (.iconst 1, 1) := by decide +kernel
theorem dX12_escaped_289 : decode cX12_escaped 289 = .ok (.iload_n 3, 1) := by decide +kernel
theorem dX12_escaped_290 : decode cX12_escaped 290 = .ok (.invokevirtual 345, 3) := by decide +kernel
theorem dX12_escaped_293 : decode cX12_escaped 293 = .ok (.aload_n 0, 1) := by decide +kernel
theorem dX12_escaped_294 : decode cX12_escaped 294 = .ok (.iconst 0, 1) := by decide +kernel
theorem dX12_escaped_295 : decode cX12_escaped 295 = .ok (.iload_n 1, 1) := by decide +kernel
theorem dX12_escaped_296 : decode cX12_escaped 296 = .ok (.invokevirtual 335, 3) := by decide +kernel
theorem dX12_escaped_299 : decode cX12_escaped 299 = .ok (.ireturn, 1) := by decide +kernel
theorem dX12_fail_0 : decode cX12_fail 0 = .ok (.aload_n 0, 1) := by decide +kernel
theorem dX12_fail_1 : decode cX12_fail 1 = .ok (.getfield 320, 3) := by decide +kernel
theorem dX12_fail_4 : decode cX12_fail 4 = .ok (.ifCond .ne 13, 3) := by decide +kernel
theorem dX12_fail_7 : decode cX12_fail 7 = .ok (.aload_n 0, 1) := by decide +kernel
theorem dX12_fail_8 : decode cX12_fail 8 = .ok (.iload_n 1, 1) := by decide +kernel
theorem dX12_fail_9 : decode cX12_fail 9 = .ok (.putfield 320, 3) := by decide +kernel
theorem dX12_fail_12 : decode cX12_fail 12 = .ok (.aload_n 0, 1) := by decide +kernel
theorem dX12_fail_13 : decode cX12_fail 13 = .ok (.iload_n 2, 1) := by decide +kernel
theorem dX12_fail_14 : decode cX12_fail 14 = .ok (.putfield 323, 3) := by decide +kernel
theorem dX12_fail_17 : decode cX12_fail 17 = .ok (.return_, 1) := by decide +kernel
theorem dX12_feed_0 : decode cX12_feed 0 = .ok (.aload_n 0, 1) := by decide +kernel
theorem dX12_feed_1 : decode cX12_feed 1 = .ok (.iconst 0, 1) := by decide +kernel
theorem dX12_feed_2 : decode cX12_feed 2 = .ok (.putfield 1, 3) := by decide +kernel
theorem dX12_feed_5 : decode cX12_feed 5 = .ok (.iload_n 1, 1) := by decide +kernel
theorem dX12_feed_6 : decode cX12_feed 6 = .ok (.iconst 1, 1) := by decide +kernel
theorem dX12_feed_7 : decode cX12_feed 7 = .ok (.bipush 8, 2) := by decide +kernel
theorem dX12_feed_9 : decode cX12_feed 9 = .ok (.invokestatic 7, 3) := by decide +kernel
theorem dX12_feed_12 : decode cX12_feed 12 = .ok (.istore 4, 2) := by decide +kernel
theorem dX12_feed_14 : decode cX12_feed 14 = .ok (.iconst 0, 1) := by decide +kernel
theorem dX12_feed_15 : decode cX12_feed 15 = .ok (.istore 5, 2) := by decide +kernel
theorem dX12_feed_17 : decode cX12_feed 17 = .ok (.iload 5, 2) := by decide +kernel
theorem dX12_feed_19 : decode cX12_feed 19 = .ok (.iload_n 1, 1) := by decide +kernel
theorem dX12_feed_20 : decode cX12_feed 20 = .ok (.if_icmp .ge 35, 3) := by decide +kernel
theorem dX12_feed_23 : decode cX12_feed 23 = .ok (.iload 4, 2) := by decide +kernel
theorem dX12_feed_25 : decode cX12_feed 25 = .ok (.ifCond .eq 30, 3) := by decide +kernel
theorem dX12_feed_28 : decode cX12_feed 28 = .ok (.lload_n 2, 1) := by decide +kernel
theorem dX12_feed_29 : decode cX12_feed 29 = .ok (.bipush 8, 2) := by decide +kernel
theorem dX12_feed_31 : decode cX12_feed 31 = .ok (.iload 5, 2) := by decide +kernel
theorem dX12_feed_33 : decode cX12_feed 33 = .ok (.imul, 1) := by decide +kernel
theorem dX12_feed_34 : decode cX12_feed 34 = .ok (.lshr, 1) := by decide +kernel
theorem dX12_feed_35 : decode cX12_feed 35 = .ok (.ldc2_w 441, 3) := by decide +kernel
theorem dX12_feed_38 : decode cX12_feed 38 = .ok (.land, 1) := by decide +kernel
theorem dX12_feed_39 : decode cX12_feed 39 = .ok (.l2i, 1) := by decide +kernel
theorem dX12_feed_40 : decode cX12_feed 40 = .ok (.bipush 32, 2) := by decide +kernel
theorem dX12_feed_42 : decode cX12_feed 42 = .ok (.bipush 126, 2) := by decide +kernel
theorem dX12_feed_44 : decode cX12_feed 44 = .ok (.invokestatic 7, 3) := by decide +kernel
theorem dX12_feed_47 : decode cX12_feed 47 = .ok (.istore 4, 2) := by decide +kernel
theorem dX12_feed_49 : decode cX12_feed 49 = .ok (.iinc 5 1, 3) := by decide +kernel
theorem dX12_feed_52 : decode cX12_feed 52 = .ok (.goto (-35), 3) := by decide +kernel
theorem dX12_feed_55 : decode cX12_feed 55 = .ok (.iload 4, 2) := by decide +kernel
theorem dX12_feed_57 : decode cX12_feed 57 = .ok (.ifCond .ne 6, 3) := by decide +kernel
theorem dX12_feed_60 : decode cX12_feed 60 = .ok (.bipush (-4), 2) := by decide +kernel
theorem dX12_feed_62 : decode cX12_feed 62 = .ok (.ireturn, 1) := by decide +kernel
theorem dX12_feed_63 : decode cX12_feed 63 = .ok (.aload_n 0, 1) := by decide +kernel
theorem dX12_feed_64 : decode cX12_feed 64 = .ok (.getfield 317, 3) := by decide +kernel
theorem dX12_feed_67 : decode cX12_feed 67 = .ok (.iload_n 1, 1) := by decide +kernel
theorem dX12_feed_68 : decode cX12_feed 68 = .ok (.iadd, 1) := by decide +kernel
theorem dX12_feed_69 : decode cX12_feed 69 = .ok (.sipush 200, 3) := by decide +kernel
theorem dX12_feed_72 : decode cX12_feed 72 = .ok (.if_icmp .le 6, 3) := by decide +kernel
theorem dX12_feed_75 : decode cX12_feed 75 = .ok (.bipush (-9), 2) := by decide +kernel
theorem dX12_feed_77 : decode cX12_feed 77 = .ok (.ireturn, 1) := by decide +kernel
theorem dX12_feed_78 : decode cX12_feed 78 = .ok (.iload_n 1, 1) := by decide +kernel
theorem dX12_feed_79 : decode cX12_feed 79 = .ok (.iconst 1, 1) := by decide +kernel
theorem dX12_feed_80 : decode cX12_feed 80 = .ok (.isub, 1) := by decide +kernel
theorem dX12_feed_81 : decode cX12_feed 81 = .ok (.istore 5, 2) := by decide +kernel
theorem dX12_feed_83 : decode cX12_feed 83 = .ok (.iload 5, 2) := by decide +kernel
theorem dX12_feed_85 : decode cX12_feed 85 = .ok (.ifCond .lt 40, 3) := by decide +kernel
theorem dX12_feed_88 : decode cX12_feed 88 = .ok (.aload_n 0, 1) := by decide +kernel
theorem dX12_feed_89 : decode cX12_feed 89 = .ok (.getfield 24, 3) := by decide +kernel
theorem dX12_feed_92 : decode cX12_feed 92 = .ok (.aload_n 0, 1) := by decide +kernel
theorem dX12_feed_93 : decode cX12_feed 93 = .ok (.getfield 317, 3) := by decide +kernel
theorem dX12_feed_96 : decode cX12_feed 96 = .ok (.lload_n 2, 1) := by decide +kernel
theorem dX12_feed_97 : decode cX12_feed 97 = .ok (.bipush 8, 2) := by decide +kernel
theorem dX12_feed_99 : decode cX12_feed 99 = .ok (.iload 5, 2) := by decide +kernel
theorem dX12_feed_101 : decode cX12_feed 101 = .ok (.imul, 1) := by decide +kernel
theorem dX12_feed_102 : decode cX12_feed 102 = .ok (.lshr, 1) := by decide +kernel
theorem dX12_feed_103 : decode cX12_feed 103 = .ok (.ldc2_w 441, 3) := by decide +kernel
theorem dX12_feed_106 : decode cX12_feed 106 = .ok (.land, 1) := by decide +kernel
theorem dX12_feed_107 : decode cX12_feed 107 = .ok (.l2i, 1) := by decide +kernel
theorem dX12_feed_108 : decode cX12_feed 108 = .ok (.iastore, 1) := by decide +kernel
theorem dX12_feed_109 : decode cX12_feed 109 = .ok (.aload_n 0, 1) := by decide +kernel
theorem dX12_feed_110 : decode cX12_feed 110 = .ok (.dup, 1) := by decide +kernel
theorem dX12_feed_111 : decode cX12_feed 111 = .ok (.getfield 317, 3) := by decide +kernel
theorem dX12_feed_114 : decode cX12_feed 114 = .ok (.iconst 1, 1) := by decide +kernel
theorem dX12_feed_115 : decode cX12_feed 115 = .ok (.iadd, 1) := by decide +kernel
theorem dX12_feed_116 : decode cX12_feed 116 = .ok (.putfield 317, 3) := by decide +kernel
theorem dX12_feed_119 : decode cX12_feed 119 = .ok (.iinc 5 (-1), 3) := by decide +kernel
theorem dX12_feed_122 : decode cX12_feed 122 = .ok (.goto (-39), 3) := by decide +kernel
theorem dX12_feed_125 : decode cX12_feed 125 = .ok (.aload_n 0, 1) := by decide +kernel
theorem dX12_feed_126 : decode cX12_feed 126 = .ok (.getfield 317, 3) := by decide +kernel
theorem dX12_feed_129 : decode cX12_feed 129 = .ok (.ireturn, 1) := by decide +kernel
theorem dX12_find_0 : decode cX12_find 0 = .ok (.aload_n 0, 1) := by decide +kernel
theorem dX12_find_1 : decode cX12_find 1 = .ok (.iconst 0, 1) := by decide +kernel
theorem dX12_find_2 : decode cX12_find 2 = .ok (.putfield 1, 3) := by decide +kernel
theorem dX12_find_5 : decode cX12_find 5 = .ok (.aload_n 0, 1) := by decide +kernel
theorem dX12_find_6 : decode cX12_find 6 = .ok (.iload_n 1, 1) := by decide +kernel
theorem dX12_find_7 : decode cX12_find 7 = .ok (.iload_n 2, 1) := by decide +kernel
theorem dX12_find_8 : decode cX12_find 8 = .ok (.invokevirtual 687, 3) := by decide +kernel
theorem dX12_find_11 : decode cX12_find 11 = .ok (.istore 6, 2) := by decide +kernel
theorem dX12_find_13 : decode cX12_find 13 = .ok (.iload 6, 2) := by decide +kernel
theorem dX12_find_15 : decode cX12_find 15 = .ok (.ifCond .eq 6, 3) := by decide +kernel
theorem dX12_find_18 : decode cX12_find 18 = .ok (.iload 6, 2) := by decide +kernel
theorem dX12_find_20 : decode cX12_find 20 = .ok (.ireturn, 1) := by decide +kernel
theorem dX12_find_21 : decode cX12_find 21 = .ok (.iload_n 3, 1) := by decide +kernel
theorem dX12_find_22 : decode cX12_find 22 = .ok (.iconst 0, 1) := by decide +kernel
theorem dX12_find_23 : decode cX12_find 23 = .ok (.aload_n 0, 1) := by decide +kernel
theorem dX12_find_24 : decode cX12_find 24 = .ok (.getfield 174, 3) := by decide +kernel
theorem dX12_find_27 : decode cX12_find 27 = .ok (.iload_n 2, 1) := by decide +kernel
theorem dX12_find_28 : decode cX12_find 28 = .ok (.iaload, 1) := by decide +kernel
theorem dX12_find_29 : decode cX12_find 29 = .ok (.invokestatic 7, 3) := by decide +kernel
theorem dX12_find_32 : decode cX12_find 32 = .ok (.ifCond .eq 30, 3) := by decide +kernel
theorem dX12_find_35 : decode cX12_find 35 = .ok (.iload 4, 2) := by decide +kernel
theorem dX12_find_37 : decode cX12_find 37 = .ok (.iconst 0, 1) := by decide +kernel
theorem dX12_find_38 : decode cX12_find 38 = .ok (.iconst 2, 1) := by decide +kernel
theorem dX12_find_39 : decode cX12_find 39 = .ok (.invokestatic 7, 3) := by decide +kernel
theorem dX12_find_42 : decode cX12_find 42 = .ok (.ifCond .eq 20, 3) := by decide +kernel
theorem dX12_find_45 : decode cX12_find 45 = .ok (.iload 4, 2) := by decide +kernel
theorem dX12_find_47 : decode cX12_find 47 = .ok (.ifCond .ne 18, 3) := by decide +kernel
theorem dX12_find_50 : decode cX12_find 50 = .ok (.iload 5, 2) := by decide +kernel
theorem dX12_find_52 : decode cX12_find 52 = .ok (.iconst 1, 1) := by decide +kernel
theorem dX12_find_53 : decode cX12_find 53 = .ok (.sipush 3000, 3) := by decide +kernel
theorem dX12_find_56 : decode cX12_find 56 = .ok (.invokestatic 7, 3) := by decide +kernel
theorem dX12_find_59 : decode cX12_find 59 = .ok (.ifCond .ne 6, 3) := by decide +kernel
theorem dX12_find_62 : decode cX12_find 62 = .ok (.bipush (-4), 2) := by decide +kernel
theorem dX12_find_64 : decode cX12_find 64 = .ok (.ireturn, 1) := by decide +kernel
theorem dX12_find_65 : decode cX12_find 65 = .ok (.aload_n 0, 1) := by decide +kernel
theorem dX12_find_66 : decode cX12_find 66 = .ok (.iload_n 1, 1) := by decide +kernel
theorem dX12_find_67 : decode cX12_find 67 = .ok (.iload 4, 2) := by decide +kernel
theorem dX12_find_69 : decode cX12_find 69 = .ok (.invokevirtual 690, 3) := by decide +kernel
theorem dX12_find_72 : decode cX12_find 72 = .ok (.istore 6, 2) := by decide +kernel
theorem dX12_find_74 : decode cX12_find 74 = .ok (.iload 6, 2) := by decide +kernel
theorem dX12_find_76 : decode cX12_find 76 = .ok (.ifCond .eq 6, 3) := by decide +kernel
theorem dX12_find_79 : decode cX12_find 79 = .ok (.iload 6, 2) := by decide +kernel
theorem dX12_find_81 : decode cX12_find 81 = .ok (.ireturn, 1) := by decide +kernel
theorem dX12_find_82 : decode cX12_find 82 = .ok (.aload_n 0, 1) := by decide +kernel
theorem dX12_find_83 : decode cX12_find 83 = .ok (.iload_n 1, 1) := by decide +kernel
theorem dX12_find_84 : decode cX12_find 84 = .ok (.putfield 453, 3) := by decide +kernel
theorem dX12_find_87 : decode cX12_find 87 = .ok (.aload_n 0, 1) := by decide +kernel
theorem dX12_find_88 : decode cX12_find 88 = .ok (.iload_n 2, 1) := by decide +kernel
theorem dX12_find_89 : decode cX12_find 89 = .ok (.putfield 539, 3) := by decide +kernel
theorem dX12_find_92 : decode cX12_find 92 = .ok (.aload_n 0, 1) := by decide +kernel
theorem dX12_find_93 : decode cX12_find 93 = .ok (.iload_n 3, 1) := by decide +kernel
theorem dX12_find_94 : decode cX12_find 94 = .ok (.putfield 677, 3) := by decide +kernel
theorem dX12_find_97 : decode cX12_find 97 = .ok (.aload_n 0, 1) := by decide +kernel
theorem dX12_find_98 : decode cX12_find 98 = .ok (.iconst 0, 1) := by decide +kernel
theorem dX12_find_99 : decode cX12_find 99 = .ok (.putfield 449, 3) := by decide +kernel
theorem dX12_find_102 : decode cX12_find 102 = .ok (.iload 4, 2) := by decide +kernel
theorem dX12_find_104 : decode cX12_find 104 = .ok (.ifCond .ne 10, 3) := by decide +kernel
theorem dX12_find_107 : decode cX12_find 107 = .ok (.aload_n 0, 1) := by decide +kernel
theorem dX12_find_108 : decode cX12_find 108 = .ok (.iload 5, 2) := by decide +kernel
theorem dX12_find_110 : decode cX12_find 110 = .ok (.invokevirtual 693, 3) := by decide +kernel
theorem dX12_find_113 : decode cX12_find 113 = .ok (.ireturn, 1) := by decide +kernel
theorem dX12_find_114 : decode cX12_find 114 = .ok (.aload_n 0, 1) := by decide +kernel
theorem dX12_find_115 : decode cX12_find 115 = .ok (.iload_n 1, 1) := by decide +kernel
theorem dX12_find_116 : decode cX12_find 116 = .ok (.iconst 1, 1) := by decide +kernel
theorem dX12_find_117 : decode cX12_find 117 = .ok (.invokevirtual 673, 3) := by decide +kernel
theorem dX12_find_120 : decode cX12_find 120 = .ok (.aload_n 0, 1) := by decide +kernel
theorem dX12_find_121 : decode cX12_find 121 = .ok (.iload_n 1, 1) := by decide +kernel
theorem dX12_find_122 : decode cX12_find 122 = .ok (.iload_n 2, 1) := by decide +kernel
theorem dX12_find_123 : decode cX12_find 123 = .ok (.iload_n 3, 1) := by decide +kernel
theorem dX12_find_124 : decode cX12_find 124 = .ok (.iconst 0, 1) := by decide +kernel
theorem dX12_find_125 : decode cX12_find 125 = .ok (.iconst 1, 1) := by decide +kernel
theorem dX12_find_126 : decode cX12_find 126 = .ok (.iconst 0, 1) := by decide +kernel
theorem dX12_find_127 : decode cX12_find 127 = .ok (.invokevirtual 680, 3) := by decide +kernel
theorem dX12_find_130 : decode cX12_find 130 = .ok (.istore 7, 2) := by decide +kernel
theorem dX12_find_132 : decode cX12_find 132 = .ok (.aload_n 0, 1) := by decide +kernel
theorem dX12_find_133 : decode cX12_find 133 = .ok (.iload_n 1, 1) := by decide +kernel
theorem dX12_find_134 : decode cX12_find 134 = .ok (.iload 7, 2) := by decide +kernel
theorem dX12_find_136 : decode cX12_find 136 = .ok (.iconst 1, 1) := by decide +kernel
theorem dX12_find_137 : decode cX12_find 137 = .ok (.if_icmp .ne 7, 3) := by decide +kernel
theorem dX12_find_140 : decode cX12_find 140 = .ok (.iconst 1, 1) := by decide +kernel
theorem dX12_find_141 : decode cX12_find 141 = .ok (.goto 4, 3) := by decide +kernel
theorem dX12_find_144 : decode cX12_find 144 = .ok (.iconst 0, 1) := by decide +kernel
theorem dX12_find_145 : decode cX12_find 145 = .ok (.invokevirtual 684, 3) := by decide +kernel
theorem dX12_find_148 : decode cX12_find 148 = .ok (.iload 7, 2) := by decide +kernel
theorem dX12_find_150 : decode cX12_find 150 = .ok (.ireturn, 1) := by decide +kernel
theorem dX12_findAll_0 : decode cX12_findAll 0 = .ok (.aload_n 0, 1) := by decide +kernel
theorem dX12_findAll_1 : decode cX12_findAll 1 = .ok (.iconst 0, 1) := by decide +kernel
theorem dX12_findAll_2 : decode cX12_findAll 2 = .ok (.putfield 449, 3) := by decide +kernel
theorem dX12_findAll_5 : decode cX12_findAll 5 = .ok (.aload_n 0, 1) := by decide +kernel
theorem dX12_findAll_6 : decode cX12_findAll 6 = .ok (.iload_n 1, 1) := by decide +kernel
theorem dX12_findAll_7 : decode cX12_findAll 7 = .ok (.iload_n 3, 1) := by decide +kernel
theorem dX12_findAll_8 : decode cX12_findAll 8 = .ok (.ifCond .le 7, 3) := by decide +kernel
theorem dX12_findAll_11 : decode cX12_findAll 11 = .ok (.iconst 1, 1) := by decide +kernel
theorem dX12_findAll_12 : decode cX12_findAll 12 = .ok (.goto 4, 3) := by decide +kernel
theorem dX12_findAll_15 : decode cX12_findAll 15 = .ok (.iconst 0, 1) := by decide +kernel
theorem dX12_findAll_16 : decode cX12_findAll 16 = .ok (.invokevirtual 673, 3) := by decide +kernel
theorem dX12_findAll_19 : decode cX12_findAll 19 = .ok (.aload_n 0, 1) := by decide +kernel
theorem dX12_findAll_20 : decode cX12_findAll 20 = .ok (.iconst 0, 1) := by decide +kernel
theorem dX12_findAll_21 : decode cX12_findAll 21 = .ok (.putfield 696, 3) := by decide +kernel
theorem dX12_findAll_24 : decode cX12_findAll 24 = .ok (.iconst 0, 1) := by decide +kernel
theorem dX12_findAll_25 : decode cX12_findAll 25 = .ok (.istore 4, 2) := by decide +kernel
theorem dX12_findAll_27 : decode cX12_findAll 27 = .ok (.iload 4, 2) := by decide +kernel
theorem dX12_findAll_29 : decode cX12_findAll 29 = .ok (.aload_n 0, 1) := by decide +kernel
theorem dX12_findAll_30 : decode cX12_findAll 30 = .ok (.getfield 174, 3) := by decide +kernel
theorem dX12_findAll_33 : decode cX12_findAll 33 = .ok (.iload_n 2, 1) := by decide +kernel
theorem dX12_findAll_34 : decode cX12_findAll 34 = .ok (.iaload, 1) := by decide +kernel
theorem dX12_findAll_35 : decode cX12_findAll 35 = .ok (.if_icmp .gt 127, 3) := by decide +kernel
theorem dX12_findAll_38 : decode cX12_findAll 38 = .ok (.aload_n 0, 1) := by decide +kernel
theorem dX12_findAll_39 : decode cX12_findAll 39 = .ok (.iload_n 1, 1) := by decide +kernel
theorem dX12_findAll_40 : decode cX12_findAll 40 = .ok (.iload_n 2, 1) := by decide +kernel
theorem dX12_findAll_41 : decode cX12_findAll 41 = .ok (.iload 4, 2) := by decide +kernel
theorem dX12_findAll_43 : decode cX12_findAll 43 = .ok (.iconst 0, 1) := by decide +kernel
theorem dX12_findAll_44 : decode cX12_findAll 44 = .ok (.iload_n 3, 1) := by decide +kernel
theorem dX12_findAll_45 : decode cX12_findAll 45 = .ok (.ifCond .le 7, 3) := by decide +kernel
theorem dX12_findAll_48 : decode cX12_findAll 48 = .ok (.iconst 1, 1) := by decide +kernel
theorem dX12_findAll_49 : decode cX12_findAll 49 = .ok (.goto 4, 3) := by decide +kernel
theorem dX12_findAll_52 : decode cX12_findAll 52 = .ok (.iconst 0, 1) := by decide +kernel
theorem dX12_findAll_53 : decode cX12_findAll 53 = .ok (.sipush 3000, 3) := by decide +kernel
theorem dX12_findAll_56 : decode cX12_findAll 56 = .ok (.invokevirtual 680, 3) := by decide +kernel
theorem dX12_findAll_59 : decode cX12_findAll 59 = .ok (.istore 5, 2) := by decide +kernel
theorem dX12_findAll_61 : decode cX12_findAll 61 = .ok (.iload 5, 2) := by decide +kernel
theorem dX12_findAll_63 : decode cX12_findAll 63 = .ok (.iconst 2, 1) := by decide +kernel
theorem dX12_findAll_64 : decode cX12_findAll 64 = .ok (.if_icmp .ne 6, 3) := by decide +kernel
theorem dX12_findAll_67 : decode cX12_findAll 67 = .ok (.bipush (-8), 2) := by decide +kernel
theorem dX12_findAll_69 : decode cX12_findAll 69 = .ok (.ireturn, 1) := by decide +kernel
theorem dX12_findAll_70 : decode cX12_findAll 70 = .ok (.iload 5, 2) := by decide +kernel
theorem dX12_findAll_72 : decode cX12_findAll 72 = .ok (.ifCond .ne 5, 3) := by decide +kernel
theorem dX12_findAll_75 : decode cX12_findAll 75 = .ok (.iconst 0, 1) := by decide +kernel
theorem dX12_findAll_76 : decode cX12_findAll 76 = .ok (.ireturn, 1) := by decide +kernel
theorem dX12_findAll_77 : decode cX12_findAll 77 = .ok (.iconst 0, 1) := by decide +kernel
theorem dX12_findAll_78 : decode cX12_findAll 78 = .ok (.istore 6, 2) := by decide +kernel
theorem dX12_findAll_80 : decode cX12_findAll 80 = .ok (.iload 6, 2) := by decide +kernel
theorem dX12_findAll_82 : decode cX12_findAll 82 = .ok (.bipush 20, 2) := by decide +kernel
theorem dX12_findAll_84 : decode cX12_findAll 84 = .ok (.if_icmp .ge 31, 3) := by decide +kernel
theorem dX12_findAll_87 : decode cX12_findAll 87 = .ok (.aload_n 0, 1) := by decide +kernel
theorem dX12_findAll_88 : decode cX12_findAll 88 = .ok (.getfield 237, 3) := by decide +kernel
theorem dX12_findAll_91 : decode cX12_findAll 91 = .ok (.bipush 20, 2) := by decide +kernel
theorem dX12_findAll_93 : decode cX12_findAll 93 = .ok (.aload_n 0, 1) := by decide +kernel
theorem dX12_findAll_94 : decode cX12_findAll 94 = .ok (.getfield 696, 3) := by decide +kernel
theorem dX12_findAll_97 : decode cX12_findAll 97 = .ok (.imul, 1) := by decide +kernel
theorem dX12_findAll_98 : decode cX12_findAll 98 = .ok (.iload 6, 2) := by decide +kernel
theorem dX12_findAll_100 : decode cX12_findAll 100 = .ok (.iadd, 1) := by decide +kernel
theorem dX12_findAll_101 : decode cX12_findAll 101 = .ok (.aload_n 0, 1) := by decide +kernel
theorem dX12_findAll_102 : decode cX12_findAll 102 = .ok (.getfield 231, 3) := by decide +kernel
theorem dX12_findAll_105 : decode cX12_findAll 105 = .ok (.iload 6, 2) := by decide +kernel
theorem dX12_findAll_107 : decode cX12_findAll 107 = .ok (.iaload, 1) := by decide +kernel
theorem dX12_findAll_108 : decode cX12_findAll 108 = .ok (.iastore, 1) := by decide +kernel
theorem dX12_findAll_109 : decode cX12_findAll 109 = .ok (.iinc 6 1, 3) := by decide +kernel
theorem dX12_findAll_112 : decode cX12_findAll 112 = .ok (.goto (-32), 3) := by decide +kernel
theorem dX12_findAll_115 : decode cX12_findAll 115 = .ok (.aload_n 0, 1) := by decide +kernel
theorem dX12_findAll_116 : decode cX12_findAll 116 = .ok (.dup, 1) := by decide +kernel
theorem dX12_findAll_117 : decode cX12_findAll 117 = .ok (.getfield 696, 3) := by decide +kernel
theorem dX12_findAll_120 : decode cX12_findAll 120 = .ok (.iconst 1, 1) := by decide +kernel
theorem dX12_findAll_121 : decode cX12_findAll 121 = .ok (.iadd, 1) := by decide +kernel
theorem dX12_findAll_122 : decode cX12_findAll 122 = .ok (.putfield 696, 3) := by decide +kernel
theorem dX12_findAll_125 : decode cX12_findAll 125 = .ok (.aload_n 0, 1) := by decide +kernel
theorem dX12_findAll_126 : decode cX12_findAll 126 = .ok (.getfield 231, 3) := by decide +kernel
theorem dX12_findAll_129 : decode cX12_findAll 129 = .ok (.iconst 0, 1) := by decide +kernel
theorem dX12_findAll_130 : decode cX12_findAll 130 = .ok (.iaload, 1) := by decide +kernel
theorem dX12_findAll_131 : decode cX12_findAll 131 = .ok (.aload_n 0, 1) := by decide +kernel
theorem dX12_findAll_132 : decode cX12_findAll 132 = .ok (.getfield 231, 3) := by decide +kernel
theorem dX12_findAll_135 : decode cX12_findAll 135 = .ok (.iconst 1, 1) := by decide +kernel
theorem dX12_findAll_136 : decode cX12_findAll 136 = .ok (.iaload, 1) := by decide +kernel
theorem dX12_findAll_137 : decode cX12_findAll 137 = .ok (.if_icmp .ne 14, 3) := by decide +kernel
theorem dX12_findAll_140 : decode cX12_findAll 140 = .ok (.aload_n 0, 1) := by decide +kernel
theorem dX12_findAll_141 : decode cX12_findAll 141 = .ok (.getfield 231, 3) := by decide +kernel
theorem dX12_findAll_144 : decode cX12_findAll 144 = .ok (.iconst 1, 1) := by decide +kernel
theorem dX12_findAll_145 : decode cX12_findAll 145 = .ok (.iaload, 1) := by decide +kernel
theorem dX12_findAll_146 : decode cX12_findAll 146 = .ok (.iconst 1, 1) := by decide +kernel
theorem dX12_findAll_147 : decode cX12_findAll 147 = .ok (.iadd, 1) := by decide +kernel
theorem dX12_findAll_148 : decode cX12_findAll 148 = .ok (.goto 9, 3) := by decide +kernel
theorem dX12_findAll_151 : decode cX12_findAll 151 = .ok (.aload_n 0, 1) := by decide +kernel
theorem dX12_findAll_152 : decode cX12_findAll 152 = .ok (.getfield 231, 3) := by decide +kernel
theorem dX12_findAll_155 : decode cX12_findAll 155 = .ok (.iconst 1, 1) := by decide +kernel
theorem dX12_findAll_156 : decode cX12_findAll 156 = .ok (.iaload, 1) := by decide +kernel
theorem dX12_findAll_157 : decode cX12_findAll 157 = .ok (.istore 4, 2) := by decide +kernel
theorem dX12_findAll_159 : decode cX12_findAll 159 = .ok (.goto (-132), 3) := by decide +kernel
theorem dX12_findAll_162 : decode cX12_findAll 162 = .ok (.iconst 0, 1) := by decide +kernel
theorem dX12_findAll_163 : decode cX12_findAll 163 = .ok (.ireturn, 1) := by decide +kernel
theorem dX12_findBegun_0 : decode cX12_findBegun 0 = .ok (.sipush 220, 3) := by decide +kernel
theorem dX12_findBegun_3 : decode cX12_findBegun 3 = .ok (.iload_n 1, 1) := by decide +kernel
theorem dX12_findBegun_4 : decode cX12_findBegun 4 = .ok (.imul, 1) := by decide +kernel
theorem dX12_findBegun_5 : decode cX12_findBegun 5 = .ok (.istore_n 3, 1) := by decide +kernel
theorem dX12_findBegun_6 : decode cX12_findBegun 6 = .ok (.aload_n 0, 1) := by decide +kernel
theorem dX12_findBegun_7 : decode cX12_findBegun 7 = .ok (.getfield 35, 3) := by decide +kernel
theorem dX12_findBegun_10 : decode cX12_findBegun 10 = .ok (.iload_n 1, 1) := by decide +kernel
theorem dX12_findBegun_11 : decode cX12_findBegun 11 = .ok (.iaload, 1) := by decide +kernel
theorem dX12_findBegun_12 : decode cX12_findBegun 12 = .ok (.iconst 1, 1) := by decide +kernel
theorem dX12_findBegun_13 : decode cX12_findBegun 13 = .ok (.isub, 1) := by decide +kernel
theorem dX12_findBegun_14 : decode cX12_findBegun 14 = .ok (.istore 4, 2) := by decide +kernel
theorem dX12_findBegun_16 : decode cX12_findBegun 16 = .ok (.iload 4, 2) := by decide +kernel
theorem dX12_findBegun_18 : decode cX12_findBegun 18 = .ok (.ifCond .lt 195, 3) := by decide +kernel
theorem dX12_findBegun_21 : decode cX12_findBegun 21 = .ok (.iload_n 3, 1) := by decide +kernel
theorem dX12_findBegun_22 : decode cX12_findBegun 22 = .ok (.iload 4, 2) := by decide +kernel
theorem dX12_findBegun_24 : decode cX12_findBegun 24 = .ok (.iadd, 1) := by decide +kernel
theorem dX12_findBegun_25 : decode cX12_findBegun 25 = .ok (.istore 5, 2) := by decide +kernel
theorem dX12_findBegun_27 : decode cX12_findBegun 27 = .ok (.aload_n 0, 1) := by decide +kernel
theorem dX12_findBegun_28 : decode cX12_findBegun 28 = .ok (.getfield 44, 3) := by decide +kernel
theorem dX12_findBegun_31 : decode cX12_findBegun 31 = .ok (.iload 5, 2) := by decide +kernel
theorem dX12_findBegun_33 : decode cX12_findBegun 33 = .ok (.iaload, 1) := by decide +kernel
theorem dX12_findBegun_34 : decode cX12_findBegun 34 = .ok (.istore 6, 2) := by decide +kernel
theorem dX12_findBegun_36 : decode cX12_findBegun 36 = .ok (.iload 6, 2) := by decide +kernel
theorem dX12_findBegun_38 : decode cX12_findBegun 38 = .ok (.iconst 4, 1) := by decide +kernel
theorem dX12_findBegun_39 : decode cX12_findBegun 39 = .ok (.if_icmp .eq 19, 3) := by decide +kernel
theorem dX12_findBegun_42 : decode cX12_findBegun 42 = .ok (.iload 6, 2) := by decide +kernel
theorem dX12_findBegun_44 : decode cX12_findBegun 44 = .ok (.iconst 2, 1) := by decide +kernel
theorem dX12_findBegun_45 : decode cX12_findBegun 45 = .ok (.if_icmp .gt 17, 3) := by decide +kernel
theorem dX12_findBegun_48 : decode cX12_findBegun 48 = .ok (.aload_n 0, 1) := by decide +kernel
theorem dX12_findBegun_49 : decode cX12_findBegun 49 = .ok (.iload 5, 2) := by decide +kernel
theorem dX12_findBegun_51 : decode cX12_findBegun 51 = .ok (.iload_n 2, 1) := by decide +kernel
theorem dX12_findBegun_52 : decode cX12_findBegun 52 = .ok (.invokevirtual 517, 3) := by decide +kernel
theorem dX12_findBegun_55 : decode cX12_findBegun 55 = .ok (.ifCond .eq 7, 3) := by decide +kernel
theorem dX12_findBegun_58 : decode cX12_findBegun 58 = .ok (.iconst 1, 1) := by decide +kernel
theorem dX12_findBegun_59 : decode cX12_findBegun 59 = .ok (.goto 4, 3) := by decide +kernel
theorem dX12_findBegun_62 : decode cX12_findBegun 62 = .ok (.iconst 0, 1) := by decide +kernel
theorem dX12_findBegun_63 : decode cX12_findBegun 63 = .ok (.istore 7, 2) := by decide +kernel
theorem dX12_findBegun_65 : decode cX12_findBegun 65 = .ok (.iload 6, 2) := by decide +kernel
theorem dX12_findBegun_67 : decode cX12_findBegun 67 = .ok (.iconst 2, 1) := by decide +kernel
theorem dX12_findBegun_68 : decode cX12_findBegun 68 = .ok (.if_icmp .le 43, 3) := by decide +kernel
theorem dX12_findBegun_71 : decode cX12_findBegun 71 = .ok (.iload 6, 2) := by decide +kernel
theorem dX12_findBegun_73 : decode cX12_findBegun 73 = .ok (.iconst 3, 1) := by decide +kernel
theorem dX12_findBegun_74 : decode cX12_findBegun 74 = .ok (.if_icmp .eq 37, 3) := by decide +kernel
theorem dX12_findBegun_77 : decode cX12_findBegun 77 = .ok (.iload 6, 2) := by decide +kernel
theorem dX12_findBegun_79 : decode cX12_findBegun 79 = .ok (.iconst 4, 1) := by decide +kernel
theorem dX12_findBegun_80 : decode cX12_findBegun 80 = .ok (.if_icmp .eq 31, 3) := by decide +kernel
theorem dX12_findBegun_83 : decode cX12_findBegun 83 = .ok (.iload 6, 2) := by decide +kernel
theorem dX12_findBegun_85 : decode cX12_findBegun 85 = .ok (.bipush 9, 2) := by decide +kernel
theorem dX12_findBegun_87 : decode cX12_findBegun 87 = .ok (.if_icmp .eq 24, 3) := by decide +kernel
theorem dX12_findBegun_90 : decode cX12_findBegun 90 = .ok (.iload 6, 2) := by decide +kernel
theorem dX12_findBegun_92 : decode cX12_findBegun 92 = .ok (.bipush 7, 2) := by decide +kernel
theorem dX12_findBegun_94 : decode cX12_findBegun 94 = .ok (.if_icmp .ne 13, 3) := by decide +kernel
theorem dX12_findBegun_97 : decode cX12_findBegun 97 = .ok (.aload_n 0, 1) := by decide +kernel
theorem dX12_findBegun_98 : decode cX12_findBegun 98 = .ok (.getfield 53, 3) := by decide +kernel
theorem dX12_findBegun_101 : decode cX12_findBegun 101 = .ok (.iload 5, 2) := by decide +kernel
theorem dX12_findBegun_103 : decode cX12_findBegun 103 = .ok (.iaload, 1) := by decide +kernel
theorem dX12_findBegun_104 : decode cX12_findBegun 104 = .ok (.ifCond .eq 7, 3) := by decide +kernel
theorem dX12_findBegun_107 : decode cX12_findBegun 107 = .ok (.iconst 1, 1) := by decide +kernel
theorem dX12_findBegun_108 : decode cX12_findBegun 108 = .ok (.goto 4, 3) := by decide +kernel
theorem dX12_findBegun_111 : decode cX12_findBegun 111 = .ok (.iconst 0, 1) := by decide +kernel
theorem dX12_findBegun_112 : decode cX12_findBegun 112 = .ok (.istore 8, 2) := by decide +kernel
theorem dX12_findBegun_114 : decode cX12_findBegun 114 = .ok (.iload 4, 2) := by decide +kernel
theorem dX12_findBegun_116 : decode cX12_findBegun 116 = .ok (.iconst 1, 1) := by decide +kernel
theorem dX12_findBegun_117 : decode cX12_findBegun 117 = .ok (.iadd, 1) := by decide +kernel
theorem dX12_findBegun_118 : decode cX12_findBegun 118 = .ok (.istore 9, 2) := by decide +kernel
theorem dX12_findBegun_120 : decode cX12_findBegun 120 = .ok (.iload 9, 2) := by decide +kernel
theorem dX12_findBegun_122 : decode cX12_findBegun 122 = .ok (.aload_n 0, 1) := by decide +kernel
theorem dX12_findBegun_123 : decode cX12_findBegun 123 = .ok (.getfield 62, 3) := by decide +kernel
theorem dX12_findBegun_126 : decode cX12_findBegun 126 = .ok (.iload 5, 2) := by decide +kernel
theorem dX12_findBegun_128 : decode cX12_findBegun 128 = .ok (.iaload, 1) := by decide +kernel
theorem dX12_findBegun_129 : decode cX12_findBegun 129 = .ok (.if_icmp .ge 69, 3) := by decide +kernel
theorem dX12_findBegun_132 : decode cX12_findBegun 132 = .ok (.iload 8, 2) := by decide +kernel
theorem dX12_findBegun_134 : decode cX12_findBegun 134 = .ok (.ifCond .eq 64, 3) := by decide +kernel
theorem dX12_findBegun_137 : decode cX12_findBegun 137 = .ok (.iload 7, 2) := by decide +kernel
theorem dX12_findBegun_139 : decode cX12_findBegun 139 = .ok (.ifCond .ne 13, 3) := by decide +kernel
theorem dX12_findBegun_142 : decode cX12_findBegun 142 = .ok (.aload_n 0, 1) := by decide +kernel
theorem dX12_findBegun_143 : decode cX12_findBegun 143 = .ok (.getfield 158, 3) := by decide +kernel
theorem dX12_findBegun_146 : decode cX12_findBegun 146 = .ok (.iload 9, 2) := by decide +kernel
theorem dX12_findBegun_148 : decode cX12_findBegun 148 = .ok (.baload, 1) := by decide +kernel
theorem dX12_findBegun_149 : decode cX12_findBegun 149 = .ok (.ifCond .eq 7, 3) := by decide +kernel
theorem dX12_findBegun_152 : decode cX12_findBegun 152 = .ok (.iconst 1, 1) := by decide +kernel
theorem dX12_findBegun_153 : decode cX12_findBegun 153 = .ok (.goto 4, 3) := by decide +kernel
theorem dX12_findBegun_156 : decode cX12_findBegun 156 = .ok (.iconst 0, 1) := by decide +kernel
theorem dX12_findBegun_157 : decode cX12_findBegun 157 = .ok (.istore 7, 2) := by decide +kernel
theorem dX12_findBegun_159 : decode cX12_findBegun 159 = .ok (.iload 6, 2) := by decide +kernel
theorem dX12_findBegun_161 : decode cX12_findBegun 161 = .ok (.iconst 5, 1) := by decide +kernel
theorem dX12_findBegun_162 : decode cX12_findBegun 162 = .ok (.if_icmp .ne 15, 3) := by decide +kernel
theorem dX12_findBegun_165 : decode cX12_findBegun 165 = .ok (.aload_n 0, 1) := by decide +kernel
theorem dX12_findBegun_166 : decode cX12_findBegun 166 = .ok (.getfield 74, 3) := by decide +kernel
theorem dX12_findBegun_169 : decode cX12_findBegun 169 = .ok (.iload_n 3, 1) := by decide +kernel
theorem dX12_findBegun_170 : decode cX12_findBegun 170 = .ok (.iload 9, 2) := by decide +kernel
theorem dX12_findBegun_172 : decode cX12_findBegun 172 = .ok (.iadd, 1) := by decide +kernel
theorem dX12_findBegun_173 : decode cX12_findBegun 173 = .ok (.baload, 1) := by decide +kernel
theorem dX12_findBegun_174 : decode cX12_findBegun 174 = .ok (.ifCond .eq 7, 3) := by decide +kernel
theorem dX12_findBegun_177 : decode cX12_findBegun 177 = .ok (.iconst 1, 1) := by decide +kernel
theorem dX12_findBegun_178 : decode cX12_findBegun 178 = .ok (.goto 4, 3) := by decide +kernel
theorem dX12_findBegun_181 : decode cX12_findBegun 181 = .ok (.iconst 0, 1) := by decide +kernel
theorem dX12_findBegun_182 : decode cX12_findBegun 182 = .ok (.istore 8, 2) := by decide +kernel
theorem dX12_findBegun_184 : decode cX12_findBegun 184 = .ok (.aload_n 0, 1) := by decide +kernel
theorem dX12_findBegun_185 : decode cX12_findBegun 185 = .ok (.getfield 62, 3) := by decide +kernel
theorem dX12_findBegun_188 : decode cX12_findBegun 188 = .ok (.iload_n 3, 1) := by decide +kernel
theorem dX12_findBegun_189 : decode cX12_findBegun 189 = .ok (.iload 9, 2) := by decide +kernel
theorem dX12_findBegun_191 : decode cX12_findBegun 191 = .ok (.iadd, 1) := by decide +kernel
theorem dX12_findBegun_192 : decode cX12_findBegun 192 = .ok (.iaload, 1) := by decide +kernel
theorem dX12_findBegun_193 : decode cX12_findBegun 193 = .ok (.istore 9, 2) := by decide +kernel
theorem dX12_findBegun_195 : decode cX12_findBegun 195 = .ok (.goto (-75), 3) := by decide +kernel
theorem dX12_findBegun_198 : decode cX12_findBegun 198 = .ok (.aload_n 0, 1) := by decide +kernel
theorem dX12_findBegun_199 : decode cX12_findBegun 199 = .ok (.getfield 158, 3) := by decide +kernel
theorem dX12_findBegun_202 : decode cX12_findBegun 202 = .ok (.iload 4, 2) := by decide +kernel
theorem dX12_findBegun_204 : decode cX12_findBegun 204 = .ok (.iload 7, 2) := by decide +kernel
theorem dX12_findBegun_206 : decode cX12_findBegun 206 = .ok (.bastore, 1) := by decide +kernel
theorem dX12_findBegun_207 : decode cX12_findBegun 207 = .ok (.iinc 4 (-1), 3) := by decide +kernel
theorem dX12_findBegun_210 : decode cX12_findBegun 210 = .ok (.goto (-194), 3) := by decide +kernel
theorem dX12_findBegun_213 : decode cX12_findBegun 213 = .ok (.return_, 1) := by decide +kernel
theorem dX12_findBounds_0 : decode cX12_findBounds 0 = .ok (.aload_n 0, 1) := by decide +kernel
theorem dX12_findBounds_1 : decode cX12_findBounds 1 = .ok (.iconst 0, 1) := by decide +kernel
theorem dX12_findBounds_2 : decode cX12_findBounds 2 = .ok (.putfield 524, 3) := by decide +kernel
theorem dX12_findBounds_5 : decode cX12_findBounds 5 = .ok (.aload_n 0, 1) := by decide +kernel
theorem dX12_findBounds_6 : decode cX12_findBounds 6 = .ok (.getfield 162, 3) := by decide +kernel
theorem dX12_findBounds_9 : decode cX12_findBounds 9 = .ok (.iconst 0, 1) := by decide +kernel
theorem dX12_findBounds_10 : decode cX12_findBounds 10 = .ok (.iconst 1, 1) := by decide +kernel
theorem dX12_findBounds_11 : decode cX12_findBounds 11 = .ok (.bastore, 1) := by decide +kernel
theorem dX12_findBounds_12 : decode cX12_findBounds 12 = .ok (.iconst 0, 1) := by decide +kernel
theorem dX12_findBounds_13 : decode cX12_findBounds 13 = .ok (.istore_n 1, 1) := by decide +kernel
theorem dX12_findBounds_14 : decode cX12_findBounds 14 = .ok (.iload_n 1, 1) := by decide +kernel
theorem dX12_findBounds_15 : decode cX12_findBounds 15 = .ok (.ldc_w 527, 3) := by decide +kernel
theorem dX12_findBounds_18 : decode cX12_findBounds 18 = .ok (.if_icmp .ge 45, 3) := by decide +kernel
theorem dX12_findBounds_21 : decode cX12_findBounds 21 = .ok (.aload_n 0, 1) := by decide +kernel
theorem dX12_findBounds_22 : decode cX12_findBounds 22 = .ok (.getfield 162, 3) := by decide +kernel
theorem dX12_findBounds_25 : decode cX12_findBounds 25 = .ok (.iload_n 1, 1) := by decide +kernel
theorem dX12_findBounds_26 : decode cX12_findBounds 26 = .ok (.baload, 1) := by decide +kernel
theorem dX12_findBounds_27 : decode cX12_findBounds 27 = .ok (.ifCond .eq 23, 3) := by decide +kernel
theorem dX12_findBounds_30 : decode cX12_findBounds 30 = .ok (.aload_n 0, 1) := by decide +kernel
theorem dX12_findBounds_31 : decode cX12_findBounds 31 = .ok (.getfield 165, 3) := by decide +kernel
theorem dX12_findBounds_34 : decode cX12_findBounds 34 = .ok (.aload_n 0, 1) := by decide +kernel
theorem dX12_findBounds_35 : decode cX12_findBounds 35 = .ok (.getfield 524, 3) := by decide +kernel
theorem dX12_findBounds_38 : decode cX12_findBounds 38 = .ok (.iload_n 1, 1) := by decide +kernel
theorem dX12_findBounds_39 : decode cX12_findBounds 39 = .ok (.iastore, 1) := by decide +kernel
theorem dX12_findBounds_40 : decode cX12_findBounds 40 = .ok (.aload_n 0, 1) := by decide +kernel
theorem dX12_findBounds_41 : decode cX12_findBounds 41 = .ok (.dup, 1) := by decide +kernel
theorem dX12_findBounds_42 : decode cX12_findBounds 42 = .ok (.getfield 524, 3) := by decide +kernel
theorem dX12_findBounds_45 : decode cX12_findBounds 45 = .ok (.iconst 1, 1) := by decide +kernel
theorem dX12_findBounds_46 : decode cX12_findBounds 46 = .ok (.iadd, 1) := by decide +kernel
theorem dX12_findBounds_47 : decode cX12_findBounds 47 = .ok (.putfield 524, 3) := by decide +kernel
theorem dX12_findBounds_50 : decode cX12_findBounds 50 = .ok (.aload_n 0, 1) := by decide +kernel
theorem dX12_findBounds_51 : decode cX12_findBounds 51 = .ok (.getfield 162, 3) := by decide +kernel
theorem dX12_findBounds_54 : decode cX12_findBounds 54 = .ok (.iload_n 1, 1) := by decide +kernel
theorem dX12_findBounds_55 : decode cX12_findBounds 55 = .ok (.iconst 0, 1) := by decide +kernel
theorem dX12_findBounds_56 : decode cX12_findBounds 56 = .ok (.bastore, 1) := by decide +kernel
theorem dX12_findBounds_57 : decode cX12_findBounds 57 = .ok (.iinc 1 1, 3) := by decide +kernel
theorem dX12_findBounds_60 : decode cX12_findBounds 60 = .ok (.goto (-46), 3) := by decide +kernel
theorem dX12_findBounds_63 : decode cX12_findBounds 63 = .ok (.aload_n 0, 1) := by decide +kernel
theorem dX12_findBounds_64 : decode cX12_findBounds 64 = .ok (.getfield 162, 3) := by decide +kernel
theorem dX12_findBounds_67 : decode cX12_findBounds 67 = .ok (.ldc_w 527, 3) := by decide +kernel
theorem dX12_findBounds_70 : decode cX12_findBounds 70 = .ok (.iconst 0, 1) := by decide +kernel
theorem dX12_findBounds_71 : decode cX12_findBounds 71 = .ok (.bastore, 1) := by decide +kernel
theorem dX12_findBounds_72 : decode cX12_findBounds 72 = .ok (.return_, 1) := by decide +kernel
theorem dX12_findLive_0 : decode cX12_findLive 0 = .ok (.iconst 1, 1) := by decide +kernel
theorem dX12_findLive_1 : decode cX12_findLive 1 = .ok (.istore_n 1, 1) := by decide +kernel
theorem dX12_findLive_2 : decode cX12_findLive 2 = .ok (.iconst 0, 1) := by decide +kernel
theorem dX12_findLive_3 : decode cX12_findLive 3 = .ok (.istore_n 2, 1) := by decide +kernel
theorem dX12_findLive_4 : decode cX12_findLive 4 = .ok (.iload_n 2, 1) := by decide +kernel
theorem dX12_findLive_5 : decode cX12_findLive 5 = .ok (.aload_n 0, 1) := by decide +kernel
theorem dX12_findLive_6 : decode cX12_findLive 6 = .ok (.getfield 262, 3) := by decide +kernel
theorem dX12_findLive_9 : decode cX12_findLive 9 = .ok (.iconst 0, 1) := by decide +kernel
theorem dX12_findLive_10 : decode cX12_findLive 10 = .ok (.iaload, 1) := by decide +kernel
theorem dX12_findLive_11 : decode cX12_findLive 11 = .ok (.if_icmp .ge 21, 3) := by decide +kernel
theorem dX12_findLive_14 : decode cX12_findLive 14 = .ok (.aload_n 0, 1) := by decide +kernel
theorem dX12_findLive_15 : decode cX12_findLive 15 = .ok (.getfield 271, 3) := by decide +kernel
theorem dX12_findLive_18 : decode cX12_findLive 18 = .ok (.iload_n 2, 1) := by decide +kernel
theorem dX12_findLive_19 : decode cX12_findLive 19 = .ok (.aload_n 0, 1) := by decide +kernel
theorem dX12_findLive_20 : decode cX12_findLive 20 = .ok (.getfield 268, 3) := by decide +kernel
theorem dX12_findLive_23 : decode cX12_findLive 23 = .ok (.iload_n 2, 1) := by decide +kernel
theorem dX12_findLive_24 : decode cX12_findLive 24 = .ok (.baload, 1) := by decide +kernel
theorem dX12_findLive_25 : decode cX12_findLive 25 = .ok (.bastore, 1) := by decide +kernel
theorem dX12_findLive_26 : decode cX12_findLive 26 = .ok (.iinc 2 1, 3) := by decide +kernel
theorem dX12_findLive_29 : decode cX12_findLive 29 = .ok (.goto (-25), 3) := by decide +kernel
theorem dX12_findLive_32 : decode cX12_findLive 32 = .ok (.iload_n 1, 1) := by decide +kernel
theorem dX12_findLive_33 : decode cX12_findLive 33 = .ok (.ifCond .eq 95, 3) := by decide +kernel
theorem dX12_findLive_36 : decode cX12_findLive 36 = .ok (.iconst 0, 1) := by decide +kernel
theorem dX12_findLive_37 : decode cX12_findLive 37 = .ok (.istore_n 1, 1) := by decide +kernel
theorem dX12_findLive_38 : decode cX12_findLive 38 = .ok (.iconst 0, 1) := by decide +kernel
theorem dX12_findLive_39 : decode cX12_findLive 39 = .ok (.istore_n 2, 1) := by decide +kernel
theorem dX12_findLive_40 : decode cX12_findLive 40 = .ok (.iload_n 2, 1) := by decide +kernel
theorem dX12_findLive_41 : decode cX12_findLive 41 = .ok (.aload_n 0, 1) := by decide +kernel
theorem dX12_findLive_42 : decode cX12_findLive 42 = .ok (.getfield 262, 3) := by decide +kernel
theorem dX12_findLive_45 : decode cX12_findLive 45 = .ok (.iconst 0, 1) := by decide +kernel
theorem dX12_findLive_46 : decode cX12_findLive 46 = .ok (.iaload, 1) := by decide +kernel
theorem dX12_findLive_47 : decode cX12_findLive 47 = .ok (.if_icmp .ge 78, 3) := by decide +kernel
theorem dX12_findLive_50 : decode cX12_findLive 50 = .ok (.iconst 0, 1) := by decide +kernel
theorem dX12_findLive_51 : decode cX12_findLive 51 = .ok (.istore_n 3, 1) := by decide +kernel
theorem dX12_findLive_52 : decode cX12_findLive 52 = .ok (.iload_n 3, 1) := by decide +kernel
theorem dX12_findLive_53 : decode cX12_findLive 53 = .ok (.aload_n 0, 1) := by decide +kernel
theorem dX12_findLive_54 : decode cX12_findLive 54 = .ok (.getfield 274, 3) := by decide +kernel
theorem dX12_findLive_57 : decode cX12_findLive 57 = .ok (.iconst 0, 1) := by decide +kernel
theorem dX12_findLive_58 : decode cX12_findLive 58 = .ok (.iaload, 1) := by decide +kernel
theorem dX12_findLive_59 : decode cX12_findLive 59 = .ok (.if_icmp .ge 60, 3) := by decide +kernel
theorem dX12_findLive_62 : decode cX12_findLive 62 = .ok (.aload_n 0, 1) := by decide +kernel
theorem dX12_findLive_63 : decode cX12_findLive 63 = .ok (.getfield 271, 3) := by decide +kernel
theorem dX12_findLive_66 : decode cX12_findLive 66 = .ok (.iload_n 2, 1) := by decide +kernel
theorem dX12_findLive_67 : decode cX12_findLive 67 = .ok (.baload, 1) := by decide +kernel
theorem dX12_findLive_68 : decode cX12_findLive 68 = .ok (.ifCond .ne 51, 3) := by decide +kernel
theorem dX12_findLive_71 : decode cX12_findLive 71 = .ok (.aload_n 0, 1) := by decide +kernel
theorem dX12_findLive_72 : decode cX12_findLive 72 = .ok (.getfield 271, 3) := by decide +kernel
theorem dX12_findLive_75 : decode cX12_findLive 75 = .ok (.iload_n 2, 1) := by decide +kernel
theorem dX12_findLive_76 : decode cX12_findLive 76 = .ok (.aload_n 0, 1) := by decide +kernel
theorem dX12_findLive_77 : decode cX12_findLive 77 = .ok (.getfield 271, 3) := by decide +kernel
theorem dX12_findLive_80 : decode cX12_findLive 80 = .ok (.aload_n 0, 1) := by decide +kernel
theorem dX12_findLive_81 : decode cX12_findLive 81 = .ok (.getfield 284, 3) := by decide +kernel
theorem dX12_findLive_84 : decode cX12_findLive 84 = .ok (.sipush 500, 3) := by decide +kernel
theorem dX12_findLive_87 : decode cX12_findLive 87 = .ok (.iload_n 2, 1) := by decide +kernel
theorem dX12_findLive_88 : decode cX12_findLive 88 = .ok (.imul, 1) := by decide +kernel
theorem dX12_findLive_89 : decode cX12_findLive 89 = .ok (.iload_n 3, 1) := by decide +kernel
theorem dX12_findLive_90 : decode cX12_findLive 90 = .ok (.iadd, 1) := by decide +kernel
theorem dX12_findLive_91 : decode cX12_findLive 91 = .ok (.iaload, 1) := by decide +kernel
theorem dX12_findLive_92 : decode cX12_findLive 92 = .ok (.baload, 1) := by decide +kernel
theorem dX12_findLive_93 : decode cX12_findLive 93 = .ok (.bastore, 1) := by decide +kernel
theorem dX12_findLive_94 : decode cX12_findLive 94 = .ok (.iload_n 1, 1) := by decide +kernel
theorem dX12_findLive_95 : decode cX12_findLive 95 = .ok (.ifCond .ne 12, 3) := by decide +kernel
theorem dX12_findLive_98 : decode cX12_findLive 98 = .ok (.aload_n 0, 1) := by decide +kernel
theorem dX12_findLive_99 : decode cX12_findLive 99 = .ok (.getfield 271, 3) := by decide +kernel
theorem dX12_findLive_102 : decode cX12_findLive 102 = .ok (.iload_n 2, 1) := by decide +kernel
theorem dX12_findLive_103 : decode cX12_findLive 103 = .ok (.baload, 1) := by decide +kernel
theorem dX12_findLive_104 : decode cX12_findLive 104 = .ok (.ifCond .eq 7, 3) := by decide +kernel
theorem dX12_findLive_107 : decode cX12_findLive 107 = .ok (.iconst 1, 1) := by decide +kernel
theorem dX12_findLive_108 : decode cX12_findLive 108 = .ok (.goto 4, 3) := by decide +kernel
theorem dX12_findLive_111 : decode cX12_findLive 111 = .ok (.iconst 0, 1) := by decide +kernel
theorem dX12_findLive_112 : decode cX12_findLive 112 = .ok (.istore_n 1, 1) := by decide +kernel
theorem dX12_findLive_113 : decode cX12_findLive 113 = .ok (.iinc 3 1, 3) := by decide +kernel
theorem dX12_findLive_116 : decode cX12_findLive 116 = .ok (.goto (-64), 3) := by decide +kernel
theorem dX12_findLive_119 : decode cX12_findLive 119 = .ok (.iinc 2 1, 3) := by decide +kernel
theorem dX12_findLive_122 : decode cX12_findLive 122 = .ok (.goto (-82), 3) := by decide +kernel
theorem dX12_findLive_125 : decode cX12_findLive 125 = .ok (.goto (-93), 3) := by decide +kernel
theorem dX12_findLive_128 : decode cX12_findLive 128 = .ok (.return_, 1) := by decide +kernel
theorem dX12_findPairs_0 : decode cX12_findPairs 0 = .ok (.iconst 0, 1) := by decide +kernel
theorem dX12_findPairs_1 : decode cX12_findPairs 1 = .ok (.istore_n 1, 1) := by decide +kernel
theorem dX12_findPairs_2 : decode cX12_findPairs 2 = .ok (.iload_n 1, 1) := by decide +kernel
theorem dX12_findPairs_3 : decode cX12_findPairs 3 = .ok (.sipush 3800, 3) := by decide +kernel
theorem dX12_findPairs_6 : decode cX12_findPairs 6 = .ok (.if_icmp .ge 16, 3) := by decide +kernel
theorem dX12_findPairs_9 : decode cX12_findPairs 9 = .ok (.aload_n 0, 1) := by decide +kernel
theorem dX12_findPairs_10 : decode cX12_findPairs 10 = .ok (.getfield 305, 3) := by decide +kernel
theorem dX12_findPairs_13 : decode cX12_findPairs 13 = .ok (.iload_n 1, 1) := by decide +kernel
theorem dX12_findPairs_14 : decode cX12_findPairs 14 = .ok (.iconst 0, 1) := by decide +kernel
theorem dX12_findPairs_15 : decode cX12_findPairs 15 = .ok (.bastore, 1) := by decide +kernel
theorem dX12_findPairs_16 : decode cX12_findPairs 16 = .ok (.iinc 1 1, 3) := by decide +kernel
theorem dX12_findPairs_19 : decode cX12_findPairs 19 = .ok (.goto (-17), 3) := by decide +kernel
theorem dX12_findPairs_22 : decode cX12_findPairs 22 = .ok (.aload_n 0, 1) := by decide +kernel
theorem dX12_findPairs_23 : decode cX12_findPairs 23 = .ok (.iconst 0, 1) := by decide +kernel
theorem dX12_findPairs_24 : decode cX12_findPairs 24 = .ok (.putfield 745, 3) := by decide +kernel
theorem dX12_findPairs_27 : decode cX12_findPairs 27 = .ok (.aload_n 0, 1) := by decide +kernel
theorem dX12_findPairs_28 : decode cX12_findPairs 28 = .ok (.iconst 0, 1) := by decide +kernel
theorem dX12_findPairs_29 : decode cX12_findPairs 29 = .ok (.iconst 0, 1) := by decide +kernel
theorem dX12_findPairs_30 : decode cX12_findPairs 30 = .ok (.iconst (-1), 1) := by decide +kernel
theorem dX12_findPairs_31 : decode cX12_findPairs 31 = .ok (.iconst 0, 1) := by decide +kernel
theorem dX12_findPairs_32 : decode cX12_findPairs 32 = .ok (.invokevirtual 748, 3) := by decide +kernel
theorem dX12_findPairs_35 : decode cX12_findPairs 35 = .ok (.iconst 0, 1) := by decide +kernel
theorem dX12_findPairs_36 : decode cX12_findPairs 36 = .ok (.istore_n 1, 1) := by decide +kernel
theorem dX12_findPairs_37 : decode cX12_findPairs 37 = .ok (.iload_n 1, 1) := by decide +kernel
theorem dX12_findPairs_38 : decode cX12_findPairs 38 = .ok (.aload_n 0, 1) := by decide +kernel
theorem dX12_findPairs_39 : decode cX12_findPairs 39 = .ok (.getfield 745, 3) := by decide +kernel
theorem dX12_findPairs_42 : decode cX12_findPairs 42 = .ok (.if_icmp .ge 84, 3) := by decide +kernel
theorem dX12_findPairs_45 : decode cX12_findPairs 45 = .ok (.iconst 0, 1) := by decide +kernel
theorem dX12_findPairs_46 : decode cX12_findPairs 46 = .ok (.istore_n 2, 1) := by decide +kernel
theorem dX12_findPairs_47 : decode cX12_findPairs 47 = .ok (.iload_n 2, 1) := by decide +kernel
theorem dX12_findPairs_48 : decode cX12_findPairs 48 = .ok (.aload_n 0, 1) := by decide +kernel
theorem dX12_findPairs_49 : decode cX12_findPairs 49 = .ok (.getfield 742, 3) := by decide +kernel
theorem dX12_findPairs_52 : decode cX12_findPairs 52 = .ok (.if_icmp .ge 68, 3) := by decide +kernel
theorem dX12_findPairs_55 : decode cX12_findPairs 55 = .ok (.aload_n 0, 1) := by decide +kernel
theorem dX12_findPairs_56 : decode cX12_findPairs 56 = .ok (.aload_n 0, 1) := by decide +kernel
theorem dX12_findPairs_57 : decode cX12_findPairs 57 = .ok (.getfield 284, 3) := by decide +kernel
theorem dX12_findPairs_60 : decode cX12_findPairs 60 = .ok (.sipush 500, 3) := by decide +kernel
theorem dX12_findPairs_63 : decode cX12_findPairs 63 = .ok (.aload_n 0, 1) := by decide +kernel
theorem dX12_findPairs_64 : decode cX12_findPairs 64 = .ok (.getfield 293, 3) := by decide +kernel
theorem dX12_findPairs_67 : decode cX12_findPairs 67 = .ok (.iload_n 1, 1) := by decide +kernel
theorem dX12_findPairs_68 : decode cX12_findPairs 68 = .ok (.iaload, 1) := by decide +kernel
theorem dX12_findPairs_69 : decode cX12_findPairs 69 = .ok (.imul, 1) := by decide +kernel
theorem dX12_findPairs_70 : decode cX12_findPairs 70 = .ok (.aload_n 0, 1) := by decide +kernel
theorem dX12_findPairs_71 : decode cX12_findPairs 71 = .ok (.getfield 308, 3) := by decide +kernel
theorem dX12_findPairs_74 : decode cX12_findPairs 74 = .ok (.iload_n 2, 1) := by decide +kernel
theorem dX12_findPairs_75 : decode cX12_findPairs 75 = .ok (.iaload, 1) := by decide +kernel
theorem dX12_findPairs_76 : decode cX12_findPairs 76 = .ok (.iadd, 1) := by decide +kernel
theorem dX12_findPairs_77 : decode cX12_findPairs 77 = .ok (.iaload, 1) := by decide +kernel
theorem dX12_findPairs_78 : decode cX12_findPairs 78 = .ok (.aload_n 0, 1) := by decide +kernel
theorem dX12_findPairs_79 : decode cX12_findPairs 79 = .ok (.getfield 284, 3) := by decide +kernel
theorem dX12_findPairs_82 : decode cX12_findPairs 82 = .ok (.sipush 30500, 3) := by decide +kernel
theorem dX12_findPairs_85 : decode cX12_findPairs 85 = .ok (.sipush 500, 3) := by decide +kernel
theorem dX12_findPairs_88 : decode cX12_findPairs 88 = .ok (.aload_n 0, 1) := by decide +kernel
theorem dX12_findPairs_89 : decode cX12_findPairs 89 = .ok (.getfield 296, 3) := by decide +kernel
theorem dX12_findPairs_92 : decode cX12_findPairs 92 = .ok (.iload_n 1, 1) := by decide +kernel
theorem dX12_findPairs_93 : decode cX12_findPairs 93 = .ok (.iaload, 1) := by decide +kernel
theorem dX12_findPairs_94 : decode cX12_findPairs 94 = .ok (.imul, 1) := by decide +kernel
theorem dX12_findPairs_95 : decode cX12_findPairs 95 = .ok (.iadd, 1) := by decide +kernel
theorem dX12_findPairs_96 : decode cX12_findPairs 96 = .ok (.aload_n 0, 1) := by decide +kernel
theorem dX12_findPairs_97 : decode cX12_findPairs 97 = .ok (.getfield 311, 3) := by decide +kernel
theorem dX12_findPairs_100 : decode cX12_findPairs 100 = .ok (.iload_n 2, 1) := by decide +kernel
theorem dX12_findPairs_101 : decode cX12_findPairs 101 = .ok (.iaload, 1) := by decide +kernel
theorem dX12_findPairs_102 : decode cX12_findPairs 102 = .ok (.iadd, 1) := by decide +kernel
theorem dX12_findPairs_103 : decode cX12_findPairs 103 = .ok (.iaload, 1) := by decide +kernel
theorem dX12_findPairs_104 : decode cX12_findPairs 104 = .ok (.iload_n 1, 1) := by decide +kernel
theorem dX12_findPairs_105 : decode cX12_findPairs 105 = .ok (.aload_n 0, 1) := by decide +kernel
theorem dX12_findPairs_106 : decode cX12_findPairs 106 = .ok (.getfield 314, 3) := by decide +kernel
theorem dX12_findPairs_109 : decode cX12_findPairs 109 = .ok (.iload_n 2, 1) := by decide +kernel
theorem dX12_findPairs_110 : decode cX12_findPairs 110 = .ok (.iaload, 1) := by decide +kernel
theorem dX12_findPairs_111 : decode cX12_findPairs 111 = .ok (.invokevirtual 748, 3) := by decide +kernel
theorem dX12_findPairs_114 : decode cX12_findPairs 114 = .ok (.iinc 2 1, 3) := by decide +kernel
theorem dX12_findPairs_117 : decode cX12_findPairs 117 = .ok (.goto (-70), 3) := by decide +kernel
theorem dX12_findPairs_120 : decode cX12_findPairs 120 = .ok (.iinc 1 1, 3) := by decide +kernel
theorem dX12_findPairs_123 : decode cX12_findPairs 123 = .ok (.goto (-86), 3) := by decide +kernel
theorem dX12_findPairs_126 : decode cX12_findPairs 126 = .ok (.return_, 1) := by decide +kernel
theorem dX12_findSorts_0 : decode cX12_findSorts 0 = .ok (.aload_n 0, 1) := by decide +kernel
theorem dX12_findSorts_1 : decode cX12_findSorts 1 = .ok (.iconst 0, 1) := by decide +kernel
theorem dX12_findSorts_2 : decode cX12_findSorts 2 = .ok (.putfield 742, 3) := by decide +kernel
theorem dX12_findSorts_5 : decode cX12_findSorts 5 = .ok (.iconst 0, 1) := by decide +kernel
theorem dX12_findSorts_6 : decode cX12_findSorts 6 = .ok (.istore_n 1, 1) := by decide +kernel
theorem dX12_findSorts_7 : decode cX12_findSorts 7 = .ok (.iload_n 1, 1) := by decide +kernel
theorem dX12_findSorts_8 : decode cX12_findSorts 8 = .ok (.aload_n 0, 1) := by decide +kernel
theorem dX12_findSorts_9 : decode cX12_findSorts 9 = .ok (.getfield 524, 3) := by decide +kernel
theorem dX12_findSorts_12 : decode cX12_findSorts 12 = .ok (.if_icmp .ge 115, 3) := by decide +kernel
theorem dX12_findSorts_15 : decode cX12_findSorts 15 = .ok (.aload_n 0, 1) := by decide +kernel
theorem dX12_findSorts_16 : decode cX12_findSorts 16 = .ok (.getfield 280, 3) := by decide +kernel
theorem dX12_findSorts_19 : decode cX12_findSorts 19 = .ok (.iload_n 1, 1) := by decide +kernel
theorem dX12_findSorts_20 : decode cX12_findSorts 20 = .ok (.iaload, 1) := by decide +kernel
theorem dX12_findSorts_21 : decode cX12_findSorts 21 = .ok (.istore_n 2, 1) := by decide +kernel
theorem dX12_findSorts_22 : decode cX12_findSorts 22 = .ok (.aload_n 0, 1) := by decide +kernel
theorem dX12_findSorts_23 : decode cX12_findSorts 23 = .ok (.getfield 280, 3) := by decide +kernel
theorem dX12_findSorts_26 : decode cX12_findSorts 26 = .ok (.sipush 3000, 3) := by decide +kernel
theorem dX12_findSorts_29 : decode cX12_findSorts 29 = .ok (.iload_n 1, 1) := by decide +kernel
theorem dX12_findSorts_30 : decode cX12_findSorts 30 = .ok (.iadd, 1) := by decide +kernel
theorem dX12_findSorts_31 : decode cX12_findSorts 31 = .ok (.iaload, 1) := by decide +kernel
theorem dX12_findSorts_32 : decode cX12_findSorts 32 = .ok (.istore_n 3, 1) := by decide +kernel
theorem dX12_findSorts_33 : decode cX12_findSorts 33 = .ok (.iconst 0, 1) := by decide +kernel
theorem dX12_findSorts_34 : decode cX12_findSorts 34 = .ok (.istore 4, 2) := by decide +kernel
theorem dX12_findSorts_36 : decode cX12_findSorts 36 = .ok (.iload 4, 2) := by decide +kernel
theorem dX12_findSorts_38 : decode cX12_findSorts 38 = .ok (.aload_n 0, 1) := by decide +kernel
theorem dX12_findSorts_39 : decode cX12_findSorts 39 = .ok (.getfield 742, 3) := by decide +kernel
theorem dX12_findSorts_42 : decode cX12_findSorts 42 = .ok (.if_icmp .ge 31, 3) := by decide +kernel
theorem dX12_findSorts_45 : decode cX12_findSorts 45 = .ok (.aload_n 0, 1) := by decide +kernel
theorem dX12_findSorts_46 : decode cX12_findSorts 46 = .ok (.getfield 308, 3) := by decide +kernel
theorem dX12_findSorts_49 : decode cX12_findSorts 49 = .ok (.iload 4, 2) := by decide +kernel
theorem dX12_findSorts_51 : decode cX12_findSorts 51 = .ok (.iaload, 1) := by decide +kernel
theorem dX12_findSorts_52 : decode cX12_findSorts 52 = .ok (.iload_n 2, 1) := by decide +kernel
theorem dX12_findSorts_53 : decode cX12_findSorts 53 = .ok (.if_icmp .ne 14, 3) := by decide +kernel
theorem dX12_findSorts_56 : decode cX12_findSorts 56 = .ok (.aload_n 0, 1) := by decide +kernel
theorem dX12_findSorts_57 : decode cX12_findSorts 57 = .ok (.getfield 311, 3) := by decide +kernel
theorem dX12_findSorts_60 : decode cX12_findSorts 60 = .ok (.iload 4, 2) := by decide +kernel
theorem dX12_findSorts_62 : decode cX12_findSorts 62 = .ok (.iaload, 1) := by decide +kernel
theorem dX12_findSorts_63 : decode cX12_findSorts 63 = .ok (.iload_n 3, 1) := by decide +kernel
theorem dX12_findSorts_64 : decode cX12_findSorts 64 = .ok (.if_icmp .eq 9, 3) := by decide +kernel
theorem dX12_findSorts_67 : decode cX12_findSorts 67 = .ok (.iinc 4 1, 3) := by decide +kernel
theorem dX12_findSorts_70 : decode cX12_findSorts 70 = .ok (.goto (-34), 3) := by decide +kernel
theorem dX12_findSorts_73 : decode cX12_findSorts 73 = .ok (.iload 4, 2) := by decide +kernel
theorem dX12_findSorts_75 : decode cX12_findSorts 75 = .ok (.aload_n 0, 1) := by decide +kernel
theorem dX12_findSorts_76 : decode cX12_findSorts 76 = .ok (.getfield 742, 3) := by decide +kernel
theorem dX12_findSorts_79 : decode cX12_findSorts 79 = .ok (.if_icmp .ne 42, 3) := by decide +kernel
theorem dX12_findSorts_82 : decode cX12_findSorts 82 = .ok (.aload_n 0, 1) := by decide +kernel
theorem dX12_findSorts_83 : decode cX12_findSorts 83 = .ok (.getfield 308, 3) := by decide +kernel
theorem dX12_findSorts_86 : decode cX12_findSorts 86 = .ok (.iload 4, 2) := by decide +kernel
theorem dX12_findSorts_88 : decode cX12_findSorts 88 = .ok (.iload_n 2, 1) := by decide +kernel
theorem dX12_findSorts_89 : decode cX12_findSorts 89 = .ok (.iastore, 1) := by decide +kernel
theorem dX12_findSorts_90 : decode cX12_findSorts 90 = .ok (.aload_n 0, 1) := by decide +kernel
theorem dX12_findSorts_91 : decode cX12_findSorts 91 = .ok (.getfield 311, 3) := by decide +kernel
theorem dX12_findSorts_94 : decode cX12_findSorts 94 = .ok (.iload 4, 2) := by decide +kernel
theorem dX12_findSorts_96 : decode cX12_findSorts 96 = .ok (.iload_n 3, 1) := by decide +kernel
theorem dX12_findSorts_97 : decode cX12_findSorts 97 = .ok (.iastore, 1) := by decide +kernel
theorem dX12_findSorts_98 : decode cX12_findSorts 98 = .ok (.aload_n 0, 1) := by decide +kernel
theorem dX12_findSorts_99 : decode cX12_findSorts 99 = .ok (.getfield 314, 3) := by decide +kernel
theorem dX12_findSorts_102 : decode cX12_findSorts 102 = .ok (.iload 4, 2) := by decide +kernel
theorem dX12_findSorts_104 : decode cX12_findSorts 104 = .ok (.aload_n 0, 1) := by decide +kernel
theorem dX12_findSorts_105 : decode cX12_findSorts 105 = .ok (.getfield 165, 3) := by decide +kernel
theorem dX12_findSorts_108 : decode cX12_findSorts 108 = .ok (.iload_n 1, 1) := by decide +kernel
theorem dX12_findSorts_109 : decode cX12_findSorts 109 = .ok (.iaload, 1) := by decide +kernel
theorem dX12_findSorts_110 : decode cX12_findSorts 110 = .ok (.iastore, 1) := by decide +kernel
theorem dX12_findSorts_111 : decode cX12_findSorts 111 = .ok (.aload_n 0, 1) := by decide +kernel
theorem dX12_findSorts_112 : decode cX12_findSorts 112 = .ok (.dup, 1) := by decide +kernel
theorem dX12_findSorts_113 : decode cX12_findSorts 113 = .ok (.getfield 742, 3) := by decide +kernel
theorem dX12_findSorts_116 : decode cX12_findSorts 116 = .ok (.iconst 1, 1) := by decide +kernel
theorem dX12_findSorts_117 : decode cX12_findSorts 117 = .ok (.iadd, 1) := by decide +kernel
theorem dX12_findSorts_118 : decode cX12_findSorts 118 = .ok (.putfield 742, 3) := by decide +kernel
theorem dX12_findSorts_121 : decode cX12_findSorts 121 = .ok (.iinc 1 1, 3) := by decide +kernel
theorem dX12_findSorts_124 : decode cX12_findSorts 124 = .ok (.goto (-117), 3) := by decide +kernel
theorem dX12_findSorts_127 : decode cX12_findSorts 127 = .ok (.return_, 1) := by decide +kernel
theorem dX12_finding_0 : decode cX12_finding 0 = .ok (.aload_n 0, 1) := by decide +kernel
theorem dX12_finding_1 : decode cX12_finding 1 = .ok (.iconst 0, 1) := by decide +kernel
theorem dX12_finding_2 : decode cX12_finding 2 = .ok (.putfield 1, 3) := by decide +kernel
theorem dX12_finding_5 : decode cX12_finding 5 = .ok (.aload_n 0, 1) := by decide +kernel
theorem dX12_finding_6 : decode cX12_finding 6 = .ok (.getfield 456, 3) := by decide +kernel
theorem dX12_finding_9 : decode cX12_finding 9 = .ok (.ireturn, 1) := by decide +kernel
theorem dX12_first_0 : decode cX12_first 0 = .ok (.aload_n 0, 1) := by decide +kernel
theorem dX12_first_1 : decode cX12_first 1 = .ok (.iconst 0, 1) := by decide +kernel
theorem dX12_first_2 : decode cX12_first 2 = .ok (.putfield 1, 3) := by decide +kernel
theorem dX12_first_5 : decode cX12_first 5 = .ok (.iload_n 1, 1) := by decide +kernel
theorem dX12_first_6 : decode cX12_first 6 = .ok (.iconst 1, 1) := by decide +kernel
theorem dX12_first_7 : decode cX12_first 7 = .ok (.bipush 63, 2) := by decide +kernel
theorem dX12_first_9 : decode cX12_first 9 = .ok (.invokestatic 7, 3) := by decide +kernel
theorem dX12_first_12 : decode cX12_first 12 = .ok (.ifCond .ne 6, 3) := by decide +kernel
theorem dX12_first_15 : decode cX12_first 15 = .ok (.bipush (-2), 2) := by decide +kernel
theorem dX12_first_17 : decode cX12_first 17 = .ok (.ireturn, 1) := by decide +kernel
theorem dX12_first_18 : decode cX12_first 18 = .ok (.iconst 0, 1) := by decide +kernel
theorem dX12_first_19 : decode cX12_first 19 = .ok (.istore 5, 2) := by decide +kernel
theorem dX12_first_21 : decode cX12_first 21 = .ok (.iconst 0, 1) := by decide +kernel
theorem dX12_first_22 : decode cX12_first 22 = .ok (.istore 6, 2) := by decide +kernel
theorem dX12_first_24 : decode cX12_first 24 = .ok (.iconst 0, 1) := by decide +kernel
theorem dX12_first_25 : decode cX12_first 25 = .ok (.istore 7, 2) := by decide +kernel
theorem dX12_first_27 : decode cX12_first 27 = .ok (.iload 7, 2) := by decide +kernel
theorem dX12_first_29 : decode cX12_first 29 = .ok (.bipush 6, 2) := by decide +kernel
theorem dX12_first_31 : decode cX12_first 31 = .ok (.if_icmp .ge 31, 3) := by decide +kernel
theorem dX12_first_34 : decode cX12_first 34 = .ok (.iload_n 1, 1) := by decide +kernel
theorem dX12_first_35 : decode cX12_first 35 = .ok (.iload 7, 2) := by decide +kernel
theorem dX12_first_37 : decode cX12_first 37 = .ok (.ishr, 1) := by decide +kernel
theorem dX12_first_38 : decode cX12_first 38 = .ok (.iconst 1, 1) := by decide +kernel
theorem dX12_first_39 : decode cX12_first 39 = .ok (.iand, 1) := by decide +kernel
theorem dX12_first_40 : decode cX12_first 40 = .ok (.iconst 1, 1) := by decide +kernel
theorem dX12_first_41 : decode cX12_first 41 = .ok (.if_icmp .ne 15, 3) := by decide +kernel
theorem dX12_first_44 : decode cX12_first 44 = .ok (.aload_n 0, 1) := by decide +kernel
theorem dX12_first_45 : decode cX12_first 45 = .ok (.iload 7, 2) := by decide +kernel
theorem dX12_first_47 : decode cX12_first 47 = .ok (.invokevirtual 459, 3) := by decide +kernel
theorem dX12_first_50 : decode cX12_first 50 = .ok (.ifCond .eq 6, 3) := by decide +kernel
theorem dX12_first_53 : decode cX12_first 53 = .ok (.bipush (-2), 2) := by decide +kernel
theorem dX12_first_55 : decode cX12_first 55 = .ok (.ireturn, 1) := by decide +kernel
theorem dX12_first_56 : decode cX12_first 56 = .ok (.iinc 7 1, 3) := by decide +kernel
theorem dX12_first_59 : decode cX12_first 59 = .ok (.goto (-32), 3) := by decide +kernel
theorem dX12_first_62 : decode cX12_first 62 = .ok (.aload_n 0, 1) := by decide +kernel
theorem dX12_first_63 : decode cX12_first 63 = .ok (.iload_n 2, 1) := by decide +kernel
theorem dX12_first_64 : decode cX12_first 64 = .ok (.invokevirtual 542, 3) := by decide +kernel
