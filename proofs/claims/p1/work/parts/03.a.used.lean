abbrev cJ7_fill_53178 : ByteArray := prog_25_method_103_code
def yJ7_fill_53178 : MethodName := ⟨RJ7, "fill", "([II)V"⟩
abbrev cX0_init : ByteArray := prog_2_method_1_code
def yX0_init : MethodName := ⟨RX0, "<init>", "()V"⟩
abbrev cX10_add : ByteArray := prog_12_method_18_code
def yX10_add : MethodName := ⟨RX10, "add", "(IIIII)I"⟩
abbrev cX10_close : ByteArray := prog_12_method_19_code
def yX10_close : MethodName := ⟨RX10, "close", "(I)V"⟩
abbrev cX10_copies : ByteArray := prog_12_method_27_code
def yX10_copies : MethodName := ⟨RX10, "copies", "(I)I"⟩
abbrev cX10_firstOf : ByteArray := prog_12_method_12_code
def yX10_firstOf : MethodName := ⟨RX10, "firstOf", "(I)I"⟩
abbrev cX10_has : ByteArray := prog_12_method_3_code
def yX10_has : MethodName := ⟨RX10, "has", "(I)Z"⟩
abbrev cX10_init : ByteArray := prog_12_method_1_code
def yX10_init : MethodName := ⟨RX10, "<init>", "(II)V"⟩
abbrev cX10_isWithinCase : ByteArray := prog_12_method_15_code
def yX10_isWithinCase : MethodName := ⟨RX10, "isWithinCase", "(I)Z"⟩
abbrev cX10_lastOf : ByteArray := prog_12_method_9_code
def yX10_lastOf : MethodName := ⟨RX10, "lastOf", "(I)I"⟩
abbrev cX10_maybeEmpty : ByteArray := prog_12_method_26_code
def yX10_maybeEmpty : MethodName := ⟨RX10, "maybeEmpty", "(IZZ)Z"⟩
abbrev cX10_measure : ByteArray := prog_12_method_24_code
def yX10_measure : MethodName := ⟨RX10, "measure", "()V"⟩
abbrev cX10_measureNode : ByteArray := prog_12_method_25_code
def yX10_measureNode : MethodName := ⟨RX10, "measureNode", "(I)V"⟩
abbrev cX10_reset : ByteArray := prog_12_method_2_code
def yX10_reset : MethodName := ⟨RX10, "reset", "()V"⟩
abbrev cX10_sortOf : ByteArray := prog_12_method_4_code
def yX10_sortOf : MethodName := ⟨RX10, "sortOf", "(I)I"⟩
abbrev cX10_takesOneSign : ByteArray := prog_12_method_28_code
def yX10_takesOneSign : MethodName := ⟨RX10, "takesOneSign", "(I)Z"⟩
abbrev cX11_all : ByteArray := prog_1_method_20_code
def yX11_all : MethodName := ⟨RX11, "all", "(III)I"⟩
abbrev cX11_begins : ByteArray := prog_1_method_9_code
def yX11_begins : MethodName := ⟨RX11, "begins", "(II)I"⟩
abbrev cX11_capturesOfFound : ByteArray := prog_1_method_59_code
def yX11_capturesOfFound : MethodName := ⟨RX11, "capturesOfFound", "()I"⟩
abbrev cX11_clear : ByteArray := prog_1_method_32_code
def yX11_clear : MethodName := ⟨RX11, "clear", "()I"⟩
abbrev cX11_compare : ByteArray := prog_1_method_27_code
def yX11_compare : MethodName := ⟨RX11, "compare", "(II)I"⟩
abbrev cX11_dead : ByteArray := prog_1_method_11_code
def yX11_dead : MethodName := ⟨RX11, "dead", "(II)I"⟩
abbrev cX11_drop : ByteArray := prog_1_method_13_code
def yX11_drop : MethodName := ⟨RX11, "drop", "(I)I"⟩
abbrev cX11_endSearch : ByteArray := prog_1_method_54_code
def yX11_endSearch : MethodName := ⟨RX11, "endSearch", "()V"⟩
abbrev cX11_endSearchWithSlot : ByteArray := prog_1_method_55_code
def yX11_endSearchWithSlot : MethodName := ⟨RX11, "endSearchWithSlot", "(I)V"⟩
abbrev cX11_find : ByteArray := prog_1_method_15_code
def yX11_find : MethodName := ⟨RX11, "find", "(IIIII)I"⟩
abbrev cX11_finding : ByteArray := prog_1_method_30_code
def yX11_finding : MethodName := ⟨RX11, "finding", "()I"⟩
abbrev cX11_forget : ByteArray := prog_1_method_5_code
def yX11_forget : MethodName := ⟨RX11, "forget", "(I)I"⟩
abbrev cX11_goOn : ByteArray := prog_1_method_16_code
def yX11_goOn : MethodName := ⟨RX11, "goOn", "(I)I"⟩
abbrev cX11_init : ByteArray := prog_1_method_1_code
def yX11_init : MethodName := ⟨RX11, "<init>", "()V"⟩
abbrev cX11_isSlot : ByteArray := prog_1_method_33_code
def yX11_isSlot : MethodName := ⟨RX11, "isSlot", "(I)Z"⟩
abbrev cX11_isStepCount : ByteArray := prog_1_method_36_code
def yX11_isStepCount : MethodName := ⟨RX11, "isStepCount", "(I)Z"⟩
abbrev cX11_isSubject : ByteArray := prog_1_method_34_code
def yX11_isSubject : MethodName := ⟨RX11, "isSubject", "(I)Z"⟩
abbrev cX11_least : ByteArray := prog_1_method_26_code
def yX11_least : MethodName := ⟨RX11, "least", "(I)I"⟩
abbrev cX11_named : ByteArray := prog_1_method_18_code
def yX11_named : MethodName := ⟨RX11, "named", "(II)I"⟩
abbrev cX11_node : ByteArray := prog_1_method_6_code
def yX11_node : MethodName := ⟨RX11, "node", "(III)I"⟩
abbrev cX11_part : ByteArray := prog_1_method_7_code
def yX11_part : MethodName := ⟨RX11, "part", "(IIIZ)I"⟩
abbrev cX11_parting : ByteArray := prog_1_method_28_code
def yX11_parting : MethodName := ⟨RX11, "parting", "(II)I"⟩
abbrev cX11_pattern : ByteArray := prog_1_method_3_code
def yX11_pattern : MethodName := ⟨RX11, "pattern", "(I)I"⟩
abbrev cX11_patternIn : ByteArray := prog_1_method_47_code
def yX11_patternIn : MethodName := ⟨RX11, "patternIn", "(I)LPatternWorkshop$Tree;"⟩
abbrev cX11_patternsThere : ByteArray := prog_1_method_51_code
def yX11_patternsThere : MethodName := ⟨RX11, "patternsThere", "()I"⟩
abbrev cX11_place : ByteArray := prog_1_method_4_code
def yX11_place : MethodName := ⟨RX11, "place", "()I"⟩
abbrev cX11_prefix : ByteArray := prog_1_method_23_code
def yX11_prefix : MethodName := ⟨RX11, "prefix", "(III)I"⟩
abbrev cX11_print : ByteArray := prog_1_method_8_code
def yX11_print : MethodName := ⟨RX11, "print", "(I)I"⟩
abbrev cX11_refusalOfSubject : ByteArray := prog_1_method_49_code
def yX11_refusalOfSubject : MethodName := ⟨RX11, "refusalOfSubject", "(I)I"⟩
abbrev cX11_replace : ByteArray := prog_1_method_21_code
def yX11_replace : MethodName := ⟨RX11, "replace", "(III)I"⟩
abbrev cX11_risky : ByteArray := prog_1_method_10_code
def yX11_risky : MethodName := ⟨RX11, "risky", "(I)I"⟩
abbrev cX11_span : ByteArray := prog_1_method_17_code
def yX11_span : MethodName := ⟨RX11, "span", "(IZ)I"⟩
abbrev cX11_steps : ByteArray := prog_1_method_24_code
def yX11_steps : MethodName := ⟨RX11, "steps", "()I"⟩
abbrev cX11_subjectAt : ByteArray := prog_1_method_48_code
def yX11_subjectAt : MethodName := ⟨RX11, "subjectAt", "(I)LPatternWorkshop$Row;"⟩
abbrev cX11_subjectsThere : ByteArray := prog_1_method_52_code
def yX11_subjectsThere : MethodName := ⟨RX11, "subjectsThere", "()I"⟩
abbrev cX11_table : ByteArray := prog_1_method_25_code
def yX11_table : MethodName := ⟨RX11, "table", "(I)I"⟩
abbrev cX11_told : ByteArray := prog_1_method_31_code
def yX11_told : MethodName := ⟨RX11, "told", "(I)I"⟩
abbrev cX11_whole : ByteArray := prog_1_method_19_code
def yX11_whole : MethodName := ⟨RX11, "whole", "(III)I"⟩
abbrev cX12_all : ByteArray := prog_14_method_104_code
def yX12_all : MethodName := ⟨RX12, "all", "(III)I"⟩
abbrev cX12_beginGroup : ByteArray := prog_14_method_12_code
def yX12_beginGroup : MethodName := ⟨RX12, "beginGroup", "(II)V"⟩
abbrev cX12_beginRow : ByteArray := prog_14_method_11_code
def yX12_beginRow : MethodName := ⟨RX12, "beginRow", "()V"⟩
abbrev cX12_begins : ByteArray := prog_14_method_60_code
def yX12_begins : MethodName := ⟨RX12, "begins", "(II)I"⟩
abbrev cX12_capped : ByteArray := prog_14_method_34_code
def yX12_capped : MethodName := ⟨RX12, "capped", "(I)I"⟩
abbrev cX12_clear : ByteArray := prog_14_method_129_code
def yX12_clear : MethodName := ⟨RX12, "clear", "()I"⟩
abbrev cX12_closeChoice : ByteArray := prog_14_method_15_code
def yX12_closeChoice : MethodName := ⟨RX12, "closeChoice", "()I"⟩
abbrev cX12_closeRow : ByteArray := prog_14_method_14_code
def yX12_closeRow : MethodName := ⟨RX12, "closeRow", "()V"⟩
abbrev cX12_compare : ByteArray := prog_14_method_124_code
def yX12_compare : MethodName := ⟨RX12, "compare", "(II)I"⟩
abbrev cX12_dead : ByteArray := prog_14_method_55_code
def yX12_dead : MethodName := ⟨RX12, "dead", "(II)I"⟩
abbrev cX12_drop : ByteArray := prog_14_method_67_code
def yX12_drop : MethodName := ⟨RX12, "drop", "(I)I"⟩
abbrev cX12_find : ByteArray := prog_14_method_98_code
def yX12_find : MethodName := ⟨RX12, "find", "(IIIII)I"⟩
abbrev cX12_finding : ByteArray := prog_14_method_127_code
def yX12_finding : MethodName := ⟨RX12, "finding", "()I"⟩
abbrev cX12_forget : ByteArray := prog_14_method_40_code
def yX12_forget : MethodName := ⟨RX12, "forget", "(I)I"⟩
abbrev cX12_goOn : ByteArray := prog_14_method_99_code
def yX12_goOn : MethodName := ⟨RX12, "goOn", "(I)I"⟩
abbrev cX12_in : ByteArray := prog_14_method_2_code
def yX12_in : MethodName := ⟨RX12, "in", "(III)Z"⟩
abbrev cX12_init : ByteArray := prog_14_method_7_code
def yX12_init : MethodName := ⟨RX12, "<init>", "()V"⟩
abbrev cX12_keepPattern : ByteArray := prog_14_method_33_code
def yX12_keepPattern : MethodName := ⟨RX12, "keepPattern", "(II)V"⟩
abbrev cX12_least : ByteArray := prog_14_method_116_code
def yX12_least : MethodName := ⟨RX12, "least", "(I)I"⟩
abbrev cX12_made : ByteArray := prog_14_method_10_code
def yX12_made : MethodName := ⟨RX12, "made", "(II)I"⟩
abbrev cX12_measure : ByteArray := prog_14_method_35_code
def yX12_measure : MethodName := ⟨RX12, "measure", "(II)V"⟩
abbrev cX12_named : ByteArray := prog_14_method_101_code
def yX12_named : MethodName := ⟨RX12, "named", "(II)I"⟩
abbrev cX12_node : ByteArray := prog_14_method_42_code
def yX12_node : MethodName := ⟨RX12, "node", "(III)I"⟩
abbrev cX12_out : ByteArray := prog_14_method_126_code
def yX12_out : MethodName := ⟨RX12, "out", "(I)I"⟩
abbrev cX12_part : ByteArray := prog_14_method_43_code
def yX12_part : MethodName := ⟨RX12, "part", "(IIIZ)I"⟩
abbrev cX12_parting : ByteArray := prog_14_method_125_code
def yX12_parting : MethodName := ⟨RX12, "parting", "(II)I"⟩
abbrev cX12_pattern : ByteArray := prog_14_method_37_code
def yX12_pattern : MethodName := ⟨RX12, "pattern", "(I)I"⟩
abbrev cX12_place : ByteArray := prog_14_method_38_code
def yX12_place : MethodName := ⟨RX12, "place", "()I"⟩
abbrev cX12_prefix : ByteArray := prog_14_method_117_code
def yX12_prefix : MethodName := ⟨RX12, "prefix", "(III)I"⟩
abbrev cX12_print : ByteArray := prog_14_method_54_code
def yX12_print : MethodName := ⟨RX12, "print", "(I)I"⟩
abbrev cX12_readAll : ByteArray := prog_14_method_32_code
def yX12_readAll : MethodName := ⟨RX12, "readAll", "()I"⟩
abbrev cX12_replace : ByteArray := prog_14_method_108_code
def yX12_replace : MethodName := ⟨RX12, "replace", "(III)I"⟩
abbrev cX12_risky : ByteArray := prog_14_method_64_code
def yX12_risky : MethodName := ⟨RX12, "risky", "(I)I"⟩
abbrev cX12_sign : ByteArray := prog_14_method_68_code
def yX12_sign : MethodName := ⟨RX12, "sign", "(II)C"⟩
abbrev cX12_span : ByteArray := prog_14_method_100_code
def yX12_span : MethodName := ⟨RX12, "span", "(IZ)I"⟩
abbrev cX12_steps : ByteArray := prog_14_method_110_code
def yX12_steps : MethodName := ⟨RX12, "steps", "()I"⟩
abbrev cX12_table : ByteArray := prog_14_method_114_code
def yX12_table : MethodName := ⟨RX12, "table", "(I)I"⟩
abbrev cX12_thrown : ByteArray := prog_14_method_1_code
def yX12_thrown : MethodName := ⟨RX12, "thrown", "()I"⟩
abbrev cX12_told : ByteArray := prog_14_method_128_code
def yX12_told : MethodName := ⟨RX12, "told", "(I)I"⟩
abbrev cX12_whole : ByteArray := prog_14_method_102_code
def yX12_whole : MethodName := ⟨RX12, "whole", "(III)I"⟩
abbrev cX12_wrongBoth : ByteArray := prog_14_method_96_code
def yX12_wrongBoth : MethodName := ⟨RX12, "wrongBoth", "(II)I"⟩
abbrev cX12_wrongSlot : ByteArray := prog_14_method_39_code
def yX12_wrongSlot : MethodName := ⟨RX12, "wrongSlot", "(I)I"⟩
abbrev cX12_wrongSubject : ByteArray := prog_14_method_66_code
def yX12_wrongSubject : MethodName := ⟨RX12, "wrongSubject", "(I)I"⟩
abbrev cX1_init : ByteArray := prog_3_method_1_code
def yX1_init : MethodName := ⟨RX1, "<init>", "()V"⟩
abbrev cX2_begin : ByteArray := prog_4_method_2_code
def yX2_begin : MethodName := ⟨RX2, "begin", "(III)V"⟩
abbrev cX2_beginRow : ByteArray := prog_4_method_3_code
def yX2_beginRow : MethodName := ⟨RX2, "beginRow", "()V"⟩
abbrev cX2_init : ByteArray := prog_4_method_1_code
def yX2_init : MethodName := ⟨RX2, "<init>", "()V"⟩
abbrev cX3_init : ByteArray := prog_5_method_1_code
def yX3_init : MethodName := ⟨RX3, "<init>", "()V"⟩
abbrev cX4_init : ByteArray := prog_6_method_1_code
def yX4_init : MethodName := ⟨RX4, "<init>", "()V"⟩
abbrev cX5_init : ByteArray := prog_7_method_1_code
def yX5_init : MethodName := ⟨RX5, "<init>", "()V"⟩
abbrev cX6_addPending : ByteArray := prog_8_method_15_code
def yX6_addPending : MethodName := ⟨RX6, "addPending", "(LPatternWorkshop$Group;)V"⟩
abbrev cX6_begin : ByteArray := prog_8_method_4_code
def yX6_begin : MethodName := ⟨RX6, "begin", "(LPatternWorkshop$Row;)V"⟩
abbrev cX6_choiceOf : ByteArray := prog_8_method_17_code
def yX6_choiceOf : MethodName := ⟨RX6, "choiceOf", "(LPatternWorkshop$Group;)I"⟩
abbrev cX6_closeRow : ByteArray := prog_8_method_16_code
def yX6_closeRow : MethodName := ⟨RX6, "closeRow", "(LPatternWorkshop$Group;)V"⟩
abbrev cX6_exchange : ByteArray := prog_8_method_2_code
def yX6_exchange : MethodName := ⟨RX6, "exchange", "(LPatternWorkshop$Tree;)LPatternWorkshop$Tree;"⟩
abbrev cX6_init : ByteArray := prog_8_method_1_code
def yX6_init : MethodName := ⟨RX6, "<init>", "()V"⟩
abbrev cX6_lay : ByteArray := prog_8_method_39_code
def yX6_lay : MethodName := ⟨RX6, "lay", "(III)V"⟩
abbrev cX6_make : ByteArray := prog_8_method_12_code
def yX6_make : MethodName := ⟨RX6, "make", "(IIII)I"⟩
abbrev cX6_makeRound : ByteArray := prog_8_method_13_code
def yX6_makeRound : MethodName := ⟨RX6, "makeRound", "(IIIII)I"⟩
abbrev cX6_openGroup : ByteArray := prog_8_method_7_code
def yX6_openGroup : MethodName := ⟨RX6, "openGroup", "()LPatternWorkshop$Group;"⟩
abbrev cX6_read : ByteArray := prog_8_method_3_code
def yX6_read : MethodName := ⟨RX6, "read", "(LPatternWorkshop$Row;)Z"⟩
abbrev cX7_empty : ByteArray := prog_9_method_5_code
def yX7_empty : MethodName := ⟨RX7, "empty", "()V"⟩
abbrev cX7_init : ByteArray := prog_9_method_1_code
def yX7_init : MethodName := ⟨RX7, "<init>", "(I)V"⟩
abbrev cX8_init : ByteArray := prog_10_method_1_code
def yX8_init : MethodName := ⟨RX8, "<init>", "()V"⟩
abbrev cX9_init : ByteArray := prog_11_method_1_code
def yX9_init : MethodName := ⟨RX9, "<init>", "()V"⟩
theorem tw_0 : (.selects "PatternWorkshop$Reader" yX6_begin yX6_begin : Cond) ∈ TW := tw_of 0 (by decide +kernel) (by decide +kernel)
theorem tw_1 : (.selects "PatternWorkshop$Reader" yX6_openGroup yX6_openGroup : Cond) ∈ TW := tw_of 1 (by decide +kernel) (by decide +kernel)
theorem tw_4 : (.selects "PatternWorkshop$Reader" yX6_closeRow yX6_closeRow : Cond) ∈ TW := tw_of 4 (by decide +kernel) (by decide +kernel)
theorem tw_5 : (.selects "PatternWorkshop$Reader" yX6_addPending yX6_addPending : Cond) ∈ TW := tw_of 5 (by decide +kernel) (by decide +kernel)
theorem tw_6 : (.selects "PatternWorkshop$Reader" yX6_makeRound yX6_makeRound : Cond) ∈ TW := tw_of 6 (by decide +kernel) (by decide +kernel)
theorem tw_7 : (.selects "PatternWorkshop$Reader" yX6_make yX6_make : Cond) ∈ TW := tw_of 7 (by decide +kernel) (by decide +kernel)
theorem tw_14 : (.selects "PatternWorkshop$Reader" yX6_choiceOf yX6_choiceOf : Cond) ∈ TW := tw_of 14 (by decide +kernel) (by decide +kernel)
theorem tw_33 : (.selects "PatternWorkshop$Reader" yX6_lay yX6_lay : Cond) ∈ TW := tw_of 33 (by decide +kernel) (by decide +kernel)
theorem tw_34 : (.selects "PatternWorkshop$Tree" yX10_measureNode yX10_measureNode : Cond) ∈ TW := tw_of 34 (by decide +kernel) (by decide +kernel)
theorem tw_35 : (.selects "PatternWorkshop$Tree" yX10_copies yX10_copies : Cond) ∈ TW := tw_of 35 (by decide +kernel) (by decide +kernel)
theorem tw_36 : (.selects "PatternWorkshop$Tree" yX10_takesOneSign yX10_takesOneSign : Cond) ∈ TW := tw_of 36 (by decide +kernel) (by decide +kernel)
theorem tw_37 : (.selects "PatternWorkshop$Tree" yX10_maybeEmpty yX10_maybeEmpty : Cond) ∈ TW := tw_of 37 (by decide +kernel) (by decide +kernel)
theorem tw_38 : (.selects "PatternWorkshop" yX11_endSearchWithSlot yX11_endSearchWithSlot : Cond) ∈ TW := tw_of 38 (by decide +kernel) (by decide +kernel)
theorem tw_39 : (.selects "PatternWorkshop" yX11_endSearch yX11_endSearch : Cond) ∈ TW := tw_of 39 (by decide +kernel) (by decide +kernel)
theorem tw_40 : (.selects "PatternWorkshop" yX11_patternIn yX11_patternIn : Cond) ∈ TW := tw_of 40 (by decide +kernel) (by decide +kernel)
theorem tw_67 : (.selects "PatternWorkshop" yX11_subjectAt yX11_subjectAt : Cond) ∈ TW := tw_of 67 (by decide +kernel) (by decide +kernel)
theorem tw_68 : (.selects "PatternWorkshop" yX11_refusalOfSubject yX11_refusalOfSubject : Cond) ∈ TW := tw_of 68 (by decide +kernel) (by decide +kernel)
theorem tw_122 : (.selects "PatternWorkshop" yX11_capturesOfFound yX11_capturesOfFound : Cond) ∈ TW := tw_of 122 (by decide +kernel) (by decide +kernel)
theorem tw_126 : (.selects "PatternWorkshop" ⟨"PatternWorkshop", "areThere", "(I)Z"⟩ ⟨"PatternWorkshop", "areThere", "(I)Z"⟩ : Cond) ∈ TW := tw_of 126 (by decide +kernel) (by decide +kernel)
theorem tw_144 : (.selects "PatternWorkshop" yX11_patternsThere yX11_patternsThere : Cond) ∈ TW := tw_of 144 (by decide +kernel) (by decide +kernel)
theorem tw_145 : (.selects "PatternWorkshop" yX11_subjectsThere yX11_subjectsThere : Cond) ∈ TW := tw_of 145 (by decide +kernel) (by decide +kernel)
theorem tw_148 : (.selects "PatternWorkshopModel" yX12_readAll yX12_readAll : Cond) ∈ TW := tw_of 148 (by decide +kernel) (by decide +kernel)
theorem tw_149 : (.selects "PatternWorkshopModel" yX12_beginGroup yX12_beginGroup : Cond) ∈ TW := tw_of 149 (by decide +kernel) (by decide +kernel)
theorem tw_150 : (.selects "PatternWorkshopModel" yX12_beginRow yX12_beginRow : Cond) ∈ TW := tw_of 150 (by decide +kernel) (by decide +kernel)
theorem tw_152 : (.selects "PatternWorkshopModel" yX12_closeRow yX12_closeRow : Cond) ∈ TW := tw_of 152 (by decide +kernel) (by decide +kernel)
theorem tw_153 : (.selects "PatternWorkshopModel" yX12_made yX12_made : Cond) ∈ TW := tw_of 153 (by decide +kernel) (by decide +kernel)
theorem tw_156 : (.selects "PatternWorkshopModel" yX12_closeChoice yX12_closeChoice : Cond) ∈ TW := tw_of 156 (by decide +kernel) (by decide +kernel)
theorem tw_172 : (.selects "PatternWorkshopModel" yX12_keepPattern yX12_keepPattern : Cond) ∈ TW := tw_of 172 (by decide +kernel) (by decide +kernel)
theorem tw_173 : (.selects "PatternWorkshopModel" yX12_measure yX12_measure : Cond) ∈ TW := tw_of 173 (by decide +kernel) (by decide +kernel)
theorem tw_174 : (.selects "PatternWorkshopModel" yX12_wrongSlot yX12_wrongSlot : Cond) ∈ TW := tw_of 174 (by decide +kernel) (by decide +kernel)
theorem tw_191 : (.selects "PatternWorkshopModel" yX12_wrongSubject yX12_wrongSubject : Cond) ∈ TW := tw_of 191 (by decide +kernel) (by decide +kernel)
theorem tw_192 : (.selects "PatternWorkshopModel" yX12_wrongBoth yX12_wrongBoth : Cond) ∈ TW := tw_of 192 (by decide +kernel) (by decide +kernel)
theorem tw_236 : (.initialized "PatternWorkshop" : Cond) ∈ TW := tw_in (tb_0 (List.mem_of_getElem? (i := 1) rfl)) (by decide +kernel)
theorem tw_237 : (.initialized "PatternWorkshop$Row" : Cond) ∈ TW := tw_in (tb_0 (List.mem_of_getElem? (i := 2) rfl)) (by decide +kernel)
theorem tw_238 : (.initialized "java/lang/Math" : Cond) ∈ TW := tw_in (tb_0 (List.mem_of_getElem? (i := 3) rfl)) (by decide +kernel)
theorem tw_239 : (.initialized "PatternWorkshop$Reader" : Cond) ∈ TW := tw_in (tb_0 (List.mem_of_getElem? (i := 4) rfl)) (by decide +kernel)
theorem tw_240 : (.initialized "PatternWorkshop$Tree" : Cond) ∈ TW := tw_in (tb_0 (List.mem_of_getElem? (i := 5) rfl)) (by decide +kernel)
theorem tw_241 : (.initialized "PatternWorkshop$Group" : Cond) ∈ TW := tw_in (tb_0 (List.mem_of_getElem? (i := 6) rfl)) (by decide +kernel)
theorem tw_242 : (.initialized "PatternWorkshop$Printer" : Cond) ∈ TW := tw_in (tb_0 (List.mem_of_getElem? (i := 7) rfl)) (by decide +kernel)
theorem tw_243 : (.initialized "PatternWorkshop$GoingBack" : Cond) ∈ TW := tw_in (tb_0 (List.mem_of_getElem? (i := 8) rfl)) (by decide +kernel)
theorem tw_244 : (.initialized "PatternWorkshop$Parallel" : Cond) ∈ TW := tw_in (tb_0 (List.mem_of_getElem? (i := 9) rfl)) (by decide +kernel)
theorem tw_245 : (.initialized "PatternWorkshop$Program" : Cond) ∈ TW := tw_in (tb_0 (List.mem_of_getElem? (i := 10) rfl)) (by decide +kernel)
theorem tw_246 : (.initialized "PatternWorkshop$Sets" : Cond) ∈ TW := tw_in (tb_0 (List.mem_of_getElem? (i := 11) rfl)) (by decide +kernel)
theorem tw_247 : (.initialized "PatternWorkshop$Alphabet" : Cond) ∈ TW := tw_in (tb_0 (List.mem_of_getElem? (i := 12) rfl)) (by decide +kernel)
theorem tw_248 : (.initialized "PatternWorkshop$Table" : Cond) ∈ TW := tw_in (tb_0 (List.mem_of_getElem? (i := 13) rfl)) (by decide +kernel)
theorem tw_249 : (.initialized "PatternWorkshopModel" : Cond) ∈ TW := tw_in (tb_0 (List.mem_of_getElem? (i := 14) rfl)) (by decide +kernel)
theorem tw_250 : (.initialized "java/util/Arrays" : Cond) ∈ TW := tw_in (tb_0 (List.mem_of_getElem? (i := 15) rfl)) (by decide +kernel)
theorem tw_263 : (.code yX11_init cX11_init 2 none : Cond) ∈ TW := tw_in (tb_0 (List.mem_of_getElem? (i := 28) rfl)) (by decide +kernel)
theorem tw_264 : (.methodLink "PatternWorkshop" 1 ⟨"java/lang/Object", "<init>", "()V"⟩ : Cond) ∈ TW := tw_in (tb_0 (List.mem_of_getElem? (i := 29) rfl)) (by decide +kernel)
theorem tw_265 : (.instanceMethod ⟨"java/lang/Object", "<init>", "()V"⟩ : Cond) ∈ TW := tw_in (tb_0 (List.mem_of_getElem? (i := 30) rfl)) (by decide +kernel)
theorem tw_266 : (.code ⟨"java/lang/Object", "<init>", "()V"⟩ object_method_1_code 1 none : Cond) ∈ TW := tw_in (tb_0 (List.mem_of_getElem? (i := 31) rfl)) (by decide +kernel)
theorem tw_267 : (.classLink "PatternWorkshop" 7 "PatternWorkshop$Row" : Cond) ∈ TW := tw_in (tb_0 (List.mem_of_getElem? (i := 32) rfl)) (by decide +kernel)
theorem tw_268 : (.instantiable "PatternWorkshop$Row" 4 : Cond) ∈ TW := tw_in (tb_0 (List.mem_of_getElem? (i := 33) rfl)) (by decide +kernel)
theorem tw_269 : (.methodLink "PatternWorkshop" 11 yX7_init : Cond) ∈ TW := tw_in (tb_0 (List.mem_of_getElem? (i := 34) rfl)) (by decide +kernel)
theorem tw_270 : (.instanceMethod yX7_init : Cond) ∈ TW := tw_in (tb_0 (List.mem_of_getElem? (i := 35) rfl)) (by decide +kernel)
theorem tw_271 : (.code yX7_init cX7_init 2 none : Cond) ∈ TW := tw_in (tb_0 (List.mem_of_getElem? (i := 36) rfl)) (by decide +kernel)
theorem tw_272 : (.methodLink "PatternWorkshop$Row" 3 ⟨"java/lang/Object", "<init>", "()V"⟩ : Cond) ∈ TW := tw_in (tb_0 (List.mem_of_getElem? (i := 37) rfl)) (by decide +kernel)
theorem tw_273 : (.methodLink "PatternWorkshop$Row" 9 ⟨"java/lang/Math", "max", "(II)I"⟩ : Cond) ∈ TW := tw_in (tb_0 (List.mem_of_getElem? (i := 38) rfl)) (by decide +kernel)
theorem tw_274 : (.static ⟨"java/lang/Math", "max", "(II)I"⟩ : Cond) ∈ TW := tw_in (tb_0 (List.mem_of_getElem? (i := 39) rfl)) (by decide +kernel)
theorem tw_275 : (.code ⟨"java/lang/Math", "max", "(II)I"⟩ prog_19_method_65_code 2 (some (.int)) : Cond) ∈ TW := tw_in (tb_0 (List.mem_of_getElem? (i := 40) rfl)) (by decide +kernel)
theorem tw_276 : (.fieldLink "PatternWorkshop$Row" 15 "PatternWorkshop$Row" "items" "[I" : Cond) ∈ TW := tw_in (tb_0 (List.mem_of_getElem? (i := 41) rfl)) (by decide +kernel)
theorem tw_277 : (.fieldLink "PatternWorkshop$Row" 21 "PatternWorkshop$Row" "count" "I" : Cond) ∈ TW := tw_in (tb_0 (List.mem_of_getElem? (i := 42) rfl)) (by decide +kernel)
theorem tw_278 : (.fieldLink "PatternWorkshop" 96 "PatternWorkshop$Row" "count" "I" : Cond) ∈ TW := tw_in (tb_0 (List.mem_of_getElem? (i := 43) rfl)) (by decide +kernel)
theorem tw_280 : (.fieldLink "PatternWorkshop$Reader" 72 "PatternWorkshop$Row" "count" "I" : Cond) ∈ TW := tw_in (tb_0 (List.mem_of_getElem? (i := 45) rfl)) (by decide +kernel)
theorem tw_284 : (.fieldLink "PatternWorkshop$Row" 25 "PatternWorkshop$Row" "over" "Z" : Cond) ∈ TW := tw_in (tb_0 (List.mem_of_getElem? (i := 49) rfl)) (by decide +kernel)
theorem tw_286 : (.fieldLink "PatternWorkshop" 205 "PatternWorkshop$Row" "there" "Z" : Cond) ∈ TW := tw_in (tb_0 (List.mem_of_getElem? (i := 51) rfl)) (by decide +kernel)
theorem tw_296 : (.arrayClass .int : Cond) ∈ TW := tw_in (tb_0 (List.mem_of_getElem? (i := 61) rfl)) (by decide +kernel)
theorem tw_297 : (.classLink "PatternWorkshop" 18 "PatternWorkshop$Tree" : Cond) ∈ TW := tw_in (tb_0 (List.mem_of_getElem? (i := 62) rfl)) (by decide +kernel)
theorem tw_300 : (.classLink "PatternWorkshop" 40 "PatternWorkshop$Reader" : Cond) ∈ TW := tw_in (tb_0 (List.mem_of_getElem? (i := 65) rfl)) (by decide +kernel)
theorem tw_301 : (.instantiable "PatternWorkshop$Reader" 19 : Cond) ∈ TW := tw_in (tb_0 (List.mem_of_getElem? (i := 66) rfl)) (by decide +kernel)
theorem tw_302 : (.methodLink "PatternWorkshop" 42 yX6_init : Cond) ∈ TW := tw_in (tb_0 (List.mem_of_getElem? (i := 67) rfl)) (by decide +kernel)
theorem tw_303 : (.instanceMethod yX6_init : Cond) ∈ TW := tw_in (tb_0 (List.mem_of_getElem? (i := 68) rfl)) (by decide +kernel)
theorem tw_304 : (.code yX6_init cX6_init 2 none : Cond) ∈ TW := tw_in (tb_0 (List.mem_of_getElem? (i := 69) rfl)) (by decide +kernel)
theorem tw_305 : (.methodLink "PatternWorkshop$Reader" 3 ⟨"java/lang/Object", "<init>", "()V"⟩ : Cond) ∈ TW := tw_in (tb_0 (List.mem_of_getElem? (i := 70) rfl)) (by decide +kernel)
theorem tw_306 : (.classLink "PatternWorkshop$Reader" 30 "PatternWorkshop$Group" : Cond) ∈ TW := tw_in (tb_0 (List.mem_of_getElem? (i := 71) rfl)) (by decide +kernel)
theorem tw_308 : (.classLink "PatternWorkshop$Reader" 36 "PatternWorkshop$Row" : Cond) ∈ TW := tw_in (tb_0 (List.mem_of_getElem? (i := 73) rfl)) (by decide +kernel)
theorem tw_309 : (.methodLink "PatternWorkshop$Reader" 38 yX7_init : Cond) ∈ TW := tw_in (tb_0 (List.mem_of_getElem? (i := 74) rfl)) (by decide +kernel)
theorem tw_310 : (.classLink "PatternWorkshop$Reader" 45 "PatternWorkshop$Tree" : Cond) ∈ TW := tw_in (tb_0 (List.mem_of_getElem? (i := 75) rfl)) (by decide +kernel)
theorem tw_311 : (.instantiable "PatternWorkshop$Tree" 20 : Cond) ∈ TW := tw_in (tb_0 (List.mem_of_getElem? (i := 76) rfl)) (by decide +kernel)
theorem tw_312 : (.methodLink "PatternWorkshop$Reader" 47 yX10_init : Cond) ∈ TW := tw_in (tb_0 (List.mem_of_getElem? (i := 77) rfl)) (by decide +kernel)
theorem tw_313 : (.instanceMethod yX10_init : Cond) ∈ TW := tw_in (tb_0 (List.mem_of_getElem? (i := 78) rfl)) (by decide +kernel)
theorem tw_314 : (.code yX10_init cX10_init 4 none : Cond) ∈ TW := tw_in (tb_0 (List.mem_of_getElem? (i := 79) rfl)) (by decide +kernel)
theorem tw_315 : (.methodLink "PatternWorkshop$Tree" 3 ⟨"java/lang/Object", "<init>", "()V"⟩ : Cond) ∈ TW := tw_in (tb_0 (List.mem_of_getElem? (i := 80) rfl)) (by decide +kernel)
theorem tw_316 : (.methodLink "PatternWorkshop$Tree" 9 ⟨"java/lang/Math", "max", "(II)I"⟩ : Cond) ∈ TW := tw_in (tb_0 (List.mem_of_getElem? (i := 81) rfl)) (by decide +kernel)
theorem tw_317 : (.fieldLink "PatternWorkshop$Tree" 67 "PatternWorkshop$Tree" "there" "Z" : Cond) ∈ TW := tw_in (tb_0 (List.mem_of_getElem? (i := 82) rfl)) (by decide +kernel)
theorem tw_318 : (.fieldLink "PatternWorkshop" 120 "PatternWorkshop$Tree" "there" "Z" : Cond) ∈ TW := tw_in (tb_0 (List.mem_of_getElem? (i := 83) rfl)) (by decide +kernel)
theorem tw_319 : (.fieldLink "PatternWorkshop$Tree" 71 "PatternWorkshop$Tree" "count" "I" : Cond) ∈ TW := tw_in (tb_0 (List.mem_of_getElem? (i := 84) rfl)) (by decide +kernel)
theorem tw_320 : (.fieldLink "PatternWorkshop" 127 "PatternWorkshop$Tree" "count" "I" : Cond) ∈ TW := tw_in (tb_0 (List.mem_of_getElem? (i := 85) rfl)) (by decide +kernel)
theorem tw_321 : (.fieldLink "PatternWorkshop$Tree" 75 "PatternWorkshop$Tree" "captures" "I" : Cond) ∈ TW := tw_in (tb_0 (List.mem_of_getElem? (i := 86) rfl)) (by decide +kernel)
theorem tw_326 : (.fieldLink "PatternWorkshop$Tree" 78 "PatternWorkshop$Tree" "ranges" "I" : Cond) ∈ TW := tw_in (tb_0 (List.mem_of_getElem? (i := 91) rfl)) (by decide +kernel)
theorem tw_327 : (.fieldLink "PatternWorkshop$Tree" 15 "PatternWorkshop$Tree" "sort" "[I" : Cond) ∈ TW := tw_in (tb_0 (List.mem_of_getElem? (i := 92) rfl)) (by decide +kernel)
theorem tw_328 : (.fieldLink "PatternWorkshop$Tree" 21 "PatternWorkshop$Tree" "holder" "[I" : Cond) ∈ TW := tw_in (tb_0 (List.mem_of_getElem? (i := 93) rfl)) (by decide +kernel)
theorem tw_329 : (.fieldLink "PatternWorkshop$Tree" 24 "PatternWorkshop$Tree" "end" "[I" : Cond) ∈ TW := tw_in (tb_0 (List.mem_of_getElem? (i := 94) rfl)) (by decide +kernel)
theorem tw_330 : (.fieldLink "PatternWorkshop$Tree" 27 "PatternWorkshop$Tree" "before" "[I" : Cond) ∈ TW := tw_in (tb_0 (List.mem_of_getElem? (i := 95) rfl)) (by decide +kernel)
theorem tw_331 : (.fieldLink "PatternWorkshop$Tree" 30 "PatternWorkshop$Tree" "last" "[I" : Cond) ∈ TW := tw_in (tb_0 (List.mem_of_getElem? (i := 96) rfl)) (by decide +kernel)
theorem tw_332 : (.fieldLink "PatternWorkshop$Tree" 33 "PatternWorkshop$Tree" "parts" "[I" : Cond) ∈ TW := tw_in (tb_0 (List.mem_of_getElem? (i := 97) rfl)) (by decide +kernel)
theorem tw_333 : (.fieldLink "PatternWorkshop$Tree" 36 "PatternWorkshop$Tree" "value" "[I" : Cond) ∈ TW := tw_in (tb_0 (List.mem_of_getElem? (i := 98) rfl)) (by decide +kernel)
theorem tw_334 : (.fieldLink "PatternWorkshop$Tree" 39 "PatternWorkshop$Tree" "low" "[I" : Cond) ∈ TW := tw_in (tb_0 (List.mem_of_getElem? (i := 99) rfl)) (by decide +kernel)
theorem tw_335 : (.fieldLink "PatternWorkshop$Tree" 42 "PatternWorkshop$Tree" "high" "[I" : Cond) ∈ TW := tw_in (tb_0 (List.mem_of_getElem? (i := 100) rfl)) (by decide +kernel)
theorem tw_336 : (.fieldLink "PatternWorkshop$Tree" 45 "PatternWorkshop$Tree" "size" "[I" : Cond) ∈ TW := tw_in (tb_0 (List.mem_of_getElem? (i := 101) rfl)) (by decide +kernel)
theorem tw_337 : (.fieldLink "PatternWorkshop$Tree" 48 "PatternWorkshop$Tree" "positions" "[I" : Cond) ∈ TW := tw_in (tb_0 (List.mem_of_getElem? (i := 102) rfl)) (by decide +kernel)
theorem tw_338 : (.fieldLink "PatternWorkshop$Tree" 51 "PatternWorkshop$Tree" "mayBeEmpty" "[Z" : Cond) ∈ TW := tw_in (tb_0 (List.mem_of_getElem? (i := 103) rfl)) (by decide +kernel)
theorem tw_339 : (.fieldLink "PatternWorkshop$Tree" 55 "PatternWorkshop$Tree" "withinCase" "[Z" : Cond) ∈ TW := tw_in (tb_0 (List.mem_of_getElem? (i := 104) rfl)) (by decide +kernel)
theorem tw_340 : (.fieldLink "PatternWorkshop$Tree" 58 "PatternWorkshop$Tree" "marked" "[Z" : Cond) ∈ TW := tw_in (tb_0 (List.mem_of_getElem? (i := 105) rfl)) (by decide +kernel)
theorem tw_341 : (.fieldLink "PatternWorkshop$Tree" 61 "PatternWorkshop$Tree" "rangeBegin" "[I" : Cond) ∈ TW := tw_in (tb_0 (List.mem_of_getElem? (i := 106) rfl)) (by decide +kernel)
theorem tw_342 : (.fieldLink "PatternWorkshop$Tree" 64 "PatternWorkshop$Tree" "rangeEnd" "[I" : Cond) ∈ TW := tw_in (tb_0 (List.mem_of_getElem? (i := 107) rfl)) (by decide +kernel)
theorem tw_384 : (.arrayClass .boolean : Cond) ∈ TW := tw_in (tb_0 (List.mem_of_getElem? (i := 149) rfl)) (by decide +kernel)
theorem tw_385 : (.instantiable "PatternWorkshop$Group" 11 : Cond) ∈ TW := tw_in (tb_0 (List.mem_of_getElem? (i := 150) rfl)) (by decide +kernel)
theorem tw_387 : (.instanceMethod yX2_init : Cond) ∈ TW := tw_in (tb_0 (List.mem_of_getElem? (i := 152) rfl)) (by decide +kernel)
theorem tw_388 : (.code yX2_init cX2_init 1 none : Cond) ∈ TW := tw_in (tb_0 (List.mem_of_getElem? (i := 153) rfl)) (by decide +kernel)
theorem tw_389 : (.methodLink "PatternWorkshop$Group" 3 ⟨"java/lang/Object", "<init>", "()V"⟩ : Cond) ∈ TW := tw_in (tb_0 (List.mem_of_getElem? (i := 154) rfl)) (by decide +kernel)
theorem tw_390 : (.fieldLink "PatternWorkshop$Group" 9 "PatternWorkshop$Group" "sort" "I" : Cond) ∈ TW := tw_in (tb_0 (List.mem_of_getElem? (i := 155) rfl)) (by decide +kernel)
theorem tw_392 : (.fieldLink "PatternWorkshop$Group" 15 "PatternWorkshop$Group" "value" "I" : Cond) ∈ TW := tw_in (tb_0 (List.mem_of_getElem? (i := 157) rfl)) (by decide +kernel)
theorem tw_394 : (.fieldLink "PatternWorkshop$Group" 18 "PatternWorkshop$Group" "name" "I" : Cond) ∈ TW := tw_in (tb_0 (List.mem_of_getElem? (i := 159) rfl)) (by decide +kernel)
theorem tw_396 : (.fieldLink "PatternWorkshop$Group" 33 "PatternWorkshop$Group" "pending" "I" : Cond) ∈ TW := tw_in (tb_0 (List.mem_of_getElem? (i := 161) rfl)) (by decide +kernel)
theorem tw_397 : (.fieldLink "PatternWorkshop$Reader" 166 "PatternWorkshop$Group" "pending" "I" : Cond) ∈ TW := tw_in (tb_0 (List.mem_of_getElem? (i := 162) rfl)) (by decide +kernel)
theorem tw_398 : (.fieldLink "PatternWorkshop$Group" 36 "PatternWorkshop$Group" "loopable" "Z" : Cond) ∈ TW := tw_in (tb_0 (List.mem_of_getElem? (i := 163) rfl)) (by decide +kernel)
theorem tw_400 : (.fieldLink "PatternWorkshop$Group" 40 "PatternWorkshop$Group" "rowFirst" "I" : Cond) ∈ TW := tw_in (tb_0 (List.mem_of_getElem? (i := 165) rfl)) (by decide +kernel)
theorem tw_401 : (.fieldLink "PatternWorkshop$Reader" 176 "PatternWorkshop$Group" "rowFirst" "I" : Cond) ∈ TW := tw_in (tb_0 (List.mem_of_getElem? (i := 166) rfl)) (by decide +kernel)
theorem tw_402 : (.fieldLink "PatternWorkshop$Group" 43 "PatternWorkshop$Group" "rowLast" "I" : Cond) ∈ TW := tw_in (tb_0 (List.mem_of_getElem? (i := 167) rfl)) (by decide +kernel)
theorem tw_404 : (.fieldLink "PatternWorkshop$Group" 46 "PatternWorkshop$Group" "rowCount" "I" : Cond) ∈ TW := tw_in (tb_0 (List.mem_of_getElem? (i := 169) rfl)) (by decide +kernel)
theorem tw_405 : (.fieldLink "PatternWorkshop$Reader" 179 "PatternWorkshop$Group" "rowCount" "I" : Cond) ∈ TW := tw_in (tb_0 (List.mem_of_getElem? (i := 170) rfl)) (by decide +kernel)
theorem tw_406 : (.fieldLink "PatternWorkshop$Group" 21 "PatternWorkshop$Group" "choiceFirst" "I" : Cond) ∈ TW := tw_in (tb_0 (List.mem_of_getElem? (i := 171) rfl)) (by decide +kernel)
theorem tw_407 : (.fieldLink "PatternWorkshop$Reader" 189 "PatternWorkshop$Group" "choiceFirst" "I" : Cond) ∈ TW := tw_in (tb_0 (List.mem_of_getElem? (i := 172) rfl)) (by decide +kernel)
theorem tw_408 : (.fieldLink "PatternWorkshop$Group" 24 "PatternWorkshop$Group" "choiceLast" "I" : Cond) ∈ TW := tw_in (tb_0 (List.mem_of_getElem? (i := 173) rfl)) (by decide +kernel)
theorem tw_409 : (.fieldLink "PatternWorkshop$Reader" 186 "PatternWorkshop$Group" "choiceLast" "I" : Cond) ∈ TW := tw_in (tb_0 (List.mem_of_getElem? (i := 174) rfl)) (by decide +kernel)
theorem tw_410 : (.fieldLink "PatternWorkshop$Group" 27 "PatternWorkshop$Group" "choiceCount" "I" : Cond) ∈ TW := tw_in (tb_0 (List.mem_of_getElem? (i := 175) rfl)) (by decide +kernel)
theorem tw_411 : (.fieldLink "PatternWorkshop$Reader" 192 "PatternWorkshop$Group" "choiceCount" "I" : Cond) ∈ TW := tw_in (tb_0 (List.mem_of_getElem? (i := 176) rfl)) (by decide +kernel)
theorem tw_435 : (.fieldLink "PatternWorkshop$Reader" 75 "PatternWorkshop$Reader" "fault" "I" : Cond) ∈ TW := tw_in (tb_0 (List.mem_of_getElem? (i := 200) rfl)) (by decide +kernel)
theorem tw_437 : (.fieldLink "PatternWorkshop" 112 "PatternWorkshop$Reader" "faultPlace" "I" : Cond) ∈ TW := tw_in (tb_0 (List.mem_of_getElem? (i := 202) rfl)) (by decide +kernel)
theorem tw_438 : (.fieldLink "PatternWorkshop$Reader" 113 "PatternWorkshop$Reader" "faultPlace" "I" : Cond) ∈ TW := tw_in (tb_0 (List.mem_of_getElem? (i := 203) rfl)) (by decide +kernel)
theorem tw_439 : (.fieldLink "PatternWorkshop$Reader" 9 "PatternWorkshop$Reader" "sort" "[I" : Cond) ∈ TW := tw_in (tb_0 (List.mem_of_getElem? (i := 204) rfl)) (by decide +kernel)
theorem tw_440 : (.fieldLink "PatternWorkshop$Reader" 15 "PatternWorkshop$Reader" "value" "[I" : Cond) ∈ TW := tw_in (tb_0 (List.mem_of_getElem? (i := 205) rfl)) (by decide +kernel)
theorem tw_441 : (.fieldLink "PatternWorkshop$Reader" 18 "PatternWorkshop$Reader" "low" "[I" : Cond) ∈ TW := tw_in (tb_0 (List.mem_of_getElem? (i := 206) rfl)) (by decide +kernel)
theorem tw_442 : (.fieldLink "PatternWorkshop$Reader" 21 "PatternWorkshop$Reader" "high" "[I" : Cond) ∈ TW := tw_in (tb_0 (List.mem_of_getElem? (i := 207) rfl)) (by decide +kernel)
theorem tw_443 : (.fieldLink "PatternWorkshop$Reader" 24 "PatternWorkshop$Reader" "firstPart" "[I" : Cond) ∈ TW := tw_in (tb_0 (List.mem_of_getElem? (i := 208) rfl)) (by decide +kernel)
theorem tw_444 : (.fieldLink "PatternWorkshop$Reader" 27 "PatternWorkshop$Reader" "nextPart" "[I" : Cond) ∈ TW := tw_in (tb_0 (List.mem_of_getElem? (i := 209) rfl)) (by decide +kernel)
theorem tw_445 : (.fieldLink "PatternWorkshop$Reader" 116 "PatternWorkshop$Reader" "count" "I" : Cond) ∈ TW := tw_in (tb_0 (List.mem_of_getElem? (i := 210) rfl)) (by decide +kernel)
theorem tw_446 : (.fieldLink "PatternWorkshop$Reader" 32 "PatternWorkshop$Reader" "groups" "[LPatternWorkshop$Group;" : Cond) ∈ TW := tw_in (tb_0 (List.mem_of_getElem? (i := 211) rfl)) (by decide +kernel)
theorem tw_447 : (.fieldLink "PatternWorkshop$Reader" 85 "PatternWorkshop$Reader" "depth" "I" : Cond) ∈ TW := tw_in (tb_0 (List.mem_of_getElem? (i := 212) rfl)) (by decide +kernel)
theorem tw_448 : (.fieldLink "PatternWorkshop$Reader" 41 "PatternWorkshop$Reader" "text" "LPatternWorkshop$Row;" : Cond) ∈ TW := tw_in (tb_0 (List.mem_of_getElem? (i := 213) rfl)) (by decide +kernel)
theorem tw_449 : (.fieldLink "PatternWorkshop$Reader" 50 "PatternWorkshop$Reader" "tree" "LPatternWorkshop$Tree;" : Cond) ∈ TW := tw_in (tb_0 (List.mem_of_getElem? (i := 214) rfl)) (by decide +kernel)
theorem tw_450 : (.fieldLink "PatternWorkshop$Reader" 68 "PatternWorkshop$Reader" "at" "I" : Cond) ∈ TW := tw_in (tb_0 (List.mem_of_getElem? (i := 215) rfl)) (by decide +kernel)
theorem tw_451 : (.fieldLink "PatternWorkshop$Reader" 117 "PatternWorkshop$Reader" "items" "I" : Cond) ∈ TW := tw_in (tb_0 (List.mem_of_getElem? (i := 216) rfl)) (by decide +kernel)
theorem tw_452 : (.fieldLink "PatternWorkshop$Reader" 54 "PatternWorkshop$Reader" "captureOfName" "[I" : Cond) ∈ TW := tw_in (tb_0 (List.mem_of_getElem? (i := 217) rfl)) (by decide +kernel)
theorem tw_453 : (.fieldLink "PatternWorkshop$Reader" 57 "PatternWorkshop$Reader" "partBegin" "[I" : Cond) ∈ TW := tw_in (tb_0 (List.mem_of_getElem? (i := 218) rfl)) (by decide +kernel)
theorem tw_454 : (.fieldLink "PatternWorkshop$Reader" 60 "PatternWorkshop$Reader" "partEnd" "[I" : Cond) ∈ TW := tw_in (tb_0 (List.mem_of_getElem? (i := 219) rfl)) (by decide +kernel)
theorem tw_495 : (.classLink "PatternWorkshop" 47 "PatternWorkshop$Printer" : Cond) ∈ TW := tw_in (tb_1 (List.mem_of_getElem? (i := 20) rfl)) (by decide +kernel)
theorem tw_496 : (.instantiable "PatternWorkshop$Printer" 2 : Cond) ∈ TW := tw_in (tb_1 (List.mem_of_getElem? (i := 21) rfl)) (by decide +kernel)
theorem tw_498 : (.instanceMethod yX4_init : Cond) ∈ TW := tw_in (tb_1 (List.mem_of_getElem? (i := 23) rfl)) (by decide +kernel)
theorem tw_499 : (.code yX4_init cX4_init 1 none : Cond) ∈ TW := tw_in (tb_1 (List.mem_of_getElem? (i := 24) rfl)) (by decide +kernel)
theorem tw_500 : (.methodLink "PatternWorkshop$Printer" 3 ⟨"java/lang/Object", "<init>", "()V"⟩ : Cond) ∈ TW := tw_in (tb_1 (List.mem_of_getElem? (i := 25) rfl)) (by decide +kernel)
theorem tw_501 : (.classLink "PatternWorkshop$Printer" 9 "PatternWorkshop$Row" : Cond) ∈ TW := tw_in (tb_1 (List.mem_of_getElem? (i := 26) rfl)) (by decide +kernel)
theorem tw_502 : (.methodLink "PatternWorkshop$Printer" 11 yX7_init : Cond) ∈ TW := tw_in (tb_1 (List.mem_of_getElem? (i := 27) rfl)) (by decide +kernel)
theorem tw_503 : (.fieldLink "PatternWorkshop$Printer" 14 "PatternWorkshop$Printer" "row" "LPatternWorkshop$Row;" : Cond) ∈ TW := tw_in (tb_1 (List.mem_of_getElem? (i := 28) rfl)) (by decide +kernel)
theorem tw_510 : (.classLink "PatternWorkshop" 54 "PatternWorkshop$GoingBack" : Cond) ∈ TW := tw_in (tb_1 (List.mem_of_getElem? (i := 35) rfl)) (by decide +kernel)
theorem tw_511 : (.instantiable "PatternWorkshop$GoingBack" 19 : Cond) ∈ TW := tw_in (tb_1 (List.mem_of_getElem? (i := 36) rfl)) (by decide +kernel)
theorem tw_513 : (.instanceMethod yX1_init : Cond) ∈ TW := tw_in (tb_1 (List.mem_of_getElem? (i := 38) rfl)) (by decide +kernel)
theorem tw_514 : (.code yX1_init cX1_init 1 none : Cond) ∈ TW := tw_in (tb_1 (List.mem_of_getElem? (i := 39) rfl)) (by decide +kernel)
theorem tw_515 : (.methodLink "PatternWorkshop$GoingBack" 3 ⟨"java/lang/Object", "<init>", "()V"⟩ : Cond) ∈ TW := tw_in (tb_1 (List.mem_of_getElem? (i := 40) rfl)) (by decide +kernel)
theorem tw_516 : (.classLink "PatternWorkshop$GoingBack" 9 "PatternWorkshop$Tree" : Cond) ∈ TW := tw_in (tb_1 (List.mem_of_getElem? (i := 41) rfl)) (by decide +kernel)
theorem tw_517 : (.methodLink "PatternWorkshop$GoingBack" 11 yX10_init : Cond) ∈ TW := tw_in (tb_1 (List.mem_of_getElem? (i := 42) rfl)) (by decide +kernel)
theorem tw_518 : (.classLink "PatternWorkshop$GoingBack" 20 "PatternWorkshop$Row" : Cond) ∈ TW := tw_in (tb_1 (List.mem_of_getElem? (i := 43) rfl)) (by decide +kernel)
theorem tw_519 : (.methodLink "PatternWorkshop$GoingBack" 22 yX7_init : Cond) ∈ TW := tw_in (tb_1 (List.mem_of_getElem? (i := 44) rfl)) (by decide +kernel)
theorem tw_522 : (.fieldLink "PatternWorkshop$GoingBack" 14 "PatternWorkshop$GoingBack" "tree" "LPatternWorkshop$Tree;" : Cond) ∈ TW := tw_in (tb_1 (List.mem_of_getElem? (i := 47) rfl)) (by decide +kernel)
theorem tw_523 : (.fieldLink "PatternWorkshop$GoingBack" 25 "PatternWorkshop$GoingBack" "subject" "LPatternWorkshop$Row;" : Cond) ∈ TW := tw_in (tb_1 (List.mem_of_getElem? (i := 48) rfl)) (by decide +kernel)
theorem tw_531 : (.fieldLink "PatternWorkshop$GoingBack" 29 "PatternWorkshop$GoingBack" "cells" "[I" : Cond) ∈ TW := tw_in (tb_1 (List.mem_of_getElem? (i := 56) rfl)) (by decide +kernel)
theorem tw_532 : (.fieldLink "PatternWorkshop$GoingBack" 33 "PatternWorkshop$GoingBack" "base" "[I" : Cond) ∈ TW := tw_in (tb_1 (List.mem_of_getElem? (i := 57) rfl)) (by decide +kernel)
theorem tw_533 : (.fieldLink "PatternWorkshop$GoingBack" 36 "PatternWorkshop$GoingBack" "entry" "[I" : Cond) ∈ TW := tw_in (tb_1 (List.mem_of_getElem? (i := 58) rfl)) (by decide +kernel)
theorem tw_534 : (.fieldLink "PatternWorkshop$GoingBack" 39 "PatternWorkshop$GoingBack" "from" "[I" : Cond) ∈ TW := tw_in (tb_1 (List.mem_of_getElem? (i := 59) rfl)) (by decide +kernel)
theorem tw_535 : (.fieldLink "PatternWorkshop$GoingBack" 42 "PatternWorkshop$GoingBack" "choices" "[I" : Cond) ∈ TW := tw_in (tb_1 (List.mem_of_getElem? (i := 60) rfl)) (by decide +kernel)
theorem tw_536 : (.fieldLink "PatternWorkshop$GoingBack" 45 "PatternWorkshop$GoingBack" "heights" "[I" : Cond) ∈ TW := tw_in (tb_1 (List.mem_of_getElem? (i := 61) rfl)) (by decide +kernel)
theorem tw_538 : (.fieldLink "PatternWorkshop$GoingBack" 48 "PatternWorkshop$GoingBack" "trail" "[I" : Cond) ∈ TW := tw_in (tb_1 (List.mem_of_getElem? (i := 63) rfl)) (by decide +kernel)
theorem tw_579 : (.classLink "PatternWorkshop" 61 "PatternWorkshop$Parallel" : Cond) ∈ TW := tw_in (tb_1 (List.mem_of_getElem? (i := 104) rfl)) (by decide +kernel)
theorem tw_580 : (.instantiable "PatternWorkshop$Parallel" 17 : Cond) ∈ TW := tw_in (tb_1 (List.mem_of_getElem? (i := 105) rfl)) (by decide +kernel)
theorem tw_582 : (.instanceMethod yX3_init : Cond) ∈ TW := tw_in (tb_1 (List.mem_of_getElem? (i := 107) rfl)) (by decide +kernel)
theorem tw_583 : (.code yX3_init cX3_init 1 none : Cond) ∈ TW := tw_in (tb_1 (List.mem_of_getElem? (i := 108) rfl)) (by decide +kernel)
theorem tw_584 : (.methodLink "PatternWorkshop$Parallel" 5 ⟨"java/lang/Object", "<init>", "()V"⟩ : Cond) ∈ TW := tw_in (tb_1 (List.mem_of_getElem? (i := 109) rfl)) (by decide +kernel)
theorem tw_585 : (.classLink "PatternWorkshop$Parallel" 11 "PatternWorkshop$Program" : Cond) ∈ TW := tw_in (tb_1 (List.mem_of_getElem? (i := 110) rfl)) (by decide +kernel)
theorem tw_586 : (.instantiable "PatternWorkshop$Program" 7 : Cond) ∈ TW := tw_in (tb_1 (List.mem_of_getElem? (i := 111) rfl)) (by decide +kernel)
theorem tw_588 : (.instanceMethod yX5_init : Cond) ∈ TW := tw_in (tb_1 (List.mem_of_getElem? (i := 113) rfl)) (by decide +kernel)
theorem tw_589 : (.code yX5_init cX5_init 1 none : Cond) ∈ TW := tw_in (tb_1 (List.mem_of_getElem? (i := 114) rfl)) (by decide +kernel)
theorem tw_590 : (.methodLink "PatternWorkshop$Program" 3 ⟨"java/lang/Object", "<init>", "()V"⟩ : Cond) ∈ TW := tw_in (tb_1 (List.mem_of_getElem? (i := 115) rfl)) (by decide +kernel)
theorem tw_591 : (.classLink "PatternWorkshop$Program" 9 "PatternWorkshop$Tree" : Cond) ∈ TW := tw_in (tb_1 (List.mem_of_getElem? (i := 116) rfl)) (by decide +kernel)
theorem tw_592 : (.methodLink "PatternWorkshop$Program" 11 yX10_init : Cond) ∈ TW := tw_in (tb_1 (List.mem_of_getElem? (i := 117) rfl)) (by decide +kernel)
theorem tw_597 : (.fieldLink "PatternWorkshop$Program" 14 "PatternWorkshop$Program" "tree" "LPatternWorkshop$Tree;" : Cond) ∈ TW := tw_in (tb_1 (List.mem_of_getElem? (i := 122) rfl)) (by decide +kernel)
theorem tw_598 : (.fieldLink "PatternWorkshop$Program" 20 "PatternWorkshop$Program" "kinds" "[I" : Cond) ∈ TW := tw_in (tb_1 (List.mem_of_getElem? (i := 123) rfl)) (by decide +kernel)
theorem tw_599 : (.fieldLink "PatternWorkshop$Program" 24 "PatternWorkshop$Program" "subjects" "[I" : Cond) ∈ TW := tw_in (tb_1 (List.mem_of_getElem? (i := 124) rfl)) (by decide +kernel)
theorem tw_600 : (.fieldLink "PatternWorkshop$Program" 27 "PatternWorkshop$Program" "nexts" "[I" : Cond) ∈ TW := tw_in (tb_1 (List.mem_of_getElem? (i := 125) rfl)) (by decide +kernel)
theorem tw_601 : (.fieldLink "PatternWorkshop$Program" 30 "PatternWorkshop$Program" "others" "[I" : Cond) ∈ TW := tw_in (tb_1 (List.mem_of_getElem? (i := 126) rfl)) (by decide +kernel)
theorem tw_617 : (.classLink "PatternWorkshop$Parallel" 18 "PatternWorkshop$Row" : Cond) ∈ TW := tw_in (tb_1 (List.mem_of_getElem? (i := 142) rfl)) (by decide +kernel)
theorem tw_618 : (.methodLink "PatternWorkshop$Parallel" 20 yX7_init : Cond) ∈ TW := tw_in (tb_1 (List.mem_of_getElem? (i := 143) rfl)) (by decide +kernel)
theorem tw_619 : (.fieldLink "PatternWorkshop$Parallel" 14 "PatternWorkshop$Parallel" "program" "LPatternWorkshop$Program;" : Cond) ∈ TW := tw_in (tb_1 (List.mem_of_getElem? (i := 144) rfl)) (by decide +kernel)
theorem tw_620 : (.fieldLink "PatternWorkshop$Parallel" 23 "PatternWorkshop$Parallel" "subject" "LPatternWorkshop$Row;" : Cond) ∈ TW := tw_in (tb_1 (List.mem_of_getElem? (i := 145) rfl)) (by decide +kernel)
theorem tw_622 : (.fieldLink "PatternWorkshop$Parallel" 27 "PatternWorkshop$Parallel" "edges" "[Z" : Cond) ∈ TW := tw_in (tb_1 (List.mem_of_getElem? (i := 147) rfl)) (by decide +kernel)
theorem tw_623 : (.fieldLink "PatternWorkshop$Parallel" 31 "PatternWorkshop$Parallel" "nowAt" "[I" : Cond) ∈ TW := tw_in (tb_1 (List.mem_of_getElem? (i := 148) rfl)) (by decide +kernel)
theorem tw_624 : (.fieldLink "PatternWorkshop$Parallel" 35 "PatternWorkshop$Parallel" "nowCells" "[I" : Cond) ∈ TW := tw_in (tb_1 (List.mem_of_getElem? (i := 149) rfl)) (by decide +kernel)
theorem tw_626 : (.fieldLink "PatternWorkshop$Parallel" 38 "PatternWorkshop$Parallel" "nextAt" "[I" : Cond) ∈ TW := tw_in (tb_1 (List.mem_of_getElem? (i := 151) rfl)) (by decide +kernel)
theorem tw_627 : (.fieldLink "PatternWorkshop$Parallel" 41 "PatternWorkshop$Parallel" "nextCells" "[I" : Cond) ∈ TW := tw_in (tb_1 (List.mem_of_getElem? (i := 152) rfl)) (by decide +kernel)
theorem tw_629 : (.fieldLink "PatternWorkshop$Parallel" 44 "PatternWorkshop$Parallel" "seen" "[I" : Cond) ∈ TW := tw_in (tb_1 (List.mem_of_getElem? (i := 154) rfl)) (by decide +kernel)
theorem tw_630 : (.fieldLink "PatternWorkshop$Parallel" 47 "PatternWorkshop$Parallel" "waits" "[I" : Cond) ∈ TW := tw_in (tb_1 (List.mem_of_getElem? (i := 155) rfl)) (by decide +kernel)
theorem tw_632 : (.fieldLink "PatternWorkshop$Parallel" 50 "PatternWorkshop$Parallel" "cells" "[I" : Cond) ∈ TW := tw_in (tb_1 (List.mem_of_getElem? (i := 157) rfl)) (by decide +kernel)
theorem tw_633 : (.fieldLink "PatternWorkshop$Parallel" 53 "PatternWorkshop$Parallel" "stack" "[I" : Cond) ∈ TW := tw_in (tb_1 (List.mem_of_getElem? (i := 158) rfl)) (by decide +kernel)
theorem tw_634 : (.fieldLink "PatternWorkshop$Parallel" 56 "PatternWorkshop$Parallel" "kept" "[I" : Cond) ∈ TW := tw_in (tb_1 (List.mem_of_getElem? (i := 159) rfl)) (by decide +kernel)
theorem tw_671 : (.classLink "PatternWorkshop" 68 "PatternWorkshop$Sets" : Cond) ∈ TW := tw_in (tb_1 (List.mem_of_getElem? (i := 196) rfl)) (by decide +kernel)
theorem tw_672 : (.instantiable "PatternWorkshop$Sets" 12 : Cond) ∈ TW := tw_in (tb_1 (List.mem_of_getElem? (i := 197) rfl)) (by decide +kernel)
theorem tw_674 : (.instanceMethod yX8_init : Cond) ∈ TW := tw_in (tb_1 (List.mem_of_getElem? (i := 199) rfl)) (by decide +kernel)
theorem tw_675 : (.code yX8_init cX8_init 1 none : Cond) ∈ TW := tw_in (tb_1 (List.mem_of_getElem? (i := 200) rfl)) (by decide +kernel)
theorem tw_676 : (.methodLink "PatternWorkshop$Sets" 3 ⟨"java/lang/Object", "<init>", "()V"⟩ : Cond) ∈ TW := tw_in (tb_1 (List.mem_of_getElem? (i := 201) rfl)) (by decide +kernel)
theorem tw_677 : (.classLink "PatternWorkshop$Sets" 9 "PatternWorkshop$Alphabet" : Cond) ∈ TW := tw_in (tb_1 (List.mem_of_getElem? (i := 202) rfl)) (by decide +kernel)
theorem tw_678 : (.instantiable "PatternWorkshop$Alphabet" 2 : Cond) ∈ TW := tw_in (tb_1 (List.mem_of_getElem? (i := 203) rfl)) (by decide +kernel)
theorem tw_680 : (.instanceMethod yX0_init : Cond) ∈ TW := tw_in (tb_1 (List.mem_of_getElem? (i := 205) rfl)) (by decide +kernel)
theorem tw_681 : (.code yX0_init cX0_init 1 none : Cond) ∈ TW := tw_in (tb_1 (List.mem_of_getElem? (i := 206) rfl)) (by decide +kernel)
theorem tw_682 : (.methodLink "PatternWorkshop$Alphabet" 3 ⟨"java/lang/Object", "<init>", "()V"⟩ : Cond) ∈ TW := tw_in (tb_1 (List.mem_of_getElem? (i := 207) rfl)) (by decide +kernel)
theorem tw_687 : (.fieldLink "PatternWorkshop$Alphabet" 9 "PatternWorkshop$Alphabet" "begins" "[I" : Cond) ∈ TW := tw_in (tb_1 (List.mem_of_getElem? (i := 212) rfl)) (by decide +kernel)
theorem tw_693 : (.classLink "PatternWorkshop$Sets" 18 "PatternWorkshop$Table" : Cond) ∈ TW := tw_in (tb_1 (List.mem_of_getElem? (i := 218) rfl)) (by decide +kernel)
theorem tw_694 : (.instantiable "PatternWorkshop$Table" 18 : Cond) ∈ TW := tw_in (tb_1 (List.mem_of_getElem? (i := 219) rfl)) (by decide +kernel)
theorem tw_696 : (.instanceMethod yX9_init : Cond) ∈ TW := tw_in (tb_1 (List.mem_of_getElem? (i := 221) rfl)) (by decide +kernel)
theorem tw_697 : (.code yX9_init cX9_init 1 none : Cond) ∈ TW := tw_in (tb_1 (List.mem_of_getElem? (i := 222) rfl)) (by decide +kernel)
theorem tw_698 : (.methodLink "PatternWorkshop$Table" 3 ⟨"java/lang/Object", "<init>", "()V"⟩ : Cond) ∈ TW := tw_in (tb_1 (List.mem_of_getElem? (i := 223) rfl)) (by decide +kernel)
theorem tw_699 : (.classLink "PatternWorkshop$Table" 9 "PatternWorkshop$Program" : Cond) ∈ TW := tw_in (tb_1 (List.mem_of_getElem? (i := 224) rfl)) (by decide +kernel)
theorem tw_703 : (.fieldLink "PatternWorkshop$Table" 12 "PatternWorkshop$Table" "program" "LPatternWorkshop$Program;" : Cond) ∈ TW := tw_in (tb_1 (List.mem_of_getElem? (i := 228) rfl)) (by decide +kernel)
theorem tw_705 : (.fieldLink "PatternWorkshop$Table" 18 "PatternWorkshop$Table" "positionOf" "[I" : Cond) ∈ TW := tw_in (tb_1 (List.mem_of_getElem? (i := 230) rfl)) (by decide +kernel)
theorem tw_706 : (.fieldLink "PatternWorkshop$Table" 22 "PatternWorkshop$Table" "pcOf" "[I" : Cond) ∈ TW := tw_in (tb_1 (List.mem_of_getElem? (i := 231) rfl)) (by decide +kernel)
theorem tw_707 : (.fieldLink "PatternWorkshop$Table" 25 "PatternWorkshop$Table" "follow" "[J" : Cond) ∈ TW := tw_in (tb_1 (List.mem_of_getElem? (i := 232) rfl)) (by decide +kernel)
theorem tw_708 : (.fieldLink "PatternWorkshop$Table" 29 "PatternWorkshop$Table" "takers" "[J" : Cond) ∈ TW := tw_in (tb_1 (List.mem_of_getElem? (i := 233) rfl)) (by decide +kernel)
theorem tw_709 : (.fieldLink "PatternWorkshop$Table" 32 "PatternWorkshop$Table" "seen" "[I" : Cond) ∈ TW := tw_in (tb_1 (List.mem_of_getElem? (i := 234) rfl)) (by decide +kernel)
theorem tw_711 : (.fieldLink "PatternWorkshop$Table" 35 "PatternWorkshop$Table" "stack" "[I" : Cond) ∈ TW := tw_in (tb_1 (List.mem_of_getElem? (i := 236) rfl)) (by decide +kernel)
theorem tw_714 : (.fieldLink "PatternWorkshop$Table" 38 "PatternWorkshop$Table" "states" "[J" : Cond) ∈ TW := tw_in (tb_1 (List.mem_of_getElem? (i := 239) rfl)) (by decide +kernel)
theorem tw_715 : (.fieldLink "PatternWorkshop$Table" 41 "PatternWorkshop$Table" "ahead" "[J" : Cond) ∈ TW := tw_in (tb_2 (List.mem_of_getElem? (i := 0) rfl)) (by decide +kernel)
theorem tw_716 : (.fieldLink "PatternWorkshop$Table" 44 "PatternWorkshop$Table" "goes" "[I" : Cond) ∈ TW := tw_in (tb_2 (List.mem_of_getElem? (i := 1) rfl)) (by decide +kernel)
theorem tw_717 : (.fieldLink "PatternWorkshop$Table" 47 "PatternWorkshop$Table" "live" "[Z" : Cond) ∈ TW := tw_in (tb_2 (List.mem_of_getElem? (i := 2) rfl)) (by decide +kernel)
theorem tw_718 : (.fieldLink "PatternWorkshop$Table" 51 "PatternWorkshop$Table" "groups" "[I" : Cond) ∈ TW := tw_in (tb_2 (List.mem_of_getElem? (i := 3) rfl)) (by decide +kernel)
theorem tw_719 : (.fieldLink "PatternWorkshop$Table" 54 "PatternWorkshop$Table" "finer" "[I" : Cond) ∈ TW := tw_in (tb_2 (List.mem_of_getElem? (i := 4) rfl)) (by decide +kernel)
theorem tw_757 : (.arrayClass .long : Cond) ∈ TW := tw_in (tb_2 (List.mem_of_getElem? (i := 42) rfl)) (by decide +kernel)
theorem tw_758 : (.fieldLink "PatternWorkshop$Sets" 12 "PatternWorkshop$Sets" "alphabet" "LPatternWorkshop$Alphabet;" : Cond) ∈ TW := tw_in (tb_2 (List.mem_of_getElem? (i := 43) rfl)) (by decide +kernel)
theorem tw_760 : (.fieldLink "PatternWorkshop$Sets" 21 "PatternWorkshop$Sets" "one" "LPatternWorkshop$Table;" : Cond) ∈ TW := tw_in (tb_2 (List.mem_of_getElem? (i := 45) rfl)) (by decide +kernel)
theorem tw_762 : (.fieldLink "PatternWorkshop$Sets" 25 "PatternWorkshop$Sets" "other" "LPatternWorkshop$Table;" : Cond) ∈ TW := tw_in (tb_2 (List.mem_of_getElem? (i := 47) rfl)) (by decide +kernel)
theorem tw_767 : (.fieldLink "PatternWorkshop$Sets" 28 "PatternWorkshop$Sets" "met" "[I" : Cond) ∈ TW := tw_in (tb_2 (List.mem_of_getElem? (i := 52) rfl)) (by decide +kernel)
theorem tw_769 : (.fieldLink "PatternWorkshop$Sets" 32 "PatternWorkshop$Sets" "pairs" "[I" : Cond) ∈ TW := tw_in (tb_2 (List.mem_of_getElem? (i := 54) rfl)) (by decide +kernel)
theorem tw_770 : (.fieldLink "PatternWorkshop$Sets" 35 "PatternWorkshop$Sets" "cameFrom" "[I" : Cond) ∈ TW := tw_in (tb_2 (List.mem_of_getElem? (i := 55) rfl)) (by decide +kernel)
theorem tw_771 : (.fieldLink "PatternWorkshop$Sets" 38 "PatternWorkshop$Sets" "cameBy" "[I" : Cond) ∈ TW := tw_in (tb_2 (List.mem_of_getElem? (i := 56) rfl)) (by decide +kernel)
theorem tw_799 : (.methodLink "PatternWorkshop" 85 yX10_init : Cond) ∈ TW := tw_in (tb_2 (List.mem_of_getElem? (i := 84) rfl)) (by decide +kernel)
theorem tw_800 : (.fieldLink "PatternWorkshop" 14 "PatternWorkshop" "tape" "LPatternWorkshop$Row;" : Cond) ∈ TW := tw_in (tb_2 (List.mem_of_getElem? (i := 85) rfl)) (by decide +kernel)
theorem tw_801 : (.fieldLink "PatternWorkshop" 20 "PatternWorkshop" "patterns" "[LPatternWorkshop$Tree;" : Cond) ∈ TW := tw_in (tb_2 (List.mem_of_getElem? (i := 86) rfl)) (by decide +kernel)
theorem tw_802 : (.fieldLink "PatternWorkshop" 24 "PatternWorkshop" "subjects" "[LPatternWorkshop$Row;" : Cond) ∈ TW := tw_in (tb_2 (List.mem_of_getElem? (i := 87) rfl)) (by decide +kernel)
theorem tw_803 : (.fieldLink "PatternWorkshop" 28 "PatternWorkshop" "outRow" "LPatternWorkshop$Row;" : Cond) ∈ TW := tw_in (tb_2 (List.mem_of_getElem? (i := 88) rfl)) (by decide +kernel)
theorem tw_804 : (.fieldLink "PatternWorkshop" 320 "PatternWorkshop" "outHasNumbers" "Z" : Cond) ∈ TW := tw_in (tb_2 (List.mem_of_getElem? (i := 89) rfl)) (by decide +kernel)
theorem tw_805 : (.fieldLink "PatternWorkshop" 31 "PatternWorkshop" "draft" "LPatternWorkshop$Row;" : Cond) ∈ TW := tw_in (tb_2 (List.mem_of_getElem? (i := 90) rfl)) (by decide +kernel)
theorem tw_806 : (.fieldLink "PatternWorkshop" 34 "PatternWorkshop" "spans" "LPatternWorkshop$Row;" : Cond) ∈ TW := tw_in (tb_2 (List.mem_of_getElem? (i := 91) rfl)) (by decide +kernel)
theorem tw_807 : (.fieldLink "PatternWorkshop" 37 "PatternWorkshop" "found" "LPatternWorkshop$Row;" : Cond) ∈ TW := tw_in (tb_2 (List.mem_of_getElem? (i := 92) rfl)) (by decide +kernel)
theorem tw_808 : (.fieldLink "PatternWorkshop" 43 "PatternWorkshop" "reader" "LPatternWorkshop$Reader;" : Cond) ∈ TW := tw_in (tb_2 (List.mem_of_getElem? (i := 93) rfl)) (by decide +kernel)
theorem tw_809 : (.fieldLink "PatternWorkshop" 50 "PatternWorkshop" "printer" "LPatternWorkshop$Printer;" : Cond) ∈ TW := tw_in (tb_2 (List.mem_of_getElem? (i := 94) rfl)) (by decide +kernel)
theorem tw_810 : (.fieldLink "PatternWorkshop" 57 "PatternWorkshop" "goingBack" "LPatternWorkshop$GoingBack;" : Cond) ∈ TW := tw_in (tb_2 (List.mem_of_getElem? (i := 95) rfl)) (by decide +kernel)
theorem tw_811 : (.fieldLink "PatternWorkshop" 64 "PatternWorkshop" "parallel" "LPatternWorkshop$Parallel;" : Cond) ∈ TW := tw_in (tb_2 (List.mem_of_getElem? (i := 96) rfl)) (by decide +kernel)
theorem tw_812 : (.fieldLink "PatternWorkshop" 71 "PatternWorkshop" "sets" "LPatternWorkshop$Sets;" : Cond) ∈ TW := tw_in (tb_2 (List.mem_of_getElem? (i := 97) rfl)) (by decide +kernel)
theorem tw_813 : (.fieldLink "PatternWorkshop" 75 "PatternWorkshop" "faultPlace" "I" : Cond) ∈ TW := tw_in (tb_2 (List.mem_of_getElem? (i := 98) rfl)) (by decide +kernel)
theorem tw_814 : (.fieldLink "PatternWorkshop" 146 "PatternWorkshop" "latestFinding" "I" : Cond) ∈ TW := tw_in (tb_2 (List.mem_of_getElem? (i := 99) rfl)) (by decide +kernel)
theorem tw_815 : (.fieldLink "PatternWorkshop" 249 "PatternWorkshop" "latestSteps" "I" : Cond) ∈ TW := tw_in (tb_2 (List.mem_of_getElem? (i := 100) rfl)) (by decide +kernel)
theorem tw_816 : (.fieldLink "PatternWorkshop" 79 "PatternWorkshop" "openSlot" "I" : Cond) ∈ TW := tw_in (tb_2 (List.mem_of_getElem? (i := 101) rfl)) (by decide +kernel)
theorem tw_817 : (.fieldLink "PatternWorkshop" 82 "PatternWorkshop" "openSubject" "I" : Cond) ∈ TW := tw_in (tb_2 (List.mem_of_getElem? (i := 102) rfl)) (by decide +kernel)
theorem tw_872 : (.code yX11_pattern cX11_pattern 3 (some (.int)) : Cond) ∈ TW := tw_in (tb_2 (List.mem_of_getElem? (i := 157) rfl)) (by decide +kernel)
theorem tw_873 : (.methodLink "PatternWorkshop" 102 yX11_isSlot : Cond) ∈ TW := tw_in (tb_2 (List.mem_of_getElem? (i := 158) rfl)) (by decide +kernel)
theorem tw_874 : (.static yX11_isSlot : Cond) ∈ TW := tw_in (tb_2 (List.mem_of_getElem? (i := 159) rfl)) (by decide +kernel)
theorem tw_875 : (.code yX11_isSlot cX11_isSlot 1 (some (.boolean)) : Cond) ∈ TW := tw_in (tb_2 (List.mem_of_getElem? (i := 160) rfl)) (by decide +kernel)
theorem tw_876 : (.methodLink "PatternWorkshop" 105 yX6_read : Cond) ∈ TW := tw_in (tb_2 (List.mem_of_getElem? (i := 161) rfl)) (by decide +kernel)
theorem tw_877 : (.instanceMethod yX6_read : Cond) ∈ TW := tw_in (tb_2 (List.mem_of_getElem? (i := 162) rfl)) (by decide +kernel)
theorem tw_878 : (.selects "PatternWorkshop$Reader" yX6_read yX6_read : Cond) ∈ TW := tw_in (tb_2 (List.mem_of_getElem? (i := 163) rfl)) (by decide +kernel)
theorem tw_879 : (.code yX6_read cX6_read 3 (some (.boolean)) : Cond) ∈ TW := tw_in (tb_2 (List.mem_of_getElem? (i := 164) rfl)) (by decide +kernel)
theorem tw_880 : (.methodLink "PatternWorkshop$Reader" 64 yX6_begin : Cond) ∈ TW := tw_in (tb_2 (List.mem_of_getElem? (i := 165) rfl)) (by decide +kernel)
theorem tw_882 : (.instanceMethod yX6_begin : Cond) ∈ TW := tw_in (tb_2 (List.mem_of_getElem? (i := 167) rfl)) (by decide +kernel)
theorem tw_883 : (.code yX6_begin cX6_begin 2 none : Cond) ∈ TW := tw_in (tb_2 (List.mem_of_getElem? (i := 168) rfl)) (by decide +kernel)
theorem tw_884 : (.methodLink "PatternWorkshop$Reader" 110 yX10_reset : Cond) ∈ TW := tw_in (tb_2 (List.mem_of_getElem? (i := 169) rfl)) (by decide +kernel)
theorem tw_885 : (.instanceMethod yX10_reset : Cond) ∈ TW := tw_in (tb_2 (List.mem_of_getElem? (i := 170) rfl)) (by decide +kernel)
theorem tw_886 : (.selects "PatternWorkshop$Tree" yX10_reset yX10_reset : Cond) ∈ TW := tw_in (tb_2 (List.mem_of_getElem? (i := 171) rfl)) (by decide +kernel)
theorem tw_887 : (.code yX10_reset cX10_reset 1 none : Cond) ∈ TW := tw_in (tb_2 (List.mem_of_getElem? (i := 172) rfl)) (by decide +kernel)
theorem tw_888 : (.methodLink "PatternWorkshop$Reader" 120 yJ7_fill_53178 : Cond) ∈ TW := tw_in (tb_2 (List.mem_of_getElem? (i := 173) rfl)) (by decide +kernel)
theorem tw_889 : (.static yJ7_fill_53178 : Cond) ∈ TW := tw_in (tb_2 (List.mem_of_getElem? (i := 174) rfl)) (by decide +kernel)
theorem tw_890 : (.code yJ7_fill_53178 cJ7_fill_53178 4 none : Cond) ∈ TW := tw_in (tb_2 (List.mem_of_getElem? (i := 175) rfl)) (by decide +kernel)
theorem tw_891 : (.methodLink "PatternWorkshop$Reader" 91 yX6_openGroup : Cond) ∈ TW := tw_in (tb_2 (List.mem_of_getElem? (i := 176) rfl)) (by decide +kernel)
theorem tw_893 : (.instanceMethod yX6_openGroup : Cond) ∈ TW := tw_in (tb_2 (List.mem_of_getElem? (i := 178) rfl)) (by decide +kernel)
theorem tw_894 : (.code yX6_openGroup cX6_openGroup 1 (some (.object "PatternWorkshop$Group")) : Cond) ∈ TW := tw_in (tb_2 (List.mem_of_getElem? (i := 179) rfl)) (by decide +kernel)
theorem tw_895 : (.methodLink "PatternWorkshop$Reader" 126 yX2_begin : Cond) ∈ TW := tw_in (tb_2 (List.mem_of_getElem? (i := 180) rfl)) (by decide +kernel)
theorem tw_896 : (.instanceMethod yX2_begin : Cond) ∈ TW := tw_in (tb_2 (List.mem_of_getElem? (i := 181) rfl)) (by decide +kernel)
theorem tw_897 : (.selects "PatternWorkshop$Group" yX2_begin yX2_begin : Cond) ∈ TW := tw_in (tb_2 (List.mem_of_getElem? (i := 182) rfl)) (by decide +kernel)
theorem tw_898 : (.code yX2_begin cX2_begin 4 none : Cond) ∈ TW := tw_in (tb_2 (List.mem_of_getElem? (i := 183) rfl)) (by decide +kernel)
theorem tw_899 : (.methodLink "PatternWorkshop$Group" 30 yX2_beginRow : Cond) ∈ TW := tw_in (tb_2 (List.mem_of_getElem? (i := 184) rfl)) (by decide +kernel)
theorem tw_900 : (.instanceMethod yX2_beginRow : Cond) ∈ TW := tw_in (tb_2 (List.mem_of_getElem? (i := 185) rfl)) (by decide +kernel)
theorem tw_901 : (.selects "PatternWorkshop$Group" yX2_beginRow yX2_beginRow : Cond) ∈ TW := tw_in (tb_2 (List.mem_of_getElem? (i := 186) rfl)) (by decide +kernel)
theorem tw_902 : (.code yX2_beginRow cX2_beginRow 1 none : Cond) ∈ TW := tw_in (tb_2 (List.mem_of_getElem? (i := 187) rfl)) (by decide +kernel)
theorem tw_915 : (.methodLink "PatternWorkshop$Reader" 95 yX6_closeRow : Cond) ∈ TW := tw_in (tb_2 (List.mem_of_getElem? (i := 200) rfl)) (by decide +kernel)
theorem tw_917 : (.instanceMethod yX6_closeRow : Cond) ∈ TW := tw_in (tb_2 (List.mem_of_getElem? (i := 202) rfl)) (by decide +kernel)
theorem tw_918 : (.code yX6_closeRow cX6_closeRow 3 none : Cond) ∈ TW := tw_in (tb_2 (List.mem_of_getElem? (i := 203) rfl)) (by decide +kernel)
theorem tw_919 : (.methodLink "PatternWorkshop$Reader" 163 yX6_addPending : Cond) ∈ TW := tw_in (tb_2 (List.mem_of_getElem? (i := 204) rfl)) (by decide +kernel)
theorem tw_921 : (.instanceMethod yX6_addPending : Cond) ∈ TW := tw_in (tb_2 (List.mem_of_getElem? (i := 206) rfl)) (by decide +kernel)
theorem tw_922 : (.code yX6_addPending cX6_addPending 2 none : Cond) ∈ TW := tw_in (tb_2 (List.mem_of_getElem? (i := 207) rfl)) (by decide +kernel)
theorem tw_923 : (.methodLink "PatternWorkshop$Reader" 182 yX6_makeRound : Cond) ∈ TW := tw_in (tb_2 (List.mem_of_getElem? (i := 208) rfl)) (by decide +kernel)
theorem tw_925 : (.instanceMethod yX6_makeRound : Cond) ∈ TW := tw_in (tb_2 (List.mem_of_getElem? (i := 210) rfl)) (by decide +kernel)
theorem tw_926 : (.code yX6_makeRound cX6_makeRound 7 (some (.int)) : Cond) ∈ TW := tw_in (tb_2 (List.mem_of_getElem? (i := 211) rfl)) (by decide +kernel)
theorem tw_927 : (.methodLink "PatternWorkshop$Reader" 156 yX6_make : Cond) ∈ TW := tw_in (tb_2 (List.mem_of_getElem? (i := 212) rfl)) (by decide +kernel)
theorem tw_929 : (.instanceMethod yX6_make : Cond) ∈ TW := tw_in (tb_2 (List.mem_of_getElem? (i := 214) rfl)) (by decide +kernel)
theorem tw_930 : (.code yX6_make cX6_make 6 (some (.int)) : Cond) ∈ TW := tw_in (tb_2 (List.mem_of_getElem? (i := 215) rfl)) (by decide +kernel)
theorem tw_935 : (.methodLink "PatternWorkshop$Reader" 195 yX2_beginRow : Cond) ∈ TW := tw_in (tb_2 (List.mem_of_getElem? (i := 220) rfl)) (by decide +kernel)
theorem tw_965 : (.methodLink "PatternWorkshop$Reader" 99 yX6_choiceOf : Cond) ∈ TW := tw_in (tb_3 (List.mem_of_getElem? (i := 10) rfl)) (by decide +kernel)
theorem tw_967 : (.instanceMethod yX6_choiceOf : Cond) ∈ TW := tw_in (tb_3 (List.mem_of_getElem? (i := 12) rfl)) (by decide +kernel)
theorem tw_968 : (.code yX6_choiceOf cX6_choiceOf 2 (some (.int)) : Cond) ∈ TW := tw_in (tb_3 (List.mem_of_getElem? (i := 13) rfl)) (by decide +kernel)
theorem tw_1057 : (.methodLink "PatternWorkshop$Reader" 103 yX6_lay : Cond) ∈ TW := tw_in (tb_3 (List.mem_of_getElem? (i := 102) rfl)) (by decide +kernel)
theorem tw_1059 : (.instanceMethod yX6_lay : Cond) ∈ TW := tw_in (tb_3 (List.mem_of_getElem? (i := 104) rfl)) (by decide +kernel)
theorem tw_1060 : (.code yX6_lay cX6_lay 6 none : Cond) ∈ TW := tw_in (tb_3 (List.mem_of_getElem? (i := 105) rfl)) (by decide +kernel)
theorem tw_1061 : (.methodLink "PatternWorkshop$Reader" 285 yX10_add : Cond) ∈ TW := tw_in (tb_3 (List.mem_of_getElem? (i := 106) rfl)) (by decide +kernel)
theorem tw_1062 : (.instanceMethod yX10_add : Cond) ∈ TW := tw_in (tb_3 (List.mem_of_getElem? (i := 107) rfl)) (by decide +kernel)
theorem tw_1063 : (.selects "PatternWorkshop$Tree" yX10_add yX10_add : Cond) ∈ TW := tw_in (tb_3 (List.mem_of_getElem? (i := 108) rfl)) (by decide +kernel)
theorem tw_1064 : (.code yX10_add cX10_add 7 (some (.int)) : Cond) ∈ TW := tw_in (tb_3 (List.mem_of_getElem? (i := 109) rfl)) (by decide +kernel)
theorem tw_1065 : (.methodLink "PatternWorkshop$Tree" 88 yX10_lastOf : Cond) ∈ TW := tw_in (tb_3 (List.mem_of_getElem? (i := 110) rfl)) (by decide +kernel)
theorem tw_1066 : (.instanceMethod yX10_lastOf : Cond) ∈ TW := tw_in (tb_3 (List.mem_of_getElem? (i := 111) rfl)) (by decide +kernel)
theorem tw_1067 : (.selects "PatternWorkshop$Tree" yX10_lastOf yX10_lastOf : Cond) ∈ TW := tw_in (tb_3 (List.mem_of_getElem? (i := 112) rfl)) (by decide +kernel)
theorem tw_1068 : (.code yX10_lastOf cX10_lastOf 2 (some (.int)) : Cond) ∈ TW := tw_in (tb_3 (List.mem_of_getElem? (i := 113) rfl)) (by decide +kernel)
theorem tw_1069 : (.methodLink "PatternWorkshop$Tree" 91 yX10_has : Cond) ∈ TW := tw_in (tb_3 (List.mem_of_getElem? (i := 114) rfl)) (by decide +kernel)
theorem tw_1070 : (.instanceMethod yX10_has : Cond) ∈ TW := tw_in (tb_3 (List.mem_of_getElem? (i := 115) rfl)) (by decide +kernel)
theorem tw_1071 : (.selects "PatternWorkshop$Tree" yX10_has yX10_has : Cond) ∈ TW := tw_in (tb_3 (List.mem_of_getElem? (i := 116) rfl)) (by decide +kernel)
theorem tw_1072 : (.code yX10_has cX10_has 2 (some (.boolean)) : Cond) ∈ TW := tw_in (tb_3 (List.mem_of_getElem? (i := 117) rfl)) (by decide +kernel)
theorem tw_1073 : (.methodLink "PatternWorkshop$Reader" 288 yX10_close : Cond) ∈ TW := tw_in (tb_3 (List.mem_of_getElem? (i := 118) rfl)) (by decide +kernel)
theorem tw_1074 : (.instanceMethod yX10_close : Cond) ∈ TW := tw_in (tb_3 (List.mem_of_getElem? (i := 119) rfl)) (by decide +kernel)
theorem tw_1075 : (.selects "PatternWorkshop$Tree" yX10_close yX10_close : Cond) ∈ TW := tw_in (tb_3 (List.mem_of_getElem? (i := 120) rfl)) (by decide +kernel)
theorem tw_1076 : (.code yX10_close cX10_close 2 none : Cond) ∈ TW := tw_in (tb_3 (List.mem_of_getElem? (i := 121) rfl)) (by decide +kernel)
theorem tw_1077 : (.methodLink "PatternWorkshop$Reader" 107 yX10_measure : Cond) ∈ TW := tw_in (tb_3 (List.mem_of_getElem? (i := 122) rfl)) (by decide +kernel)
theorem tw_1078 : (.instanceMethod yX10_measure : Cond) ∈ TW := tw_in (tb_3 (List.mem_of_getElem? (i := 123) rfl)) (by decide +kernel)
theorem tw_1079 : (.selects "PatternWorkshop$Tree" yX10_measure yX10_measure : Cond) ∈ TW := tw_in (tb_3 (List.mem_of_getElem? (i := 124) rfl)) (by decide +kernel)
theorem tw_1080 : (.code yX10_measure cX10_measure 2 none : Cond) ∈ TW := tw_in (tb_3 (List.mem_of_getElem? (i := 125) rfl)) (by decide +kernel)
theorem tw_1081 : (.methodLink "PatternWorkshop$Tree" 98 yX10_isWithinCase : Cond) ∈ TW := tw_in (tb_3 (List.mem_of_getElem? (i := 126) rfl)) (by decide +kernel)
theorem tw_1082 : (.instanceMethod yX10_isWithinCase : Cond) ∈ TW := tw_in (tb_3 (List.mem_of_getElem? (i := 127) rfl)) (by decide +kernel)
theorem tw_1083 : (.selects "PatternWorkshop$Tree" yX10_isWithinCase yX10_isWithinCase : Cond) ∈ TW := tw_in (tb_3 (List.mem_of_getElem? (i := 128) rfl)) (by decide +kernel)
theorem tw_1084 : (.code yX10_isWithinCase cX10_isWithinCase 2 (some (.boolean)) : Cond) ∈ TW := tw_in (tb_3 (List.mem_of_getElem? (i := 129) rfl)) (by decide +kernel)
theorem tw_1085 : (.methodLink "PatternWorkshop$Tree" 101 yX10_measureNode : Cond) ∈ TW := tw_in (tb_3 (List.mem_of_getElem? (i := 130) rfl)) (by decide +kernel)
theorem tw_1087 : (.instanceMethod yX10_measureNode : Cond) ∈ TW := tw_in (tb_3 (List.mem_of_getElem? (i := 132) rfl)) (by decide +kernel)
theorem tw_1088 : (.code yX10_measureNode cX10_measureNode 7 none : Cond) ∈ TW := tw_in (tb_3 (List.mem_of_getElem? (i := 133) rfl)) (by decide +kernel)
theorem tw_1089 : (.methodLink "PatternWorkshop$Tree" 105 yX10_firstOf : Cond) ∈ TW := tw_in (tb_3 (List.mem_of_getElem? (i := 134) rfl)) (by decide +kernel)
theorem tw_1090 : (.instanceMethod yX10_firstOf : Cond) ∈ TW := tw_in (tb_3 (List.mem_of_getElem? (i := 135) rfl)) (by decide +kernel)
theorem tw_1091 : (.selects "PatternWorkshop$Tree" yX10_firstOf yX10_firstOf : Cond) ∈ TW := tw_in (tb_3 (List.mem_of_getElem? (i := 136) rfl)) (by decide +kernel)
theorem tw_1092 : (.code yX10_firstOf cX10_firstOf 2 (some (.int)) : Cond) ∈ TW := tw_in (tb_3 (List.mem_of_getElem? (i := 137) rfl)) (by decide +kernel)
theorem tw_1097 : (.methodLink "PatternWorkshop$Tree" 111 yX10_copies : Cond) ∈ TW := tw_in (tb_3 (List.mem_of_getElem? (i := 142) rfl)) (by decide +kernel)
theorem tw_1099 : (.instanceMethod yX10_copies : Cond) ∈ TW := tw_in (tb_3 (List.mem_of_getElem? (i := 144) rfl)) (by decide +kernel)
theorem tw_1100 : (.code yX10_copies cX10_copies 2 (some (.int)) : Cond) ∈ TW := tw_in (tb_3 (List.mem_of_getElem? (i := 145) rfl)) (by decide +kernel)
theorem tw_1101 : (.methodLink "PatternWorkshop$Tree" 81 yX10_sortOf : Cond) ∈ TW := tw_in (tb_3 (List.mem_of_getElem? (i := 146) rfl)) (by decide +kernel)
theorem tw_1102 : (.instanceMethod yX10_sortOf : Cond) ∈ TW := tw_in (tb_3 (List.mem_of_getElem? (i := 147) rfl)) (by decide +kernel)
theorem tw_1103 : (.selects "PatternWorkshop$Tree" yX10_sortOf yX10_sortOf : Cond) ∈ TW := tw_in (tb_3 (List.mem_of_getElem? (i := 148) rfl)) (by decide +kernel)
theorem tw_1104 : (.code yX10_sortOf cX10_sortOf 2 (some (.int)) : Cond) ∈ TW := tw_in (tb_3 (List.mem_of_getElem? (i := 149) rfl)) (by decide +kernel)
theorem tw_1113 : (.methodLink "PatternWorkshop$Tree" 114 ⟨"java/lang/Math", "min", "(II)I"⟩ : Cond) ∈ TW := tw_in (tb_3 (List.mem_of_getElem? (i := 158) rfl)) (by decide +kernel)
theorem tw_1114 : (.static ⟨"java/lang/Math", "min", "(II)I"⟩ : Cond) ∈ TW := tw_in (tb_3 (List.mem_of_getElem? (i := 159) rfl)) (by decide +kernel)
theorem tw_1115 : (.code ⟨"java/lang/Math", "min", "(II)I"⟩ prog_19_method_69_code 2 (some (.int)) : Cond) ∈ TW := tw_in (tb_3 (List.mem_of_getElem? (i := 160) rfl)) (by decide +kernel)
theorem tw_1116 : (.methodLink "PatternWorkshop$Tree" 117 yX10_takesOneSign : Cond) ∈ TW := tw_in (tb_3 (List.mem_of_getElem? (i := 161) rfl)) (by decide +kernel)
theorem tw_1118 : (.instanceMethod yX10_takesOneSign : Cond) ∈ TW := tw_in (tb_3 (List.mem_of_getElem? (i := 163) rfl)) (by decide +kernel)
theorem tw_1119 : (.code yX10_takesOneSign cX10_takesOneSign 2 (some (.boolean)) : Cond) ∈ TW := tw_in (tb_3 (List.mem_of_getElem? (i := 164) rfl)) (by decide +kernel)
theorem tw_1120 : (.methodLink "PatternWorkshop$Tree" 120 yX10_maybeEmpty : Cond) ∈ TW := tw_in (tb_3 (List.mem_of_getElem? (i := 165) rfl)) (by decide +kernel)
theorem tw_1122 : (.instanceMethod yX10_maybeEmpty : Cond) ∈ TW := tw_in (tb_3 (List.mem_of_getElem? (i := 167) rfl)) (by decide +kernel)
theorem tw_1123 : (.code yX10_maybeEmpty cX10_maybeEmpty 4 (some (.boolean)) : Cond) ∈ TW := tw_in (tb_3 (List.mem_of_getElem? (i := 168) rfl)) (by decide +kernel)
theorem tw_1124 : (.methodLink "PatternWorkshop" 109 yX7_empty : Cond) ∈ TW := tw_in (tb_3 (List.mem_of_getElem? (i := 169) rfl)) (by decide +kernel)
theorem tw_1125 : (.instanceMethod yX7_empty : Cond) ∈ TW := tw_in (tb_3 (List.mem_of_getElem? (i := 170) rfl)) (by decide +kernel)
theorem tw_1126 : (.selects "PatternWorkshop$Row" yX7_empty yX7_empty : Cond) ∈ TW := tw_in (tb_3 (List.mem_of_getElem? (i := 171) rfl)) (by decide +kernel)
theorem tw_1127 : (.code yX7_empty cX7_empty 1 none : Cond) ∈ TW := tw_in (tb_3 (List.mem_of_getElem? (i := 172) rfl)) (by decide +kernel)
theorem tw_1128 : (.methodLink "PatternWorkshop" 116 yX6_exchange : Cond) ∈ TW := tw_in (tb_3 (List.mem_of_getElem? (i := 173) rfl)) (by decide +kernel)
theorem tw_1129 : (.instanceMethod yX6_exchange : Cond) ∈ TW := tw_in (tb_3 (List.mem_of_getElem? (i := 174) rfl)) (by decide +kernel)
theorem tw_1130 : (.selects "PatternWorkshop$Reader" yX6_exchange yX6_exchange : Cond) ∈ TW := tw_in (tb_3 (List.mem_of_getElem? (i := 175) rfl)) (by decide +kernel)
theorem tw_1131 : (.code yX6_exchange cX6_exchange 3 (some (.object "PatternWorkshop$Tree")) : Cond) ∈ TW := tw_in (tb_3 (List.mem_of_getElem? (i := 176) rfl)) (by decide +kernel)
theorem tw_1132 : (.methodLink "PatternWorkshop" 124 yX11_endSearchWithSlot : Cond) ∈ TW := tw_in (tb_3 (List.mem_of_getElem? (i := 177) rfl)) (by decide +kernel)
theorem tw_1134 : (.instanceMethod yX11_endSearchWithSlot : Cond) ∈ TW := tw_in (tb_3 (List.mem_of_getElem? (i := 179) rfl)) (by decide +kernel)
theorem tw_1135 : (.code yX11_endSearchWithSlot cX11_endSearchWithSlot 2 none : Cond) ∈ TW := tw_in (tb_3 (List.mem_of_getElem? (i := 180) rfl)) (by decide +kernel)
theorem tw_1136 : (.methodLink "PatternWorkshop" 252 yX11_endSearch : Cond) ∈ TW := tw_in (tb_3 (List.mem_of_getElem? (i := 181) rfl)) (by decide +kernel)
theorem tw_1138 : (.instanceMethod yX11_endSearch : Cond) ∈ TW := tw_in (tb_3 (List.mem_of_getElem? (i := 183) rfl)) (by decide +kernel)
theorem tw_1139 : (.code yX11_endSearch cX11_endSearch 1 none : Cond) ∈ TW := tw_in (tb_3 (List.mem_of_getElem? (i := 184) rfl)) (by decide +kernel)
theorem tw_1143 : (.code yX11_place cX11_place 1 (some (.int)) : Cond) ∈ TW := tw_in (tb_3 (List.mem_of_getElem? (i := 188) rfl)) (by decide +kernel)
theorem tw_1147 : (.code yX11_forget cX11_forget 3 (some (.int)) : Cond) ∈ TW := tw_in (tb_3 (List.mem_of_getElem? (i := 192) rfl)) (by decide +kernel)
theorem tw_1148 : (.methodLink "PatternWorkshop" 128 yX11_patternIn : Cond) ∈ TW := tw_in (tb_3 (List.mem_of_getElem? (i := 193) rfl)) (by decide +kernel)
theorem tw_1150 : (.instanceMethod yX11_patternIn : Cond) ∈ TW := tw_in (tb_3 (List.mem_of_getElem? (i := 195) rfl)) (by decide +kernel)
theorem tw_1151 : (.code yX11_patternIn cX11_patternIn 2 (some (.object "PatternWorkshop$Tree")) : Cond) ∈ TW := tw_in (tb_3 (List.mem_of_getElem? (i := 196) rfl)) (by decide +kernel)
theorem tw_1155 : (.code yX11_node cX11_node 6 (some (.int)) : Cond) ∈ TW := tw_in (tb_3 (List.mem_of_getElem? (i := 200) rfl)) (by decide +kernel)
theorem tw_1178 : (.code yX11_part cX11_part 6 (some (.int)) : Cond) ∈ TW := tw_in (tb_3 (List.mem_of_getElem? (i := 223) rfl)) (by decide +kernel)
theorem tw_1191 : (.code yX11_print cX11_print 3 (some (.int)) : Cond) ∈ TW := tw_in (tb_3 (List.mem_of_getElem? (i := 236) rfl)) (by decide +kernel)
theorem tw_1286 : (.code yX11_begins cX11_begins 4 (some (.int)) : Cond) ∈ TW := tw_in (tb_4 (List.mem_of_getElem? (i := 91) rfl)) (by decide +kernel)
theorem tw_1324 : (.code yX11_risky cX11_risky 3 (some (.int)) : Cond) ∈ TW := tw_in (tb_4 (List.mem_of_getElem? (i := 129) rfl)) (by decide +kernel)
theorem tw_1376 : (.code yX11_dead cX11_dead 4 (some (.int)) : Cond) ∈ TW := tw_in (tb_4 (List.mem_of_getElem? (i := 181) rfl)) (by decide +kernel)
theorem tw_1411 : (.methodLink "PatternWorkshop" 202 yX11_isSubject : Cond) ∈ TW := tw_in (tb_4 (List.mem_of_getElem? (i := 216) rfl)) (by decide +kernel)
theorem tw_1412 : (.static yX11_isSubject : Cond) ∈ TW := tw_in (tb_4 (List.mem_of_getElem? (i := 217) rfl)) (by decide +kernel)
theorem tw_1413 : (.code yX11_isSubject cX11_isSubject 1 (some (.boolean)) : Cond) ∈ TW := tw_in (tb_4 (List.mem_of_getElem? (i := 218) rfl)) (by decide +kernel)
theorem tw_1421 : (.code yX11_drop cX11_drop 4 (some (.int)) : Cond) ∈ TW := tw_in (tb_4 (List.mem_of_getElem? (i := 226) rfl)) (by decide +kernel)
theorem tw_1422 : (.methodLink "PatternWorkshop" 209 yX11_subjectAt : Cond) ∈ TW := tw_in (tb_4 (List.mem_of_getElem? (i := 227) rfl)) (by decide +kernel)
theorem tw_1424 : (.instanceMethod yX11_subjectAt : Cond) ∈ TW := tw_in (tb_4 (List.mem_of_getElem? (i := 229) rfl)) (by decide +kernel)
theorem tw_1425 : (.code yX11_subjectAt cX11_subjectAt 2 (some (.object "PatternWorkshop$Row")) : Cond) ∈ TW := tw_in (tb_4 (List.mem_of_getElem? (i := 230) rfl)) (by decide +kernel)
theorem tw_1426 : (.methodLink "PatternWorkshop" 213 yX11_refusalOfSubject : Cond) ∈ TW := tw_in (tb_4 (List.mem_of_getElem? (i := 231) rfl)) (by decide +kernel)
theorem tw_1428 : (.instanceMethod yX11_refusalOfSubject : Cond) ∈ TW := tw_in (tb_4 (List.mem_of_getElem? (i := 233) rfl)) (by decide +kernel)
theorem tw_1429 : (.code yX11_refusalOfSubject cX11_refusalOfSubject 2 (some (.int)) : Cond) ∈ TW := tw_in (tb_4 (List.mem_of_getElem? (i := 234) rfl)) (by decide +kernel)
theorem tw_1433 : (.code yX11_find cX11_find 10 (some (.int)) : Cond) ∈ TW := tw_in (tb_4 (List.mem_of_getElem? (i := 238) rfl)) (by decide +kernel)
theorem tw_1437 : (.methodLink "PatternWorkshop" 228 yX11_isStepCount : Cond) ∈ TW := tw_in (tb_5 (List.mem_of_getElem? (i := 2) rfl)) (by decide +kernel)
theorem tw_1438 : (.static yX11_isStepCount : Cond) ∈ TW := tw_in (tb_5 (List.mem_of_getElem? (i := 3) rfl)) (by decide +kernel)
theorem tw_1439 : (.code yX11_isStepCount cX11_isStepCount 1 (some (.boolean)) : Cond) ∈ TW := tw_in (tb_5 (List.mem_of_getElem? (i := 4) rfl)) (by decide +kernel)
theorem tw_1758 : (.code yX11_goOn cX11_goOn 3 (some (.int)) : Cond) ∈ TW := tw_in (tb_6 (List.mem_of_getElem? (i := 83) rfl)) (by decide +kernel)
theorem tw_1762 : (.code yX11_span cX11_span 3 (some (.int)) : Cond) ∈ TW := tw_in (tb_6 (List.mem_of_getElem? (i := 87) rfl)) (by decide +kernel)
theorem tw_1763 : (.methodLink "PatternWorkshop" 255 yX11_capturesOfFound : Cond) ∈ TW := tw_in (tb_6 (List.mem_of_getElem? (i := 88) rfl)) (by decide +kernel)
theorem tw_1765 : (.instanceMethod yX11_capturesOfFound : Cond) ∈ TW := tw_in (tb_6 (List.mem_of_getElem? (i := 90) rfl)) (by decide +kernel)
theorem tw_1766 : (.code yX11_capturesOfFound cX11_capturesOfFound 1 (some (.int)) : Cond) ∈ TW := tw_in (tb_6 (List.mem_of_getElem? (i := 91) rfl)) (by decide +kernel)
theorem tw_1770 : (.code yX11_named cX11_named 4 (some (.int)) : Cond) ∈ TW := tw_in (tb_6 (List.mem_of_getElem? (i := 95) rfl)) (by decide +kernel)
theorem tw_1779 : (.code yX11_whole cX11_whole 7 (some (.int)) : Cond) ∈ TW := tw_in (tb_6 (List.mem_of_getElem? (i := 104) rfl)) (by decide +kernel)
theorem tw_1783 : (.code yX11_all cX11_all 8 (some (.int)) : Cond) ∈ TW := tw_in (tb_6 (List.mem_of_getElem? (i := 108) rfl)) (by decide +kernel)
theorem tw_1798 : (.code yX11_replace cX11_replace 7 (some (.int)) : Cond) ∈ TW := tw_in (tb_6 (List.mem_of_getElem? (i := 123) rfl)) (by decide +kernel)
theorem tw_1807 : (.methodLink "PatternWorkshop" 273 ⟨"PatternWorkshop", "areThere", "(I)Z"⟩ : Cond) ∈ TW := tw_in (tb_6 (List.mem_of_getElem? (i := 132) rfl)) (by decide +kernel)
theorem tw_1809 : (.instanceMethod ⟨"PatternWorkshop", "areThere", "(I)Z"⟩ : Cond) ∈ TW := tw_in (tb_6 (List.mem_of_getElem? (i := 134) rfl)) (by decide +kernel)
theorem tw_1811 : (.methodLink "PatternWorkshop" 361 ⟨"PatternWorkshop", "isTold", "(II)Z"⟩ : Cond) ∈ TW := tw_in (tb_6 (List.mem_of_getElem? (i := 136) rfl)) (by decide +kernel)
theorem tw_1812 : (.static ⟨"PatternWorkshop", "isTold", "(II)Z"⟩ : Cond) ∈ TW := tw_in (tb_6 (List.mem_of_getElem? (i := 137) rfl)) (by decide +kernel)
theorem tw_1825 : (.code yX11_prefix cX11_prefix 7 (some (.int)) : Cond) ∈ TW := tw_in (tb_6 (List.mem_of_getElem? (i := 150) rfl)) (by decide +kernel)
theorem tw_1911 : (.code yX11_steps cX11_steps 1 (some (.int)) : Cond) ∈ TW := tw_in (tb_6 (List.mem_of_getElem? (i := 236) rfl)) (by decide +kernel)
theorem tw_1915 : (.code yX11_table cX11_table 4 (some (.int)) : Cond) ∈ TW := tw_in (tb_7 (List.mem_of_getElem? (i := 0) rfl)) (by decide +kernel)
theorem tw_1919 : (.code yX11_least cX11_least 4 (some (.int)) : Cond) ∈ TW := tw_in (tb_7 (List.mem_of_getElem? (i := 4) rfl)) (by decide +kernel)
theorem tw_1940 : (.code yX11_compare cX11_compare 6 (some (.int)) : Cond) ∈ TW := tw_in (tb_7 (List.mem_of_getElem? (i := 25) rfl)) (by decide +kernel)
theorem tw_1959 : (.code yX11_parting cX11_parting 6 (some (.int)) : Cond) ∈ TW := tw_in (tb_7 (List.mem_of_getElem? (i := 44) rfl)) (by decide +kernel)
theorem tw_1973 : (.code yX11_finding cX11_finding 1 (some (.int)) : Cond) ∈ TW := tw_in (tb_7 (List.mem_of_getElem? (i := 58) rfl)) (by decide +kernel)
theorem tw_1977 : (.code yX11_told cX11_told 2 (some (.int)) : Cond) ∈ TW := tw_in (tb_7 (List.mem_of_getElem? (i := 62) rfl)) (by decide +kernel)
theorem tw_1978 : (.methodLink "PatternWorkshop" 314 yX11_patternsThere : Cond) ∈ TW := tw_in (tb_7 (List.mem_of_getElem? (i := 63) rfl)) (by decide +kernel)
theorem tw_1980 : (.instanceMethod yX11_patternsThere : Cond) ∈ TW := tw_in (tb_7 (List.mem_of_getElem? (i := 65) rfl)) (by decide +kernel)
theorem tw_1981 : (.code yX11_patternsThere cX11_patternsThere 3 (some (.int)) : Cond) ∈ TW := tw_in (tb_7 (List.mem_of_getElem? (i := 66) rfl)) (by decide +kernel)
theorem tw_1982 : (.methodLink "PatternWorkshop" 317 yX11_subjectsThere : Cond) ∈ TW := tw_in (tb_7 (List.mem_of_getElem? (i := 67) rfl)) (by decide +kernel)
theorem tw_1984 : (.instanceMethod yX11_subjectsThere : Cond) ∈ TW := tw_in (tb_7 (List.mem_of_getElem? (i := 69) rfl)) (by decide +kernel)
theorem tw_1985 : (.code yX11_subjectsThere cX11_subjectsThere 3 (some (.int)) : Cond) ∈ TW := tw_in (tb_7 (List.mem_of_getElem? (i := 70) rfl)) (by decide +kernel)
theorem tw_1989 : (.code yX11_clear cX11_clear 3 (some (.int)) : Cond) ∈ TW := tw_in (tb_7 (List.mem_of_getElem? (i := 74) rfl)) (by decide +kernel)
theorem tw_2128 : (.code yX12_thrown cX12_thrown 1 (some (.int)) : Cond) ∈ TW := tw_in (tb_7 (List.mem_of_getElem? (i := 213) rfl)) (by decide +kernel)
theorem tw_2133 : (.code yX12_init cX12_init 1 none : Cond) ∈ TW := tw_in (tb_7 (List.mem_of_getElem? (i := 218) rfl)) (by decide +kernel)
theorem tw_2134 : (.methodLink "PatternWorkshopModel" 18 ⟨"java/lang/Object", "<init>", "()V"⟩ : Cond) ∈ TW := tw_in (tb_7 (List.mem_of_getElem? (i := 219) rfl)) (by decide +kernel)
theorem tw_2135 : (.constant "PatternWorkshopModel" 161 65538 : Cond) ∈ TW := tw_in (tb_7 (List.mem_of_getElem? (i := 220) rfl)) (by decide +kernel)
theorem tw_2136 : (.constant "PatternWorkshopModel" 207 120000 : Cond) ∈ TW := tw_in (tb_7 (List.mem_of_getElem? (i := 221) rfl)) (by decide +kernel)
theorem tw_2137 : (.constant "PatternWorkshopModel" 214 200000 : Cond) ∈ TW := tw_in (tb_7 (List.mem_of_getElem? (i := 222) rfl)) (by decide +kernel)
theorem tw_2138 : (.constant "PatternWorkshopModel" 227 101000 : Cond) ∈ TW := tw_in (tb_7 (List.mem_of_getElem? (i := 223) rfl)) (by decide +kernel)
theorem tw_2139 : (.constant "PatternWorkshopModel" 283 61000 : Cond) ∈ TW := tw_in (tb_7 (List.mem_of_getElem? (i := 224) rfl)) (by decide +kernel)
theorem tw_2140 : (.fieldLink "PatternWorkshopModel" 1 "PatternWorkshopModel" "thrown" "I" : Cond) ∈ TW := tw_in (tb_7 (List.mem_of_getElem? (i := 225) rfl)) (by decide +kernel)
theorem tw_2141 : (.fieldLink "PatternWorkshopModel" 456 "PatternWorkshopModel" "finding" "I" : Cond) ∈ TW := tw_in (tb_7 (List.mem_of_getElem? (i := 226) rfl)) (by decide +kernel)
theorem tw_2142 : (.fieldLink "PatternWorkshopModel" 24 "PatternWorkshopModel" "tape" "[I" : Cond) ∈ TW := tw_in (tb_7 (List.mem_of_getElem? (i := 227) rfl)) (by decide +kernel)
theorem tw_2143 : (.fieldLink "PatternWorkshopModel" 317 "PatternWorkshopModel" "taped" "I" : Cond) ∈ TW := tw_in (tb_7 (List.mem_of_getElem? (i := 228) rfl)) (by decide +kernel)
theorem tw_2144 : (.fieldLink "PatternWorkshopModel" 28 "PatternWorkshopModel" "faultPlace" "I" : Cond) ∈ TW := tw_in (tb_7 (List.mem_of_getElem? (i := 229) rfl)) (by decide +kernel)
theorem tw_2145 : (.fieldLink "PatternWorkshopModel" 31 "PatternWorkshopModel" "isThere" "[Z" : Cond) ∈ TW := tw_in (tb_7 (List.mem_of_getElem? (i := 230) rfl)) (by decide +kernel)
theorem tw_2146 : (.fieldLink "PatternWorkshopModel" 35 "PatternWorkshopModel" "many" "[I" : Cond) ∈ TW := tw_in (tb_7 (List.mem_of_getElem? (i := 231) rfl)) (by decide +kernel)
theorem tw_2147 : (.fieldLink "PatternWorkshopModel" 38 "PatternWorkshopModel" "captures" "[I" : Cond) ∈ TW := tw_in (tb_7 (List.mem_of_getElem? (i := 232) rfl)) (by decide +kernel)
theorem tw_2148 : (.fieldLink "PatternWorkshopModel" 41 "PatternWorkshopModel" "nameOf" "[I" : Cond) ∈ TW := tw_in (tb_7 (List.mem_of_getElem? (i := 233) rfl)) (by decide +kernel)
theorem tw_2149 : (.fieldLink "PatternWorkshopModel" 44 "PatternWorkshopModel" "sort" "[I" : Cond) ∈ TW := tw_in (tb_7 (List.mem_of_getElem? (i := 234) rfl)) (by decide +kernel)
theorem tw_2150 : (.fieldLink "PatternWorkshopModel" 47 "PatternWorkshopModel" "value" "[I" : Cond) ∈ TW := tw_in (tb_7 (List.mem_of_getElem? (i := 235) rfl)) (by decide +kernel)
theorem tw_2151 : (.fieldLink "PatternWorkshopModel" 50 "PatternWorkshopModel" "least" "[I" : Cond) ∈ TW := tw_in (tb_7 (List.mem_of_getElem? (i := 236) rfl)) (by decide +kernel)
theorem tw_2152 : (.fieldLink "PatternWorkshopModel" 53 "PatternWorkshopModel" "most" "[I" : Cond) ∈ TW := tw_in (tb_7 (List.mem_of_getElem? (i := 237) rfl)) (by decide +kernel)
theorem tw_2153 : (.fieldLink "PatternWorkshopModel" 56 "PatternWorkshopModel" "holder" "[I" : Cond) ∈ TW := tw_in (tb_7 (List.mem_of_getElem? (i := 238) rfl)) (by decide +kernel)
theorem tw_2154 : (.fieldLink "PatternWorkshopModel" 59 "PatternWorkshopModel" "parts" "[I" : Cond) ∈ TW := tw_in (tb_7 (List.mem_of_getElem? (i := 239) rfl)) (by decide +kernel)
theorem tw_2155 : (.fieldLink "PatternWorkshopModel" 62 "PatternWorkshopModel" "end" "[I" : Cond) ∈ TW := tw_in (tb_8 (List.mem_of_getElem? (i := 0) rfl)) (by decide +kernel)
theorem tw_2156 : (.fieldLink "PatternWorkshopModel" 65 "PatternWorkshopModel" "size" "[I" : Cond) ∈ TW := tw_in (tb_8 (List.mem_of_getElem? (i := 1) rfl)) (by decide +kernel)
theorem tw_2157 : (.fieldLink "PatternWorkshopModel" 68 "PatternWorkshopModel" "positions" "[I" : Cond) ∈ TW := tw_in (tb_8 (List.mem_of_getElem? (i := 2) rfl)) (by decide +kernel)
theorem tw_2158 : (.fieldLink "PatternWorkshopModel" 71 "PatternWorkshopModel" "firstPart" "[I" : Cond) ∈ TW := tw_in (tb_8 (List.mem_of_getElem? (i := 3) rfl)) (by decide +kernel)
theorem tw_2159 : (.fieldLink "PatternWorkshopModel" 74 "PatternWorkshopModel" "mayEmpty" "[Z" : Cond) ∈ TW := tw_in (tb_8 (List.mem_of_getElem? (i := 4) rfl)) (by decide +kernel)
theorem tw_2160 : (.fieldLink "PatternWorkshopModel" 77 "PatternWorkshopModel" "inCase" "[Z" : Cond) ∈ TW := tw_in (tb_8 (List.mem_of_getElem? (i := 5) rfl)) (by decide +kernel)
theorem tw_2161 : (.fieldLink "PatternWorkshopModel" 80 "PatternWorkshopModel" "partBegin" "[I" : Cond) ∈ TW := tw_in (tb_8 (List.mem_of_getElem? (i := 6) rfl)) (by decide +kernel)
theorem tw_2162 : (.fieldLink "PatternWorkshopModel" 83 "PatternWorkshopModel" "partEnd" "[I" : Cond) ∈ TW := tw_in (tb_8 (List.mem_of_getElem? (i := 7) rfl)) (by decide +kernel)
theorem tw_2163 : (.fieldLink "PatternWorkshopModel" 86 "PatternWorkshopModel" "newSort" "[I" : Cond) ∈ TW := tw_in (tb_8 (List.mem_of_getElem? (i := 8) rfl)) (by decide +kernel)
theorem tw_2164 : (.fieldLink "PatternWorkshopModel" 89 "PatternWorkshopModel" "newValue" "[I" : Cond) ∈ TW := tw_in (tb_8 (List.mem_of_getElem? (i := 9) rfl)) (by decide +kernel)
theorem tw_2165 : (.fieldLink "PatternWorkshopModel" 92 "PatternWorkshopModel" "newLeast" "[I" : Cond) ∈ TW := tw_in (tb_8 (List.mem_of_getElem? (i := 10) rfl)) (by decide +kernel)
theorem tw_2166 : (.fieldLink "PatternWorkshopModel" 95 "PatternWorkshopModel" "newMost" "[I" : Cond) ∈ TW := tw_in (tb_8 (List.mem_of_getElem? (i := 11) rfl)) (by decide +kernel)
theorem tw_2167 : (.fieldLink "PatternWorkshopModel" 98 "PatternWorkshopModel" "newFirst" "[I" : Cond) ∈ TW := tw_in (tb_8 (List.mem_of_getElem? (i := 12) rfl)) (by decide +kernel)
theorem tw_2168 : (.fieldLink "PatternWorkshopModel" 101 "PatternWorkshopModel" "newNext" "[I" : Cond) ∈ TW := tw_in (tb_8 (List.mem_of_getElem? (i := 13) rfl)) (by decide +kernel)
theorem tw_2169 : (.fieldLink "PatternWorkshopModel" 104 "PatternWorkshopModel" "newMany" "[I" : Cond) ∈ TW := tw_in (tb_8 (List.mem_of_getElem? (i := 14) rfl)) (by decide +kernel)
theorem tw_2170 : (.fieldLink "PatternWorkshopModel" 107 "PatternWorkshopModel" "newPart" "[I" : Cond) ∈ TW := tw_in (tb_8 (List.mem_of_getElem? (i := 15) rfl)) (by decide +kernel)
theorem tw_2171 : (.fieldLink "PatternWorkshopModel" 326 "PatternWorkshopModel" "newNodes" "I" : Cond) ∈ TW := tw_in (tb_8 (List.mem_of_getElem? (i := 16) rfl)) (by decide +kernel)
theorem tw_2172 : (.fieldLink "PatternWorkshopModel" 110 "PatternWorkshopModel" "newBegin" "[I" : Cond) ∈ TW := tw_in (tb_8 (List.mem_of_getElem? (i := 17) rfl)) (by decide +kernel)
theorem tw_2173 : (.fieldLink "PatternWorkshopModel" 113 "PatternWorkshopModel" "newEnd" "[I" : Cond) ∈ TW := tw_in (tb_8 (List.mem_of_getElem? (i := 18) rfl)) (by decide +kernel)
theorem tw_2174 : (.fieldLink "PatternWorkshopModel" 396 "PatternWorkshopModel" "newParts" "I" : Cond) ∈ TW := tw_in (tb_8 (List.mem_of_getElem? (i := 19) rfl)) (by decide +kernel)
theorem tw_2175 : (.fieldLink "PatternWorkshopModel" 320 "PatternWorkshopModel" "fault" "I" : Cond) ∈ TW := tw_in (tb_8 (List.mem_of_getElem? (i := 20) rfl)) (by decide +kernel)
theorem tw_2177 : (.fieldLink "PatternWorkshopModel" 362 "PatternWorkshopModel" "at" "I" : Cond) ∈ TW := tw_in (tb_8 (List.mem_of_getElem? (i := 22) rfl)) (by decide +kernel)
theorem tw_2178 : (.fieldLink "PatternWorkshopModel" 342 "PatternWorkshopModel" "items" "I" : Cond) ∈ TW := tw_in (tb_8 (List.mem_of_getElem? (i := 23) rfl)) (by decide +kernel)
theorem tw_2179 : (.fieldLink "PatternWorkshopModel" 377 "PatternWorkshopModel" "newCaptures" "I" : Cond) ∈ TW := tw_in (tb_8 (List.mem_of_getElem? (i := 24) rfl)) (by decide +kernel)
theorem tw_2180 : (.fieldLink "PatternWorkshopModel" 116 "PatternWorkshopModel" "newNames" "[I" : Cond) ∈ TW := tw_in (tb_8 (List.mem_of_getElem? (i := 25) rfl)) (by decide +kernel)
theorem tw_2181 : (.fieldLink "PatternWorkshopModel" 329 "PatternWorkshopModel" "depth" "I" : Cond) ∈ TW := tw_in (tb_8 (List.mem_of_getElem? (i := 26) rfl)) (by decide +kernel)
theorem tw_2182 : (.fieldLink "PatternWorkshopModel" 119 "PatternWorkshopModel" "groupSort" "[I" : Cond) ∈ TW := tw_in (tb_8 (List.mem_of_getElem? (i := 27) rfl)) (by decide +kernel)
theorem tw_2183 : (.fieldLink "PatternWorkshopModel" 122 "PatternWorkshopModel" "groupValue" "[I" : Cond) ∈ TW := tw_in (tb_8 (List.mem_of_getElem? (i := 28) rfl)) (by decide +kernel)
theorem tw_2184 : (.fieldLink "PatternWorkshopModel" 125 "PatternWorkshopModel" "rowFirst" "[I" : Cond) ∈ TW := tw_in (tb_8 (List.mem_of_getElem? (i := 29) rfl)) (by decide +kernel)
theorem tw_2185 : (.fieldLink "PatternWorkshopModel" 128 "PatternWorkshopModel" "rowLast" "[I" : Cond) ∈ TW := tw_in (tb_8 (List.mem_of_getElem? (i := 30) rfl)) (by decide +kernel)
theorem tw_2186 : (.fieldLink "PatternWorkshopModel" 131 "PatternWorkshopModel" "rowMany" "[I" : Cond) ∈ TW := tw_in (tb_8 (List.mem_of_getElem? (i := 31) rfl)) (by decide +kernel)
theorem tw_2187 : (.fieldLink "PatternWorkshopModel" 134 "PatternWorkshopModel" "rowsFirst" "[I" : Cond) ∈ TW := tw_in (tb_8 (List.mem_of_getElem? (i := 32) rfl)) (by decide +kernel)
theorem tw_2188 : (.fieldLink "PatternWorkshopModel" 137 "PatternWorkshopModel" "rowsLast" "[I" : Cond) ∈ TW := tw_in (tb_8 (List.mem_of_getElem? (i := 33) rfl)) (by decide +kernel)
theorem tw_2189 : (.fieldLink "PatternWorkshopModel" 140 "PatternWorkshopModel" "rowsMany" "[I" : Cond) ∈ TW := tw_in (tb_8 (List.mem_of_getElem? (i := 34) rfl)) (by decide +kernel)
theorem tw_2194 : (.fieldLink "PatternWorkshopModel" 143 "PatternWorkshopModel" "waiting" "[I" : Cond) ∈ TW := tw_in (tb_8 (List.mem_of_getElem? (i := 39) rfl)) (by decide +kernel)
theorem tw_2195 : (.fieldLink "PatternWorkshopModel" 146 "PatternWorkshopModel" "waitingHolder" "[I" : Cond) ∈ TW := tw_in (tb_8 (List.mem_of_getElem? (i := 40) rfl)) (by decide +kernel)
theorem tw_2196 : (.fieldLink "PatternWorkshopModel" 149 "PatternWorkshopModel" "printed" "[I" : Cond) ∈ TW := tw_in (tb_8 (List.mem_of_getElem? (i := 41) rfl)) (by decide +kernel)
theorem tw_2198 : (.fieldLink "PatternWorkshopModel" 152 "PatternWorkshopModel" "printedAlso" "[I" : Cond) ∈ TW := tw_in (tb_8 (List.mem_of_getElem? (i := 43) rfl)) (by decide +kernel)
theorem tw_2200 : (.fieldLink "PatternWorkshopModel" 155 "PatternWorkshopModel" "out" "[I" : Cond) ∈ TW := tw_in (tb_8 (List.mem_of_getElem? (i := 45) rfl)) (by decide +kernel)
theorem tw_2201 : (.fieldLink "PatternWorkshopModel" 502 "PatternWorkshopModel" "outMany" "I" : Cond) ∈ TW := tw_in (tb_8 (List.mem_of_getElem? (i := 46) rfl)) (by decide +kernel)
theorem tw_2202 : (.fieldLink "PatternWorkshopModel" 505 "PatternWorkshopModel" "outNumbers" "Z" : Cond) ∈ TW := tw_in (tb_8 (List.mem_of_getElem? (i := 47) rfl)) (by decide +kernel)
theorem tw_2203 : (.fieldLink "PatternWorkshopModel" 158 "PatternWorkshopModel" "begun" "[Z" : Cond) ∈ TW := tw_in (tb_8 (List.mem_of_getElem? (i := 48) rfl)) (by decide +kernel)
theorem tw_2204 : (.fieldLink "PatternWorkshopModel" 162 "PatternWorkshopModel" "isBound" "[Z" : Cond) ∈ TW := tw_in (tb_8 (List.mem_of_getElem? (i := 49) rfl)) (by decide +kernel)
theorem tw_2205 : (.fieldLink "PatternWorkshopModel" 165 "PatternWorkshopModel" "bounds" "[I" : Cond) ∈ TW := tw_in (tb_8 (List.mem_of_getElem? (i := 50) rfl)) (by decide +kernel)
theorem tw_2207 : (.fieldLink "PatternWorkshopModel" 168 "PatternWorkshopModel" "isRisky" "[Z" : Cond) ∈ TW := tw_in (tb_8 (List.mem_of_getElem? (i := 52) rfl)) (by decide +kernel)
theorem tw_2208 : (.fieldLink "PatternWorkshopModel" 171 "PatternWorkshopModel" "isSubject" "[Z" : Cond) ∈ TW := tw_in (tb_8 (List.mem_of_getElem? (i := 53) rfl)) (by decide +kernel)
theorem tw_2209 : (.fieldLink "PatternWorkshopModel" 174 "PatternWorkshopModel" "long0" "[I" : Cond) ∈ TW := tw_in (tb_8 (List.mem_of_getElem? (i := 54) rfl)) (by decide +kernel)
theorem tw_2210 : (.fieldLink "PatternWorkshopModel" 177 "PatternWorkshopModel" "signs" "[I" : Cond) ∈ TW := tw_in (tb_8 (List.mem_of_getElem? (i := 55) rfl)) (by decide +kernel)
theorem tw_2211 : (.fieldLink "PatternWorkshopModel" 180 "PatternWorkshopModel" "act" "[I" : Cond) ∈ TW := tw_in (tb_8 (List.mem_of_getElem? (i := 56) rfl)) (by decide +kernel)
theorem tw_2212 : (.fieldLink "PatternWorkshopModel" 183 "PatternWorkshopModel" "actA" "[I" : Cond) ∈ TW := tw_in (tb_8 (List.mem_of_getElem? (i := 57) rfl)) (by decide +kernel)
theorem tw_2213 : (.fieldLink "PatternWorkshopModel" 186 "PatternWorkshopModel" "actB" "[I" : Cond) ∈ TW := tw_in (tb_8 (List.mem_of_getElem? (i := 58) rfl)) (by decide +kernel)
theorem tw_2215 : (.fieldLink "PatternWorkshopModel" 189 "PatternWorkshopModel" "labelAt" "[I" : Cond) ∈ TW := tw_in (tb_8 (List.mem_of_getElem? (i := 60) rfl)) (by decide +kernel)
theorem tw_2217 : (.fieldLink "PatternWorkshopModel" 192 "PatternWorkshopModel" "task" "[I" : Cond) ∈ TW := tw_in (tb_8 (List.mem_of_getElem? (i := 62) rfl)) (by decide +kernel)
theorem tw_2218 : (.fieldLink "PatternWorkshopModel" 195 "PatternWorkshopModel" "taskA" "[I" : Cond) ∈ TW := tw_in (tb_8 (List.mem_of_getElem? (i := 63) rfl)) (by decide +kernel)
theorem tw_2219 : (.fieldLink "PatternWorkshopModel" 198 "PatternWorkshopModel" "taskB" "[I" : Cond) ∈ TW := tw_in (tb_8 (List.mem_of_getElem? (i := 64) rfl)) (by decide +kernel)
theorem tw_2221 : (.fieldLink "PatternWorkshopModel" 201 "PatternWorkshopModel" "held" "[I" : Cond) ∈ TW := tw_in (tb_8 (List.mem_of_getElem? (i := 66) rfl)) (by decide +kernel)
theorem tw_2222 : (.fieldLink "PatternWorkshopModel" 204 "PatternWorkshopModel" "reg" "[I" : Cond) ∈ TW := tw_in (tb_8 (List.mem_of_getElem? (i := 67) rfl)) (by decide +kernel)
theorem tw_2223 : (.fieldLink "PatternWorkshopModel" 208 "PatternWorkshopModel" "trailOf" "[I" : Cond) ∈ TW := tw_in (tb_8 (List.mem_of_getElem? (i := 68) rfl)) (by decide +kernel)
theorem tw_2224 : (.fieldLink "PatternWorkshopModel" 211 "PatternWorkshopModel" "trailOld" "[I" : Cond) ∈ TW := tw_in (tb_8 (List.mem_of_getElem? (i := 69) rfl)) (by decide +kernel)
theorem tw_2226 : (.fieldLink "PatternWorkshopModel" 215 "PatternWorkshopModel" "choiceSort" "[I" : Cond) ∈ TW := tw_in (tb_8 (List.mem_of_getElem? (i := 71) rfl)) (by decide +kernel)
theorem tw_2227 : (.fieldLink "PatternWorkshopModel" 218 "PatternWorkshopModel" "choiceAct" "[I" : Cond) ∈ TW := tw_in (tb_8 (List.mem_of_getElem? (i := 72) rfl)) (by decide +kernel)
theorem tw_2228 : (.fieldLink "PatternWorkshopModel" 221 "PatternWorkshopModel" "choicePlace" "[I" : Cond) ∈ TW := tw_in (tb_8 (List.mem_of_getElem? (i := 73) rfl)) (by decide +kernel)
theorem tw_2229 : (.fieldLink "PatternWorkshopModel" 224 "PatternWorkshopModel" "choiceTrail" "[I" : Cond) ∈ TW := tw_in (tb_8 (List.mem_of_getElem? (i := 74) rfl)) (by decide +kernel)
theorem tw_2236 : (.fieldLink "PatternWorkshopModel" 583 "PatternWorkshopModel" "steps" "I" : Cond) ∈ TW := tw_in (tb_8 (List.mem_of_getElem? (i := 81) rfl)) (by decide +kernel)
theorem tw_2239 : (.fieldLink "PatternWorkshopModel" 228 "PatternWorkshopModel" "seen" "[I" : Cond) ∈ TW := tw_in (tb_8 (List.mem_of_getElem? (i := 84) rfl)) (by decide +kernel)
theorem tw_2241 : (.fieldLink "PatternWorkshopModel" 231 "PatternWorkshopModel" "found" "[I" : Cond) ∈ TW := tw_in (tb_8 (List.mem_of_getElem? (i := 86) rfl)) (by decide +kernel)
theorem tw_2242 : (.fieldLink "PatternWorkshopModel" 449 "PatternWorkshopModel" "isGoing" "Z" : Cond) ∈ TW := tw_in (tb_8 (List.mem_of_getElem? (i := 87) rfl)) (by decide +kernel)
theorem tw_2247 : (.fieldLink "PatternWorkshopModel" 234 "PatternWorkshopModel" "span" "[I" : Cond) ∈ TW := tw_in (tb_8 (List.mem_of_getElem? (i := 92) rfl)) (by decide +kernel)
theorem tw_2248 : (.fieldLink "PatternWorkshopModel" 664 "PatternWorkshopModel" "hasSpan" "Z" : Cond) ∈ TW := tw_in (tb_8 (List.mem_of_getElem? (i := 93) rfl)) (by decide +kernel)
theorem tw_2250 : (.fieldLink "PatternWorkshopModel" 237 "PatternWorkshopModel" "finds" "[I" : Cond) ∈ TW := tw_in (tb_8 (List.mem_of_getElem? (i := 95) rfl)) (by decide +kernel)
theorem tw_2252 : (.fieldLink "PatternWorkshopModel" 240 "PatternWorkshopModel" "madeSigns" "[I" : Cond) ∈ TW := tw_in (tb_8 (List.mem_of_getElem? (i := 97) rfl)) (by decide +kernel)
theorem tw_2254 : (.fieldLink "PatternWorkshopModel" 243 "PatternWorkshopModel" "follows" "[J" : Cond) ∈ TW := tw_in (tb_8 (List.mem_of_getElem? (i := 99) rfl)) (by decide +kernel)
theorem tw_2255 : (.fieldLink "PatternWorkshopModel" 247 "PatternWorkshopModel" "endsAfter" "[Z" : Cond) ∈ TW := tw_in (tb_8 (List.mem_of_getElem? (i := 100) rfl)) (by decide +kernel)
theorem tw_2257 : (.fieldLink "PatternWorkshopModel" 250 "PatternWorkshopModel" "eaterOf" "[I" : Cond) ∈ TW := tw_in (tb_8 (List.mem_of_getElem? (i := 102) rfl)) (by decide +kernel)
theorem tw_2258 : (.fieldLink "PatternWorkshopModel" 253 "PatternWorkshopModel" "eaterNode" "[I" : Cond) ∈ TW := tw_in (tb_8 (List.mem_of_getElem? (i := 103) rfl)) (by decide +kernel)
theorem tw_2259 : (.fieldLink "PatternWorkshopModel" 256 "PatternWorkshopModel" "isGone" "[Z" : Cond) ∈ TW := tw_in (tb_8 (List.mem_of_getElem? (i := 104) rfl)) (by decide +kernel)
theorem tw_2260 : (.fieldLink "PatternWorkshopModel" 259 "PatternWorkshopModel" "walk" "[I" : Cond) ∈ TW := tw_in (tb_8 (List.mem_of_getElem? (i := 105) rfl)) (by decide +kernel)
theorem tw_2263 : (.fieldLink "PatternWorkshopModel" 262 "PatternWorkshopModel" "states" "[I" : Cond) ∈ TW := tw_in (tb_8 (List.mem_of_getElem? (i := 108) rfl)) (by decide +kernel)
theorem tw_2264 : (.fieldLink "PatternWorkshopModel" 265 "PatternWorkshopModel" "stateSet" "[J" : Cond) ∈ TW := tw_in (tb_8 (List.mem_of_getElem? (i := 109) rfl)) (by decide +kernel)
theorem tw_2265 : (.fieldLink "PatternWorkshopModel" 268 "PatternWorkshopModel" "isTaken" "[Z" : Cond) ∈ TW := tw_in (tb_8 (List.mem_of_getElem? (i := 110) rfl)) (by decide +kernel)
theorem tw_2266 : (.fieldLink "PatternWorkshopModel" 271 "PatternWorkshopModel" "isLive" "[Z" : Cond) ∈ TW := tw_in (tb_8 (List.mem_of_getElem? (i := 111) rfl)) (by decide +kernel)
theorem tw_2267 : (.fieldLink "PatternWorkshopModel" 274 "PatternWorkshopModel" "classes" "[I" : Cond) ∈ TW := tw_in (tb_8 (List.mem_of_getElem? (i := 112) rfl)) (by decide +kernel)
theorem tw_2268 : (.fieldLink "PatternWorkshopModel" 277 "PatternWorkshopModel" "classTakes" "[J" : Cond) ∈ TW := tw_in (tb_8 (List.mem_of_getElem? (i := 113) rfl)) (by decide +kernel)
theorem tw_2269 : (.fieldLink "PatternWorkshopModel" 280 "PatternWorkshopModel" "classOf" "[I" : Cond) ∈ TW := tw_in (tb_8 (List.mem_of_getElem? (i := 114) rfl)) (by decide +kernel)
theorem tw_2270 : (.fieldLink "PatternWorkshopModel" 284 "PatternWorkshopModel" "leads" "[I" : Cond) ∈ TW := tw_in (tb_8 (List.mem_of_getElem? (i := 115) rfl)) (by decide +kernel)
theorem tw_2271 : (.fieldLink "PatternWorkshopModel" 287 "PatternWorkshopModel" "group" "[I" : Cond) ∈ TW := tw_in (tb_8 (List.mem_of_getElem? (i := 116) rfl)) (by decide +kernel)
theorem tw_2272 : (.fieldLink "PatternWorkshopModel" 290 "PatternWorkshopModel" "newGroup" "[I" : Cond) ∈ TW := tw_in (tb_8 (List.mem_of_getElem? (i := 117) rfl)) (by decide +kernel)
theorem tw_2273 : (.fieldLink "PatternWorkshopModel" 293 "PatternWorkshopModel" "pairA" "[I" : Cond) ∈ TW := tw_in (tb_8 (List.mem_of_getElem? (i := 118) rfl)) (by decide +kernel)
theorem tw_2274 : (.fieldLink "PatternWorkshopModel" 296 "PatternWorkshopModel" "pairB" "[I" : Cond) ∈ TW := tw_in (tb_8 (List.mem_of_getElem? (i := 119) rfl)) (by decide +kernel)
theorem tw_2275 : (.fieldLink "PatternWorkshopModel" 299 "PatternWorkshopModel" "pairFrom" "[I" : Cond) ∈ TW := tw_in (tb_8 (List.mem_of_getElem? (i := 120) rfl)) (by decide +kernel)
theorem tw_2276 : (.fieldLink "PatternWorkshopModel" 302 "PatternWorkshopModel" "pairSign" "[I" : Cond) ∈ TW := tw_in (tb_8 (List.mem_of_getElem? (i := 121) rfl)) (by decide +kernel)
theorem tw_2277 : (.fieldLink "PatternWorkshopModel" 305 "PatternWorkshopModel" "isPair" "[Z" : Cond) ∈ TW := tw_in (tb_8 (List.mem_of_getElem? (i := 122) rfl)) (by decide +kernel)
theorem tw_2279 : (.fieldLink "PatternWorkshopModel" 308 "PatternWorkshopModel" "sortA" "[I" : Cond) ∈ TW := tw_in (tb_8 (List.mem_of_getElem? (i := 124) rfl)) (by decide +kernel)
theorem tw_2280 : (.fieldLink "PatternWorkshopModel" 311 "PatternWorkshopModel" "sortB" "[I" : Cond) ∈ TW := tw_in (tb_8 (List.mem_of_getElem? (i := 125) rfl)) (by decide +kernel)
theorem tw_2281 : (.fieldLink "PatternWorkshopModel" 314 "PatternWorkshopModel" "sortSign" "[I" : Cond) ∈ TW := tw_in (tb_8 (List.mem_of_getElem? (i := 126) rfl)) (by decide +kernel)
theorem tw_2574 : (.methodLink "PatternWorkshopModel" 7 yX12_in : Cond) ∈ TW := tw_in (tb_9 (List.mem_of_getElem? (i := 179) rfl)) (by decide +kernel)
theorem tw_2575 : (.static yX12_in : Cond) ∈ TW := tw_in (tb_9 (List.mem_of_getElem? (i := 180) rfl)) (by decide +kernel)
theorem tw_2576 : (.code yX12_in cX12_in 3 (some (.boolean)) : Cond) ∈ TW := tw_in (tb_9 (List.mem_of_getElem? (i := 181) rfl)) (by decide +kernel)
theorem tw_2581 : (.code yX12_pattern cX12_pattern 3 (some (.int)) : Cond) ∈ TW := tw_in (tb_9 (List.mem_of_getElem? (i := 186) rfl)) (by decide +kernel)
theorem tw_2582 : (.methodLink "PatternWorkshopModel" 443 yX12_readAll : Cond) ∈ TW := tw_in (tb_9 (List.mem_of_getElem? (i := 187) rfl)) (by decide +kernel)
theorem tw_2584 : (.instanceMethod yX12_readAll : Cond) ∈ TW := tw_in (tb_9 (List.mem_of_getElem? (i := 189) rfl)) (by decide +kernel)
theorem tw_2585 : (.code yX12_readAll cX12_readAll 2 (some (.int)) : Cond) ∈ TW := tw_in (tb_9 (List.mem_of_getElem? (i := 190) rfl)) (by decide +kernel)
theorem tw_2586 : (.methodLink "PatternWorkshopModel" 383 yX12_beginGroup : Cond) ∈ TW := tw_in (tb_9 (List.mem_of_getElem? (i := 191) rfl)) (by decide +kernel)
theorem tw_2588 : (.instanceMethod yX12_beginGroup : Cond) ∈ TW := tw_in (tb_9 (List.mem_of_getElem? (i := 193) rfl)) (by decide +kernel)
theorem tw_2589 : (.code yX12_beginGroup cX12_beginGroup 3 none : Cond) ∈ TW := tw_in (tb_9 (List.mem_of_getElem? (i := 194) rfl)) (by decide +kernel)
theorem tw_2590 : (.methodLink "PatternWorkshopModel" 332 yX12_beginRow : Cond) ∈ TW := tw_in (tb_9 (List.mem_of_getElem? (i := 195) rfl)) (by decide +kernel)
theorem tw_2592 : (.instanceMethod yX12_beginRow : Cond) ∈ TW := tw_in (tb_9 (List.mem_of_getElem? (i := 197) rfl)) (by decide +kernel)
theorem tw_2593 : (.code yX12_beginRow cX12_beginRow 1 none : Cond) ∈ TW := tw_in (tb_9 (List.mem_of_getElem? (i := 198) rfl)) (by decide +kernel)
theorem tw_2598 : (.methodLink "PatternWorkshopModel" 339 yX12_closeRow : Cond) ∈ TW := tw_in (tb_9 (List.mem_of_getElem? (i := 203) rfl)) (by decide +kernel)
theorem tw_2600 : (.instanceMethod yX12_closeRow : Cond) ∈ TW := tw_in (tb_9 (List.mem_of_getElem? (i := 205) rfl)) (by decide +kernel)
theorem tw_2601 : (.code yX12_closeRow cX12_closeRow 2 none : Cond) ∈ TW := tw_in (tb_9 (List.mem_of_getElem? (i := 206) rfl)) (by decide +kernel)
theorem tw_2602 : (.methodLink "PatternWorkshopModel" 335 yX12_made : Cond) ∈ TW := tw_in (tb_9 (List.mem_of_getElem? (i := 207) rfl)) (by decide +kernel)
theorem tw_2604 : (.instanceMethod yX12_made : Cond) ∈ TW := tw_in (tb_9 (List.mem_of_getElem? (i := 209) rfl)) (by decide +kernel)
theorem tw_2605 : (.code yX12_made cX12_made 4 (some (.int)) : Cond) ∈ TW := tw_in (tb_9 (List.mem_of_getElem? (i := 210) rfl)) (by decide +kernel)
theorem tw_2614 : (.methodLink "PatternWorkshopModel" 386 yX12_closeChoice : Cond) ∈ TW := tw_in (tb_9 (List.mem_of_getElem? (i := 219) rfl)) (by decide +kernel)
theorem tw_2616 : (.instanceMethod yX12_closeChoice : Cond) ∈ TW := tw_in (tb_9 (List.mem_of_getElem? (i := 221) rfl)) (by decide +kernel)
theorem tw_2617 : (.code yX12_closeChoice cX12_closeChoice 2 (some (.int)) : Cond) ∈ TW := tw_in (tb_9 (List.mem_of_getElem? (i := 222) rfl)) (by decide +kernel)
theorem tw_2687 : (.methodLink "PatternWorkshopModel" 446 yX12_keepPattern : Cond) ∈ TW := tw_in (tb_10 (List.mem_of_getElem? (i := 52) rfl)) (by decide +kernel)
theorem tw_2689 : (.instanceMethod yX12_keepPattern : Cond) ∈ TW := tw_in (tb_10 (List.mem_of_getElem? (i := 54) rfl)) (by decide +kernel)
theorem tw_2690 : (.code yX12_keepPattern cX12_keepPattern 9 none : Cond) ∈ TW := tw_in (tb_10 (List.mem_of_getElem? (i := 55) rfl)) (by decide +kernel)
theorem tw_2691 : (.methodLink "PatternWorkshopModel" 435 yX12_measure : Cond) ∈ TW := tw_in (tb_10 (List.mem_of_getElem? (i := 56) rfl)) (by decide +kernel)
theorem tw_2693 : (.instanceMethod yX12_measure : Cond) ∈ TW := tw_in (tb_10 (List.mem_of_getElem? (i := 58) rfl)) (by decide +kernel)
theorem tw_2694 : (.code yX12_measure cX12_measure 11 none : Cond) ∈ TW := tw_in (tb_10 (List.mem_of_getElem? (i := 59) rfl)) (by decide +kernel)
theorem tw_2695 : (.methodLink "PatternWorkshopModel" 438 yX12_capped : Cond) ∈ TW := tw_in (tb_10 (List.mem_of_getElem? (i := 60) rfl)) (by decide +kernel)
theorem tw_2696 : (.static yX12_capped : Cond) ∈ TW := tw_in (tb_10 (List.mem_of_getElem? (i := 61) rfl)) (by decide +kernel)
theorem tw_2697 : (.code yX12_capped cX12_capped 1 (some (.int)) : Cond) ∈ TW := tw_in (tb_10 (List.mem_of_getElem? (i := 62) rfl)) (by decide +kernel)
theorem tw_2701 : (.code yX12_place cX12_place 1 (some (.int)) : Cond) ∈ TW := tw_in (tb_10 (List.mem_of_getElem? (i := 66) rfl)) (by decide +kernel)
theorem tw_2705 : (.code yX12_forget cX12_forget 2 (some (.int)) : Cond) ∈ TW := tw_in (tb_10 (List.mem_of_getElem? (i := 70) rfl)) (by decide +kernel)
theorem tw_2706 : (.methodLink "PatternWorkshopModel" 459 yX12_wrongSlot : Cond) ∈ TW := tw_in (tb_10 (List.mem_of_getElem? (i := 71) rfl)) (by decide +kernel)
theorem tw_2708 : (.instanceMethod yX12_wrongSlot : Cond) ∈ TW := tw_in (tb_10 (List.mem_of_getElem? (i := 73) rfl)) (by decide +kernel)
theorem tw_2709 : (.code yX12_wrongSlot cX12_wrongSlot 2 (some (.int)) : Cond) ∈ TW := tw_in (tb_10 (List.mem_of_getElem? (i := 74) rfl)) (by decide +kernel)
theorem tw_2713 : (.code yX12_node cX12_node 6 (some (.int)) : Cond) ∈ TW := tw_in (tb_10 (List.mem_of_getElem? (i := 78) rfl)) (by decide +kernel)
theorem tw_2721 : (.code yX12_part cX12_part 6 (some (.int)) : Cond) ∈ TW := tw_in (tb_10 (List.mem_of_getElem? (i := 86) rfl)) (by decide +kernel)
theorem tw_2725 : (.code yX12_print cX12_print 3 (some (.int)) : Cond) ∈ TW := tw_in (tb_10 (List.mem_of_getElem? (i := 90) rfl)) (by decide +kernel)
theorem tw_2767 : (.code yX12_dead cX12_dead 9 (some (.int)) : Cond) ∈ TW := tw_in (tb_10 (List.mem_of_getElem? (i := 132) rfl)) (by decide +kernel)
theorem tw_2775 : (.code yX12_begins cX12_begins 3 (some (.int)) : Cond) ∈ TW := tw_in (tb_10 (List.mem_of_getElem? (i := 140) rfl)) (by decide +kernel)
theorem tw_2795 : (.code yX12_risky cX12_risky 7 (some (.int)) : Cond) ∈ TW := tw_in (tb_10 (List.mem_of_getElem? (i := 160) rfl)) (by decide +kernel)
theorem tw_2817 : (.code yX12_drop cX12_drop 3 (some (.int)) : Cond) ∈ TW := tw_in (tb_10 (List.mem_of_getElem? (i := 182) rfl)) (by decide +kernel)
theorem tw_2818 : (.methodLink "PatternWorkshopModel" 542 yX12_wrongSubject : Cond) ∈ TW := tw_in (tb_10 (List.mem_of_getElem? (i := 183) rfl)) (by decide +kernel)
theorem tw_2820 : (.instanceMethod yX12_wrongSubject : Cond) ∈ TW := tw_in (tb_10 (List.mem_of_getElem? (i := 185) rfl)) (by decide +kernel)
theorem tw_2821 : (.code yX12_wrongSubject cX12_wrongSubject 2 (some (.int)) : Cond) ∈ TW := tw_in (tb_10 (List.mem_of_getElem? (i := 186) rfl)) (by decide +kernel)
theorem tw_2825 : (.code yX12_sign cX12_sign 3 (some (.char)) : Cond) ∈ TW := tw_in (tb_10 (List.mem_of_getElem? (i := 190) rfl)) (by decide +kernel)
theorem tw_2829 : (.code yX12_find cX12_find 8 (some (.int)) : Cond) ∈ TW := tw_in (tb_10 (List.mem_of_getElem? (i := 194) rfl)) (by decide +kernel)
theorem tw_2830 : (.methodLink "PatternWorkshopModel" 687 yX12_wrongBoth : Cond) ∈ TW := tw_in (tb_10 (List.mem_of_getElem? (i := 195) rfl)) (by decide +kernel)
theorem tw_2832 : (.instanceMethod yX12_wrongBoth : Cond) ∈ TW := tw_in (tb_10 (List.mem_of_getElem? (i := 197) rfl)) (by decide +kernel)
theorem tw_2833 : (.code yX12_wrongBoth cX12_wrongBoth 4 (some (.int)) : Cond) ∈ TW := tw_in (tb_10 (List.mem_of_getElem? (i := 198) rfl)) (by decide +kernel)
theorem tw_2953 : (.code yX12_goOn cX12_goOn 2 (some (.int)) : Cond) ∈ TW := tw_in (tb_11 (List.mem_of_getElem? (i := 78) rfl)) (by decide +kernel)
theorem tw_2957 : (.code yX12_span cX12_span 3 (some (.int)) : Cond) ∈ TW := tw_in (tb_11 (List.mem_of_getElem? (i := 82) rfl)) (by decide +kernel)
theorem tw_2961 : (.code yX12_named cX12_named 4 (some (.int)) : Cond) ∈ TW := tw_in (tb_11 (List.mem_of_getElem? (i := 86) rfl)) (by decide +kernel)
theorem tw_2965 : (.code yX12_whole cX12_whole 6 (some (.int)) : Cond) ∈ TW := tw_in (tb_11 (List.mem_of_getElem? (i := 90) rfl)) (by decide +kernel)
theorem tw_2969 : (.code yX12_all cX12_all 6 (some (.int)) : Cond) ∈ TW := tw_in (tb_11 (List.mem_of_getElem? (i := 94) rfl)) (by decide +kernel)
theorem tw_2977 : (.code yX12_replace cX12_replace 9 (some (.int)) : Cond) ∈ TW := tw_in (tb_11 (List.mem_of_getElem? (i := 102) rfl)) (by decide +kernel)
theorem tw_2997 : (.code yX12_steps cX12_steps 1 (some (.int)) : Cond) ∈ TW := tw_in (tb_11 (List.mem_of_getElem? (i := 122) rfl)) (by decide +kernel)
theorem tw_3001 : (.code yX12_table cX12_table 3 (some (.int)) : Cond) ∈ TW := tw_in (tb_11 (List.mem_of_getElem? (i := 126) rfl)) (by decide +kernel)
theorem tw_3017 : (.code yX12_least cX12_least 7 (some (.int)) : Cond) ∈ TW := tw_in (tb_11 (List.mem_of_getElem? (i := 142) rfl)) (by decide +kernel)
theorem tw_3025 : (.code yX12_prefix cX12_prefix 8 (some (.int)) : Cond) ∈ TW := tw_in (tb_11 (List.mem_of_getElem? (i := 150) rfl)) (by decide +kernel)
theorem tw_3033 : (.code yX12_compare cX12_compare 7 (some (.int)) : Cond) ∈ TW := tw_in (tb_11 (List.mem_of_getElem? (i := 158) rfl)) (by decide +kernel)
theorem tw_3057 : (.code yX12_parting cX12_parting 7 (some (.int)) : Cond) ∈ TW := tw_in (tb_11 (List.mem_of_getElem? (i := 182) rfl)) (by decide +kernel)
theorem tw_3061 : (.code yX12_out cX12_out 2 (some (.int)) : Cond) ∈ TW := tw_in (tb_11 (List.mem_of_getElem? (i := 186) rfl)) (by decide +kernel)
theorem tw_3065 : (.code yX12_finding cX12_finding 1 (some (.int)) : Cond) ∈ TW := tw_in (tb_11 (List.mem_of_getElem? (i := 190) rfl)) (by decide +kernel)
theorem tw_3069 : (.code yX12_told cX12_told 5 (some (.int)) : Cond) ∈ TW := tw_in (tb_11 (List.mem_of_getElem? (i := 194) rfl)) (by decide +kernel)
theorem tw_3073 : (.code yX12_clear cX12_clear 3 (some (.int)) : Cond) ∈ TW := tw_in (tb_11 (List.mem_of_getElem? (i := 198) rfl)) (by decide +kernel)
theorem gw_J7_fill_53178 : GoodIn TW (WS yJ7_fill_53178 cJ7_fill_53178 4 none) := goodC tw_890
theorem gw_X0_init : GoodIn TW (WS yX0_init cX0_init 1 none) := goodC tw_681
theorem gw_X10_add : GoodIn TW (WS yX10_add cX10_add 7 (some (.int))) := goodC tw_1064
theorem gw_X10_close : GoodIn TW (WS yX10_close cX10_close 2 none) := goodC tw_1076
theorem gw_X10_copies : GoodIn TW (WS yX10_copies cX10_copies 2 (some (.int))) := goodC tw_1100
theorem gw_X10_firstOf : GoodIn TW (WS yX10_firstOf cX10_firstOf 2 (some (.int))) := goodC tw_1092
theorem gw_X10_has : GoodIn TW (WS yX10_has cX10_has 2 (some (.boolean))) := goodC tw_1072
theorem gw_X10_init : GoodIn TW (WS yX10_init cX10_init 4 none) := goodC tw_314
theorem gw_X10_isWithinCase : GoodIn TW (WS yX10_isWithinCase cX10_isWithinCase 2 (some (.boolean))) := goodC tw_1084
theorem gw_X10_lastOf : GoodIn TW (WS yX10_lastOf cX10_lastOf 2 (some (.int))) := goodC tw_1068
theorem gw_X10_maybeEmpty : GoodIn TW (WS yX10_maybeEmpty cX10_maybeEmpty 4 (some (.boolean))) := goodC tw_1123
theorem gw_X10_measure : GoodIn TW (WS yX10_measure cX10_measure 2 none) := goodC tw_1080
theorem gw_X10_measureNode : GoodIn TW (WS yX10_measureNode cX10_measureNode 7 none) := goodC tw_1088
theorem gw_X10_reset : GoodIn TW (WS yX10_reset cX10_reset 1 none) := goodC tw_887
theorem gw_X10_sortOf : GoodIn TW (WS yX10_sortOf cX10_sortOf 2 (some (.int))) := goodC tw_1104
theorem gw_X10_takesOneSign : GoodIn TW (WS yX10_takesOneSign cX10_takesOneSign 2 (some (.boolean))) := goodC tw_1119
theorem gw_X11_all : GoodIn TW (WS yX11_all cX11_all 8 (some (.int))) := goodC tw_1783
theorem gw_X11_begins : GoodIn TW (WS yX11_begins cX11_begins 4 (some (.int))) := goodC tw_1286
theorem gw_X11_capturesOfFound : GoodIn TW (WS yX11_capturesOfFound cX11_capturesOfFound 1 (some (.int))) := goodC tw_1766
theorem gw_X11_clear : GoodIn TW (WS yX11_clear cX11_clear 3 (some (.int))) := goodC tw_1989
theorem gw_X11_compare : GoodIn TW (WS yX11_compare cX11_compare 6 (some (.int))) := goodC tw_1940
theorem gw_X11_dead : GoodIn TW (WS yX11_dead cX11_dead 4 (some (.int))) := goodC tw_1376
theorem gw_X11_drop : GoodIn TW (WS yX11_drop cX11_drop 4 (some (.int))) := goodC tw_1421
theorem gw_X11_endSearch : GoodIn TW (WS yX11_endSearch cX11_endSearch 1 none) := goodC tw_1139
theorem gw_X11_endSearchWithSlot : GoodIn TW (WS yX11_endSearchWithSlot cX11_endSearchWithSlot 2 none) := goodC tw_1135
theorem gw_X11_find : GoodIn TW (WS yX11_find cX11_find 10 (some (.int))) := goodC tw_1433
theorem gw_X11_finding : GoodIn TW (WS yX11_finding cX11_finding 1 (some (.int))) := goodC tw_1973
theorem gw_X11_forget : GoodIn TW (WS yX11_forget cX11_forget 3 (some (.int))) := goodC tw_1147
theorem gw_X11_goOn : GoodIn TW (WS yX11_goOn cX11_goOn 3 (some (.int))) := goodC tw_1758
theorem gw_X11_init : GoodIn TW (WS yX11_init cX11_init 2 none) := goodC tw_263
theorem gw_X11_isSlot : GoodIn TW (WS yX11_isSlot cX11_isSlot 1 (some (.boolean))) := goodC tw_875
theorem gw_X11_isStepCount : GoodIn TW (WS yX11_isStepCount cX11_isStepCount 1 (some (.boolean))) := goodC tw_1439
theorem gw_X11_isSubject : GoodIn TW (WS yX11_isSubject cX11_isSubject 1 (some (.boolean))) := goodC tw_1413
theorem gw_X11_least : GoodIn TW (WS yX11_least cX11_least 4 (some (.int))) := goodC tw_1919
theorem gw_X11_named : GoodIn TW (WS yX11_named cX11_named 4 (some (.int))) := goodC tw_1770
theorem gw_X11_node : GoodIn TW (WS yX11_node cX11_node 6 (some (.int))) := goodC tw_1155
theorem gw_X11_part : GoodIn TW (WS yX11_part cX11_part 6 (some (.int))) := goodC tw_1178
theorem gw_X11_parting : GoodIn TW (WS yX11_parting cX11_parting 6 (some (.int))) := goodC tw_1959
theorem gw_X11_pattern : GoodIn TW (WS yX11_pattern cX11_pattern 3 (some (.int))) := goodC tw_872
theorem gw_X11_patternIn : GoodIn TW (WS yX11_patternIn cX11_patternIn 2 (some (.object "PatternWorkshop$Tree"))) := goodC tw_1151
theorem gw_X11_patternsThere : GoodIn TW (WS yX11_patternsThere cX11_patternsThere 3 (some (.int))) := goodC tw_1981
theorem gw_X11_place : GoodIn TW (WS yX11_place cX11_place 1 (some (.int))) := goodC tw_1143
theorem gw_X11_prefix : GoodIn TW (WS yX11_prefix cX11_prefix 7 (some (.int))) := goodC tw_1825
theorem gw_X11_print : GoodIn TW (WS yX11_print cX11_print 3 (some (.int))) := goodC tw_1191
theorem gw_X11_refusalOfSubject : GoodIn TW (WS yX11_refusalOfSubject cX11_refusalOfSubject 2 (some (.int))) := goodC tw_1429
theorem gw_X11_replace : GoodIn TW (WS yX11_replace cX11_replace 7 (some (.int))) := goodC tw_1798
theorem gw_X11_risky : GoodIn TW (WS yX11_risky cX11_risky 3 (some (.int))) := goodC tw_1324
theorem gw_X11_span : GoodIn TW (WS yX11_span cX11_span 3 (some (.int))) := goodC tw_1762
theorem gw_X11_steps : GoodIn TW (WS yX11_steps cX11_steps 1 (some (.int))) := goodC tw_1911
theorem gw_X11_subjectAt : GoodIn TW (WS yX11_subjectAt cX11_subjectAt 2 (some (.object "PatternWorkshop$Row"))) := goodC tw_1425
theorem gw_X11_subjectsThere : GoodIn TW (WS yX11_subjectsThere cX11_subjectsThere 3 (some (.int))) := goodC tw_1985
theorem gw_X11_table : GoodIn TW (WS yX11_table cX11_table 4 (some (.int))) := goodC tw_1915
theorem gw_X11_told : GoodIn TW (WS yX11_told cX11_told 2 (some (.int))) := goodC tw_1977
theorem gw_X11_whole : GoodIn TW (WS yX11_whole cX11_whole 7 (some (.int))) := goodC tw_1779
theorem gw_X12_all : GoodIn TW (WS yX12_all cX12_all 6 (some (.int))) := goodC tw_2969
theorem gw_X12_beginGroup : GoodIn TW (WS yX12_beginGroup cX12_beginGroup 3 none) := goodC tw_2589
theorem gw_X12_beginRow : GoodIn TW (WS yX12_beginRow cX12_beginRow 1 none) := goodC tw_2593
theorem gw_X12_begins : GoodIn TW (WS yX12_begins cX12_begins 3 (some (.int))) := goodC tw_2775
theorem gw_X12_capped : GoodIn TW (WS yX12_capped cX12_capped 1 (some (.int))) := goodC tw_2697
theorem gw_X12_clear : GoodIn TW (WS yX12_clear cX12_clear 3 (some (.int))) := goodC tw_3073
theorem gw_X12_closeChoice : GoodIn TW (WS yX12_closeChoice cX12_closeChoice 2 (some (.int))) := goodC tw_2617
theorem gw_X12_closeRow : GoodIn TW (WS yX12_closeRow cX12_closeRow 2 none) := goodC tw_2601
theorem gw_X12_compare : GoodIn TW (WS yX12_compare cX12_compare 7 (some (.int))) := goodC tw_3033
theorem gw_X12_dead : GoodIn TW (WS yX12_dead cX12_dead 9 (some (.int))) := goodC tw_2767
theorem gw_X12_drop : GoodIn TW (WS yX12_drop cX12_drop 3 (some (.int))) := goodC tw_2817
theorem gw_X12_find : GoodIn TW (WS yX12_find cX12_find 8 (some (.int))) := goodC tw_2829
theorem gw_X12_finding : GoodIn TW (WS yX12_finding cX12_finding 1 (some (.int))) := goodC tw_3065
theorem gw_X12_forget : GoodIn TW (WS yX12_forget cX12_forget 2 (some (.int))) := goodC tw_2705
theorem gw_X12_goOn : GoodIn TW (WS yX12_goOn cX12_goOn 2 (some (.int))) := goodC tw_2953
theorem gw_X12_in : GoodIn TW (WS yX12_in cX12_in 3 (some (.boolean))) := goodC tw_2576
theorem gw_X12_init : GoodIn TW (WS yX12_init cX12_init 1 none) := goodC tw_2133
theorem gw_X12_keepPattern : GoodIn TW (WS yX12_keepPattern cX12_keepPattern 9 none) := goodC tw_2690
theorem gw_X12_least : GoodIn TW (WS yX12_least cX12_least 7 (some (.int))) := goodC tw_3017
theorem gw_X12_made : GoodIn TW (WS yX12_made cX12_made 4 (some (.int))) := goodC tw_2605
theorem gw_X12_measure : GoodIn TW (WS yX12_measure cX12_measure 11 none) := goodC tw_2694
theorem gw_X12_named : GoodIn TW (WS yX12_named cX12_named 4 (some (.int))) := goodC tw_2961
theorem gw_X12_node : GoodIn TW (WS yX12_node cX12_node 6 (some (.int))) := goodC tw_2713
theorem gw_X12_out : GoodIn TW (WS yX12_out cX12_out 2 (some (.int))) := goodC tw_3061
theorem gw_X12_part : GoodIn TW (WS yX12_part cX12_part 6 (some (.int))) := goodC tw_2721
theorem gw_X12_parting : GoodIn TW (WS yX12_parting cX12_parting 7 (some (.int))) := goodC tw_3057
theorem gw_X12_pattern : GoodIn TW (WS yX12_pattern cX12_pattern 3 (some (.int))) := goodC tw_2581
theorem gw_X12_place : GoodIn TW (WS yX12_place cX12_place 1 (some (.int))) := goodC tw_2701
theorem gw_X12_prefix : GoodIn TW (WS yX12_prefix cX12_prefix 8 (some (.int))) := goodC tw_3025
theorem gw_X12_print : GoodIn TW (WS yX12_print cX12_print 3 (some (.int))) := goodC tw_2725
theorem gw_X12_readAll : GoodIn TW (WS yX12_readAll cX12_readAll 2 (some (.int))) := goodC tw_2585
theorem gw_X12_replace : GoodIn TW (WS yX12_replace cX12_replace 9 (some (.int))) := goodC tw_2977
theorem gw_X12_risky : GoodIn TW (WS yX12_risky cX12_risky 7 (some (.int))) := goodC tw_2795
theorem gw_X12_sign : GoodIn TW (WS yX12_sign cX12_sign 3 (some (.char))) := goodC tw_2825
theorem gw_X12_span : GoodIn TW (WS yX12_span cX12_span 3 (some (.int))) := goodC tw_2957
theorem gw_X12_steps : GoodIn TW (WS yX12_steps cX12_steps 1 (some (.int))) := goodC tw_2997
theorem gw_X12_table : GoodIn TW (WS yX12_table cX12_table 3 (some (.int))) := goodC tw_3001
theorem gw_X12_thrown : GoodIn TW (WS yX12_thrown cX12_thrown 1 (some (.int))) := goodC tw_2128
theorem gw_X12_told : GoodIn TW (WS yX12_told cX12_told 5 (some (.int))) := goodC tw_3069
theorem gw_X12_whole : GoodIn TW (WS yX12_whole cX12_whole 6 (some (.int))) := goodC tw_2965
theorem gw_X12_wrongBoth : GoodIn TW (WS yX12_wrongBoth cX12_wrongBoth 4 (some (.int))) := goodC tw_2833
theorem gw_X12_wrongSlot : GoodIn TW (WS yX12_wrongSlot cX12_wrongSlot 2 (some (.int))) := goodC tw_2709
theorem gw_X12_wrongSubject : GoodIn TW (WS yX12_wrongSubject cX12_wrongSubject 2 (some (.int))) := goodC tw_2821
theorem gw_X1_init : GoodIn TW (WS yX1_init cX1_init 1 none) := goodC tw_514
theorem gw_X2_begin : GoodIn TW (WS yX2_begin cX2_begin 4 none) := goodC tw_898
theorem gw_X2_beginRow : GoodIn TW (WS yX2_beginRow cX2_beginRow 1 none) := goodC tw_902
theorem gw_X2_init : GoodIn TW (WS yX2_init cX2_init 1 none) := goodC tw_388
theorem gw_X3_init : GoodIn TW (WS yX3_init cX3_init 1 none) := goodC tw_583
theorem gw_X4_init : GoodIn TW (WS yX4_init cX4_init 1 none) := goodC tw_499
theorem gw_X5_init : GoodIn TW (WS yX5_init cX5_init 1 none) := goodC tw_589
theorem gw_X6_addPending : GoodIn TW (WS yX6_addPending cX6_addPending 2 none) := goodC tw_922
theorem gw_X6_begin : GoodIn TW (WS yX6_begin cX6_begin 2 none) := goodC tw_883
theorem gw_X6_choiceOf : GoodIn TW (WS yX6_choiceOf cX6_choiceOf 2 (some (.int))) := goodC tw_968
theorem gw_X6_closeRow : GoodIn TW (WS yX6_closeRow cX6_closeRow 3 none) := goodC tw_918
theorem gw_X6_exchange : GoodIn TW (WS yX6_exchange cX6_exchange 3 (some (.object "PatternWorkshop$Tree"))) := goodC tw_1131
theorem gw_X6_init : GoodIn TW (WS yX6_init cX6_init 2 none) := goodC tw_304
theorem gw_X6_lay : GoodIn TW (WS yX6_lay cX6_lay 6 none) := goodC tw_1060
theorem gw_X6_make : GoodIn TW (WS yX6_make cX6_make 6 (some (.int))) := goodC tw_930
theorem gw_X6_makeRound : GoodIn TW (WS yX6_makeRound cX6_makeRound 7 (some (.int))) := goodC tw_926
theorem gw_X6_openGroup : GoodIn TW (WS yX6_openGroup cX6_openGroup 1 (some (.object "PatternWorkshop$Group"))) := goodC tw_894
theorem gw_X6_read : GoodIn TW (WS yX6_read cX6_read 3 (some (.boolean))) := goodC tw_879
theorem gw_X7_empty : GoodIn TW (WS yX7_empty cX7_empty 1 none) := goodC tw_1127
theorem gw_X7_init : GoodIn TW (WS yX7_init cX7_init 2 none) := goodC tw_271
theorem gw_X8_init : GoodIn TW (WS yX8_init cX8_init 1 none) := goodC tw_675
theorem gw_X9_init : GoodIn TW (WS yX9_init cX9_init 1 none) := goodC tw_697
