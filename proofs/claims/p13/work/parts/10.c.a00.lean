abbrev oX11 (z0 : Value) (z1 : Value) (z2 : Value) (z3 : Value) (z4 : Bool) (z5 : Value) (z6 : Value) (z7 : Value) (z8 : Value) (z9 : Value) (z10 : Value) (z11 : Value) (z12 : Value) (z13 : Int32) (z14 : Int32) (z15 : Int32) (z16 : Int32) (z17 : Int32) : List Value := [z0, z1, z2, z3, .int (bz z4), z5, z6, z7, z8, z9, z10, z11, z12, .int z13, .int z14, .int z15, .int z16, .int z17]
abbrev cX11_areThere : ByteArray := prog_1_method_64_code
def yX11_areThere : MethodName := ⟨RX11, "areThere", "(I)Z"⟩
abbrev cX11_begins : ByteArray := prog_1_method_9_code
def yX11_begins : MethodName := ⟨RX11, "begins", "(II)I"⟩
abbrev cX11_byteOf : ByteArray := prog_1_method_44_code
def yX11_byteOf : MethodName := ⟨RX11, "byteOf", "(JI)I"⟩
abbrev cX11_capturesOfFound : ByteArray := prog_1_method_59_code
def yX11_capturesOfFound : MethodName := ⟨RX11, "capturesOfFound", "()I"⟩
abbrev cX11_clear : ByteArray := prog_1_method_32_code
def yX11_clear : MethodName := ⟨RX11, "clear", "()I"⟩
abbrev cX11_compare : ByteArray := prog_1_method_27_code
def yX11_compare : MethodName := ⟨RX11, "compare", "(II)I"⟩
abbrev cX11_dead : ByteArray := prog_1_method_11_code
def yX11_dead : MethodName := ⟨RX11, "dead", "(II)I"⟩
abbrev cX11_draftReplacement : ByteArray := prog_1_method_61_code
def yX11_draftReplacement : MethodName := ⟨RX11, "draftReplacement", "(LPatternWorkshop$Row;)V"⟩
abbrev cX11_drop : ByteArray := prog_1_method_13_code
def yX11_drop : MethodName := ⟨RX11, "drop", "(I)I"⟩
abbrev cX11_endSearch : ByteArray := prog_1_method_54_code
def yX11_endSearch : MethodName := ⟨RX11, "endSearch", "()V"⟩
abbrev cX11_endSearchOver : ByteArray := prog_1_method_56_code
def yX11_endSearchOver : MethodName := ⟨RX11, "endSearchOver", "(I)V"⟩
abbrev cX11_endSearchWithSlot : ByteArray := prog_1_method_55_code
def yX11_endSearchWithSlot : MethodName := ⟨RX11, "endSearchWithSlot", "(I)V"⟩
abbrev cX11_feed : ByteArray := prog_1_method_2_code
def yX11_feed : MethodName := ⟨RX11, "feed", "(IJ)I"⟩
abbrev cX11_finding : ByteArray := prog_1_method_30_code
def yX11_finding : MethodName := ⟨RX11, "finding", "()I"⟩
abbrev cX11_forget : ByteArray := prog_1_method_5_code
def yX11_forget : MethodName := ⟨RX11, "forget", "(I)I"⟩
abbrev cX11_isMachine : ByteArray := prog_1_method_35_code
def yX11_isMachine : MethodName := ⟨RX11, "isMachine", "(I)Z"⟩
abbrev cX11_isSlot : ByteArray := prog_1_method_33_code
def yX11_isSlot : MethodName := ⟨RX11, "isSlot", "(I)Z"⟩
abbrev cX11_isStepCount : ByteArray := prog_1_method_36_code
def yX11_isStepCount : MethodName := ⟨RX11, "isStepCount", "(I)Z"⟩
abbrev cX11_isSubject : ByteArray := prog_1_method_34_code
def yX11_isSubject : MethodName := ⟨RX11, "isSubject", "(I)Z"⟩
abbrev cX11_isTold : ByteArray := prog_1_method_63_code
def yX11_isTold : MethodName := ⟨RX11, "isTold", "(II)Z"⟩
abbrev cX11_keepSpans : ByteArray := prog_1_method_58_code
def yX11_keepSpans : MethodName := ⟨RX11, "keepSpans", "(I)I"⟩
abbrev cX11_least : ByteArray := prog_1_method_26_code
def yX11_least : MethodName := ⟨RX11, "least", "(I)I"⟩
abbrev cX11_makeTables : ByteArray := prog_1_method_67_code
def yX11_makeTables : MethodName := ⟨RX11, "makeTables", "(LPatternWorkshop$Tree;LPatternWorkshop$Tree;)I"⟩
abbrev cX11_named : ByteArray := prog_1_method_18_code
def yX11_named : MethodName := ⟨RX11, "named", "(II)I"⟩
abbrev cX11_node : ByteArray := prog_1_method_6_code
def yX11_node : MethodName := ⟨RX11, "node", "(III)I"⟩
abbrev cX11_part : ByteArray := prog_1_method_7_code
def yX11_part : MethodName := ⟨RX11, "part", "(IIIZ)I"⟩
abbrev cX11_parting : ByteArray := prog_1_method_28_code
def yX11_parting : MethodName := ⟨RX11, "parting", "(II)I"⟩
abbrev cX11_patternIn : ByteArray := prog_1_method_47_code
def yX11_patternIn : MethodName := ⟨RX11, "patternIn", "(I)LPatternWorkshop$Tree;"⟩
abbrev cX11_patternsThere : ByteArray := prog_1_method_51_code
def yX11_patternsThere : MethodName := ⟨RX11, "patternsThere", "()I"⟩
abbrev cX11_place : ByteArray := prog_1_method_4_code
def yX11_place : MethodName := ⟨RX11, "place", "()I"⟩
abbrev cX11_prefix : ByteArray := prog_1_method_23_code
def yX11_prefix : MethodName := ⟨RX11, "prefix", "(III)I"⟩
abbrev cX11_print : ByteArray := prog_1_method_8_code
def yX11_print : MethodName := ⟨RX11, "print", "(I)I"⟩
abbrev cX11_put : ByteArray := prog_1_method_12_code
def yX11_put : MethodName := ⟨RX11, "put", "(IIJ)I"⟩
abbrev cX11_refusalByMachine : ByteArray := prog_1_method_50_code
def yX11_refusalByMachine : MethodName := ⟨RX11, "refusalByMachine", "(LPatternWorkshop$Tree;I)I"⟩
abbrev cX11_refusalOfSome : ByteArray := prog_1_method_65_code
def yX11_refusalOfSome : MethodName := ⟨RX11, "refusalOfSome", "(II)I"⟩
abbrev cX11_refusalOfSubject : ByteArray := prog_1_method_49_code
def yX11_refusalOfSubject : MethodName := ⟨RX11, "refusalOfSubject", "(I)I"⟩
abbrev cX11_risky : ByteArray := prog_1_method_10_code
def yX11_risky : MethodName := ⟨RX11, "risky", "(I)I"⟩
abbrev cX11_sortThatTells : ByteArray := prog_1_method_46_code
def yX11_sortThatTells : MethodName := ⟨RX11, "sortThatTells", "(I)I"⟩
abbrev cX11_span : ByteArray := prog_1_method_17_code
def yX11_span : MethodName := ⟨RX11, "span", "(IZ)I"⟩
abbrev cX11_steps : ByteArray := prog_1_method_24_code
def yX11_steps : MethodName := ⟨RX11, "steps", "()I"⟩
abbrev cX11_subjectAt : ByteArray := prog_1_method_48_code
def yX11_subjectAt : MethodName := ⟨RX11, "subjectAt", "(I)LPatternWorkshop$Row;"⟩
abbrev cX11_subjectsThere : ByteArray := prog_1_method_52_code
def yX11_subjectsThere : MethodName := ⟨RX11, "subjectsThere", "()I"⟩
abbrev cX11_table : ByteArray := prog_1_method_25_code
def yX11_table : MethodName := ⟨RX11, "table", "(I)I"⟩
abbrev cX11_tapeTellsFor : ByteArray := prog_1_method_62_code
def yX11_tapeTellsFor : MethodName := ⟨RX11, "tapeTellsFor", "(LPatternWorkshop$Tree;)Z"⟩
abbrev cX11_tellRow : ByteArray := prog_1_method_53_code
def yX11_tellRow : MethodName := ⟨RX11, "tellRow", "(Z)V"⟩
abbrev cX11_told : ByteArray := prog_1_method_31_code
def yX11_told : MethodName := ⟨RX11, "told", "(I)I"⟩
theorem tw_38 : (.selects "PatternWorkshop" yX11_endSearchWithSlot yX11_endSearchWithSlot : Cond) ∈ TW := tw_of 38 (by decide +kernel) (by decide +kernel)
theorem tw_39 : (.selects "PatternWorkshop" yX11_endSearch yX11_endSearch : Cond) ∈ TW := tw_of 39 (by decide +kernel) (by decide +kernel)
theorem tw_40 : (.selects "PatternWorkshop" yX11_patternIn yX11_patternIn : Cond) ∈ TW := tw_of 40 (by decide +kernel) (by decide +kernel)
theorem tw_52 : (.selects "PatternWorkshop" yX11_tellRow yX11_tellRow : Cond) ∈ TW := tw_of 52 (by decide +kernel) (by decide +kernel)
theorem tw_66 : (.selects "PatternWorkshop" yX11_endSearchOver yX11_endSearchOver : Cond) ∈ TW := tw_of 66 (by decide +kernel) (by decide +kernel)
theorem tw_67 : (.selects "PatternWorkshop" yX11_subjectAt yX11_subjectAt : Cond) ∈ TW := tw_of 67 (by decide +kernel) (by decide +kernel)
theorem tw_68 : (.selects "PatternWorkshop" yX11_refusalOfSubject yX11_refusalOfSubject : Cond) ∈ TW := tw_of 68 (by decide +kernel) (by decide +kernel)
theorem tw_122 : (.selects "PatternWorkshop" yX11_capturesOfFound yX11_capturesOfFound : Cond) ∈ TW := tw_of 122 (by decide +kernel) (by decide +kernel)
theorem tw_129 : (.selects "PatternWorkshop" yX11_makeTables yX11_makeTables : Cond) ∈ TW := tw_of 129 (by decide +kernel) (by decide +kernel)
theorem tw_144 : (.selects "PatternWorkshop" yX11_patternsThere yX11_patternsThere : Cond) ∈ TW := tw_of 144 (by decide +kernel) (by decide +kernel)
theorem tw_145 : (.selects "PatternWorkshop" yX11_subjectsThere yX11_subjectsThere : Cond) ∈ TW := tw_of 145 (by decide +kernel) (by decide +kernel)
theorem tw_285 : (.fieldLink "PatternWorkshop" 171 "PatternWorkshop$Row" "over" "Z" : Cond) ∈ TW := tw_in (tb_0 (List.mem_of_getElem? (i := 50) rfl)) (by decide +kernel)
theorem tw_286 : (.fieldLink "PatternWorkshop" 205 "PatternWorkshop$Row" "there" "Z" : Cond) ∈ TW := tw_in (tb_0 (List.mem_of_getElem? (i := 51) rfl)) (by decide +kernel)
theorem tw_318 : (.fieldLink "PatternWorkshop" 120 "PatternWorkshop$Tree" "there" "Z" : Cond) ∈ TW := tw_in (tb_0 (List.mem_of_getElem? (i := 83) rfl)) (by decide +kernel)
theorem tw_325 : (.fieldLink "PatternWorkshop" 358 "PatternWorkshop$Tree" "captures" "I" : Cond) ∈ TW := tw_in (tb_0 (List.mem_of_getElem? (i := 90) rfl)) (by decide +kernel)
theorem tw_702 : (.fieldLink "PatternWorkshop" 295 "PatternWorkshop$Table" "count" "I" : Cond) ∈ TW := tw_in (tb_1 (List.mem_of_getElem? (i := 227) rfl)) (by decide +kernel)
theorem tw_759 : (.fieldLink "PatternWorkshop" 185 "PatternWorkshop$Sets" "alphabet" "LPatternWorkshop$Alphabet;" : Cond) ∈ TW := tw_in (tb_2 (List.mem_of_getElem? (i := 44) rfl)) (by decide +kernel)
theorem tw_761 : (.fieldLink "PatternWorkshop" 291 "PatternWorkshop$Sets" "one" "LPatternWorkshop$Table;" : Cond) ∈ TW := tw_in (tb_2 (List.mem_of_getElem? (i := 46) rfl)) (by decide +kernel)
theorem tw_764 : (.fieldLink "PatternWorkshop" 304 "PatternWorkshop$Sets" "onlyInOne" "Z" : Cond) ∈ TW := tw_in (tb_2 (List.mem_of_getElem? (i := 49) rfl)) (by decide +kernel)
theorem tw_766 : (.fieldLink "PatternWorkshop" 307 "PatternWorkshop$Sets" "onlyInOther" "Z" : Cond) ∈ TW := tw_in (tb_2 (List.mem_of_getElem? (i := 51) rfl)) (by decide +kernel)
theorem tw_804 : (.fieldLink "PatternWorkshop" 320 "PatternWorkshop" "outHasNumbers" "Z" : Cond) ∈ TW := tw_in (tb_2 (List.mem_of_getElem? (i := 89) rfl)) (by decide +kernel)
theorem tw_814 : (.fieldLink "PatternWorkshop" 146 "PatternWorkshop" "latestFinding" "I" : Cond) ∈ TW := tw_in (tb_2 (List.mem_of_getElem? (i := 99) rfl)) (by decide +kernel)
theorem tw_815 : (.fieldLink "PatternWorkshop" 249 "PatternWorkshop" "latestSteps" "I" : Cond) ∈ TW := tw_in (tb_2 (List.mem_of_getElem? (i := 100) rfl)) (by decide +kernel)
theorem tw_858 : (.code yX11_feed cX11_feed 5 (some (.int)) : Cond) ∈ TW := tw_in (tb_2 (List.mem_of_getElem? (i := 143) rfl)) (by decide +kernel)
theorem tw_859 : (.methodLink "PatternWorkshop" 88 yX11_byteOf : Cond) ∈ TW := tw_in (tb_2 (List.mem_of_getElem? (i := 144) rfl)) (by decide +kernel)
theorem tw_860 : (.static yX11_byteOf : Cond) ∈ TW := tw_in (tb_2 (List.mem_of_getElem? (i := 145) rfl)) (by decide +kernel)
theorem tw_861 : (.code yX11_byteOf cX11_byteOf 3 (some (.int)) : Cond) ∈ TW := tw_in (tb_2 (List.mem_of_getElem? (i := 146) rfl)) (by decide +kernel)
theorem tw_865 : (.methodLink "PatternWorkshop" 99 yX7_add : Cond) ∈ TW := tw_in (tb_2 (List.mem_of_getElem? (i := 150) rfl)) (by decide +kernel)
theorem tw_873 : (.methodLink "PatternWorkshop" 102 yX11_isSlot : Cond) ∈ TW := tw_in (tb_2 (List.mem_of_getElem? (i := 158) rfl)) (by decide +kernel)
theorem tw_874 : (.static yX11_isSlot : Cond) ∈ TW := tw_in (tb_2 (List.mem_of_getElem? (i := 159) rfl)) (by decide +kernel)
theorem tw_875 : (.code yX11_isSlot cX11_isSlot 1 (some (.boolean)) : Cond) ∈ TW := tw_in (tb_2 (List.mem_of_getElem? (i := 160) rfl)) (by decide +kernel)
theorem tw_1124 : (.methodLink "PatternWorkshop" 109 yX7_empty : Cond) ∈ TW := tw_in (tb_3 (List.mem_of_getElem? (i := 169) rfl)) (by decide +kernel)
theorem tw_1132 : (.methodLink "PatternWorkshop" 124 yX11_endSearchWithSlot : Cond) ∈ TW := tw_in (tb_3 (List.mem_of_getElem? (i := 177) rfl)) (by decide +kernel)
theorem tw_1134 : (.instanceMethod yX11_endSearchWithSlot : Cond) ∈ TW := tw_in (tb_3 (List.mem_of_getElem? (i := 179) rfl)) (by decide +kernel)
theorem tw_1135 : (.code yX11_endSearchWithSlot cX11_endSearchWithSlot 2 none : Cond) ∈ TW := tw_in (tb_3 (List.mem_of_getElem? (i := 180) rfl)) (by decide +kernel)
theorem tw_1136 : (.methodLink "PatternWorkshop" 252 yX11_endSearch : Cond) ∈ TW := tw_in (tb_3 (List.mem_of_getElem? (i := 181) rfl)) (by decide +kernel)
theorem tw_1138 : (.instanceMethod yX11_endSearch : Cond) ∈ TW := tw_in (tb_3 (List.mem_of_getElem? (i := 183) rfl)) (by decide +kernel)
theorem tw_1139 : (.code yX11_endSearch cX11_endSearch 1 none : Cond) ∈ TW := tw_in (tb_3 (List.mem_of_getElem? (i := 184) rfl)) (by decide +kernel)
theorem tw_1143 : (.code yX11_place cX11_place 1 (some (.int)) : Cond) ∈ TW := tw_in (tb_3 (List.mem_of_getElem? (i := 188) rfl)) (by decide +kernel)
theorem tw_1147 : (.code yX11_forget cX11_forget 3 (some (.int)) : Cond) ∈ TW := tw_in (tb_3 (List.mem_of_getElem? (i := 192) rfl)) (by decide +kernel)
theorem tw_1148 : (.methodLink "PatternWorkshop" 128 yX11_patternIn : Cond) ∈ TW := tw_in (tb_3 (List.mem_of_getElem? (i := 193) rfl)) (by decide +kernel)
theorem tw_1150 : (.instanceMethod yX11_patternIn : Cond) ∈ TW := tw_in (tb_3 (List.mem_of_getElem? (i := 195) rfl)) (by decide +kernel)
theorem tw_1151 : (.code yX11_patternIn cX11_patternIn 2 (some (.object "PatternWorkshop$Tree")) : Cond) ∈ TW := tw_in (tb_3 (List.mem_of_getElem? (i := 196) rfl)) (by decide +kernel)
theorem tw_1155 : (.code yX11_node cX11_node 6 (some (.int)) : Cond) ∈ TW := tw_in (tb_3 (List.mem_of_getElem? (i := 200) rfl)) (by decide +kernel)
theorem tw_1156 : (.methodLink "PatternWorkshop" 132 yX10_has : Cond) ∈ TW := tw_in (tb_3 (List.mem_of_getElem? (i := 201) rfl)) (by decide +kernel)
theorem tw_1157 : (.methodLink "PatternWorkshop" 135 yX10_tellOfAll : Cond) ∈ TW := tw_in (tb_3 (List.mem_of_getElem? (i := 202) rfl)) (by decide +kernel)
theorem tw_1158 : (.instanceMethod yX10_tellOfAll : Cond) ∈ TW := tw_in (tb_3 (List.mem_of_getElem? (i := 203) rfl)) (by decide +kernel)
theorem tw_1159 : (.selects "PatternWorkshop$Tree" yX10_tellOfAll yX10_tellOfAll : Cond) ∈ TW := tw_in (tb_3 (List.mem_of_getElem? (i := 204) rfl)) (by decide +kernel)
theorem tw_1165 : (.methodLink "PatternWorkshop" 139 yX10_sortOf : Cond) ∈ TW := tw_in (tb_3 (List.mem_of_getElem? (i := 210) rfl)) (by decide +kernel)
theorem tw_1166 : (.methodLink "PatternWorkshop" 143 yX11_sortThatTells : Cond) ∈ TW := tw_in (tb_3 (List.mem_of_getElem? (i := 211) rfl)) (by decide +kernel)
theorem tw_1167 : (.static yX11_sortThatTells : Cond) ∈ TW := tw_in (tb_3 (List.mem_of_getElem? (i := 212) rfl)) (by decide +kernel)
theorem tw_1168 : (.code yX11_sortThatTells cX11_sortThatTells 1 (some (.int)) : Cond) ∈ TW := tw_in (tb_3 (List.mem_of_getElem? (i := 213) rfl)) (by decide +kernel)
theorem tw_1169 : (.methodLink "PatternWorkshop" 149 yX10_lowOf : Cond) ∈ TW := tw_in (tb_3 (List.mem_of_getElem? (i := 214) rfl)) (by decide +kernel)
theorem tw_1170 : (.methodLink "PatternWorkshop" 152 yX10_highOf : Cond) ∈ TW := tw_in (tb_3 (List.mem_of_getElem? (i := 215) rfl)) (by decide +kernel)
theorem tw_1171 : (.methodLink "PatternWorkshop" 155 yX10_valueOf : Cond) ∈ TW := tw_in (tb_3 (List.mem_of_getElem? (i := 216) rfl)) (by decide +kernel)
theorem tw_1178 : (.code yX11_part cX11_part 6 (some (.int)) : Cond) ∈ TW := tw_in (tb_3 (List.mem_of_getElem? (i := 223) rfl)) (by decide +kernel)
theorem tw_1179 : (.methodLink "PatternWorkshop" 158 yX10_partsOf : Cond) ∈ TW := tw_in (tb_3 (List.mem_of_getElem? (i := 224) rfl)) (by decide +kernel)
theorem tw_1180 : (.methodLink "PatternWorkshop" 161 yX10_partEnd : Cond) ∈ TW := tw_in (tb_3 (List.mem_of_getElem? (i := 225) rfl)) (by decide +kernel)
theorem tw_1184 : (.methodLink "PatternWorkshop" 164 yX10_partBegin : Cond) ∈ TW := tw_in (tb_3 (List.mem_of_getElem? (i := 229) rfl)) (by decide +kernel)
theorem tw_1191 : (.code yX11_print cX11_print 3 (some (.int)) : Cond) ∈ TW := tw_in (tb_3 (List.mem_of_getElem? (i := 236) rfl)) (by decide +kernel)
theorem tw_1192 : (.methodLink "PatternWorkshop" 167 yX4_write : Cond) ∈ TW := tw_in (tb_3 (List.mem_of_getElem? (i := 237) rfl)) (by decide +kernel)
theorem tw_1193 : (.instanceMethod yX4_write : Cond) ∈ TW := tw_in (tb_3 (List.mem_of_getElem? (i := 238) rfl)) (by decide +kernel)
theorem tw_1194 : (.selects "PatternWorkshop$Printer" yX4_write yX4_write : Cond) ∈ TW := tw_in (tb_3 (List.mem_of_getElem? (i := 239) rfl)) (by decide +kernel)
theorem tw_1268 : (.methodLink "PatternWorkshop" 174 yX11_tellRow : Cond) ∈ TW := tw_in (tb_4 (List.mem_of_getElem? (i := 73) rfl)) (by decide +kernel)
theorem tw_1270 : (.instanceMethod yX11_tellRow : Cond) ∈ TW := tw_in (tb_4 (List.mem_of_getElem? (i := 75) rfl)) (by decide +kernel)
theorem tw_1271 : (.code yX11_tellRow cX11_tellRow 2 none : Cond) ∈ TW := tw_in (tb_4 (List.mem_of_getElem? (i := 76) rfl)) (by decide +kernel)
theorem tw_1272 : (.methodLink "PatternWorkshop" 332 yX7_take : Cond) ∈ TW := tw_in (tb_4 (List.mem_of_getElem? (i := 77) rfl)) (by decide +kernel)
theorem tw_1273 : (.instanceMethod yX7_take : Cond) ∈ TW := tw_in (tb_4 (List.mem_of_getElem? (i := 78) rfl)) (by decide +kernel)
theorem tw_1274 : (.selects "PatternWorkshop$Row" yX7_take yX7_take : Cond) ∈ TW := tw_in (tb_4 (List.mem_of_getElem? (i := 79) rfl)) (by decide +kernel)
theorem tw_1286 : (.code yX11_begins cX11_begins 4 (some (.int)) : Cond) ∈ TW := tw_in (tb_4 (List.mem_of_getElem? (i := 91) rfl)) (by decide +kernel)
theorem tw_1287 : (.constant "PatternWorkshop" 178 65535 : Cond) ∈ TW := tw_in (tb_4 (List.mem_of_getElem? (i := 92) rfl)) (by decide +kernel)
theorem tw_1288 : (.methodLink "PatternWorkshop" 179 yX10_markBeginning : Cond) ∈ TW := tw_in (tb_4 (List.mem_of_getElem? (i := 93) rfl)) (by decide +kernel)
theorem tw_1320 : (.methodLink "PatternWorkshop" 182 yX10_isMarked : Cond) ∈ TW := tw_in (tb_4 (List.mem_of_getElem? (i := 125) rfl)) (by decide +kernel)
theorem tw_1324 : (.code yX11_risky cX11_risky 3 (some (.int)) : Cond) ∈ TW := tw_in (tb_4 (List.mem_of_getElem? (i := 129) rfl)) (by decide +kernel)
theorem tw_1325 : (.methodLink "PatternWorkshop" 189 yX0_gather : Cond) ∈ TW := tw_in (tb_4 (List.mem_of_getElem? (i := 130) rfl)) (by decide +kernel)
theorem tw_1355 : (.methodLink "PatternWorkshop" 195 yX10_firstRisky : Cond) ∈ TW := tw_in (tb_4 (List.mem_of_getElem? (i := 160) rfl)) (by decide +kernel)
theorem tw_1356 : (.instanceMethod yX10_firstRisky : Cond) ∈ TW := tw_in (tb_4 (List.mem_of_getElem? (i := 161) rfl)) (by decide +kernel)
theorem tw_1357 : (.selects "PatternWorkshop$Tree" yX10_firstRisky yX10_firstRisky : Cond) ∈ TW := tw_in (tb_4 (List.mem_of_getElem? (i := 162) rfl)) (by decide +kernel)
theorem tw_1376 : (.code yX11_dead cX11_dead 4 (some (.int)) : Cond) ∈ TW := tw_in (tb_4 (List.mem_of_getElem? (i := 181) rfl)) (by decide +kernel)
theorem tw_1377 : (.methodLink "PatternWorkshop" 199 yX10_deadRow : Cond) ∈ TW := tw_in (tb_4 (List.mem_of_getElem? (i := 182) rfl)) (by decide +kernel)
theorem tw_1378 : (.instanceMethod yX10_deadRow : Cond) ∈ TW := tw_in (tb_4 (List.mem_of_getElem? (i := 183) rfl)) (by decide +kernel)
theorem tw_1379 : (.selects "PatternWorkshop$Tree" yX10_deadRow yX10_deadRow : Cond) ∈ TW := tw_in (tb_4 (List.mem_of_getElem? (i := 184) rfl)) (by decide +kernel)
theorem tw_1410 : (.code yX11_put cX11_put 7 (some (.int)) : Cond) ∈ TW := tw_in (tb_4 (List.mem_of_getElem? (i := 215) rfl)) (by decide +kernel)
theorem tw_1411 : (.methodLink "PatternWorkshop" 202 yX11_isSubject : Cond) ∈ TW := tw_in (tb_4 (List.mem_of_getElem? (i := 216) rfl)) (by decide +kernel)
theorem tw_1412 : (.static yX11_isSubject : Cond) ∈ TW := tw_in (tb_4 (List.mem_of_getElem? (i := 217) rfl)) (by decide +kernel)
theorem tw_1413 : (.code yX11_isSubject cX11_isSubject 1 (some (.boolean)) : Cond) ∈ TW := tw_in (tb_4 (List.mem_of_getElem? (i := 218) rfl)) (by decide +kernel)
theorem tw_1414 : (.methodLink "PatternWorkshop" 206 yX11_endSearchOver : Cond) ∈ TW := tw_in (tb_4 (List.mem_of_getElem? (i := 219) rfl)) (by decide +kernel)
theorem tw_1416 : (.instanceMethod yX11_endSearchOver : Cond) ∈ TW := tw_in (tb_4 (List.mem_of_getElem? (i := 221) rfl)) (by decide +kernel)
theorem tw_1417 : (.code yX11_endSearchOver cX11_endSearchOver 2 none : Cond) ∈ TW := tw_in (tb_4 (List.mem_of_getElem? (i := 222) rfl)) (by decide +kernel)
theorem tw_1421 : (.code yX11_drop cX11_drop 4 (some (.int)) : Cond) ∈ TW := tw_in (tb_4 (List.mem_of_getElem? (i := 226) rfl)) (by decide +kernel)
theorem tw_1422 : (.methodLink "PatternWorkshop" 209 yX11_subjectAt : Cond) ∈ TW := tw_in (tb_4 (List.mem_of_getElem? (i := 227) rfl)) (by decide +kernel)
theorem tw_1424 : (.instanceMethod yX11_subjectAt : Cond) ∈ TW := tw_in (tb_4 (List.mem_of_getElem? (i := 229) rfl)) (by decide +kernel)
theorem tw_1425 : (.code yX11_subjectAt cX11_subjectAt 2 (some (.object "PatternWorkshop$Row")) : Cond) ∈ TW := tw_in (tb_4 (List.mem_of_getElem? (i := 230) rfl)) (by decide +kernel)
theorem tw_1426 : (.methodLink "PatternWorkshop" 213 yX11_refusalOfSubject : Cond) ∈ TW := tw_in (tb_4 (List.mem_of_getElem? (i := 231) rfl)) (by decide +kernel)
theorem tw_1428 : (.instanceMethod yX11_refusalOfSubject : Cond) ∈ TW := tw_in (tb_4 (List.mem_of_getElem? (i := 233) rfl)) (by decide +kernel)
theorem tw_1429 : (.code yX11_refusalOfSubject cX11_refusalOfSubject 2 (some (.int)) : Cond) ∈ TW := tw_in (tb_4 (List.mem_of_getElem? (i := 234) rfl)) (by decide +kernel)
theorem tw_1436 : (.code yX11_isMachine cX11_isMachine 1 (some (.boolean)) : Cond) ∈ TW := tw_in (tb_5 (List.mem_of_getElem? (i := 1) rfl)) (by decide +kernel)
theorem tw_1439 : (.code yX11_isStepCount cX11_isStepCount 1 (some (.boolean)) : Cond) ∈ TW := tw_in (tb_5 (List.mem_of_getElem? (i := 4) rfl)) (by decide +kernel)
theorem tw_1440 : (.methodLink "PatternWorkshop" 231 yX11_refusalByMachine : Cond) ∈ TW := tw_in (tb_5 (List.mem_of_getElem? (i := 5) rfl)) (by decide +kernel)
theorem tw_1441 : (.static yX11_refusalByMachine : Cond) ∈ TW := tw_in (tb_5 (List.mem_of_getElem? (i := 6) rfl)) (by decide +kernel)
theorem tw_1442 : (.code yX11_refusalByMachine cX11_refusalByMachine 2 (some (.int)) : Cond) ∈ TW := tw_in (tb_5 (List.mem_of_getElem? (i := 7) rfl)) (by decide +kernel)
theorem tw_1443 : (.methodLink "PatternWorkshop" 326 yX10_isTakenBy : Cond) ∈ TW := tw_in (tb_5 (List.mem_of_getElem? (i := 8) rfl)) (by decide +kernel)
theorem tw_1444 : (.instanceMethod yX10_isTakenBy : Cond) ∈ TW := tw_in (tb_5 (List.mem_of_getElem? (i := 9) rfl)) (by decide +kernel)
theorem tw_1445 : (.selects "PatternWorkshop$Tree" yX10_isTakenBy yX10_isTakenBy : Cond) ∈ TW := tw_in (tb_5 (List.mem_of_getElem? (i := 10) rfl)) (by decide +kernel)
theorem tw_1451 : (.methodLink "PatternWorkshop" 329 yX10_isTooLargeFor : Cond) ∈ TW := tw_in (tb_5 (List.mem_of_getElem? (i := 16) rfl)) (by decide +kernel)
theorem tw_1452 : (.instanceMethod yX10_isTooLargeFor : Cond) ∈ TW := tw_in (tb_5 (List.mem_of_getElem? (i := 17) rfl)) (by decide +kernel)
theorem tw_1453 : (.selects "PatternWorkshop$Tree" yX10_isTooLargeFor yX10_isTooLargeFor : Cond) ∈ TW := tw_in (tb_5 (List.mem_of_getElem? (i := 18) rfl)) (by decide +kernel)
theorem tw_1754 : (.code yX11_keepSpans cX11_keepSpans 2 (some (.int)) : Cond) ∈ TW := tw_in (tb_6 (List.mem_of_getElem? (i := 79) rfl)) (by decide +kernel)
theorem tw_1762 : (.code yX11_span cX11_span 3 (some (.int)) : Cond) ∈ TW := tw_in (tb_6 (List.mem_of_getElem? (i := 87) rfl)) (by decide +kernel)
theorem tw_1763 : (.methodLink "PatternWorkshop" 255 yX11_capturesOfFound : Cond) ∈ TW := tw_in (tb_6 (List.mem_of_getElem? (i := 88) rfl)) (by decide +kernel)
theorem tw_1765 : (.instanceMethod yX11_capturesOfFound : Cond) ∈ TW := tw_in (tb_6 (List.mem_of_getElem? (i := 90) rfl)) (by decide +kernel)
theorem tw_1766 : (.code yX11_capturesOfFound cX11_capturesOfFound 1 (some (.int)) : Cond) ∈ TW := tw_in (tb_6 (List.mem_of_getElem? (i := 91) rfl)) (by decide +kernel)
theorem tw_1770 : (.code yX11_named cX11_named 4 (some (.int)) : Cond) ∈ TW := tw_in (tb_6 (List.mem_of_getElem? (i := 95) rfl)) (by decide +kernel)
theorem tw_1771 : (.methodLink "PatternWorkshop" 259 yX11_isSmall : Cond) ∈ TW := tw_in (tb_6 (List.mem_of_getElem? (i := 96) rfl)) (by decide +kernel)
theorem tw_1772 : (.methodLink "PatternWorkshop" 262 yX10_captureNamed : Cond) ∈ TW := tw_in (tb_6 (List.mem_of_getElem? (i := 97) rfl)) (by decide +kernel)
theorem tw_1773 : (.instanceMethod yX10_captureNamed : Cond) ∈ TW := tw_in (tb_6 (List.mem_of_getElem? (i := 98) rfl)) (by decide +kernel)
theorem tw_1774 : (.selects "PatternWorkshop$Tree" yX10_captureNamed yX10_captureNamed : Cond) ∈ TW := tw_in (tb_6 (List.mem_of_getElem? (i := 99) rfl)) (by decide +kernel)
theorem tw_1788 : (.methodLink "PatternWorkshop" 343 yX7_addFrom : Cond) ∈ TW := tw_in (tb_6 (List.mem_of_getElem? (i := 113) rfl)) (by decide +kernel)
theorem tw_1792 : (.code yX11_draftReplacement cX11_draftReplacement 6 none : Cond) ∈ TW := tw_in (tb_6 (List.mem_of_getElem? (i := 117) rfl)) (by decide +kernel)
theorem tw_1793 : (.methodLink "PatternWorkshop" 355 yX11_isDigit : Cond) ∈ TW := tw_in (tb_6 (List.mem_of_getElem? (i := 118) rfl)) (by decide +kernel)
theorem tw_1802 : (.code yX11_tapeTellsFor cX11_tapeTellsFor 4 (some (.boolean)) : Cond) ∈ TW := tw_in (tb_6 (List.mem_of_getElem? (i := 127) rfl)) (by decide +kernel)
theorem tw_1810 : (.code yX11_areThere cX11_areThere 3 (some (.boolean)) : Cond) ∈ TW := tw_in (tb_6 (List.mem_of_getElem? (i := 135) rfl)) (by decide +kernel)
theorem tw_1811 : (.methodLink "PatternWorkshop" 361 yX11_isTold : Cond) ∈ TW := tw_in (tb_6 (List.mem_of_getElem? (i := 136) rfl)) (by decide +kernel)
theorem tw_1812 : (.static yX11_isTold : Cond) ∈ TW := tw_in (tb_6 (List.mem_of_getElem? (i := 137) rfl)) (by decide +kernel)
theorem tw_1813 : (.code yX11_isTold cX11_isTold 2 (some (.boolean)) : Cond) ∈ TW := tw_in (tb_6 (List.mem_of_getElem? (i := 138) rfl)) (by decide +kernel)
theorem tw_1817 : (.code yX11_refusalOfSome cX11_refusalOfSome 6 (some (.int)) : Cond) ∈ TW := tw_in (tb_6 (List.mem_of_getElem? (i := 142) rfl)) (by decide +kernel)
theorem tw_1825 : (.code yX11_prefix cX11_prefix 7 (some (.int)) : Cond) ∈ TW := tw_in (tb_6 (List.mem_of_getElem? (i := 150) rfl)) (by decide +kernel)
theorem tw_1826 : (.methodLink "PatternWorkshop" 283 yX11_makeTables : Cond) ∈ TW := tw_in (tb_6 (List.mem_of_getElem? (i := 151) rfl)) (by decide +kernel)
theorem tw_1828 : (.instanceMethod yX11_makeTables : Cond) ∈ TW := tw_in (tb_6 (List.mem_of_getElem? (i := 153) rfl)) (by decide +kernel)
theorem tw_1829 : (.code yX11_makeTables cX11_makeTables 3 (some (.int)) : Cond) ∈ TW := tw_in (tb_6 (List.mem_of_getElem? (i := 154) rfl)) (by decide +kernel)
theorem tw_1830 : (.methodLink "PatternWorkshop" 365 yX8_make : Cond) ∈ TW := tw_in (tb_6 (List.mem_of_getElem? (i := 155) rfl)) (by decide +kernel)
theorem tw_1831 : (.instanceMethod yX8_make : Cond) ∈ TW := tw_in (tb_6 (List.mem_of_getElem? (i := 156) rfl)) (by decide +kernel)
theorem tw_1832 : (.selects "PatternWorkshop$Sets" yX8_make yX8_make : Cond) ∈ TW := tw_in (tb_6 (List.mem_of_getElem? (i := 157) rfl)) (by decide +kernel)
theorem tw_1879 : (.methodLink "PatternWorkshop" 287 yX8_longestBeginning : Cond) ∈ TW := tw_in (tb_6 (List.mem_of_getElem? (i := 204) rfl)) (by decide +kernel)
theorem tw_1880 : (.instanceMethod yX8_longestBeginning : Cond) ∈ TW := tw_in (tb_6 (List.mem_of_getElem? (i := 205) rfl)) (by decide +kernel)
theorem tw_1881 : (.selects "PatternWorkshop$Sets" yX8_longestBeginning yX8_longestBeginning : Cond) ∈ TW := tw_in (tb_6 (List.mem_of_getElem? (i := 206) rfl)) (by decide +kernel)
theorem tw_1911 : (.code yX11_steps cX11_steps 1 (some (.int)) : Cond) ∈ TW := tw_in (tb_6 (List.mem_of_getElem? (i := 236) rfl)) (by decide +kernel)
theorem tw_1915 : (.code yX11_table cX11_table 4 (some (.int)) : Cond) ∈ TW := tw_in (tb_7 (List.mem_of_getElem? (i := 0) rfl)) (by decide +kernel)
theorem tw_1919 : (.code yX11_least cX11_least 4 (some (.int)) : Cond) ∈ TW := tw_in (tb_7 (List.mem_of_getElem? (i := 4) rfl)) (by decide +kernel)
theorem tw_1920 : (.methodLink "PatternWorkshop" 298 yX9_fewestStates : Cond) ∈ TW := tw_in (tb_7 (List.mem_of_getElem? (i := 5) rfl)) (by decide +kernel)
theorem tw_1921 : (.instanceMethod yX9_fewestStates : Cond) ∈ TW := tw_in (tb_7 (List.mem_of_getElem? (i := 6) rfl)) (by decide +kernel)
theorem tw_1922 : (.selects "PatternWorkshop$Table" yX9_fewestStates yX9_fewestStates : Cond) ∈ TW := tw_in (tb_7 (List.mem_of_getElem? (i := 7) rfl)) (by decide +kernel)
theorem tw_1940 : (.code yX11_compare cX11_compare 6 (some (.int)) : Cond) ∈ TW := tw_in (tb_7 (List.mem_of_getElem? (i := 25) rfl)) (by decide +kernel)
theorem tw_1941 : (.methodLink "PatternWorkshop" 301 yX8_walkBoth : Cond) ∈ TW := tw_in (tb_7 (List.mem_of_getElem? (i := 26) rfl)) (by decide +kernel)
theorem tw_1942 : (.instanceMethod yX8_walkBoth : Cond) ∈ TW := tw_in (tb_7 (List.mem_of_getElem? (i := 27) rfl)) (by decide +kernel)
theorem tw_1943 : (.selects "PatternWorkshop$Sets" yX8_walkBoth yX8_walkBoth : Cond) ∈ TW := tw_in (tb_7 (List.mem_of_getElem? (i := 28) rfl)) (by decide +kernel)
theorem tw_1959 : (.code yX11_parting cX11_parting 6 (some (.int)) : Cond) ∈ TW := tw_in (tb_7 (List.mem_of_getElem? (i := 44) rfl)) (by decide +kernel)
theorem tw_1960 : (.methodLink "PatternWorkshop" 310 yX8_writeParting : Cond) ∈ TW := tw_in (tb_7 (List.mem_of_getElem? (i := 45) rfl)) (by decide +kernel)
theorem tw_1961 : (.instanceMethod yX8_writeParting : Cond) ∈ TW := tw_in (tb_7 (List.mem_of_getElem? (i := 46) rfl)) (by decide +kernel)
theorem tw_1962 : (.selects "PatternWorkshop$Sets" yX8_writeParting yX8_writeParting : Cond) ∈ TW := tw_in (tb_7 (List.mem_of_getElem? (i := 47) rfl)) (by decide +kernel)
theorem tw_1973 : (.code yX11_finding cX11_finding 1 (some (.int)) : Cond) ∈ TW := tw_in (tb_7 (List.mem_of_getElem? (i := 58) rfl)) (by decide +kernel)
theorem tw_1977 : (.code yX11_told cX11_told 2 (some (.int)) : Cond) ∈ TW := tw_in (tb_7 (List.mem_of_getElem? (i := 62) rfl)) (by decide +kernel)
theorem tw_1978 : (.methodLink "PatternWorkshop" 314 yX11_patternsThere : Cond) ∈ TW := tw_in (tb_7 (List.mem_of_getElem? (i := 63) rfl)) (by decide +kernel)
theorem tw_1980 : (.instanceMethod yX11_patternsThere : Cond) ∈ TW := tw_in (tb_7 (List.mem_of_getElem? (i := 65) rfl)) (by decide +kernel)
theorem tw_1981 : (.code yX11_patternsThere cX11_patternsThere 3 (some (.int)) : Cond) ∈ TW := tw_in (tb_7 (List.mem_of_getElem? (i := 66) rfl)) (by decide +kernel)
theorem tw_1982 : (.methodLink "PatternWorkshop" 317 yX11_subjectsThere : Cond) ∈ TW := tw_in (tb_7 (List.mem_of_getElem? (i := 67) rfl)) (by decide +kernel)
theorem tw_1984 : (.instanceMethod yX11_subjectsThere : Cond) ∈ TW := tw_in (tb_7 (List.mem_of_getElem? (i := 69) rfl)) (by decide +kernel)
theorem tw_1985 : (.code yX11_subjectsThere cX11_subjectsThere 3 (some (.int)) : Cond) ∈ TW := tw_in (tb_7 (List.mem_of_getElem? (i := 70) rfl)) (by decide +kernel)
theorem tw_1989 : (.code yX11_clear cX11_clear 3 (some (.int)) : Cond) ∈ TW := tw_in (tb_7 (List.mem_of_getElem? (i := 74) rfl)) (by decide +kernel)
theorem gw_X11_areThere : GoodIn TW (WS yX11_areThere cX11_areThere 3 (some (.boolean))) := goodC tw_1810
theorem gw_X11_begins : GoodIn TW (WS yX11_begins cX11_begins 4 (some (.int))) := goodC tw_1286
theorem gw_X11_byteOf : GoodIn TW (WS yX11_byteOf cX11_byteOf 3 (some (.int))) := goodC tw_861
theorem gw_X11_capturesOfFound : GoodIn TW (WS yX11_capturesOfFound cX11_capturesOfFound 1 (some (.int))) := goodC tw_1766
theorem gw_X11_clear : GoodIn TW (WS yX11_clear cX11_clear 3 (some (.int))) := goodC tw_1989
theorem gw_X11_compare : GoodIn TW (WS yX11_compare cX11_compare 6 (some (.int))) := goodC tw_1940
theorem gw_X11_dead : GoodIn TW (WS yX11_dead cX11_dead 4 (some (.int))) := goodC tw_1376
theorem gw_X11_draftReplacement : GoodIn TW (WS yX11_draftReplacement cX11_draftReplacement 6 none) := goodC tw_1792
theorem gw_X11_drop : GoodIn TW (WS yX11_drop cX11_drop 4 (some (.int))) := goodC tw_1421
theorem gw_X11_endSearch : GoodIn TW (WS yX11_endSearch cX11_endSearch 1 none) := goodC tw_1139
theorem gw_X11_endSearchOver : GoodIn TW (WS yX11_endSearchOver cX11_endSearchOver 2 none) := goodC tw_1417
theorem gw_X11_endSearchWithSlot : GoodIn TW (WS yX11_endSearchWithSlot cX11_endSearchWithSlot 2 none) := goodC tw_1135
theorem gw_X11_feed : GoodIn TW (WS yX11_feed cX11_feed 5 (some (.int))) := goodC tw_858
theorem gw_X11_finding : GoodIn TW (WS yX11_finding cX11_finding 1 (some (.int))) := goodC tw_1973
theorem gw_X11_forget : GoodIn TW (WS yX11_forget cX11_forget 3 (some (.int))) := goodC tw_1147
theorem gw_X11_isMachine : GoodIn TW (WS yX11_isMachine cX11_isMachine 1 (some (.boolean))) := goodC tw_1436
theorem gw_X11_isSlot : GoodIn TW (WS yX11_isSlot cX11_isSlot 1 (some (.boolean))) := goodC tw_875
theorem gw_X11_isStepCount : GoodIn TW (WS yX11_isStepCount cX11_isStepCount 1 (some (.boolean))) := goodC tw_1439
theorem gw_X11_isSubject : GoodIn TW (WS yX11_isSubject cX11_isSubject 1 (some (.boolean))) := goodC tw_1413
theorem gw_X11_isTold : GoodIn TW (WS yX11_isTold cX11_isTold 2 (some (.boolean))) := goodC tw_1813
theorem gw_X11_keepSpans : GoodIn TW (WS yX11_keepSpans cX11_keepSpans 2 (some (.int))) := goodC tw_1754
theorem gw_X11_least : GoodIn TW (WS yX11_least cX11_least 4 (some (.int))) := goodC tw_1919
theorem gw_X11_makeTables : GoodIn TW (WS yX11_makeTables cX11_makeTables 3 (some (.int))) := goodC tw_1829
theorem gw_X11_named : GoodIn TW (WS yX11_named cX11_named 4 (some (.int))) := goodC tw_1770
theorem gw_X11_node : GoodIn TW (WS yX11_node cX11_node 6 (some (.int))) := goodC tw_1155
theorem gw_X11_part : GoodIn TW (WS yX11_part cX11_part 6 (some (.int))) := goodC tw_1178
theorem gw_X11_parting : GoodIn TW (WS yX11_parting cX11_parting 6 (some (.int))) := goodC tw_1959
theorem gw_X11_patternIn : GoodIn TW (WS yX11_patternIn cX11_patternIn 2 (some (.object "PatternWorkshop$Tree"))) := goodC tw_1151
theorem gw_X11_patternsThere : GoodIn TW (WS yX11_patternsThere cX11_patternsThere 3 (some (.int))) := goodC tw_1981
theorem gw_X11_place : GoodIn TW (WS yX11_place cX11_place 1 (some (.int))) := goodC tw_1143
theorem gw_X11_prefix : GoodIn TW (WS yX11_prefix cX11_prefix 7 (some (.int))) := goodC tw_1825
theorem gw_X11_print : GoodIn TW (WS yX11_print cX11_print 3 (some (.int))) := goodC tw_1191
theorem gw_X11_put : GoodIn TW (WS yX11_put cX11_put 7 (some (.int))) := goodC tw_1410
theorem gw_X11_refusalByMachine : GoodIn TW (WS yX11_refusalByMachine cX11_refusalByMachine 2 (some (.int))) := goodC tw_1442
theorem gw_X11_refusalOfSome : GoodIn TW (WS yX11_refusalOfSome cX11_refusalOfSome 6 (some (.int))) := goodC tw_1817
theorem gw_X11_refusalOfSubject : GoodIn TW (WS yX11_refusalOfSubject cX11_refusalOfSubject 2 (some (.int))) := goodC tw_1429
theorem gw_X11_risky : GoodIn TW (WS yX11_risky cX11_risky 3 (some (.int))) := goodC tw_1324
theorem gw_X11_sortThatTells : GoodIn TW (WS yX11_sortThatTells cX11_sortThatTells 1 (some (.int))) := goodC tw_1168
theorem gw_X11_span : GoodIn TW (WS yX11_span cX11_span 3 (some (.int))) := goodC tw_1762
theorem gw_X11_steps : GoodIn TW (WS yX11_steps cX11_steps 1 (some (.int))) := goodC tw_1911
theorem gw_X11_subjectAt : GoodIn TW (WS yX11_subjectAt cX11_subjectAt 2 (some (.object "PatternWorkshop$Row"))) := goodC tw_1425
theorem gw_X11_subjectsThere : GoodIn TW (WS yX11_subjectsThere cX11_subjectsThere 3 (some (.int))) := goodC tw_1985
theorem gw_X11_table : GoodIn TW (WS yX11_table cX11_table 4 (some (.int))) := goodC tw_1915
theorem gw_X11_tapeTellsFor : GoodIn TW (WS yX11_tapeTellsFor cX11_tapeTellsFor 4 (some (.boolean))) := goodC tw_1802
theorem gw_X11_tellRow : GoodIn TW (WS yX11_tellRow cX11_tellRow 2 none) := goodC tw_1271
theorem gw_X11_told : GoodIn TW (WS yX11_told cX11_told 2 (some (.int))) := goodC tw_1977
