abbrev oX11 (z0 : Value) (z1 : Value) (z2 : Value) (z3 : Value) (z4 : Bool) (z5 : Value) (z6 : Value) (z7 : Value) (z8 : Value) (z9 : Value) (z10 : Value) (z11 : Value) (z12 : Value) (z13 : Int32) (z14 : Int32) (z15 : Int32) (z16 : Int32) (z17 : Int32) : List Value := [z0, z1, z2, z3, .int (bz z4), z5, z6, z7, z8, z9, z10, z11, z12, .int z13, .int z14, .int z15, .int z16, .int z17]
abbrev cX11_areThere : ByteArray := prog_1_method_64_code
def yX11_areThere : MethodName := ⟨RX11, "areThere", "(I)Z"⟩
abbrev cX11_begins : ByteArray := prog_1_method_9_code
def yX11_begins : MethodName := ⟨RX11, "begins", "(II)I"⟩
abbrev cX11_byteOf : ByteArray := prog_1_method_44_code
def yX11_byteOf : MethodName := ⟨RX11, "byteOf", "(JI)I"⟩
abbrev cX11_capturesOfFound : ByteArray := prog_1_method_59_code
def yX11_capturesOfFound : MethodName := ⟨RX11, "capturesOfFound", "()I"⟩
abbrev cX11_clear : ByteArray := prog_1_method_32_code
def yX11_clear : MethodName := ⟨RX11, "clear", "()I"⟩
abbrev cX11_compare : ByteArray := prog_1_method_27_code
def yX11_compare : MethodName := ⟨RX11, "compare", "(II)I"⟩
abbrev cX11_dead : ByteArray := prog_1_method_11_code
def yX11_dead : MethodName := ⟨RX11, "dead", "(II)I"⟩
abbrev cX11_draftReplacement : ByteArray := prog_1_method_61_code
def yX11_draftReplacement : MethodName := ⟨RX11, "draftReplacement", "(LPatternWorkshop$Row;)V"⟩
abbrev cX11_drop : ByteArray := prog_1_method_13_code
def yX11_drop : MethodName := ⟨RX11, "drop", "(I)I"⟩
abbrev cX11_endSearch : ByteArray := prog_1_method_54_code
def yX11_endSearch : MethodName := ⟨RX11, "endSearch", "()V"⟩
abbrev cX11_endSearchOver : ByteArray := prog_1_method_56_code
def yX11_endSearchOver : MethodName := ⟨RX11, "endSearchOver", "(I)V"⟩
abbrev cX11_endSearchWithSlot : ByteArray := prog_1_method_55_code
def yX11_endSearchWithSlot : MethodName := ⟨RX11, "endSearchWithSlot", "(I)V"⟩
abbrev cX11_feed : ByteArray := prog_1_method_2_code
def yX11_feed : MethodName := ⟨RX11, "feed", "(IJ)I"⟩
abbrev cX11_finding : ByteArray := prog_1_method_30_code
def yX11_finding : MethodName := ⟨RX11, "finding", "()I"⟩
abbrev cX11_forget : ByteArray := prog_1_method_5_code
def yX11_forget : MethodName := ⟨RX11, "forget", "(I)I"⟩
abbrev cX11_isMachine : ByteArray := prog_1_method_35_code
def yX11_isMachine : MethodName := ⟨RX11, "isMachine", "(I)Z"⟩
abbrev cX11_isSlot : ByteArray := prog_1_method_33_code
def yX11_isSlot : MethodName := ⟨RX11, "isSlot", "(I)Z"⟩
abbrev cX11_isStepCount : ByteArray := prog_1_method_36_code
def yX11_isStepCount : MethodName := ⟨RX11, "isStepCount", "(I)Z"⟩
abbrev cX11_isSubject : ByteArray := prog_1_method_34_code
def yX11_isSubject : MethodName := ⟨RX11, "isSubject", "(I)Z"⟩
abbrev cX11_isTold : ByteArray := prog_1_method_63_code
def yX11_isTold : MethodName := ⟨RX11, "isTold", "(II)Z"⟩
abbrev cX11_keepSpans : ByteArray := prog_1_method_58_code
def yX11_keepSpans : MethodName := ⟨RX11, "keepSpans", "(I)I"⟩
abbrev cX11_least : ByteArray := prog_1_method_26_code
def yX11_least : MethodName := ⟨RX11, "least", "(I)I"⟩
abbrev cX11_makeTables : ByteArray := prog_1_method_67_code
def yX11_makeTables : MethodName := ⟨RX11, "makeTables", "(LPatternWorkshop$Tree;LPatternWorkshop$Tree;)I"⟩
abbrev cX11_named : ByteArray := prog_1_method_18_code
def yX11_named : MethodName := ⟨RX11, "named", "(II)I"⟩
abbrev cX11_node : ByteArray := prog_1_method_6_code
def yX11_node : MethodName := ⟨RX11, "node", "(III)I"⟩
abbrev cX11_part : ByteArray := prog_1_method_7_code
def yX11_part : MethodName := ⟨RX11, "part", "(IIIZ)I"⟩
abbrev cX11_parting : ByteArray := prog_1_method_28_code
def yX11_parting : MethodName := ⟨RX11, "parting", "(II)I"⟩
abbrev cX11_patternIn : ByteArray := prog_1_method_47_code
def yX11_patternIn : MethodName := ⟨RX11, "patternIn", "(I)LPatternWorkshop$Tree;"⟩
abbrev cX11_patternsThere : ByteArray := prog_1_method_51_code
def yX11_patternsThere : MethodName := ⟨RX11, "patternsThere", "()I"⟩
abbrev cX11_place : ByteArray := prog_1_method_4_code
def yX11_place : MethodName := ⟨RX11, "place", "()I"⟩
abbrev cX11_prefix : ByteArray := prog_1_method_23_code
def yX11_prefix : MethodName := ⟨RX11, "prefix", "(III)I"⟩
abbrev cX11_print : ByteArray := prog_1_method_8_code
def yX11_print : MethodName := ⟨RX11, "print", "(I)I"⟩
abbrev cX11_put : ByteArray := prog_1_method_12_code
def yX11_put : MethodName := ⟨RX11, "put", "(IIJ)I"⟩
abbrev cX11_refusalByMachine : ByteArray := prog_1_method_50_code
def yX11_refusalByMachine : MethodName := ⟨RX11, "refusalByMachine", "(LPatternWorkshop$Tree;I)I"⟩
abbrev cX11_refusalOfSome : ByteArray := prog_1_method_65_code
def yX11_refusalOfSome : MethodName := ⟨RX11, "refusalOfSome", "(II)I"⟩
abbrev cX11_refusalOfSubject : ByteArray := prog_1_method_49_code
def yX11_refusalOfSubject : MethodName := ⟨RX11, "refusalOfSubject", "(I)I"⟩
abbrev cX11_risky : ByteArray := prog_1_method_10_code
def yX11_risky : MethodName := ⟨RX11, "risky", "(I)I"⟩
abbrev cX11_sortThatTells : ByteArray := prog_1_method_46_code
def yX11_sortThatTells : MethodName := ⟨RX11, "sortThatTells", "(I)I"⟩
abbrev cX11_span : ByteArray := prog_1_method_17_code
def yX11_span : MethodName := ⟨RX11, "span", "(IZ)I"⟩
abbrev cX11_steps : ByteArray := prog_1_method_24_code
def yX11_steps : MethodName := ⟨RX11, "steps", "()I"⟩
abbrev cX11_subjectAt : ByteArray := prog_1_method_48_code
def yX11_subjectAt : MethodName := ⟨RX11, "subjectAt", "(I)LPatternWorkshop$Row;"⟩
abbrev cX11_subjectsThere : ByteArray := prog_1_method_52_code
def yX11_subjectsThere : MethodName := ⟨RX11, "subjectsThere", "()I"⟩
abbrev cX11_table : ByteArray := prog_1_method_25_code
def yX11_table : MethodName := ⟨RX11, "table", "(I)I"⟩
abbrev cX11_tapeTellsFor : ByteArray := prog_1_method_62_code
def yX11_tapeTellsFor : MethodName := ⟨RX11, "tapeTellsFor", "(LPatternWorkshop$Tree;)Z"⟩
abbrev cX11_tellRow : ByteArray := prog_1_method_53_code
def yX11_tellRow : MethodName := ⟨RX11, "tellRow", "(Z)V"⟩
abbrev cX11_told : ByteArray := prog_1_method_31_code
def yX11_told : MethodName := ⟨RX11, "told", "(I)I"⟩
theorem tw_38 : (.selects "PatternWorkshop" yX11_endSearchWithSlot yX11_endSearchWithSlot : Cond) ∈ TW := tw_of 38 (by decide +kernel) (by decide +kernel)
theorem tw_39 : (.selects "PatternWorkshop" yX11_endSearch yX11_endSearch : Cond) ∈ TW := tw_of 39 (by decide +kernel) (by decide +kernel)
theorem tw_40 : (.selects "PatternWorkshop" yX11_patternIn yX11_patternIn : Cond) ∈ TW := tw_of 40 (by decide +kernel) (by decide +kernel)
theorem tw_52 : (.selects "PatternWorkshop" yX11_tellRow yX11_tellRow : Cond) ∈ TW := tw_of 52 (by decide +kernel) (by decide +kernel)
theorem tw_66 : (.selects "PatternWorkshop" yX11_endSearchOver yX11_endSearchOver : Cond) ∈ TW := tw_of 66 (by decide +kernel) (by decide +kernel)
theorem tw_67 : (.selects "PatternWorkshop" yX11_subjectAt yX11_subjectAt : Cond) ∈ TW := tw_of 67 (by decide +kernel) (by decide +kernel)
theorem tw_68 : (.selects "PatternWorkshop" yX11_refusalOfSubject yX11_refusalOfSubject : Cond) ∈ TW := tw_of 68 (by decide +kernel) (by decide +kernel)
theorem tw_122 : (.selects "PatternWorkshop" yX11_capturesOfFound yX11_capturesOfFound : Cond) ∈ TW := tw_of 122 (by decide +kernel) (by decide +kernel)
theorem tw_129 : (.selects "PatternWorkshop" yX11_makeTables yX11_makeTables : Cond) ∈ TW := tw_of 129 (by decide +kernel) (by decide +kernel)
theorem tw_144 : (.selects "PatternWorkshop" yX11_patternsThere yX11_patternsThere : Cond) ∈ TW := tw_of 144 (by decide +kernel) (by decide +kernel)
theorem tw_145 : (.selects "PatternWorkshop" yX11_subjectsThere yX11_subjectsThere : Cond) ∈ TW := tw_of 145 (by decide +kernel) (by decide +kernel)
theorem tw_285 : (.fieldLink "PatternWorkshop" 171 "PatternWorkshop$Row" "over" "Z" : Cond) ∈ TW := tw_in (tb_0 (List.mem_of_getElem? (i := 50) rfl)) (by decide +kernel)
theorem tw_286 : (.fieldLink "PatternWorkshop" 205 "PatternWorkshop$Row" "there" "Z" : Cond) ∈ TW := tw_in (tb_0 (List.mem_of_getElem? (i := 51) rfl)) (by decide +kernel)
theorem tw_318 : (.fieldLink "PatternWorkshop" 120 "PatternWorkshop$Tree" "there" "Z" : Cond) ∈ TW := tw_in (tb_0 (List.mem_of_getElem? (i := 83) rfl)) (by decide +kernel)
theorem tw_325 : (.fieldLink "PatternWorkshop" 358 "PatternWorkshop$Tree" "captures" "I" : Cond) ∈ TW := tw_in (tb_0 (List.mem_of_getElem? (i := 90) rfl)) (by decide +kernel)
theorem tw_702 : (.fieldLink "PatternWorkshop" 295 "PatternWorkshop$Table" "count" "I" : Cond) ∈ TW := tw_in (tb_1 (List.mem_of_getElem? (i := 227) rfl)) (by decide +kernel)
theorem tw_759 : (.fieldLink "PatternWorkshop" 185 "PatternWorkshop$Sets" "alphabet" "LPatternWorkshop$Alphabet;" : Cond) ∈ TW := tw_in (tb_2 (List.mem_of_getElem? (i := 44) rfl)) (by decide +kernel)
theorem tw_761 : (.fieldLink "PatternWorkshop" 291 "PatternWorkshop$Sets" "one" "LPatternWorkshop$Table;" : Cond) ∈ TW := tw_in (tb_2 (List.mem_of_getElem? (i := 46) rfl)) (by decide +kernel)
theorem tw_764 : (.fieldLink "PatternWorkshop" 304 "PatternWorkshop$Sets" "onlyInOne" "Z" : Cond) ∈ TW := tw_in (tb_2 (List.mem_of_getElem? (i := 49) rfl)) (by decide +kernel)
theorem tw_766 : (.fieldLink "PatternWorkshop" 307 "PatternWorkshop$Sets" "onlyInOther" "Z" : Cond) ∈ TW := tw_in (tb_2 (List.mem_of_getElem? (i := 51) rfl)) (by decide +kernel)
theorem tw_804 : (.fieldLink "PatternWorkshop" 320 "PatternWorkshop" "outHasNumbers" "Z" : Cond) ∈ TW := tw_in (tb_2 (List.mem_of_getElem? (i := 89) rfl)) (by decide +kernel)
theorem tw_814 : (.fieldLink "PatternWorkshop" 146 "PatternWorkshop" "latestFinding" "I" : Cond) ∈ TW := tw_in (tb_2 (List.mem_of_getElem? (i := 99) rfl)) (by decide +kernel)
theorem tw_815 : (.fieldLink "PatternWorkshop" 249 "PatternWorkshop" "latestSteps" "I" : Cond) ∈ TW := tw_in (tb_2 (List.mem_of_getElem? (i := 100) rfl)) (by decide +kernel)
theorem tw_858 : (.code yX11_feed cX11_feed 5 (some (.int)) : Cond) ∈ TW := tw_in (tb_2 (List.mem_of_getElem? (i := 143) rfl)) (by decide +kernel)
theorem tw_859 : (.methodLink "PatternWorkshop" 88 yX11_byteOf : Cond) ∈ TW := tw_in (tb_2 (List.mem_of_getElem? (i := 144) rfl)) (by decide +kernel)
theorem tw_860 : (.static yX11_byteOf : Cond) ∈ TW := tw_in (tb_2 (List.mem_of_getElem? (i := 145) rfl)) (by decide +kernel)
theorem tw_861 : (.code yX11_byteOf cX11_byteOf 3 (some (.int)) : Cond) ∈ TW := tw_in (tb_2 (List.mem_of_getElem? (i := 146) rfl)) (by decide +kernel)
theorem tw_865 : (.methodLink "PatternWorkshop" 99 yX7_add : Cond) ∈ TW := tw_in (tb_2 (List.mem_of_getElem? (i := 150) rfl)) (by decide +kernel)
theorem tw_873 : (.methodLink "PatternWorkshop" 102 yX11_isSlot : Cond) ∈ TW := tw_in (tb_2 (List.mem_of_getElem? (i := 158) rfl)) (by decide +kernel)
theorem tw_874 : (.static yX11_isSlot : Cond) ∈ TW := tw_in (tb_2 (List.mem_of_getElem? (i := 159) rfl)) (by decide +kernel)
theorem tw_875 : (.code yX11_isSlot cX11_isSlot 1 (some (.boolean)) : Cond) ∈ TW := tw_in (tb_2 (List.mem_of_getElem? (i := 160) rfl)) (by decide +kernel)
theorem tw_1124 : (.methodLink "PatternWorkshop" 109 yX7_empty : Cond) ∈ TW := tw_in (tb_3 (List.mem_of_getElem? (i := 169) rfl)) (by decide +kernel)
theorem tw_1132 : (.methodLink "PatternWorkshop" 124 yX11_endSearchWithSlot : Cond) ∈ TW := tw_in (tb_3 (List.mem_of_getElem? (i := 177) rfl)) (by decide +kernel)
theorem tw_1134 : (.instanceMethod yX11_endSearchWithSlot : Cond) ∈ TW := tw_in (tb_3 (List.mem_of_getElem? (i := 179) rfl)) (by decide +kernel)
theorem tw_1135 : (.code yX11_endSearchWithSlot cX11_endSearchWithSlot 2 none : Cond) ∈ TW := tw_in (tb_3 (List.mem_of_getElem? (i := 180) rfl)) (by decide +kernel)
theorem tw_1136 : (.methodLink "PatternWorkshop" 252 yX11_endSearch : Cond) ∈ TW := tw_in (tb_3 (List.mem_of_getElem? (i := 181) rfl)) (by decide +kernel)
theorem tw_1138 : (.instanceMethod yX11_endSearch : Cond) ∈ TW := tw_in (tb_3 (List.mem_of_getElem? (i := 183) rfl)) (by decide +kernel)
theorem tw_1139 : (.code yX11_endSearch cX11_endSearch 1 none : Cond) ∈ TW := tw_in (tb_3 (List.mem_of_getElem? (i := 184) rfl)) (by decide +kernel)
theorem tw_1143 : (.code yX11_place cX11_place 1 (some (.int)) : Cond) ∈ TW := tw_in (tb_3 (List.mem_of_getElem? (i := 188) rfl)) (by decide +kernel)
theorem tw_1147 : (.code yX11_forget cX11_forget 3 (some (.int)) : Cond) ∈ TW := tw_in (tb_3 (List.mem_of_getElem? (i := 192) rfl)) (by decide +kernel)
theorem tw_1148 : (.methodLink "PatternWorkshop" 128 yX11_patternIn : Cond) ∈ TW := tw_in (tb_3 (List.mem_of_getElem? (i := 193) rfl)) (by decide +kernel)
theorem tw_1150 : (.instanceMethod yX11_patternIn : Cond) ∈ TW := tw_in (tb_3 (List.mem_of_getElem? (i := 195) rfl)) (by decide +kernel)
theorem tw_1151 : (.code yX11_patternIn cX11_patternIn 2 (some (.object "PatternWorkshop$Tree")) : Cond) ∈ TW := tw_in (tb_3 (List.mem_of_getElem? (i := 196) rfl)) (by decide +kernel)
theorem tw_1155 : (.code yX11_node cX11_node 6 (some (.int)) : Cond) ∈ TW := tw_in (tb_3 (List.mem_of_getElem? (i := 200) rfl)) (by decide +kernel)
theorem tw_1156 : (.methodLink "PatternWorkshop" 132 yX10_has : Cond) ∈ TW := tw_in (tb_3 (List.mem_of_getElem? (i := 201) rfl)) (by decide +kernel)
theorem tw_1157 : (.methodLink "PatternWorkshop" 135 yX10_tellOfAll : Cond) ∈ TW := tw_in (tb_3 (List.mem_of_getElem? (i := 202) rfl)) (by decide +kernel)
theorem tw_1158 : (.instanceMethod yX10_tellOfAll : Cond) ∈ TW := tw_in (tb_3 (List.mem_of_getElem? (i := 203) rfl)) (by decide +kernel)
theorem tw_1159 : (.selects "PatternWorkshop$Tree" yX10_tellOfAll yX10_tellOfAll : Cond) ∈ TW := tw_in (tb_3 (List.mem_of_getElem? (i := 204) rfl)) (by decide +kernel)
theorem tw_1165 : (.methodLink "PatternWorkshop" 139 yX10_sortOf : Cond) ∈ TW := tw_in (tb_3 (List.mem_of_getElem? (i := 210) rfl)) (by decide +kernel)
theorem tw_1166 : (.methodLink "PatternWorkshop" 143 yX11_sortThatTells : Cond) ∈ TW := tw_in (tb_3 (List.mem_of_getElem? (i := 211) rfl)) (by decide +kernel)
theorem tw_1167 : (.static yX11_sortThatTells : Cond) ∈ TW := tw_in (tb_3 (List.mem_of_getElem? (i := 212) rfl)) (by decide +kernel)
theorem tw_1168 : (.code yX11_sortThatTells cX11_sortThatTells 1 (some (.int)) : Cond) ∈ TW := tw_in (tb_3 (List.mem_of_getElem? (i := 213) rfl)) (by decide +kernel)
theorem tw_1169 : (.methodLink "PatternWorkshop" 149 yX10_lowOf : Cond) ∈ TW := tw_in (tb_3 (List.mem_of_getElem? (i := 214) rfl)) (by decide +kernel)
theorem tw_1170 : (.methodLink "PatternWorkshop" 152 yX10_highOf : Cond) ∈ TW := tw_in (tb_3 (List.mem_of_getElem? (i := 215) rfl)) (by decide +kernel)
theorem tw_1171 : (.methodLink "PatternWorkshop" 155 yX10_valueOf : Cond) ∈ TW := tw_in (tb_3 (List.mem_of_getElem? (i := 216) rfl)) (by decide +kernel)
theorem tw_1178 : (.code yX11_part cX11_part 6 (some (.int)) : Cond) ∈ TW := tw_in (tb_3 (List.mem_of_getElem? (i := 223) rfl)) (by decide +kernel)
theorem tw_1179 : (.methodLink "PatternWorkshop" 158 yX10_partsOf : Cond) ∈ TW := tw_in (tb_3 (List.mem_of_getElem? (i := 224) rfl)) (by decide +kernel)
theorem tw_1180 : (.methodLink "PatternWorkshop" 161 yX10_partEnd : Cond) ∈ TW := tw_in (tb_3 (List.mem_of_getElem? (i := 225) rfl)) (by decide +kernel)
theorem tw_1184 : (.methodLink "PatternWorkshop" 164 yX10_partBegin : Cond) ∈ TW := tw_in (tb_3 (List.mem_of_getElem? (i := 229) rfl)) (by decide +kernel)
theorem tw_1191 : (.code yX11_print cX11_print 3 (some (.int)) : Cond) ∈ TW := tw_in (tb_3 (List.mem_of_getElem? (i := 236) rfl)) (by decide +kernel)
theorem tw_1192 : (.methodLink "PatternWorkshop" 167 yX4_write : Cond) ∈ TW := tw_in (tb_3 (List.mem_of_getElem? (i := 237) rfl)) (by decide +kernel)
theorem tw_1193 : (.instanceMethod yX4_write : Cond) ∈ TW := tw_in (tb_3 (List.mem_of_getElem? (i := 238) rfl)) (by decide +kernel)
theorem tw_1194 : (.selects "PatternWorkshop$Printer" yX4_write yX4_write : Cond) ∈ TW := tw_in (tb_3 (List.mem_of_getElem? (i := 239) rfl)) (by decide +kernel)
theorem tw_1268 : (.methodLink "PatternWorkshop" 174 yX11_tellRow : Cond) ∈ TW := tw_in (tb_4 (List.mem_of_getElem? (i := 73) rfl)) (by decide +kernel)
theorem tw_1270 : (.instanceMethod yX11_tellRow : Cond) ∈ TW := tw_in (tb_4 (List.mem_of_getElem? (i := 75) rfl)) (by decide +kernel)
theorem tw_1271 : (.code yX11_tellRow cX11_tellRow 2 none : Cond) ∈ TW := tw_in (tb_4 (List.mem_of_getElem? (i := 76) rfl)) (by decide +kernel)
theorem tw_1272 : (.methodLink "PatternWorkshop" 332 yX7_take : Cond) ∈ TW := tw_in (tb_4 (List.mem_of_getElem? (i := 77) rfl)) (by decide +kernel)
theorem tw_1273 : (.instanceMethod yX7_take : Cond) ∈ TW := tw_in (tb_4 (List.mem_of_getElem? (i := 78) rfl)) (by decide +kernel)
theorem tw_1274 : (.selects "PatternWorkshop$Row" yX7_take yX7_take : Cond) ∈ TW := tw_in (tb_4 (List.mem_of_getElem? (i := 79) rfl)) (by decide +kernel)
theorem tw_1286 : (.code yX11_begins cX11_begins 4 (some (.int)) : Cond) ∈ TW := tw_in (tb_4 (List.mem_of_getElem? (i := 91) rfl)) (by decide +kernel)
theorem tw_1287 : (.constant "PatternWorkshop" 178 65535 : Cond) ∈ TW := tw_in (tb_4 (List.mem_of_getElem? (i := 92) rfl)) (by decide +kernel)
theorem tw_1288 : (.methodLink "PatternWorkshop" 179 yX10_markBeginning : Cond) ∈ TW := tw_in (tb_4 (List.mem_of_getElem? (i := 93) rfl)) (by decide +kernel)
theorem tw_1320 : (.methodLink "PatternWorkshop" 182 yX10_isMarked : Cond) ∈ TW := tw_in (tb_4 (List.mem_of_getElem? (i := 125) rfl)) (by decide +kernel)
theorem tw_1324 : (.code yX11_risky cX11_risky 3 (some (.int)) : Cond) ∈ TW := tw_in (tb_4 (List.mem_of_getElem? (i := 129) rfl)) (by decide +kernel)
theorem tw_1325 : (.methodLink "PatternWorkshop" 189 yX0_gather : Cond) ∈ TW := tw_in (tb_4 (List.mem_of_getElem? (i := 130) rfl)) (by decide +kernel)
theorem tw_1355 : (.methodLink "PatternWorkshop" 195 yX10_firstRisky : Cond) ∈ TW := tw_in (tb_4 (List.mem_of_getElem? (i := 160) rfl)) (by decide +kernel)
theorem tw_1356 : (.instanceMethod yX10_firstRisky : Cond) ∈ TW := tw_in (tb_4 (List.mem_of_getElem? (i := 161) rfl)) (by decide +kernel)
theorem tw_1357 : (.selects "PatternWorkshop$Tree" yX10_firstRisky yX10_firstRisky : Cond) ∈ TW := tw_in (tb_4 (List.mem_of_getElem? (i := 162) rfl)) (by decide +kernel)
theorem tw_1376 : (.code yX11_dead cX11_dead 4 (some (.int)) : Cond) ∈ TW := tw_in (tb_4 (List.mem_of_getElem? (i := 181) rfl)) (by decide +kernel)
theorem tw_1377 : (.methodLink "PatternWorkshop" 199 yX10_deadRow : Cond) ∈ TW := tw_in (tb_4 (List.mem_of_getElem? (i := 182) rfl)) (by decide +kernel)
theorem tw_1378 : (.instanceMethod yX10_deadRow : Cond) ∈ TW := tw_in (tb_4 (List.mem_of_getElem? (i := 183) rfl)) (by decide +kernel)
theorem tw_1379 : (.selects "PatternWorkshop$Tree" yX10_deadRow yX10_deadRow : Cond) ∈ TW := tw_in (tb_4 (List.mem_of_getElem? (i := 184) rfl)) (by decide +kernel)
theorem tw_1410 : (.code yX11_put cX11_put 7 (some (.int)) : Cond) ∈ TW := tw_in (tb_4 (List.mem_of_getElem? (i := 215) rfl)) (by decide +kernel)
theorem tw_1411 : (.methodLink "PatternWorkshop" 202 yX11_isSubject : Cond) ∈ TW := tw_in (tb_4 (List.mem_of_getElem? (i := 216) rfl)) (by decide +kernel)
theorem tw_1412 : (.static yX11_isSubject : Cond) ∈ TW := tw_in (tb_4 (List.mem_of_getElem? (i := 217) rfl)) (by decide +kernel)
theorem tw_1413 : (.code yX11_isSubject cX11_isSubject 1 (some (.boolean)) : Cond) ∈ TW := tw_in (tb_4 (List.mem_of_getElem? (i := 218) rfl)) (by decide +kernel)
theorem tw_1414 : (.methodLink "PatternWorkshop" 206 yX11_endSearchOver : Cond) ∈ TW := tw_in (tb_4 (List.mem_of_getElem? (i := 219) rfl)) (by decide +kernel)
theorem tw_1416 : (.instanceMethod yX11_endSearchOver : Cond) ∈ TW := tw_in (tb_4 (List.mem_of_getElem? (i := 221) rfl)) (by decide +kernel)
theorem tw_1417 : (.code yX11_endSearchOver cX11_endSearchOver 2 none : Cond) ∈ TW := tw_in (tb_4 (List.mem_of_getElem? (i := 222) rfl)) (by decide +kernel)
theorem tw_1421 : (.code yX11_drop cX11_drop 4 (some (.int)) : Cond) ∈ TW := tw_in (tb_4 (List.mem_of_getElem? (i := 226) rfl)) (by decide +kernel)
theorem tw_1422 : (.methodLink "PatternWorkshop" 209 yX11_subjectAt : Cond) ∈ TW := tw_in (tb_4 (List.mem_of_getElem? (i := 227) rfl)) (by decide +kernel)
theorem tw_1424 : (.instanceMethod yX11_subjectAt : Cond) ∈ TW := tw_in (tb_4 (List.mem_of_getElem? (i := 229) rfl)) (by decide +kernel)
theorem tw_1425 : (.code yX11_subjectAt cX11_subjectAt 2 (some (.object "PatternWorkshop$Row")) : Cond) ∈ TW := tw_in (tb_4 (List.mem_of_getElem? (i := 230) rfl)) (by decide +kernel)
theorem tw_1426 : (.methodLink "PatternWorkshop" 213 yX11_refusalOfSubject : Cond) ∈ TW := tw_in (tb_4 (List.mem_of_getElem? (i := 231) rfl)) (by decide +kernel)
theorem tw_1428 : (.instanceMethod yX11_refusalOfSubject : Cond) ∈ TW := tw_in (tb_4 (List.mem_of_getElem? (i := 233) rfl)) (by decide +kernel)
theorem tw_1429 : (.code yX11_refusalOfSubject cX11_refusalOfSubject 2 (some (.int)) : Cond) ∈ TW := tw_in (tb_4 (List.mem_of_getElem? (i := 234) rfl)) (by decide +kernel)
theorem tw_1436 : (.code yX11_isMachine cX11_isMachine 1 (some (.boolean)) : Cond) ∈ TW := tw_in (tb_5 (List.mem_of_getElem? (i := 1) rfl)) (by decide +kernel)
theorem tw_1439 : (.code yX11_isStepCount cX11_isStepCount 1 (some (.boolean)) : Cond) ∈ TW := tw_in (tb_5 (List.mem_of_getElem? (i := 4) rfl)) (by decide +kernel)
theorem tw_1440 : (.methodLink "PatternWorkshop" 231 yX11_refusalByMachine : Cond) ∈ TW := tw_in (tb_5 (List.mem_of_getElem? (i := 5) rfl)) (by decide +kernel)
theorem tw_1441 : (.static yX11_refusalByMachine : Cond) ∈ TW := tw_in (tb_5 (List.mem_of_getElem? (i := 6) rfl)) (by decide +kernel)
theorem tw_1442 : (.code yX11_refusalByMachine cX11_refusalByMachine 2 (some (.int)) : Cond) ∈ TW := tw_in (tb_5 (List.mem_of_getElem? (i := 7) rfl)) (by decide +kernel)
theorem tw_1443 : (.methodLink "PatternWorkshop" 326 yX10_isTakenBy : Cond) ∈ TW := tw_in (tb_5 (List.mem_of_getElem? (i := 8) rfl)) (by decide +kernel)
theorem tw_1444 : (.instanceMethod yX10_isTakenBy : Cond) ∈ TW := tw_in (tb_5 (List.mem_of_getElem? (i := 9) rfl)) (by decide +kernel)
theorem tw_1445 : (.selects "PatternWorkshop$Tree" yX10_isTakenBy yX10_isTakenBy : Cond) ∈ TW := tw_in (tb_5 (List.mem_of_getElem? (i := 10) rfl)) (by decide +kernel)
theorem tw_1451 : (.methodLink "PatternWorkshop" 329 yX10_isTooLargeFor : Cond) ∈ TW := tw_in (tb_5 (List.mem_of_getElem? (i := 16) rfl)) (by decide +kernel)
theorem tw_1452 : (.instanceMethod yX10_isTooLargeFor : Cond) ∈ TW := tw_in (tb_5 (List.mem_of_getElem? (i := 17) rfl)) (by decide +kernel)
theorem tw_1453 : (.selects "PatternWorkshop$Tree" yX10_isTooLargeFor yX10_isTooLargeFor : Cond) ∈ TW := tw_in (tb_5 (List.mem_of_getElem? (i := 18) rfl)) (by decide +kernel)
theorem tw_1754 : (.code yX11_keepSpans cX11_keepSpans 2 (some (.int)) : Cond) ∈ TW := tw_in (tb_6 (List.mem_of_getElem? (i := 79) rfl)) (by decide +kernel)
theorem tw_1762 : (.code yX11_span cX11_span 3 (some (.int)) : Cond) ∈ TW := tw_in (tb_6 (List.mem_of_getElem? (i := 87) rfl)) (by decide +kernel)
theorem tw_1763 : (.methodLink "PatternWorkshop" 255 yX11_capturesOfFound : Cond) ∈ TW := tw_in (tb_6 (List.mem_of_getElem? (i := 88) rfl)) (by decide +kernel)
theorem tw_1765 : (.instanceMethod yX11_capturesOfFound : Cond) ∈ TW := tw_in (tb_6 (List.mem_of_getElem? (i := 90) rfl)) (by decide +kernel)
theorem tw_1766 : (.code yX11_capturesOfFound cX11_capturesOfFound 1 (some (.int)) : Cond) ∈ TW := tw_in (tb_6 (List.mem_of_getElem? (i := 91) rfl)) (by decide +kernel)
theorem tw_1770 : (.code yX11_named cX11_named 4 (some (.int)) : Cond) ∈ TW := tw_in (tb_6 (List.mem_of_getElem? (i := 95) rfl)) (by decide +kernel)
theorem tw_1771 : (.methodLink "PatternWorkshop" 259 yX11_isSmall : Cond) ∈ TW := tw_in (tb_6 (List.mem_of_getElem? (i := 96) rfl)) (by decide +kernel)
theorem tw_1772 : (.methodLink "PatternWorkshop" 262 yX10_captureNamed : Cond) ∈ TW := tw_in (tb_6 (List.mem_of_getElem? (i := 97) rfl)) (by decide +kernel)
theorem tw_1773 : (.instanceMethod yX10_captureNamed : Cond) ∈ TW := tw_in (tb_6 (List.mem_of_getElem? (i := 98) rfl)) (by decide +kernel)
theorem tw_1774 : (.selects "PatternWorkshop$Tree" yX10_captureNamed yX10_captureNamed : Cond) ∈ TW := tw_in (tb_6 (List.mem_of_getElem? (i := 99) rfl)) (by decide +kernel)
theorem tw_1788 : (.methodLink "PatternWorkshop" 343 yX7_addFrom : Cond) ∈ TW := tw_in (tb_6 (List.mem_of_getElem? (i := 113) rfl)) (by decide +kernel)
theorem tw_1792 : (.code yX11_draftReplacement cX11_draftReplacement 6 none : Cond) ∈ TW := tw_in (tb_6 (List.mem_of_getElem? (i := 117) rfl)) (by decide +kernel)
theorem tw_1793 : (.methodLink "PatternWorkshop" 355 yX11_isDigit : Cond) ∈ TW := tw_in (tb_6 (List.mem_of_getElem? (i := 118) rfl)) (by decide +kernel)
theorem tw_1802 : (.code yX11_tapeTellsFor cX11_tapeTellsFor 4 (some (.boolean)) : Cond) ∈ TW := tw_in (tb_6 (List.mem_of_getElem? (i := 127) rfl)) (by decide +kernel)
theorem tw_1810 : (.code yX11_areThere cX11_areThere 3 (some (.boolean)) : Cond) ∈ TW := tw_in (tb_6 (List.mem_of_getElem? (i := 135) rfl)) (by decide +kernel)
theorem tw_1811 : (.methodLink "PatternWorkshop" 361 yX11_isTold : Cond) ∈ TW := tw_in (tb_6 (List.mem_of_getElem? (i := 136) rfl)) (by decide +kernel)
theorem tw_1812 : (.static yX11_isTold : Cond) ∈ TW := tw_in (tb_6 (List.mem_of_getElem? (i := 137) rfl)) (by decide +kernel)
theorem tw_1813 : (.code yX11_isTold cX11_isTold 2 (some (.boolean)) : Cond) ∈ TW := tw_in (tb_6 (List.mem_of_getElem? (i := 138) rfl)) (by decide +kernel)
theorem tw_1817 : (.code yX11_refusalOfSome cX11_refusalOfSome 6 (some (.int)) : Cond) ∈ TW := tw_in (tb_6 (List.mem_of_getElem? (i := 142) rfl)) (by decide +kernel)
theorem tw_1825 : (.code yX11_prefix cX11_prefix 7 (some (.int)) : Cond) ∈ TW := tw_in (tb_6 (List.mem_of_getElem? (i := 150) rfl)) (by decide +kernel)
theorem tw_1826 : (.methodLink "PatternWorkshop" 283 yX11_makeTables : Cond) ∈ TW := tw_in (tb_6 (List.mem_of_getElem? (i := 151) rfl)) (by decide +kernel)
theorem tw_1828 : (.instanceMethod yX11_makeTables : Cond) ∈ TW := tw_in (tb_6 (List.mem_of_getElem? (i := 153) rfl)) (by decide +kernel)
theorem tw_1829 : (.code yX11_makeTables cX11_makeTables 3 (some (.int)) : Cond) ∈ TW := tw_in (tb_6 (List.mem_of_getElem? (i := 154) rfl)) (by decide +kernel)
theorem tw_1830 : (.methodLink "PatternWorkshop" 365 yX8_make : Cond) ∈ TW := tw_in (tb_6 (List.mem_of_getElem? (i := 155) rfl)) (by decide +kernel)
theorem tw_1831 : (.instanceMethod yX8_make : Cond) ∈ TW := tw_in (tb_6 (List.mem_of_getElem? (i := 156) rfl)) (by decide +kernel)
theorem tw_1832 : (.selects "PatternWorkshop$Sets" yX8_make yX8_make : Cond) ∈ TW := tw_in (tb_6 (List.mem_of_getElem? (i := 157) rfl)) (by decide +kernel)
theorem tw_1879 : (.methodLink "PatternWorkshop" 287 yX8_longestBeginning : Cond) ∈ TW := tw_in (tb_6 (List.mem_of_getElem? (i := 204) rfl)) (by decide +kernel)
theorem tw_1880 : (.instanceMethod yX8_longestBeginning : Cond) ∈ TW := tw_in (tb_6 (List.mem_of_getElem? (i := 205) rfl)) (by decide +kernel)
theorem tw_1881 : (.selects "PatternWorkshop$Sets" yX8_longestBeginning yX8_longestBeginning : Cond) ∈ TW := tw_in (tb_6 (List.mem_of_getElem? (i := 206) rfl)) (by decide +kernel)
theorem tw_1911 : (.code yX11_steps cX11_steps 1 (some (.int)) : Cond) ∈ TW := tw_in (tb_6 (List.mem_of_getElem? (i := 236) rfl)) (by decide +kernel)
theorem tw_1915 : (.code yX11_table cX11_table 4 (some (.int)) : Cond) ∈ TW := tw_in (tb_7 (List.mem_of_getElem? (i := 0) rfl)) (by decide +kernel)
theorem tw_1919 : (.code yX11_least cX11_least 4 (some (.int)) : Cond) ∈ TW := tw_in (tb_7 (List.mem_of_getElem? (i := 4) rfl)) (by decide +kernel)
theorem tw_1920 : (.methodLink "PatternWorkshop" 298 yX9_fewestStates : Cond) ∈ TW := tw_in (tb_7 (List.mem_of_getElem? (i := 5) rfl)) (by decide +kernel)
theorem tw_1921 : (.instanceMethod yX9_fewestStates : Cond) ∈ TW := tw_in (tb_7 (List.mem_of_getElem? (i := 6) rfl)) (by decide +kernel)
theorem tw_1922 : (.selects "PatternWorkshop$Table" yX9_fewestStates yX9_fewestStates : Cond) ∈ TW := tw_in (tb_7 (List.mem_of_getElem? (i := 7) rfl)) (by decide +kernel)
theorem tw_1940 : (.code yX11_compare cX11_compare 6 (some (.int)) : Cond) ∈ TW := tw_in (tb_7 (List.mem_of_getElem? (i := 25) rfl)) (by decide +kernel)
theorem tw_1941 : (.methodLink "PatternWorkshop" 301 yX8_walkBoth : Cond) ∈ TW := tw_in (tb_7 (List.mem_of_getElem? (i := 26) rfl)) (by decide +kernel)
theorem tw_1942 : (.instanceMethod yX8_walkBoth : Cond) ∈ TW := tw_in (tb_7 (List.mem_of_getElem? (i := 27) rfl)) (by decide +kernel)
theorem tw_1943 : (.selects "PatternWorkshop$Sets" yX8_walkBoth yX8_walkBoth : Cond) ∈ TW := tw_in (tb_7 (List.mem_of_getElem? (i := 28) rfl)) (by decide +kernel)
theorem tw_1959 : (.code yX11_parting cX11_parting 6 (some (.int)) : Cond) ∈ TW := tw_in (tb_7 (List.mem_of_getElem? (i := 44) rfl)) (by decide +kernel)
theorem tw_1960 : (.methodLink "PatternWorkshop" 310 yX8_writeParting : Cond) ∈ TW := tw_in (tb_7 (List.mem_of_getElem? (i := 45) rfl)) (by decide +kernel)
theorem tw_1961 : (.instanceMethod yX8_writeParting : Cond) ∈ TW := tw_in (tb_7 (List.mem_of_getElem? (i := 46) rfl)) (by decide +kernel)
theorem tw_1962 : (.selects "PatternWorkshop$Sets" yX8_writeParting yX8_writeParting : Cond) ∈ TW := tw_in (tb_7 (List.mem_of_getElem? (i := 47) rfl)) (by decide +kernel)
theorem tw_1973 : (.code yX11_finding cX11_finding 1 (some (.int)) : Cond) ∈ TW := tw_in (tb_7 (List.mem_of_getElem? (i := 58) rfl)) (by decide +kernel)
theorem tw_1977 : (.code yX11_told cX11_told 2 (some (.int)) : Cond) ∈ TW := tw_in (tb_7 (List.mem_of_getElem? (i := 62) rfl)) (by decide +kernel)
theorem tw_1978 : (.methodLink "PatternWorkshop" 314 yX11_patternsThere : Cond) ∈ TW := tw_in (tb_7 (List.mem_of_getElem? (i := 63) rfl)) (by decide +kernel)
theorem tw_1980 : (.instanceMethod yX11_patternsThere : Cond) ∈ TW := tw_in (tb_7 (List.mem_of_getElem? (i := 65) rfl)) (by decide +kernel)
theorem tw_1981 : (.code yX11_patternsThere cX11_patternsThere 3 (some (.int)) : Cond) ∈ TW := tw_in (tb_7 (List.mem_of_getElem? (i := 66) rfl)) (by decide +kernel)
theorem tw_1982 : (.methodLink "PatternWorkshop" 317 yX11_subjectsThere : Cond) ∈ TW := tw_in (tb_7 (List.mem_of_getElem? (i := 67) rfl)) (by decide +kernel)
theorem tw_1984 : (.instanceMethod yX11_subjectsThere : Cond) ∈ TW := tw_in (tb_7 (List.mem_of_getElem? (i := 69) rfl)) (by decide +kernel)
theorem tw_1985 : (.code yX11_subjectsThere cX11_subjectsThere 3 (some (.int)) : Cond) ∈ TW := tw_in (tb_7 (List.mem_of_getElem? (i := 70) rfl)) (by decide +kernel)
theorem tw_1989 : (.code yX11_clear cX11_clear 3 (some (.int)) : Cond) ∈ TW := tw_in (tb_7 (List.mem_of_getElem? (i := 74) rfl)) (by decide +kernel)
theorem gw_X11_areThere : GoodIn TW (WS yX11_areThere cX11_areThere 3 (some (.boolean))) := goodC tw_1810
theorem gw_X11_begins : GoodIn TW (WS yX11_begins cX11_begins 4 (some (.int))) := goodC tw_1286
theorem gw_X11_byteOf : GoodIn TW (WS yX11_byteOf cX11_byteOf 3 (some (.int))) := goodC tw_861
theorem gw_X11_capturesOfFound : GoodIn TW (WS yX11_capturesOfFound cX11_capturesOfFound 1 (some (.int))) := goodC tw_1766
theorem gw_X11_clear : GoodIn TW (WS yX11_clear cX11_clear 3 (some (.int))) := goodC tw_1989
theorem gw_X11_compare : GoodIn TW (WS yX11_compare cX11_compare 6 (some (.int))) := goodC tw_1940
theorem gw_X11_dead : GoodIn TW (WS yX11_dead cX11_dead 4 (some (.int))) := goodC tw_1376
theorem gw_X11_draftReplacement : GoodIn TW (WS yX11_draftReplacement cX11_draftReplacement 6 none) := goodC tw_1792
theorem gw_X11_drop : GoodIn TW (WS yX11_drop cX11_drop 4 (some (.int))) := goodC tw_1421
theorem gw_X11_endSearch : GoodIn TW (WS yX11_endSearch cX11_endSearch 1 none) := goodC tw_1139
theorem gw_X11_endSearchOver : GoodIn TW (WS yX11_endSearchOver cX11_endSearchOver 2 none) := goodC tw_1417
theorem gw_X11_endSearchWithSlot : GoodIn TW (WS yX11_endSearchWithSlot cX11_endSearchWithSlot 2 none) := goodC tw_1135
theorem gw_X11_feed : GoodIn TW (WS yX11_feed cX11_feed 5 (some (.int))) := goodC tw_858
theorem gw_X11_finding : GoodIn TW (WS yX11_finding cX11_finding 1 (some (.int))) := goodC tw_1973
theorem gw_X11_forget : GoodIn TW (WS yX11_forget cX11_forget 3 (some (.int))) := goodC tw_1147
theorem gw_X11_isMachine : GoodIn TW (WS yX11_isMachine cX11_isMachine 1 (some (.boolean))) := goodC tw_1436
theorem gw_X11_isSlot : GoodIn TW (WS yX11_isSlot cX11_isSlot 1 (some (.boolean))) := goodC tw_875
theorem gw_X11_isStepCount : GoodIn TW (WS yX11_isStepCount cX11_isStepCount 1 (some (.boolean))) := goodC tw_1439
theorem gw_X11_isSubject : GoodIn TW (WS yX11_isSubject cX11_isSubject 1 (some (.boolean))) := goodC tw_1413
theorem gw_X11_isTold : GoodIn TW (WS yX11_isTold cX11_isTold 2 (some (.boolean))) := goodC tw_1813
theorem gw_X11_keepSpans : GoodIn TW (WS yX11_keepSpans cX11_keepSpans 2 (some (.int))) := goodC tw_1754
theorem gw_X11_least : GoodIn TW (WS yX11_least cX11_least 4 (some (.int))) := goodC tw_1919
theorem gw_X11_makeTables : GoodIn TW (WS yX11_makeTables cX11_makeTables 3 (some (.int))) := goodC tw_1829
theorem gw_X11_named : GoodIn TW (WS yX11_named cX11_named 4 (some (.int))) := goodC tw_1770
theorem gw_X11_node : GoodIn TW (WS yX11_node cX11_node 6 (some (.int))) := goodC tw_1155
theorem gw_X11_part : GoodIn TW (WS yX11_part cX11_part 6 (some (.int))) := goodC tw_1178
theorem gw_X11_parting : GoodIn TW (WS yX11_parting cX11_parting 6 (some (.int))) := goodC tw_1959
theorem gw_X11_patternIn : GoodIn TW (WS yX11_patternIn cX11_patternIn 2 (some (.object "PatternWorkshop$Tree"))) := goodC tw_1151
theorem gw_X11_patternsThere : GoodIn TW (WS yX11_patternsThere cX11_patternsThere 3 (some (.int))) := goodC tw_1981
theorem gw_X11_place : GoodIn TW (WS yX11_place cX11_place 1 (some (.int))) := goodC tw_1143
theorem gw_X11_prefix : GoodIn TW (WS yX11_prefix cX11_prefix 7 (some (.int))) := goodC tw_1825
theorem gw_X11_print : GoodIn TW (WS yX11_print cX11_print 3 (some (.int))) := goodC tw_1191
theorem gw_X11_put : GoodIn TW (WS yX11_put cX11_put 7 (some (.int))) := goodC tw_1410
theorem gw_X11_refusalByMachine : GoodIn TW (WS yX11_refusalByMachine cX11_refusalByMachine 2 (some (.int))) := goodC tw_1442
theorem gw_X11_refusalOfSome : GoodIn TW (WS yX11_refusalOfSome cX11_refusalOfSome 6 (some (.int))) := goodC tw_1817
theorem gw_X11_refusalOfSubject : GoodIn TW (WS yX11_refusalOfSubject cX11_refusalOfSubject 2 (some (.int))) := goodC tw_1429
theorem gw_X11_risky : GoodIn TW (WS yX11_risky cX11_risky 3 (some (.int))) := goodC tw_1324
theorem gw_X11_sortThatTells : GoodIn TW (WS yX11_sortThatTells cX11_sortThatTells 1 (some (.int))) := goodC tw_1168
theorem gw_X11_span : GoodIn TW (WS yX11_span cX11_span 3 (some (.int))) := goodC tw_1762
theorem gw_X11_steps : GoodIn TW (WS yX11_steps cX11_steps 1 (some (.int))) := goodC tw_1911
theorem gw_X11_subjectAt : GoodIn TW (WS yX11_subjectAt cX11_subjectAt 2 (some (.object "PatternWorkshop$Row"))) := goodC tw_1425
theorem gw_X11_subjectsThere : GoodIn TW (WS yX11_subjectsThere cX11_subjectsThere 3 (some (.int))) := goodC tw_1985
theorem gw_X11_table : GoodIn TW (WS yX11_table cX11_table 4 (some (.int))) := goodC tw_1915
theorem gw_X11_tapeTellsFor : GoodIn TW (WS yX11_tapeTellsFor cX11_tapeTellsFor 4 (some (.boolean))) := goodC tw_1802
theorem gw_X11_tellRow : GoodIn TW (WS yX11_tellRow cX11_tellRow 2 none) := goodC tw_1271
theorem gw_X11_told : GoodIn TW (WS yX11_told cX11_told 2 (some (.int))) := goodC tw_1977
theorem dX11_areThere_0 : decode cX11_areThere 0 = .ok (.iconst 0, 1) := by decide +kernel
theorem dX11_areThere_1 : decode cX11_areThere 1 = .ok (.istore_n 2, 1) := by decide +kernel
theorem dX11_areThere_2 : decode cX11_areThere 2 = .ok (.iload_n 2, 1) := by decide +kernel
theorem dX11_areThere_3 : decode cX11_areThere 3 = .ok (.bipush 6, 2) := by decide +kernel
theorem dX11_areThere_5 : decode cX11_areThere 5 = .ok (.if_icmp .ge 27, 3) := by decide +kernel
theorem dX11_areThere_8 : decode cX11_areThere 8 = .ok (.iload_n 1, 1) := by decide +kernel
theorem dX11_areThere_9 : decode cX11_areThere 9 = .ok (.iload_n 2, 1) := by decide +kernel
theorem dX11_areThere_10 : decode cX11_areThere 10 = .ok (.invokestatic 361, 3) := by decide +kernel
theorem dX11_areThere_13 : decode cX11_areThere 13 = .ok (.ifCond .eq 13, 3) := by decide +kernel
theorem dX11_areThere_16 : decode cX11_areThere 16 = .ok (.aload_n 0, 1) := by decide +kernel
theorem dX11_areThere_17 : decode cX11_areThere 17 = .ok (.iload_n 2, 1) := by decide +kernel
theorem dX11_areThere_18 : decode cX11_areThere 18 = .ok (.invokevirtual 128, 3) := by decide +kernel
theorem dX11_areThere_21 : decode cX11_areThere 21 = .ok (.ifnonnull 5, 3) := by decide +kernel
theorem dX11_areThere_24 : decode cX11_areThere 24 = .ok (.iconst 0, 1) := by decide +kernel
theorem dX11_areThere_25 : decode cX11_areThere 25 = .ok (.ireturn, 1) := by decide +kernel
theorem dX11_areThere_26 : decode cX11_areThere 26 = .ok (.iinc 2 1, 3) := by decide +kernel
theorem dX11_areThere_29 : decode cX11_areThere 29 = .ok (.goto (-27), 3) := by decide +kernel
theorem dX11_areThere_32 : decode cX11_areThere 32 = .ok (.iconst 1, 1) := by decide +kernel
theorem dX11_areThere_33 : decode cX11_areThere 33 = .ok (.ireturn, 1) := by decide +kernel
theorem dX11_begins_0 : decode cX11_begins 0 = .ok (.aload_n 0, 1) := by decide +kernel
theorem dX11_begins_1 : decode cX11_begins 1 = .ok (.iload_n 1, 1) := by decide +kernel
theorem dX11_begins_2 : decode cX11_begins 2 = .ok (.invokevirtual 128, 3) := by decide +kernel
theorem dX11_begins_5 : decode cX11_begins 5 = .ok (.astore_n 3, 1) := by decide +kernel
theorem dX11_begins_6 : decode cX11_begins 6 = .ok (.aload_n 3, 1) := by decide +kernel
theorem dX11_begins_7 : decode cX11_begins 7 = .ok (.ifnonnull 6, 3) := by decide +kernel
theorem dX11_begins_10 : decode cX11_begins 10 = .ok (.bipush (-2), 2) := by decide +kernel
theorem dX11_begins_12 : decode cX11_begins 12 = .ok (.ireturn, 1) := by decide +kernel
theorem dX11_begins_13 : decode cX11_begins 13 = .ok (.iload_n 2, 1) := by decide +kernel
theorem dX11_begins_14 : decode cX11_begins 14 = .ok (.ifCond .lt 9, 3) := by decide +kernel
theorem dX11_begins_17 : decode cX11_begins 17 = .ok (.iload_n 2, 1) := by decide +kernel
theorem dX11_begins_18 : decode cX11_begins 18 = .ok (.ldc 178, 2) := by decide +kernel
theorem dX11_begins_20 : decode cX11_begins 20 = .ok (.if_icmp .le 6, 3) := by decide +kernel
theorem dX11_begins_23 : decode cX11_begins 23 = .ok (.bipush (-4), 2) := by decide +kernel
theorem dX11_begins_25 : decode cX11_begins 25 = .ok (.ireturn, 1) := by decide +kernel
theorem dX11_begins_26 : decode cX11_begins 26 = .ok (.aload_n 3, 1) := by decide +kernel
theorem dX11_begins_27 : decode cX11_begins 27 = .ok (.iload_n 2, 1) := by decide +kernel
theorem dX11_begins_28 : decode cX11_begins 28 = .ok (.invokevirtual 179, 3) := by decide +kernel
theorem dX11_begins_31 : decode cX11_begins 31 = .ok (.aload_n 3, 1) := by decide +kernel
theorem dX11_begins_32 : decode cX11_begins 32 = .ok (.iconst 0, 1) := by decide +kernel
theorem dX11_begins_33 : decode cX11_begins 33 = .ok (.invokevirtual 182, 3) := by decide +kernel
theorem dX11_begins_36 : decode cX11_begins 36 = .ok (.ifCond .eq 7, 3) := by decide +kernel
theorem dX11_begins_39 : decode cX11_begins 39 = .ok (.iconst 1, 1) := by decide +kernel
theorem dX11_begins_40 : decode cX11_begins 40 = .ok (.goto 4, 3) := by decide +kernel
theorem dX11_begins_43 : decode cX11_begins 43 = .ok (.iconst 0, 1) := by decide +kernel
theorem dX11_begins_44 : decode cX11_begins 44 = .ok (.ireturn, 1) := by decide +kernel
theorem dX11_byteOf_0 : decode cX11_byteOf 0 = .ok (.lload_n 0, 1) := by decide +kernel
theorem dX11_byteOf_1 : decode cX11_byteOf 1 = .ok (.bipush 8, 2) := by decide +kernel
theorem dX11_byteOf_3 : decode cX11_byteOf 3 = .ok (.iload_n 2, 1) := by decide +kernel
theorem dX11_byteOf_4 : decode cX11_byteOf 4 = .ok (.imul, 1) := by decide +kernel
theorem dX11_byteOf_5 : decode cX11_byteOf 5 = .ok (.lushr, 1) := by decide +kernel
theorem dX11_byteOf_6 : decode cX11_byteOf 6 = .ok (.l2i, 1) := by decide +kernel
theorem dX11_byteOf_7 : decode cX11_byteOf 7 = .ok (.sipush 255, 3) := by decide +kernel
theorem dX11_byteOf_10 : decode cX11_byteOf 10 = .ok (.iand, 1) := by decide +kernel
theorem dX11_byteOf_11 : decode cX11_byteOf 11 = .ok (.ireturn, 1) := by decide +kernel
theorem dX11_capturesOfFound_0 : decode cX11_capturesOfFound 0 = .ok (.aload_n 0, 1) := by decide +kernel
theorem dX11_capturesOfFound_1 : decode cX11_capturesOfFound 1 = .ok (.getfield 37, 3) := by decide +kernel
theorem dX11_capturesOfFound_4 : decode cX11_capturesOfFound 4 = .ok (.getfield 96, 3) := by decide +kernel
theorem dX11_capturesOfFound_7 : decode cX11_capturesOfFound 7 = .ok (.ifCond .ne 7, 3) := by decide +kernel
theorem dX11_capturesOfFound_10 : decode cX11_capturesOfFound 10 = .ok (.iconst 0, 1) := by decide +kernel
theorem dX11_capturesOfFound_11 : decode cX11_capturesOfFound 11 = .ok (.goto 14, 3) := by decide +kernel
theorem dX11_capturesOfFound_14 : decode cX11_capturesOfFound 14 = .ok (.aload_n 0, 1) := by decide +kernel
theorem dX11_capturesOfFound_15 : decode cX11_capturesOfFound 15 = .ok (.getfield 37, 3) := by decide +kernel
theorem dX11_capturesOfFound_18 : decode cX11_capturesOfFound 18 = .ok (.getfield 96, 3) := by decide +kernel
theorem dX11_capturesOfFound_21 : decode cX11_capturesOfFound 21 = .ok (.iconst 2, 1) := by decide +kernel
theorem dX11_capturesOfFound_22 : decode cX11_capturesOfFound 22 = .ok (.idiv, 1) := by decide +kernel
theorem dX11_capturesOfFound_23 : decode cX11_capturesOfFound 23 = .ok (.iconst 1, 1) := by decide +kernel
theorem dX11_capturesOfFound_24 : decode cX11_capturesOfFound 24 = .ok (.isub, 1) := by decide +kernel
theorem dX11_capturesOfFound_25 : decode cX11_capturesOfFound 25 = .ok (.ireturn, 1) := by decide +kernel
theorem dX11_clear_0 : decode cX11_clear 0 = .ok (.aload_n 0, 1) := by decide +kernel
theorem dX11_clear_1 : decode cX11_clear 1 = .ok (.invokevirtual 314, 3) := by decide +kernel
theorem dX11_clear_4 : decode cX11_clear 4 = .ok (.istore_n 1, 1) := by decide +kernel
theorem dX11_clear_5 : decode cX11_clear 5 = .ok (.iconst 0, 1) := by decide +kernel
theorem dX11_clear_6 : decode cX11_clear 6 = .ok (.istore_n 2, 1) := by decide +kernel
theorem dX11_clear_7 : decode cX11_clear 7 = .ok (.iload_n 2, 1) := by decide +kernel
theorem dX11_clear_8 : decode cX11_clear 8 = .ok (.aload_n 0, 1) := by decide +kernel
theorem dX11_clear_9 : decode cX11_clear 9 = .ok (.getfield 20, 3) := by decide +kernel
theorem dX11_clear_12 : decode cX11_clear 12 = .ok (.arraylength, 1) := by decide +kernel
theorem dX11_clear_13 : decode cX11_clear 13 = .ok (.if_icmp .ge 19, 3) := by decide +kernel
theorem dX11_clear_16 : decode cX11_clear 16 = .ok (.aload_n 0, 1) := by decide +kernel
theorem dX11_clear_17 : decode cX11_clear 17 = .ok (.getfield 20, 3) := by decide +kernel
theorem dX11_clear_20 : decode cX11_clear 20 = .ok (.iload_n 2, 1) := by decide +kernel
theorem dX11_clear_21 : decode cX11_clear 21 = .ok (.aaload, 1) := by decide +kernel
theorem dX11_clear_22 : decode cX11_clear 22 = .ok (.iconst 0, 1) := by decide +kernel
theorem dX11_clear_23 : decode cX11_clear 23 = .ok (.putfield 120, 3) := by decide +kernel
theorem dX11_clear_26 : decode cX11_clear 26 = .ok (.iinc 2 1, 3) := by decide +kernel
theorem dX11_clear_29 : decode cX11_clear 29 = .ok (.goto (-22), 3) := by decide +kernel
theorem dX11_clear_32 : decode cX11_clear 32 = .ok (.iconst 0, 1) := by decide +kernel
theorem dX11_clear_33 : decode cX11_clear 33 = .ok (.istore_n 2, 1) := by decide +kernel
theorem dX11_clear_34 : decode cX11_clear 34 = .ok (.iload_n 2, 1) := by decide +kernel
theorem dX11_clear_35 : decode cX11_clear 35 = .ok (.aload_n 0, 1) := by decide +kernel
theorem dX11_clear_36 : decode cX11_clear 36 = .ok (.getfield 24, 3) := by decide +kernel
theorem dX11_clear_39 : decode cX11_clear 39 = .ok (.arraylength, 1) := by decide +kernel
theorem dX11_clear_40 : decode cX11_clear 40 = .ok (.if_icmp .ge 28, 3) := by decide +kernel
theorem dX11_clear_43 : decode cX11_clear 43 = .ok (.aload_n 0, 1) := by decide +kernel
theorem dX11_clear_44 : decode cX11_clear 44 = .ok (.getfield 24, 3) := by decide +kernel
theorem dX11_clear_47 : decode cX11_clear 47 = .ok (.iload_n 2, 1) := by decide +kernel
theorem dX11_clear_48 : decode cX11_clear 48 = .ok (.aaload, 1) := by decide +kernel
theorem dX11_clear_49 : decode cX11_clear 49 = .ok (.invokevirtual 109, 3) := by decide +kernel
theorem dX11_clear_52 : decode cX11_clear 52 = .ok (.aload_n 0, 1) := by decide +kernel
theorem dX11_clear_53 : decode cX11_clear 53 = .ok (.getfield 24, 3) := by decide +kernel
theorem dX11_clear_56 : decode cX11_clear 56 = .ok (.iload_n 2, 1) := by decide +kernel
theorem dX11_clear_57 : decode cX11_clear 57 = .ok (.aaload, 1) := by decide +kernel
theorem dX11_clear_58 : decode cX11_clear 58 = .ok (.iconst 0, 1) := by decide +kernel
theorem dX11_clear_59 : decode cX11_clear 59 = .ok (.putfield 205, 3) := by decide +kernel
theorem dX11_clear_62 : decode cX11_clear 62 = .ok (.iinc 2 1, 3) := by decide +kernel
theorem dX11_clear_65 : decode cX11_clear 65 = .ok (.goto (-31), 3) := by decide +kernel
theorem dX11_clear_68 : decode cX11_clear 68 = .ok (.aload_n 0, 1) := by decide +kernel
theorem dX11_clear_69 : decode cX11_clear 69 = .ok (.getfield 14, 3) := by decide +kernel
theorem dX11_clear_72 : decode cX11_clear 72 = .ok (.invokevirtual 109, 3) := by decide +kernel
theorem dX11_clear_75 : decode cX11_clear 75 = .ok (.aload_n 0, 1) := by decide +kernel
theorem dX11_clear_76 : decode cX11_clear 76 = .ok (.getfield 28, 3) := by decide +kernel
theorem dX11_clear_79 : decode cX11_clear 79 = .ok (.invokevirtual 109, 3) := by decide +kernel
theorem dX11_clear_82 : decode cX11_clear 82 = .ok (.aload_n 0, 1) := by decide +kernel
theorem dX11_clear_83 : decode cX11_clear 83 = .ok (.iconst 0, 1) := by decide +kernel
theorem dX11_clear_84 : decode cX11_clear 84 = .ok (.putfield 320, 3) := by decide +kernel
theorem dX11_clear_87 : decode cX11_clear 87 = .ok (.aload_n 0, 1) := by decide +kernel
theorem dX11_clear_88 : decode cX11_clear 88 = .ok (.getfield 37, 3) := by decide +kernel
theorem dX11_clear_91 : decode cX11_clear 91 = .ok (.invokevirtual 109, 3) := by decide +kernel
theorem dX11_clear_94 : decode cX11_clear 94 = .ok (.aload_n 0, 1) := by decide +kernel
theorem dX11_clear_95 : decode cX11_clear 95 = .ok (.iconst (-1), 1) := by decide +kernel
theorem dX11_clear_96 : decode cX11_clear 96 = .ok (.putfield 75, 3) := by decide +kernel
theorem dX11_clear_99 : decode cX11_clear 99 = .ok (.aload_n 0, 1) := by decide +kernel
theorem dX11_clear_100 : decode cX11_clear 100 = .ok (.iconst 0, 1) := by decide +kernel
theorem dX11_clear_101 : decode cX11_clear 101 = .ok (.putfield 146, 3) := by decide +kernel
theorem dX11_clear_104 : decode cX11_clear 104 = .ok (.aload_n 0, 1) := by decide +kernel
theorem dX11_clear_105 : decode cX11_clear 105 = .ok (.iconst 0, 1) := by decide +kernel
theorem dX11_clear_106 : decode cX11_clear 106 = .ok (.putfield 249, 3) := by decide +kernel
theorem dX11_clear_109 : decode cX11_clear 109 = .ok (.aload_n 0, 1) := by decide +kernel
theorem dX11_clear_110 : decode cX11_clear 110 = .ok (.invokevirtual 252, 3) := by decide +kernel
theorem dX11_clear_113 : decode cX11_clear 113 = .ok (.iload_n 1, 1) := by decide +kernel
theorem dX11_clear_114 : decode cX11_clear 114 = .ok (.ireturn, 1) := by decide +kernel
theorem dX11_compare_0 : decode cX11_compare 0 = .ok (.aload_n 0, 1) := by decide +kernel
theorem dX11_compare_1 : decode cX11_compare 1 = .ok (.iload_n 1, 1) := by decide +kernel
theorem dX11_compare_2 : decode cX11_compare 2 = .ok (.invokevirtual 128, 3) := by decide +kernel
theorem dX11_compare_5 : decode cX11_compare 5 = .ok (.astore_n 3, 1) := by decide +kernel
theorem dX11_compare_6 : decode cX11_compare 6 = .ok (.aload_n 3, 1) := by decide +kernel
theorem dX11_compare_7 : decode cX11_compare 7 = .ok (.ifnonnull 7, 3) := by decide +kernel
theorem dX11_compare_10 : decode cX11_compare 10 = .ok (.aconst_null, 1) := by decide +kernel
theorem dX11_compare_11 : decode cX11_compare 11 = .ok (.goto 8, 3) := by decide +kernel
theorem dX11_compare_14 : decode cX11_compare 14 = .ok (.aload_n 0, 1) := by decide +kernel
theorem dX11_compare_15 : decode cX11_compare 15 = .ok (.iload_n 2, 1) := by decide +kernel
theorem dX11_compare_16 : decode cX11_compare 16 = .ok (.invokevirtual 128, 3) := by decide +kernel
theorem dX11_compare_19 : decode cX11_compare 19 = .ok (.astore 4, 2) := by decide +kernel
theorem dX11_compare_21 : decode cX11_compare 21 = .ok (.aload_n 3, 1) := by decide +kernel
theorem dX11_compare_22 : decode cX11_compare 22 = .ok (.ifnull 8, 3) := by decide +kernel
theorem dX11_compare_25 : decode cX11_compare 25 = .ok (.aload 4, 2) := by decide +kernel
theorem dX11_compare_27 : decode cX11_compare 27 = .ok (.ifnonnull 6, 3) := by decide +kernel
theorem dX11_compare_30 : decode cX11_compare 30 = .ok (.bipush (-2), 2) := by decide +kernel
theorem dX11_compare_32 : decode cX11_compare 32 = .ok (.ireturn, 1) := by decide +kernel
theorem dX11_compare_33 : decode cX11_compare 33 = .ok (.aload_n 0, 1) := by decide +kernel
theorem dX11_compare_34 : decode cX11_compare 34 = .ok (.aload_n 3, 1) := by decide +kernel
theorem dX11_compare_35 : decode cX11_compare 35 = .ok (.aload 4, 2) := by decide +kernel
theorem dX11_compare_37 : decode cX11_compare 37 = .ok (.invokevirtual 283, 3) := by decide +kernel
theorem dX11_compare_40 : decode cX11_compare 40 = .ok (.istore 5, 2) := by decide +kernel
theorem dX11_compare_42 : decode cX11_compare 42 = .ok (.iload 5, 2) := by decide +kernel
theorem dX11_compare_44 : decode cX11_compare 44 = .ok (.ifCond .eq 6, 3) := by decide +kernel
theorem dX11_compare_47 : decode cX11_compare 47 = .ok (.iload 5, 2) := by decide +kernel
theorem dX11_compare_49 : decode cX11_compare 49 = .ok (.ireturn, 1) := by decide +kernel
theorem dX11_compare_50 : decode cX11_compare 50 = .ok (.aload_n 0, 1) := by decide +kernel
theorem dX11_compare_51 : decode cX11_compare 51 = .ok (.getfield 71, 3) := by decide +kernel
theorem dX11_compare_54 : decode cX11_compare 54 = .ok (.invokevirtual 301, 3) := by decide +kernel
theorem dX11_compare_57 : decode cX11_compare 57 = .ok (.aload_n 0, 1) := by decide +kernel
theorem dX11_compare_58 : decode cX11_compare 58 = .ok (.getfield 71, 3) := by decide +kernel
theorem dX11_compare_61 : decode cX11_compare 61 = .ok (.getfield 304, 3) := by decide +kernel
theorem dX11_compare_64 : decode cX11_compare 64 = .ok (.ifCond .eq 7, 3) := by decide +kernel
theorem dX11_compare_67 : decode cX11_compare 67 = .ok (.iconst 0, 1) := by decide +kernel
theorem dX11_compare_68 : decode cX11_compare 68 = .ok (.goto 4, 3) := by decide +kernel
theorem dX11_compare_71 : decode cX11_compare 71 = .ok (.iconst 1, 1) := by decide +kernel
theorem dX11_compare_72 : decode cX11_compare 72 = .ok (.aload_n 0, 1) := by decide +kernel
theorem dX11_compare_73 : decode cX11_compare 73 = .ok (.getfield 71, 3) := by decide +kernel
theorem dX11_compare_76 : decode cX11_compare 76 = .ok (.getfield 307, 3) := by decide +kernel
theorem dX11_compare_79 : decode cX11_compare 79 = .ok (.ifCond .eq 7, 3) := by decide +kernel
theorem dX11_compare_82 : decode cX11_compare 82 = .ok (.iconst 0, 1) := by decide +kernel
theorem dX11_compare_83 : decode cX11_compare 83 = .ok (.goto 4, 3) := by decide +kernel
theorem dX11_compare_86 : decode cX11_compare 86 = .ok (.iconst 2, 1) := by decide +kernel
theorem dX11_compare_87 : decode cX11_compare 87 = .ok (.iadd, 1) := by decide +kernel
theorem dX11_compare_88 : decode cX11_compare 88 = .ok (.ireturn, 1) := by decide +kernel
theorem dX11_dead_0 : decode cX11_dead 0 = .ok (.aload_n 0, 1) := by decide +kernel
theorem dX11_dead_1 : decode cX11_dead 1 = .ok (.iload_n 1, 1) := by decide +kernel
theorem dX11_dead_2 : decode cX11_dead 2 = .ok (.invokevirtual 128, 3) := by decide +kernel
theorem dX11_dead_5 : decode cX11_dead 5 = .ok (.astore_n 3, 1) := by decide +kernel
theorem dX11_dead_6 : decode cX11_dead 6 = .ok (.aload_n 3, 1) := by decide +kernel
theorem dX11_dead_7 : decode cX11_dead 7 = .ok (.ifnonnull 6, 3) := by decide +kernel
theorem dX11_dead_10 : decode cX11_dead 10 = .ok (.bipush (-2), 2) := by decide +kernel
theorem dX11_dead_12 : decode cX11_dead 12 = .ok (.ireturn, 1) := by decide +kernel
theorem dX11_dead_13 : decode cX11_dead 13 = .ok (.iload_n 2, 1) := by decide +kernel
theorem dX11_dead_14 : decode cX11_dead 14 = .ok (.ifCond .ge 8, 3) := by decide +kernel
theorem dX11_dead_17 : decode cX11_dead 17 = .ok (.bipush (-4), 2) := by decide +kernel
theorem dX11_dead_19 : decode cX11_dead 19 = .ok (.goto 8, 3) := by decide +kernel
theorem dX11_dead_22 : decode cX11_dead 22 = .ok (.aload_n 3, 1) := by decide +kernel
theorem dX11_dead_23 : decode cX11_dead 23 = .ok (.iload_n 2, 1) := by decide +kernel
theorem dX11_dead_24 : decode cX11_dead 24 = .ok (.invokevirtual 199, 3) := by decide +kernel
theorem dX11_dead_27 : decode cX11_dead 27 = .ok (.ireturn, 1) := by decide +kernel
theorem dX11_draftReplacement_0 : decode cX11_draftReplacement 0 = .ok (.iconst 0, 1) := by decide +kernel
theorem dX11_draftReplacement_1 : decode cX11_draftReplacement 1 = .ok (.istore_n 2, 1) := by decide +kernel
theorem dX11_draftReplacement_2 : decode cX11_draftReplacement 2 = .ok (.iload_n 2, 1) := by decide +kernel
theorem dX11_draftReplacement_3 : decode cX11_draftReplacement 3 = .ok (.aload_n 0, 1) := by decide +kernel
theorem dX11_draftReplacement_4 : decode cX11_draftReplacement 4 = .ok (.getfield 14, 3) := by decide +kernel
theorem dX11_draftReplacement_7 : decode cX11_draftReplacement 7 = .ok (.getfield 96, 3) := by decide +kernel
theorem dX11_draftReplacement_10 : decode cX11_draftReplacement 10 = .ok (.if_icmp .ge 107, 3) := by decide +kernel
theorem dX11_draftReplacement_13 : decode cX11_draftReplacement 13 = .ok (.aload_n 0, 1) := by decide +kernel
theorem dX11_draftReplacement_14 : decode cX11_draftReplacement 14 = .ok (.getfield 14, 3) := by decide +kernel
theorem dX11_draftReplacement_17 : decode cX11_draftReplacement 17 = .ok (.iload_n 2, 1) := by decide +kernel
theorem dX11_draftReplacement_18 : decode cX11_draftReplacement 18 = .ok (.invokevirtual 222, 3) := by decide +kernel
theorem dX11_draftReplacement_21 : decode cX11_draftReplacement 21 = .ok (.istore_n 3, 1) := by decide +kernel
theorem dX11_draftReplacement_22 : decode cX11_draftReplacement 22 = .ok (.iload_n 3, 1) := by decide +kernel
theorem dX11_draftReplacement_23 : decode cX11_draftReplacement 23 = .ok (.bipush 36, 2) := by decide +kernel
theorem dX11_draftReplacement_25 : decode cX11_draftReplacement 25 = .ok (.if_icmp .eq 14, 3) := by decide +kernel
theorem dX11_draftReplacement_28 : decode cX11_draftReplacement 28 = .ok (.aload_n 0, 1) := by decide +kernel
theorem dX11_draftReplacement_29 : decode cX11_draftReplacement 29 = .ok (.getfield 31, 3) := by decide +kernel
theorem dX11_draftReplacement_32 : decode cX11_draftReplacement 32 = .ok (.iload_n 3, 1) := by decide +kernel
theorem dX11_draftReplacement_33 : decode cX11_draftReplacement 33 = .ok (.invokevirtual 99, 3) := by decide +kernel
theorem dX11_draftReplacement_36 : decode cX11_draftReplacement 36 = .ok (.goto 75, 3) := by decide +kernel
theorem dX11_draftReplacement_39 : decode cX11_draftReplacement 39 = .ok (.iinc 2 1, 3) := by decide +kernel
theorem dX11_draftReplacement_42 : decode cX11_draftReplacement 42 = .ok (.aload_n 0, 1) := by decide +kernel
theorem dX11_draftReplacement_43 : decode cX11_draftReplacement 43 = .ok (.getfield 14, 3) := by decide +kernel
theorem dX11_draftReplacement_46 : decode cX11_draftReplacement 46 = .ok (.iload_n 2, 1) := by decide +kernel
theorem dX11_draftReplacement_47 : decode cX11_draftReplacement 47 = .ok (.invokevirtual 222, 3) := by decide +kernel
theorem dX11_draftReplacement_50 : decode cX11_draftReplacement 50 = .ok (.istore 4, 2) := by decide +kernel
theorem dX11_draftReplacement_52 : decode cX11_draftReplacement 52 = .ok (.iload 4, 2) := by decide +kernel
theorem dX11_draftReplacement_54 : decode cX11_draftReplacement 54 = .ok (.invokestatic 355, 3) := by decide +kernel
theorem dX11_draftReplacement_57 : decode cX11_draftReplacement 57 = .ok (.ifCond .eq 45, 3) := by decide +kernel
theorem dX11_draftReplacement_60 : decode cX11_draftReplacement 60 = .ok (.iload 4, 2) := by decide +kernel
theorem dX11_draftReplacement_62 : decode cX11_draftReplacement 62 = .ok (.bipush 48, 2) := by decide +kernel
theorem dX11_draftReplacement_64 : decode cX11_draftReplacement 64 = .ok (.isub, 1) := by decide +kernel
theorem dX11_draftReplacement_65 : decode cX11_draftReplacement 65 = .ok (.istore 5, 2) := by decide +kernel
theorem dX11_draftReplacement_67 : decode cX11_draftReplacement 67 = .ok (.aload_n 0, 1) := by decide +kernel
theorem dX11_draftReplacement_68 : decode cX11_draftReplacement 68 = .ok (.getfield 31, 3) := by decide +kernel
theorem dX11_draftReplacement_71 : decode cX11_draftReplacement 71 = .ok (.aload_n 1, 1) := by decide +kernel
theorem dX11_draftReplacement_72 : decode cX11_draftReplacement 72 = .ok (.aload_n 0, 1) := by decide +kernel
theorem dX11_draftReplacement_73 : decode cX11_draftReplacement 73 = .ok (.getfield 34, 3) := by decide +kernel
theorem dX11_draftReplacement_76 : decode cX11_draftReplacement 76 = .ok (.iconst 2, 1) := by decide +kernel
theorem dX11_draftReplacement_77 : decode cX11_draftReplacement 77 = .ok (.iload 5, 2) := by decide +kernel
theorem dX11_draftReplacement_79 : decode cX11_draftReplacement 79 = .ok (.imul, 1) := by decide +kernel
theorem dX11_draftReplacement_80 : decode cX11_draftReplacement 80 = .ok (.invokevirtual 222, 3) := by decide +kernel
theorem dX11_draftReplacement_83 : decode cX11_draftReplacement 83 = .ok (.aload_n 0, 1) := by decide +kernel
theorem dX11_draftReplacement_84 : decode cX11_draftReplacement 84 = .ok (.getfield 34, 3) := by decide +kernel
theorem dX11_draftReplacement_87 : decode cX11_draftReplacement 87 = .ok (.iconst 2, 1) := by decide +kernel
theorem dX11_draftReplacement_88 : decode cX11_draftReplacement 88 = .ok (.iload 5, 2) := by decide +kernel
theorem dX11_draftReplacement_90 : decode cX11_draftReplacement 90 = .ok (.imul, 1) := by decide +kernel
theorem dX11_draftReplacement_91 : decode cX11_draftReplacement 91 = .ok (.iconst 1, 1) := by decide +kernel
theorem dX11_draftReplacement_92 : decode cX11_draftReplacement 92 = .ok (.iadd, 1) := by decide +kernel
theorem dX11_draftReplacement_93 : decode cX11_draftReplacement 93 = .ok (.invokevirtual 222, 3) := by decide +kernel
theorem dX11_draftReplacement_96 : decode cX11_draftReplacement 96 = .ok (.invokevirtual 343, 3) := by decide +kernel
theorem dX11_draftReplacement_99 : decode cX11_draftReplacement 99 = .ok (.goto 12, 3) := by decide +kernel
theorem dX11_draftReplacement_102 : decode cX11_draftReplacement 102 = .ok (.aload_n 0, 1) := by decide +kernel
theorem dX11_draftReplacement_103 : decode cX11_draftReplacement 103 = .ok (.getfield 31, 3) := by decide +kernel
theorem dX11_draftReplacement_106 : decode cX11_draftReplacement 106 = .ok (.iload 4, 2) := by decide +kernel
theorem dX11_draftReplacement_108 : decode cX11_draftReplacement 108 = .ok (.invokevirtual 99, 3) := by decide +kernel
theorem dX11_draftReplacement_111 : decode cX11_draftReplacement 111 = .ok (.iinc 2 1, 3) := by decide +kernel
theorem dX11_draftReplacement_114 : decode cX11_draftReplacement 114 = .ok (.goto (-112), 3) := by decide +kernel
theorem dX11_draftReplacement_117 : decode cX11_draftReplacement 117 = .ok (.return_, 1) := by decide +kernel
theorem dX11_drop_0 : decode cX11_drop 0 = .ok (.aload_n 0, 1) := by decide +kernel
theorem dX11_drop_1 : decode cX11_drop 1 = .ok (.iload_n 1, 1) := by decide +kernel
theorem dX11_drop_2 : decode cX11_drop 2 = .ok (.invokevirtual 209, 3) := by decide +kernel
theorem dX11_drop_5 : decode cX11_drop 5 = .ok (.astore_n 2, 1) := by decide +kernel
theorem dX11_drop_6 : decode cX11_drop 6 = .ok (.aload_n 2, 1) := by decide +kernel
theorem dX11_drop_7 : decode cX11_drop 7 = .ok (.ifnonnull 9, 3) := by decide +kernel
theorem dX11_drop_10 : decode cX11_drop 10 = .ok (.aload_n 0, 1) := by decide +kernel
theorem dX11_drop_11 : decode cX11_drop 11 = .ok (.iload_n 1, 1) := by decide +kernel
theorem dX11_drop_12 : decode cX11_drop 12 = .ok (.invokevirtual 213, 3) := by decide +kernel
theorem dX11_drop_15 : decode cX11_drop 15 = .ok (.ireturn, 1) := by decide +kernel
theorem dX11_drop_16 : decode cX11_drop 16 = .ok (.aload_n 2, 1) := by decide +kernel
theorem dX11_drop_17 : decode cX11_drop 17 = .ok (.getfield 96, 3) := by decide +kernel
theorem dX11_drop_20 : decode cX11_drop 20 = .ok (.istore_n 3, 1) := by decide +kernel
theorem dX11_drop_21 : decode cX11_drop 21 = .ok (.aload_n 2, 1) := by decide +kernel
theorem dX11_drop_22 : decode cX11_drop 22 = .ok (.invokevirtual 109, 3) := by decide +kernel
theorem dX11_drop_25 : decode cX11_drop 25 = .ok (.aload_n 2, 1) := by decide +kernel
theorem dX11_drop_26 : decode cX11_drop 26 = .ok (.iconst 0, 1) := by decide +kernel
theorem dX11_drop_27 : decode cX11_drop 27 = .ok (.putfield 205, 3) := by decide +kernel
theorem dX11_drop_30 : decode cX11_drop 30 = .ok (.aload_n 0, 1) := by decide +kernel
theorem dX11_drop_31 : decode cX11_drop 31 = .ok (.iload_n 1, 1) := by decide +kernel
theorem dX11_drop_32 : decode cX11_drop 32 = .ok (.invokevirtual 206, 3) := by decide +kernel
theorem dX11_drop_35 : decode cX11_drop 35 = .ok (.iload_n 3, 1) := by decide +kernel
theorem dX11_drop_36 : decode cX11_drop 36 = .ok (.ireturn, 1) := by decide +kernel
theorem dX11_endSearch_0 : decode cX11_endSearch 0 = .ok (.aload_n 0, 1) := by decide +kernel
theorem dX11_endSearch_1 : decode cX11_endSearch 1 = .ok (.iconst (-1), 1) := by decide +kernel
theorem dX11_endSearch_2 : decode cX11_endSearch 2 = .ok (.putfield 79, 3) := by decide +kernel
theorem dX11_endSearch_5 : decode cX11_endSearch 5 = .ok (.aload_n 0, 1) := by decide +kernel
theorem dX11_endSearch_6 : decode cX11_endSearch 6 = .ok (.iconst (-1), 1) := by decide +kernel
theorem dX11_endSearch_7 : decode cX11_endSearch 7 = .ok (.putfield 82, 3) := by decide +kernel
theorem dX11_endSearch_10 : decode cX11_endSearch 10 = .ok (.return_, 1) := by decide +kernel
theorem dX11_endSearchOver_0 : decode cX11_endSearchOver 0 = .ok (.aload_n 0, 1) := by decide +kernel
theorem dX11_endSearchOver_1 : decode cX11_endSearchOver 1 = .ok (.getfield 82, 3) := by decide +kernel
theorem dX11_endSearchOver_4 : decode cX11_endSearchOver 4 = .ok (.iload_n 1, 1) := by decide +kernel
theorem dX11_endSearchOver_5 : decode cX11_endSearchOver 5 = .ok (.if_icmp .ne 7, 3) := by decide +kernel
theorem dX11_endSearchOver_8 : decode cX11_endSearchOver 8 = .ok (.aload_n 0, 1) := by decide +kernel
theorem dX11_endSearchOver_9 : decode cX11_endSearchOver 9 = .ok (.invokevirtual 252, 3) := by decide +kernel
theorem dX11_endSearchOver_12 : decode cX11_endSearchOver 12 = .ok (.return_, 1) := by decide +kernel
theorem dX11_endSearchWithSlot_0 : decode cX11_endSearchWithSlot 0 = .ok (.aload_n 0, 1) := by decide +kernel
theorem dX11_endSearchWithSlot_1 : decode cX11_endSearchWithSlot 1 = .ok (.getfield 79, 3) := by decide +kernel
theorem dX11_endSearchWithSlot_4 : decode cX11_endSearchWithSlot 4 = .ok (.iload_n 1, 1) := by decide +kernel
theorem dX11_endSearchWithSlot_5 : decode cX11_endSearchWithSlot 5 = .ok (.if_icmp .ne 7, 3) := by decide +kernel
theorem dX11_endSearchWithSlot_8 : decode cX11_endSearchWithSlot 8 = .ok (.aload_n 0, 1) := by decide +kernel
theorem dX11_endSearchWithSlot_9 : decode cX11_endSearchWithSlot 9 = .ok (.invokevirtual 252, 3) := by decide +kernel
theorem dX11_endSearchWithSlot_12 : decode cX11_endSearchWithSlot 12 = .ok (.return_, 1) := by decide +kernel
theorem dX11_feed_0 : decode cX11_feed 0 = .ok (.iload_n 1, 1) := by decide +kernel
theorem dX11_feed_1 : decode cX11_feed 1 = .ok (.iconst 1, 1) := by decide +kernel
theorem dX11_feed_2 : decode cX11_feed 2 = .ok (.if_icmp .lt 9, 3) := by decide +kernel
theorem dX11_feed_5 : decode cX11_feed 5 = .ok (.iload_n 1, 1) := by decide +kernel
theorem dX11_feed_6 : decode cX11_feed 6 = .ok (.bipush 8, 2) := by decide +kernel
theorem dX11_feed_8 : decode cX11_feed 8 = .ok (.if_icmp .le 6, 3) := by decide +kernel
theorem dX11_feed_11 : decode cX11_feed 11 = .ok (.bipush (-4), 2) := by decide +kernel
theorem dX11_feed_13 : decode cX11_feed 13 = .ok (.ireturn, 1) := by decide +kernel
theorem dX11_feed_14 : decode cX11_feed 14 = .ok (.iconst 0, 1) := by decide +kernel
theorem dX11_feed_15 : decode cX11_feed 15 = .ok (.istore 4, 2) := by decide +kernel
theorem dX11_feed_17 : decode cX11_feed 17 = .ok (.iload 4, 2) := by decide +kernel
theorem dX11_feed_19 : decode cX11_feed 19 = .ok (.iload_n 1, 1) := by decide +kernel
theorem dX11_feed_20 : decode cX11_feed 20 = .ok (.if_icmp .ge 24, 3) := by decide +kernel
theorem dX11_feed_23 : decode cX11_feed 23 = .ok (.lload_n 2, 1) := by decide +kernel
theorem dX11_feed_24 : decode cX11_feed 24 = .ok (.iload 4, 2) := by decide +kernel
theorem dX11_feed_26 : decode cX11_feed 26 = .ok (.invokestatic 88, 3) := by decide +kernel
theorem dX11_feed_29 : decode cX11_feed 29 = .ok (.invokestatic 92, 3) := by decide +kernel
theorem dX11_feed_32 : decode cX11_feed 32 = .ok (.ifCond .ne 6, 3) := by decide +kernel
theorem dX11_feed_35 : decode cX11_feed 35 = .ok (.bipush (-4), 2) := by decide +kernel
theorem dX11_feed_37 : decode cX11_feed 37 = .ok (.ireturn, 1) := by decide +kernel
theorem dX11_feed_38 : decode cX11_feed 38 = .ok (.iinc 4 1, 3) := by decide +kernel
theorem dX11_feed_41 : decode cX11_feed 41 = .ok (.goto (-24), 3) := by decide +kernel
theorem dX11_feed_44 : decode cX11_feed 44 = .ok (.aload_n 0, 1) := by decide +kernel
theorem dX11_feed_45 : decode cX11_feed 45 = .ok (.getfield 14, 3) := by decide +kernel
theorem dX11_feed_48 : decode cX11_feed 48 = .ok (.getfield 96, 3) := by decide +kernel
theorem dX11_feed_51 : decode cX11_feed 51 = .ok (.iload_n 1, 1) := by decide +kernel
theorem dX11_feed_52 : decode cX11_feed 52 = .ok (.iadd, 1) := by decide +kernel
theorem dX11_feed_53 : decode cX11_feed 53 = .ok (.sipush 200, 3) := by decide +kernel
theorem dX11_feed_56 : decode cX11_feed 56 = .ok (.if_icmp .le 6, 3) := by decide +kernel
theorem dX11_feed_59 : decode cX11_feed 59 = .ok (.bipush (-9), 2) := by decide +kernel
theorem dX11_feed_61 : decode cX11_feed 61 = .ok (.ireturn, 1) := by decide +kernel
theorem dX11_feed_62 : decode cX11_feed 62 = .ok (.iload_n 1, 1) := by decide +kernel
theorem dX11_feed_63 : decode cX11_feed 63 = .ok (.iconst 1, 1) := by decide +kernel
theorem dX11_feed_64 : decode cX11_feed 64 = .ok (.isub, 1) := by decide +kernel
theorem dX11_feed_65 : decode cX11_feed 65 = .ok (.istore 4, 2) := by decide +kernel
theorem dX11_feed_67 : decode cX11_feed 67 = .ok (.iload 4, 2) := by decide +kernel
theorem dX11_feed_69 : decode cX11_feed 69 = .ok (.ifCond .lt 22, 3) := by decide +kernel
theorem dX11_feed_72 : decode cX11_feed 72 = .ok (.aload_n 0, 1) := by decide +kernel
theorem dX11_feed_73 : decode cX11_feed 73 = .ok (.getfield 14, 3) := by decide +kernel
theorem dX11_feed_76 : decode cX11_feed 76 = .ok (.lload_n 2, 1) := by decide +kernel
theorem dX11_feed_77 : decode cX11_feed 77 = .ok (.iload 4, 2) := by decide +kernel
theorem dX11_feed_79 : decode cX11_feed 79 = .ok (.invokestatic 88, 3) := by decide +kernel
theorem dX11_feed_82 : decode cX11_feed 82 = .ok (.invokevirtual 99, 3) := by decide +kernel
theorem dX11_feed_85 : decode cX11_feed 85 = .ok (.iinc 4 (-1), 3) := by decide +kernel
theorem dX11_feed_88 : decode cX11_feed 88 = .ok (.goto (-21), 3) := by decide +kernel
theorem dX11_feed_91 : decode cX11_feed 91 = .ok (.aload_n 0, 1) := by decide +kernel
theorem dX11_feed_92 : decode cX11_feed 92 = .ok (.getfield 14, 3) := by decide +kernel
theorem dX11_feed_95 : decode cX11_feed 95 = .ok (.getfield 96, 3) := by decide +kernel
theorem dX11_feed_98 : decode cX11_feed 98 = .ok (.ireturn, 1) := by decide +kernel
theorem dX11_finding_0 : decode cX11_finding 0 = .ok (.aload_n 0, 1) := by decide +kernel
theorem dX11_finding_1 : decode cX11_finding 1 = .ok (.getfield 146, 3) := by decide +kernel
theorem dX11_finding_4 : decode cX11_finding 4 = .ok (.ireturn, 1) := by decide +kernel
theorem dX11_forget_0 : decode cX11_forget 0 = .ok (.aload_n 0, 1) := by decide +kernel
theorem dX11_forget_1 : decode cX11_forget 1 = .ok (.iload_n 1, 1) := by decide +kernel
theorem dX11_forget_2 : decode cX11_forget 2 = .ok (.invokevirtual 128, 3) := by decide +kernel
theorem dX11_forget_5 : decode cX11_forget 5 = .ok (.astore_n 2, 1) := by decide +kernel
theorem dX11_forget_6 : decode cX11_forget 6 = .ok (.aload_n 2, 1) := by decide +kernel
theorem dX11_forget_7 : decode cX11_forget 7 = .ok (.ifnonnull 6, 3) := by decide +kernel
theorem dX11_forget_10 : decode cX11_forget 10 = .ok (.bipush (-2), 2) := by decide +kernel
theorem dX11_forget_12 : decode cX11_forget 12 = .ok (.ireturn, 1) := by decide +kernel
theorem dX11_forget_13 : decode cX11_forget 13 = .ok (.aload_n 2, 1) := by decide +kernel
theorem dX11_forget_14 : decode cX11_forget 14 = .ok (.iconst 0, 1) := by decide +kernel
theorem dX11_forget_15 : decode cX11_forget 15 = .ok (.putfield 120, 3) := by decide +kernel
theorem dX11_forget_18 : decode cX11_forget 18 = .ok (.aload_n 0, 1) := by decide +kernel
theorem dX11_forget_19 : decode cX11_forget 19 = .ok (.iload_n 1, 1) := by decide +kernel
theorem dX11_forget_20 : decode cX11_forget 20 = .ok (.invokevirtual 124, 3) := by decide +kernel
theorem dX11_forget_23 : decode cX11_forget 23 = .ok (.iconst 1, 1) := by decide +kernel
theorem dX11_forget_24 : decode cX11_forget 24 = .ok (.ireturn, 1) := by decide +kernel
theorem dX11_isMachine_0 : decode cX11_isMachine 0 = .ok (.iload_n 0, 1) := by decide +kernel
theorem dX11_isMachine_1 : decode cX11_isMachine 1 = .ok (.ifCond .lt 12, 3) := by decide +kernel
theorem dX11_isMachine_4 : decode cX11_isMachine 4 = .ok (.iload_n 0, 1) := by decide +kernel
theorem dX11_isMachine_5 : decode cX11_isMachine 5 = .ok (.iconst 2, 1) := by decide +kernel
theorem dX11_isMachine_6 : decode cX11_isMachine 6 = .ok (.if_icmp .gt 7, 3) := by decide +kernel
theorem dX11_isMachine_9 : decode cX11_isMachine 9 = .ok (.iconst 1, 1) := by decide +kernel
theorem dX11_isMachine_10 : decode cX11_isMachine 10 = .ok (.goto 4, 3) := by decide +kernel
theorem dX11_isMachine_13 : decode cX11_isMachine 13 = .ok (.iconst 0, 1) := by decide +kernel
theorem dX11_isMachine_14 : decode cX11_isMachine 14 = .ok (.ireturn, 1) := by decide +kernel
theorem dX11_isSlot_0 : decode cX11_isSlot 0 = .ok (.iload_n 0, 1) := by decide +kernel
theorem dX11_isSlot_1 : decode cX11_isSlot 1 = .ok (.ifCond .lt 13, 3) := by decide +kernel
theorem dX11_isSlot_4 : decode cX11_isSlot 4 = .ok (.iload_n 0, 1) := by decide +kernel
theorem dX11_isSlot_5 : decode cX11_isSlot 5 = .ok (.bipush 6, 2) := by decide +kernel
theorem dX11_isSlot_7 : decode cX11_isSlot 7 = .ok (.if_icmp .ge 7, 3) := by decide +kernel
theorem dX11_isSlot_10 : decode cX11_isSlot 10 = .ok (.iconst 1, 1) := by decide +kernel
theorem dX11_isSlot_11 : decode cX11_isSlot 11 = .ok (.goto 4, 3) := by decide +kernel
theorem dX11_isSlot_14 : decode cX11_isSlot 14 = .ok (.iconst 0, 1) := by decide +kernel
theorem dX11_isSlot_15 : decode cX11_isSlot 15 = .ok (.ireturn, 1) := by decide +kernel
theorem dX11_isStepCount_0 : decode cX11_isStepCount 0 = .ok (.iload_n 0, 1) := by decide +kernel
theorem dX11_isStepCount_1 : decode cX11_isStepCount 1 = .ok (.iconst 1, 1) := by decide +kernel
theorem dX11_isStepCount_2 : decode cX11_isStepCount 2 = .ok (.if_icmp .lt 14, 3) := by decide +kernel
theorem dX11_isStepCount_5 : decode cX11_isStepCount 5 = .ok (.iload_n 0, 1) := by decide +kernel
theorem dX11_isStepCount_6 : decode cX11_isStepCount 6 = .ok (.sipush 3000, 3) := by decide +kernel
theorem dX11_isStepCount_9 : decode cX11_isStepCount 9 = .ok (.if_icmp .gt 7, 3) := by decide +kernel
theorem dX11_isStepCount_12 : decode cX11_isStepCount 12 = .ok (.iconst 1, 1) := by decide +kernel
theorem dX11_isStepCount_13 : decode cX11_isStepCount 13 = .ok (.goto 4, 3) := by decide +kernel
theorem dX11_isStepCount_16 : decode cX11_isStepCount 16 = .ok (.iconst 0, 1) := by decide +kernel
theorem dX11_isStepCount_17 : decode cX11_isStepCount 17 = .ok (.ireturn, 1) := by decide +kernel
theorem dX11_isSubject_0 : decode cX11_isSubject 0 = .ok (.iload_n 0, 1) := by decide +kernel
theorem dX11_isSubject_1 : decode cX11_isSubject 1 = .ok (.ifCond .lt 12, 3) := by decide +kernel
theorem dX11_isSubject_4 : decode cX11_isSubject 4 = .ok (.iload_n 0, 1) := by decide +kernel
theorem dX11_isSubject_5 : decode cX11_isSubject 5 = .ok (.iconst 4, 1) := by decide +kernel
theorem dX11_isSubject_6 : decode cX11_isSubject 6 = .ok (.if_icmp .ge 7, 3) := by decide +kernel
theorem dX11_isSubject_9 : decode cX11_isSubject 9 = .ok (.iconst 1, 1) := by decide +kernel
theorem dX11_isSubject_10 : decode cX11_isSubject 10 = .ok (.goto 4, 3) := by decide +kernel
theorem dX11_isSubject_13 : decode cX11_isSubject 13 = .ok (.iconst 0, 1) := by decide +kernel
theorem dX11_isSubject_14 : decode cX11_isSubject 14 = .ok (.ireturn, 1) := by decide +kernel
theorem dX11_isTold_0 : decode cX11_isTold 0 = .ok (.iload_n 0, 1) := by decide +kernel
theorem dX11_isTold_1 : decode cX11_isTold 1 = .ok (.iload_n 1, 1) := by decide +kernel
theorem dX11_isTold_2 : decode cX11_isTold 2 = .ok (.ishr, 1) := by decide +kernel
theorem dX11_isTold_3 : decode cX11_isTold 3 = .ok (.iconst 1, 1) := by decide +kernel
theorem dX11_isTold_4 : decode cX11_isTold 4 = .ok (.iand, 1) := by decide +kernel
theorem dX11_isTold_5 : decode cX11_isTold 5 = .ok (.iconst 1, 1) := by decide +kernel
theorem dX11_isTold_6 : decode cX11_isTold 6 = .ok (.if_icmp .ne 7, 3) := by decide +kernel
theorem dX11_isTold_9 : decode cX11_isTold 9 = .ok (.iconst 1, 1) := by decide +kernel
theorem dX11_isTold_10 : decode cX11_isTold 10 = .ok (.goto 4, 3) := by decide +kernel
theorem dX11_isTold_13 : decode cX11_isTold 13 = .ok (.iconst 0, 1) := by decide +kernel
theorem dX11_isTold_14 : decode cX11_isTold 14 = .ok (.ireturn, 1) := by decide +kernel
theorem dX11_keepSpans_0 : decode cX11_keepSpans 0 = .ok (.iload_n 1, 1) := by decide +kernel
theorem dX11_keepSpans_1 : decode cX11_keepSpans 1 = .ok (.iconst 1, 1) := by decide +kernel
theorem dX11_keepSpans_2 : decode cX11_keepSpans 2 = .ok (.if_icmp .ne 17, 3) := by decide +kernel
theorem dX11_keepSpans_5 : decode cX11_keepSpans 5 = .ok (.aload_n 0, 1) := by decide +kernel
theorem dX11_keepSpans_6 : decode cX11_keepSpans 6 = .ok (.getfield 37, 3) := by decide +kernel
theorem dX11_keepSpans_9 : decode cX11_keepSpans 9 = .ok (.aload_n 0, 1) := by decide +kernel
theorem dX11_keepSpans_10 : decode cX11_keepSpans 10 = .ok (.getfield 34, 3) := by decide +kernel
theorem dX11_keepSpans_13 : decode cX11_keepSpans 13 = .ok (.invokevirtual 332, 3) := by decide +kernel
theorem dX11_keepSpans_16 : decode cX11_keepSpans 16 = .ok (.goto 14, 3) := by decide +kernel
theorem dX11_keepSpans_19 : decode cX11_keepSpans 19 = .ok (.iload_n 1, 1) := by decide +kernel
theorem dX11_keepSpans_20 : decode cX11_keepSpans 20 = .ok (.ifCond .ne 10, 3) := by decide +kernel
theorem dX11_keepSpans_23 : decode cX11_keepSpans 23 = .ok (.aload_n 0, 1) := by decide +kernel
theorem dX11_keepSpans_24 : decode cX11_keepSpans 24 = .ok (.getfield 37, 3) := by decide +kernel
theorem dX11_keepSpans_27 : decode cX11_keepSpans 27 = .ok (.invokevirtual 109, 3) := by decide +kernel
theorem dX11_keepSpans_30 : decode cX11_keepSpans 30 = .ok (.iload_n 1, 1) := by decide +kernel
theorem dX11_keepSpans_31 : decode cX11_keepSpans 31 = .ok (.ireturn, 1) := by decide +kernel
theorem dX11_least_0 : decode cX11_least 0 = .ok (.aload_n 0, 1) := by decide +kernel
theorem dX11_least_1 : decode cX11_least 1 = .ok (.iload_n 1, 1) := by decide +kernel
theorem dX11_least_2 : decode cX11_least 2 = .ok (.invokevirtual 128, 3) := by decide +kernel
theorem dX11_least_5 : decode cX11_least 5 = .ok (.astore_n 2, 1) := by decide +kernel
theorem dX11_least_6 : decode cX11_least 6 = .ok (.aload_n 2, 1) := by decide +kernel
theorem dX11_least_7 : decode cX11_least 7 = .ok (.ifnonnull 6, 3) := by decide +kernel
theorem dX11_least_10 : decode cX11_least 10 = .ok (.bipush (-2), 2) := by decide +kernel
theorem dX11_least_12 : decode cX11_least 12 = .ok (.ireturn, 1) := by decide +kernel
theorem dX11_least_13 : decode cX11_least 13 = .ok (.aload_n 0, 1) := by decide +kernel
theorem dX11_least_14 : decode cX11_least 14 = .ok (.aload_n 2, 1) := by decide +kernel
theorem dX11_least_15 : decode cX11_least 15 = .ok (.aconst_null, 1) := by decide +kernel
theorem dX11_least_16 : decode cX11_least 16 = .ok (.invokevirtual 283, 3) := by decide +kernel
theorem dX11_least_19 : decode cX11_least 19 = .ok (.istore_n 3, 1) := by decide +kernel
theorem dX11_least_20 : decode cX11_least 20 = .ok (.iload_n 3, 1) := by decide +kernel
theorem dX11_least_21 : decode cX11_least 21 = .ok (.ifCond .eq 7, 3) := by decide +kernel
theorem dX11_least_24 : decode cX11_least 24 = .ok (.iload_n 3, 1) := by decide +kernel
theorem dX11_least_25 : decode cX11_least 25 = .ok (.goto 13, 3) := by decide +kernel
theorem dX11_least_28 : decode cX11_least 28 = .ok (.aload_n 0, 1) := by decide +kernel
theorem dX11_least_29 : decode cX11_least 29 = .ok (.getfield 71, 3) := by decide +kernel
theorem dX11_least_32 : decode cX11_least 32 = .ok (.getfield 291, 3) := by decide +kernel
theorem dX11_least_35 : decode cX11_least 35 = .ok (.invokevirtual 298, 3) := by decide +kernel
theorem dX11_least_38 : decode cX11_least 38 = .ok (.ireturn, 1) := by decide +kernel
theorem dX11_makeTables_0 : decode cX11_makeTables 0 = .ok (.aload_n 1, 1) := by decide +kernel
theorem dX11_makeTables_1 : decode cX11_makeTables 1 = .ok (.iconst 2, 1) := by decide +kernel
theorem dX11_makeTables_2 : decode cX11_makeTables 2 = .ok (.invokevirtual 326, 3) := by decide +kernel
theorem dX11_makeTables_5 : decode cX11_makeTables 5 = .ok (.ifCond .eq 15, 3) := by decide +kernel
theorem dX11_makeTables_8 : decode cX11_makeTables 8 = .ok (.aload_n 2, 1) := by decide +kernel
theorem dX11_makeTables_9 : decode cX11_makeTables 9 = .ok (.ifnull 14, 3) := by decide +kernel
theorem dX11_makeTables_12 : decode cX11_makeTables 12 = .ok (.aload_n 2, 1) := by decide +kernel
theorem dX11_makeTables_13 : decode cX11_makeTables 13 = .ok (.iconst 2, 1) := by decide +kernel
theorem dX11_makeTables_14 : decode cX11_makeTables 14 = .ok (.invokevirtual 326, 3) := by decide +kernel
theorem dX11_makeTables_17 : decode cX11_makeTables 17 = .ok (.ifCond .ne 6, 3) := by decide +kernel
theorem dX11_makeTables_20 : decode cX11_makeTables 20 = .ok (.bipush (-6), 2) := by decide +kernel
theorem dX11_makeTables_22 : decode cX11_makeTables 22 = .ok (.ireturn, 1) := by decide +kernel
theorem dX11_makeTables_23 : decode cX11_makeTables 23 = .ok (.aload_n 1, 1) := by decide +kernel
theorem dX11_makeTables_24 : decode cX11_makeTables 24 = .ok (.iconst 2, 1) := by decide +kernel
theorem dX11_makeTables_25 : decode cX11_makeTables 25 = .ok (.invokevirtual 329, 3) := by decide +kernel
theorem dX11_makeTables_28 : decode cX11_makeTables 28 = .ok (.ifCond .ne 15, 3) := by decide +kernel
theorem dX11_makeTables_31 : decode cX11_makeTables 31 = .ok (.aload_n 2, 1) := by decide +kernel
theorem dX11_makeTables_32 : decode cX11_makeTables 32 = .ok (.ifnull 14, 3) := by decide +kernel
theorem dX11_makeTables_35 : decode cX11_makeTables 35 = .ok (.aload_n 2, 1) := by decide +kernel
theorem dX11_makeTables_36 : decode cX11_makeTables 36 = .ok (.iconst 2, 1) := by decide +kernel
theorem dX11_makeTables_37 : decode cX11_makeTables 37 = .ok (.invokevirtual 329, 3) := by decide +kernel
theorem dX11_makeTables_40 : decode cX11_makeTables 40 = .ok (.ifCond .eq 6, 3) := by decide +kernel
theorem dX11_makeTables_43 : decode cX11_makeTables 43 = .ok (.bipush (-7), 2) := by decide +kernel
theorem dX11_makeTables_45 : decode cX11_makeTables 45 = .ok (.ireturn, 1) := by decide +kernel
theorem dX11_makeTables_46 : decode cX11_makeTables 46 = .ok (.aload_n 0, 1) := by decide +kernel
theorem dX11_makeTables_47 : decode cX11_makeTables 47 = .ok (.getfield 71, 3) := by decide +kernel
theorem dX11_makeTables_50 : decode cX11_makeTables 50 = .ok (.aload_n 1, 1) := by decide +kernel
theorem dX11_makeTables_51 : decode cX11_makeTables 51 = .ok (.aload_n 2, 1) := by decide +kernel
theorem dX11_makeTables_52 : decode cX11_makeTables 52 = .ok (.invokevirtual 365, 3) := by decide +kernel
theorem dX11_makeTables_55 : decode cX11_makeTables 55 = .ok (.ifCond .eq 7, 3) := by decide +kernel
theorem dX11_makeTables_58 : decode cX11_makeTables 58 = .ok (.iconst 0, 1) := by decide +kernel
theorem dX11_makeTables_59 : decode cX11_makeTables 59 = .ok (.goto 5, 3) := by decide +kernel
theorem dX11_makeTables_62 : decode cX11_makeTables 62 = .ok (.bipush (-7), 2) := by decide +kernel
theorem dX11_makeTables_64 : decode cX11_makeTables 64 = .ok (.ireturn, 1) := by decide +kernel
theorem dX11_named_0 : decode cX11_named 0 = .ok (.aload_n 0, 1) := by decide +kernel
theorem dX11_named_1 : decode cX11_named 1 = .ok (.iload_n 1, 1) := by decide +kernel
theorem dX11_named_2 : decode cX11_named 2 = .ok (.invokevirtual 128, 3) := by decide +kernel
theorem dX11_named_5 : decode cX11_named 5 = .ok (.astore_n 3, 1) := by decide +kernel
theorem dX11_named_6 : decode cX11_named 6 = .ok (.aload_n 3, 1) := by decide +kernel
theorem dX11_named_7 : decode cX11_named 7 = .ok (.ifnonnull 6, 3) := by decide +kernel
theorem dX11_named_10 : decode cX11_named 10 = .ok (.bipush (-2), 2) := by decide +kernel
theorem dX11_named_12 : decode cX11_named 12 = .ok (.ireturn, 1) := by decide +kernel
theorem dX11_named_13 : decode cX11_named 13 = .ok (.iload_n 2, 1) := by decide +kernel
theorem dX11_named_14 : decode cX11_named 14 = .ok (.invokestatic 259, 3) := by decide +kernel
theorem dX11_named_17 : decode cX11_named 17 = .ok (.ifCond .eq 11, 3) := by decide +kernel
theorem dX11_named_20 : decode cX11_named 20 = .ok (.aload_n 3, 1) := by decide +kernel
theorem dX11_named_21 : decode cX11_named 21 = .ok (.iload_n 2, 1) := by decide +kernel
theorem dX11_named_22 : decode cX11_named 22 = .ok (.invokevirtual 262, 3) := by decide +kernel
theorem dX11_named_25 : decode cX11_named 25 = .ok (.goto 5, 3) := by decide +kernel
theorem dX11_named_28 : decode cX11_named 28 = .ok (.bipush (-4), 2) := by decide +kernel
theorem dX11_named_30 : decode cX11_named 30 = .ok (.ireturn, 1) := by decide +kernel
theorem dX11_node_0 : decode cX11_node 0 = .ok (.aload_n 0, 1) := by decide +kernel
theorem dX11_node_1 : decode cX11_node 1 = .ok (.iload_n 1, 1) := by decide +kernel
theorem dX11_node_2 : decode cX11_node 2 = .ok (.invokevirtual 128, 3) := by decide +kernel
theorem dX11_node_5 : decode cX11_node 5 = .ok (.astore 4, 2) := by decide +kernel
theorem dX11_node_7 : decode cX11_node 7 = .ok (.aload 4, 2) := by decide +kernel
theorem dX11_node_9 : decode cX11_node 9 = .ok (.ifnonnull 6, 3) := by decide +kernel
theorem dX11_node_12 : decode cX11_node 12 = .ok (.bipush (-2), 2) := by decide +kernel
theorem dX11_node_14 : decode cX11_node 14 = .ok (.ireturn, 1) := by decide +kernel
theorem dX11_node_15 : decode cX11_node 15 = .ok (.iload_n 3, 1) := by decide +kernel
theorem dX11_node_16 : decode cX11_node 16 = .ok (.ifCond .lt 13, 3) := by decide +kernel
theorem dX11_node_19 : decode cX11_node 19 = .ok (.iload_n 3, 1) := by decide +kernel
theorem dX11_node_20 : decode cX11_node 20 = .ok (.bipush 6, 2) := by decide +kernel
theorem dX11_node_22 : decode cX11_node 22 = .ok (.if_icmp .gt 7, 3) := by decide +kernel
theorem dX11_node_25 : decode cX11_node 25 = .ok (.iconst 1, 1) := by decide +kernel
theorem dX11_node_26 : decode cX11_node 26 = .ok (.goto 4, 3) := by decide +kernel
theorem dX11_node_29 : decode cX11_node 29 = .ok (.iconst 0, 1) := by decide +kernel
theorem dX11_node_30 : decode cX11_node 30 = .ok (.istore 5, 2) := by decide +kernel
theorem dX11_node_32 : decode cX11_node 32 = .ok (.aload 4, 2) := by decide +kernel
theorem dX11_node_34 : decode cX11_node 34 = .ok (.iload_n 2, 1) := by decide +kernel
theorem dX11_node_35 : decode cX11_node 35 = .ok (.invokevirtual 132, 3) := by decide +kernel
theorem dX11_node_38 : decode cX11_node 38 = .ok (.ifCond .eq 20, 3) := by decide +kernel
theorem dX11_node_41 : decode cX11_node 41 = .ok (.iload 5, 2) := by decide +kernel
theorem dX11_node_43 : decode cX11_node 43 = .ok (.ifCond .ne 18, 3) := by decide +kernel
theorem dX11_node_46 : decode cX11_node 46 = .ok (.iload_n 3, 1) := by decide +kernel
theorem dX11_node_47 : decode cX11_node 47 = .ok (.bipush 10, 2) := by decide +kernel
theorem dX11_node_49 : decode cX11_node 49 = .ok (.if_icmp .lt 9, 3) := by decide +kernel
theorem dX11_node_52 : decode cX11_node 52 = .ok (.iload_n 3, 1) := by decide +kernel
theorem dX11_node_53 : decode cX11_node 53 = .ok (.bipush 18, 2) := by decide +kernel
theorem dX11_node_55 : decode cX11_node 55 = .ok (.if_icmp .le 6, 3) := by decide +kernel
theorem dX11_node_58 : decode cX11_node 58 = .ok (.bipush (-4), 2) := by decide +kernel
theorem dX11_node_60 : decode cX11_node 60 = .ok (.ireturn, 1) := by decide +kernel
theorem dX11_node_61 : decode cX11_node 61 = .ok (.iload 5, 2) := by decide +kernel
theorem dX11_node_63 : decode cX11_node 63 = .ok (.ifCond .eq 11, 3) := by decide +kernel
theorem dX11_node_66 : decode cX11_node 66 = .ok (.aload 4, 2) := by decide +kernel
theorem dX11_node_68 : decode cX11_node 68 = .ok (.iload_n 2, 1) := by decide +kernel
theorem dX11_node_69 : decode cX11_node 69 = .ok (.iload_n 3, 1) := by decide +kernel
theorem dX11_node_70 : decode cX11_node 70 = .ok (.invokevirtual 135, 3) := by decide +kernel
theorem dX11_node_73 : decode cX11_node 73 = .ok (.ireturn, 1) := by decide +kernel
theorem dX11_node_74 : decode cX11_node 74 = .ok (.aload 4, 2) := by decide +kernel
theorem dX11_node_76 : decode cX11_node 76 = .ok (.iload_n 2, 1) := by decide +kernel
theorem dX11_node_77 : decode cX11_node 77 = .ok (.invokevirtual 139, 3) := by decide +kernel
theorem dX11_node_80 : decode cX11_node 80 = .ok (.iload_n 3, 1) := by decide +kernel
theorem dX11_node_81 : decode cX11_node 81 = .ok (.invokestatic 143, 3) := by decide +kernel
theorem dX11_node_84 : decode cX11_node 84 = .ok (.if_icmp .eq 11, 3) := by decide +kernel
theorem dX11_node_87 : decode cX11_node 87 = .ok (.aload_n 0, 1) := by decide +kernel
theorem dX11_node_88 : decode cX11_node 88 = .ok (.iconst 3, 1) := by decide +kernel
theorem dX11_node_89 : decode cX11_node 89 = .ok (.putfield 146, 3) := by decide +kernel
theorem dX11_node_92 : decode cX11_node 92 = .ok (.bipush (-6), 2) := by decide +kernel
theorem dX11_node_94 : decode cX11_node 94 = .ok (.ireturn, 1) := by decide +kernel
theorem dX11_node_95 : decode cX11_node 95 = .ok (.iload_n 3, 1) := by decide +kernel
theorem dX11_node_96 : decode cX11_node 96 = .ok (.bipush 16, 2) := by decide +kernel
theorem dX11_node_98 : decode cX11_node 98 = .ok (.if_icmp .ne 12, 3) := by decide +kernel
theorem dX11_node_101 : decode cX11_node 101 = .ok (.aload 4, 2) := by decide +kernel
theorem dX11_node_103 : decode cX11_node 103 = .ok (.iload_n 2, 1) := by decide +kernel
theorem dX11_node_104 : decode cX11_node 104 = .ok (.invokevirtual 149, 3) := by decide +kernel
theorem dX11_node_107 : decode cX11_node 107 = .ok (.goto 24, 3) := by decide +kernel
theorem dX11_node_110 : decode cX11_node 110 = .ok (.iload_n 3, 1) := by decide +kernel
theorem dX11_node_111 : decode cX11_node 111 = .ok (.bipush 17, 2) := by decide +kernel
theorem dX11_node_113 : decode cX11_node 113 = .ok (.if_icmp .ne 12, 3) := by decide +kernel
theorem dX11_node_116 : decode cX11_node 116 = .ok (.aload 4, 2) := by decide +kernel
theorem dX11_node_118 : decode cX11_node 118 = .ok (.iload_n 2, 1) := by decide +kernel
theorem dX11_node_119 : decode cX11_node 119 = .ok (.invokevirtual 152, 3) := by decide +kernel
theorem dX11_node_122 : decode cX11_node 122 = .ok (.goto 9, 3) := by decide +kernel
theorem dX11_node_125 : decode cX11_node 125 = .ok (.aload 4, 2) := by decide +kernel
theorem dX11_node_127 : decode cX11_node 127 = .ok (.iload_n 2, 1) := by decide +kernel
theorem dX11_node_128 : decode cX11_node 128 = .ok (.invokevirtual 155, 3) := by decide +kernel
theorem dX11_node_131 : decode cX11_node 131 = .ok (.ireturn, 1) := by decide +kernel
theorem dX11_part_0 : decode cX11_part 0 = .ok (.aload_n 0, 1) := by decide +kernel
theorem dX11_part_1 : decode cX11_part 1 = .ok (.iload_n 1, 1) := by decide +kernel
theorem dX11_part_2 : decode cX11_part 2 = .ok (.invokevirtual 128, 3) := by decide +kernel
theorem dX11_part_5 : decode cX11_part 5 = .ok (.astore 5, 2) := by decide +kernel
theorem dX11_part_7 : decode cX11_part 7 = .ok (.aload 5, 2) := by decide +kernel
theorem dX11_part_9 : decode cX11_part 9 = .ok (.ifnonnull 6, 3) := by decide +kernel
theorem dX11_part_12 : decode cX11_part 12 = .ok (.bipush (-2), 2) := by decide +kernel
theorem dX11_part_14 : decode cX11_part 14 = .ok (.ireturn, 1) := by decide +kernel
theorem dX11_part_15 : decode cX11_part 15 = .ok (.aload 5, 2) := by decide +kernel
theorem dX11_part_17 : decode cX11_part 17 = .ok (.iload_n 2, 1) := by decide +kernel
theorem dX11_part_18 : decode cX11_part 18 = .ok (.invokevirtual 132, 3) := by decide +kernel
theorem dX11_part_21 : decode cX11_part 21 = .ok (.ifCond .ne 6, 3) := by decide +kernel
theorem dX11_part_24 : decode cX11_part 24 = .ok (.bipush (-4), 2) := by decide +kernel
theorem dX11_part_26 : decode cX11_part 26 = .ok (.ireturn, 1) := by decide +kernel
theorem dX11_part_27 : decode cX11_part 27 = .ok (.aload 5, 2) := by decide +kernel
theorem dX11_part_29 : decode cX11_part 29 = .ok (.iload_n 2, 1) := by decide +kernel
theorem dX11_part_30 : decode cX11_part 30 = .ok (.invokevirtual 139, 3) := by decide +kernel
theorem dX11_part_33 : decode cX11_part 33 = .ok (.iconst 2, 1) := by decide +kernel
theorem dX11_part_34 : decode cX11_part 34 = .ok (.if_icmp .eq 11, 3) := by decide +kernel
theorem dX11_part_37 : decode cX11_part 37 = .ok (.aload_n 0, 1) := by decide +kernel
theorem dX11_part_38 : decode cX11_part 38 = .ok (.iconst 3, 1) := by decide +kernel
theorem dX11_part_39 : decode cX11_part 39 = .ok (.putfield 146, 3) := by decide +kernel
theorem dX11_part_42 : decode cX11_part 42 = .ok (.bipush (-6), 2) := by decide +kernel
theorem dX11_part_44 : decode cX11_part 44 = .ok (.ireturn, 1) := by decide +kernel
theorem dX11_part_45 : decode cX11_part 45 = .ok (.iload_n 3, 1) := by decide +kernel
theorem dX11_part_46 : decode cX11_part 46 = .ok (.ifCond .lt 13, 3) := by decide +kernel
theorem dX11_part_49 : decode cX11_part 49 = .ok (.iload_n 3, 1) := by decide +kernel
theorem dX11_part_50 : decode cX11_part 50 = .ok (.aload 5, 2) := by decide +kernel
theorem dX11_part_52 : decode cX11_part 52 = .ok (.iload_n 2, 1) := by decide +kernel
theorem dX11_part_53 : decode cX11_part 53 = .ok (.invokevirtual 158, 3) := by decide +kernel
theorem dX11_part_56 : decode cX11_part 56 = .ok (.if_icmp .lt 11, 3) := by decide +kernel
theorem dX11_part_59 : decode cX11_part 59 = .ok (.aload_n 0, 1) := by decide +kernel
theorem dX11_part_60 : decode cX11_part 60 = .ok (.iconst 1, 1) := by decide +kernel
theorem dX11_part_61 : decode cX11_part 61 = .ok (.putfield 146, 3) := by decide +kernel
theorem dX11_part_64 : decode cX11_part 64 = .ok (.bipush (-4), 2) := by decide +kernel
theorem dX11_part_66 : decode cX11_part 66 = .ok (.ireturn, 1) := by decide +kernel
theorem dX11_part_67 : decode cX11_part 67 = .ok (.iload 4, 2) := by decide +kernel
theorem dX11_part_69 : decode cX11_part 69 = .ok (.ifCond .eq 13, 3) := by decide +kernel
theorem dX11_part_72 : decode cX11_part 72 = .ok (.aload 5, 2) := by decide +kernel
theorem dX11_part_74 : decode cX11_part 74 = .ok (.iload_n 2, 1) := by decide +kernel
theorem dX11_part_75 : decode cX11_part 75 = .ok (.iload_n 3, 1) := by decide +kernel
theorem dX11_part_76 : decode cX11_part 76 = .ok (.invokevirtual 161, 3) := by decide +kernel
theorem dX11_part_79 : decode cX11_part 79 = .ok (.goto 10, 3) := by decide +kernel
theorem dX11_part_82 : decode cX11_part 82 = .ok (.aload 5, 2) := by decide +kernel
theorem dX11_part_84 : decode cX11_part 84 = .ok (.iload_n 2, 1) := by decide +kernel
theorem dX11_part_85 : decode cX11_part 85 = .ok (.iload_n 3, 1) := by decide +kernel
theorem dX11_part_86 : decode cX11_part 86 = .ok (.invokevirtual 164, 3) := by decide +kernel
theorem dX11_part_89 : decode cX11_part 89 = .ok (.ireturn, 1) := by decide +kernel
theorem dX11_parting_0 : decode cX11_parting 0 = .ok (.aload_n 0, 1) := by decide +kernel
theorem dX11_parting_1 : decode cX11_parting 1 = .ok (.iload_n 1, 1) := by decide +kernel
theorem dX11_parting_2 : decode cX11_parting 2 = .ok (.invokevirtual 128, 3) := by decide +kernel
theorem dX11_parting_5 : decode cX11_parting 5 = .ok (.astore_n 3, 1) := by decide +kernel
theorem dX11_parting_6 : decode cX11_parting 6 = .ok (.aload_n 3, 1) := by decide +kernel
theorem dX11_parting_7 : decode cX11_parting 7 = .ok (.ifnonnull 7, 3) := by decide +kernel
theorem dX11_parting_10 : decode cX11_parting 10 = .ok (.aconst_null, 1) := by decide +kernel
theorem dX11_parting_11 : decode cX11_parting 11 = .ok (.goto 8, 3) := by decide +kernel
theorem dX11_parting_14 : decode cX11_parting 14 = .ok (.aload_n 0, 1) := by decide +kernel
theorem dX11_parting_15 : decode cX11_parting 15 = .ok (.iload_n 2, 1) := by decide +kernel
theorem dX11_parting_16 : decode cX11_parting 16 = .ok (.invokevirtual 128, 3) := by decide +kernel
theorem dX11_parting_19 : decode cX11_parting 19 = .ok (.astore 4, 2) := by decide +kernel
theorem dX11_parting_21 : decode cX11_parting 21 = .ok (.aload_n 3, 1) := by decide +kernel
theorem dX11_parting_22 : decode cX11_parting 22 = .ok (.ifnull 8, 3) := by decide +kernel
theorem dX11_parting_25 : decode cX11_parting 25 = .ok (.aload 4, 2) := by decide +kernel
theorem dX11_parting_27 : decode cX11_parting 27 = .ok (.ifnonnull 6, 3) := by decide +kernel
theorem dX11_parting_30 : decode cX11_parting 30 = .ok (.bipush (-2), 2) := by decide +kernel
theorem dX11_parting_32 : decode cX11_parting 32 = .ok (.ireturn, 1) := by decide +kernel
theorem dX11_parting_33 : decode cX11_parting 33 = .ok (.aload_n 0, 1) := by decide +kernel
theorem dX11_parting_34 : decode cX11_parting 34 = .ok (.aload_n 3, 1) := by decide +kernel
theorem dX11_parting_35 : decode cX11_parting 35 = .ok (.aload 4, 2) := by decide +kernel
theorem dX11_parting_37 : decode cX11_parting 37 = .ok (.invokevirtual 283, 3) := by decide +kernel
theorem dX11_parting_40 : decode cX11_parting 40 = .ok (.istore 5, 2) := by decide +kernel
theorem dX11_parting_42 : decode cX11_parting 42 = .ok (.iload 5, 2) := by decide +kernel
theorem dX11_parting_44 : decode cX11_parting 44 = .ok (.ifCond .eq 6, 3) := by decide +kernel
theorem dX11_parting_47 : decode cX11_parting 47 = .ok (.iload 5, 2) := by decide +kernel
theorem dX11_parting_49 : decode cX11_parting 49 = .ok (.ireturn, 1) := by decide +kernel
theorem dX11_parting_50 : decode cX11_parting 50 = .ok (.aload_n 0, 1) := by decide +kernel
theorem dX11_parting_51 : decode cX11_parting 51 = .ok (.getfield 71, 3) := by decide +kernel
theorem dX11_parting_54 : decode cX11_parting 54 = .ok (.invokevirtual 301, 3) := by decide +kernel
theorem dX11_parting_57 : decode cX11_parting 57 = .ok (.aload_n 0, 1) := by decide +kernel
theorem dX11_parting_58 : decode cX11_parting 58 = .ok (.getfield 71, 3) := by decide +kernel
theorem dX11_parting_61 : decode cX11_parting 61 = .ok (.getfield 304, 3) := by decide +kernel
theorem dX11_parting_64 : decode cX11_parting 64 = .ok (.ifCond .ne 15, 3) := by decide +kernel
theorem dX11_parting_67 : decode cX11_parting 67 = .ok (.aload_n 0, 1) := by decide +kernel
theorem dX11_parting_68 : decode cX11_parting 68 = .ok (.getfield 71, 3) := by decide +kernel
theorem dX11_parting_71 : decode cX11_parting 71 = .ok (.getfield 307, 3) := by decide +kernel
theorem dX11_parting_74 : decode cX11_parting 74 = .ok (.ifCond .ne 5, 3) := by decide +kernel
theorem dX11_parting_77 : decode cX11_parting 77 = .ok (.iconst (-1), 1) := by decide +kernel
theorem dX11_parting_78 : decode cX11_parting 78 = .ok (.ireturn, 1) := by decide +kernel
theorem dX11_parting_79 : decode cX11_parting 79 = .ok (.aload_n 0, 1) := by decide +kernel
theorem dX11_parting_80 : decode cX11_parting 80 = .ok (.getfield 71, 3) := by decide +kernel
theorem dX11_parting_83 : decode cX11_parting 83 = .ok (.aload_n 0, 1) := by decide +kernel
theorem dX11_parting_84 : decode cX11_parting 84 = .ok (.getfield 31, 3) := by decide +kernel
theorem dX11_parting_87 : decode cX11_parting 87 = .ok (.invokevirtual 310, 3) := by decide +kernel
theorem dX11_parting_90 : decode cX11_parting 90 = .ok (.aload_n 0, 1) := by decide +kernel
theorem dX11_parting_91 : decode cX11_parting 91 = .ok (.getfield 31, 3) := by decide +kernel
theorem dX11_parting_94 : decode cX11_parting 94 = .ok (.getfield 171, 3) := by decide +kernel
theorem dX11_parting_97 : decode cX11_parting 97 = .ok (.ifCond .eq 11, 3) := by decide +kernel
theorem dX11_parting_100 : decode cX11_parting 100 = .ok (.aload_n 0, 1) := by decide +kernel
theorem dX11_parting_101 : decode cX11_parting 101 = .ok (.iconst 4, 1) := by decide +kernel
theorem dX11_parting_102 : decode cX11_parting 102 = .ok (.putfield 146, 3) := by decide +kernel
theorem dX11_parting_105 : decode cX11_parting 105 = .ok (.bipush (-9), 2) := by decide +kernel
theorem dX11_parting_107 : decode cX11_parting 107 = .ok (.ireturn, 1) := by decide +kernel
theorem dX11_parting_108 : decode cX11_parting 108 = .ok (.aload_n 0, 1) := by decide +kernel
theorem dX11_parting_109 : decode cX11_parting 109 = .ok (.iconst 0, 1) := by decide +kernel
theorem dX11_parting_110 : decode cX11_parting 110 = .ok (.invokevirtual 174, 3) := by decide +kernel
theorem dX11_parting_113 : decode cX11_parting 113 = .ok (.aload_n 0, 1) := by decide +kernel
theorem dX11_parting_114 : decode cX11_parting 114 = .ok (.getfield 28, 3) := by decide +kernel
theorem dX11_parting_117 : decode cX11_parting 117 = .ok (.getfield 96, 3) := by decide +kernel
theorem dX11_parting_120 : decode cX11_parting 120 = .ok (.ireturn, 1) := by decide +kernel
theorem dX11_patternIn_0 : decode cX11_patternIn 0 = .ok (.iload_n 1, 1) := by decide +kernel
theorem dX11_patternIn_1 : decode cX11_patternIn 1 = .ok (.invokestatic 102, 3) := by decide +kernel
theorem dX11_patternIn_4 : decode cX11_patternIn 4 = .ok (.ifCond .ne 5, 3) := by decide +kernel
theorem dX11_patternIn_7 : decode cX11_patternIn 7 = .ok (.aconst_null, 1) := by decide +kernel
theorem dX11_patternIn_8 : decode cX11_patternIn 8 = .ok (.areturn, 1) := by decide +kernel
theorem dX11_patternIn_9 : decode cX11_patternIn 9 = .ok (.aload_n 0, 1) := by decide +kernel
theorem dX11_patternIn_10 : decode cX11_patternIn 10 = .ok (.getfield 20, 3) := by decide +kernel
theorem dX11_patternIn_13 : decode cX11_patternIn 13 = .ok (.iload_n 1, 1) := by decide +kernel
theorem dX11_patternIn_14 : decode cX11_patternIn 14 = .ok (.aaload, 1) := by decide +kernel
theorem dX11_patternIn_15 : decode cX11_patternIn 15 = .ok (.getfield 120, 3) := by decide +kernel
theorem dX11_patternIn_18 : decode cX11_patternIn 18 = .ok (.ifCond .ne 10, 3) := by decide +kernel
theorem dX11_patternIn_21 : decode cX11_patternIn 21 = .ok (.aload_n 0, 1) := by decide +kernel
theorem dX11_patternIn_22 : decode cX11_patternIn 22 = .ok (.iconst 2, 1) := by decide +kernel
theorem dX11_patternIn_23 : decode cX11_patternIn 23 = .ok (.putfield 146, 3) := by decide +kernel
theorem dX11_patternIn_26 : decode cX11_patternIn 26 = .ok (.aconst_null, 1) := by decide +kernel
theorem dX11_patternIn_27 : decode cX11_patternIn 27 = .ok (.areturn, 1) := by decide +kernel
theorem dX11_patternIn_28 : decode cX11_patternIn 28 = .ok (.aload_n 0, 1) := by decide +kernel
theorem dX11_patternIn_29 : decode cX11_patternIn 29 = .ok (.getfield 20, 3) := by decide +kernel
theorem dX11_patternIn_32 : decode cX11_patternIn 32 = .ok (.iload_n 1, 1) := by decide +kernel
theorem dX11_patternIn_33 : decode cX11_patternIn 33 = .ok (.aaload, 1) := by decide +kernel
theorem dX11_patternIn_34 : decode cX11_patternIn 34 = .ok (.areturn, 1) := by decide +kernel
theorem dX11_patternsThere_0 : decode cX11_patternsThere 0 = .ok (.iconst 0, 1) := by decide +kernel
theorem dX11_patternsThere_1 : decode cX11_patternsThere 1 = .ok (.istore_n 1, 1) := by decide +kernel
theorem dX11_patternsThere_2 : decode cX11_patternsThere 2 = .ok (.iconst 0, 1) := by decide +kernel
theorem dX11_patternsThere_3 : decode cX11_patternsThere 3 = .ok (.istore_n 2, 1) := by decide +kernel
theorem dX11_patternsThere_4 : decode cX11_patternsThere 4 = .ok (.iload_n 2, 1) := by decide +kernel
theorem dX11_patternsThere_5 : decode cX11_patternsThere 5 = .ok (.aload_n 0, 1) := by decide +kernel
theorem dX11_patternsThere_6 : decode cX11_patternsThere 6 = .ok (.getfield 20, 3) := by decide +kernel
theorem dX11_patternsThere_9 : decode cX11_patternsThere 9 = .ok (.arraylength, 1) := by decide +kernel
theorem dX11_patternsThere_10 : decode cX11_patternsThere 10 = .ok (.if_icmp .ge 29, 3) := by decide +kernel
theorem dX11_patternsThere_13 : decode cX11_patternsThere 13 = .ok (.iload_n 1, 1) := by decide +kernel
theorem dX11_patternsThere_14 : decode cX11_patternsThere 14 = .ok (.aload_n 0, 1) := by decide +kernel
theorem dX11_patternsThere_15 : decode cX11_patternsThere 15 = .ok (.getfield 20, 3) := by decide +kernel
theorem dX11_patternsThere_18 : decode cX11_patternsThere 18 = .ok (.iload_n 2, 1) := by decide +kernel
theorem dX11_patternsThere_19 : decode cX11_patternsThere 19 = .ok (.aaload, 1) := by decide +kernel
theorem dX11_patternsThere_20 : decode cX11_patternsThere 20 = .ok (.getfield 120, 3) := by decide +kernel
theorem dX11_patternsThere_23 : decode cX11_patternsThere 23 = .ok (.ifCond .eq 7, 3) := by decide +kernel
theorem dX11_patternsThere_26 : decode cX11_patternsThere 26 = .ok (.iconst 1, 1) := by decide +kernel
theorem dX11_patternsThere_27 : decode cX11_patternsThere 27 = .ok (.goto 4, 3) := by decide +kernel
theorem dX11_patternsThere_30 : decode cX11_patternsThere 30 = .ok (.iconst 0, 1) := by decide +kernel
theorem dX11_patternsThere_31 : decode cX11_patternsThere 31 = .ok (.iadd, 1) := by decide +kernel
theorem dX11_patternsThere_32 : decode cX11_patternsThere 32 = .ok (.istore_n 1, 1) := by decide +kernel
theorem dX11_patternsThere_33 : decode cX11_patternsThere 33 = .ok (.iinc 2 1, 3) := by decide +kernel
theorem dX11_patternsThere_36 : decode cX11_patternsThere 36 = .ok (.goto (-32), 3) := by decide +kernel
theorem dX11_patternsThere_39 : decode cX11_patternsThere 39 = .ok (.iload_n 1, 1) := by decide +kernel
theorem dX11_patternsThere_40 : decode cX11_patternsThere 40 = .ok (.ireturn, 1) := by decide +kernel
theorem dX11_place_0 : decode cX11_place 0 = .ok (.aload_n 0, 1) := by decide +kernel
theorem dX11_place_1 : decode cX11_place 1 = .ok (.getfield 75, 3) := by decide +kernel
theorem dX11_place_4 : decode cX11_place 4 = .ok (.ireturn, 1) := by decide +kernel
theorem dX11_prefix_0 : decode cX11_prefix 0 = .ok (.aload_n 0, 1) := by decide +kernel
theorem dX11_prefix_1 : decode cX11_prefix 1 = .ok (.iload_n 1, 1) := by decide +kernel
theorem dX11_prefix_2 : decode cX11_prefix 2 = .ok (.invokevirtual 128, 3) := by decide +kernel
theorem dX11_prefix_5 : decode cX11_prefix 5 = .ok (.astore 4, 2) := by decide +kernel
theorem dX11_prefix_7 : decode cX11_prefix 7 = .ok (.aload 4, 2) := by decide +kernel
theorem dX11_prefix_9 : decode cX11_prefix 9 = .ok (.ifnonnull 6, 3) := by decide +kernel
theorem dX11_prefix_12 : decode cX11_prefix 12 = .ok (.bipush (-2), 2) := by decide +kernel
theorem dX11_prefix_14 : decode cX11_prefix 14 = .ok (.ireturn, 1) := by decide +kernel
theorem dX11_prefix_15 : decode cX11_prefix 15 = .ok (.aload_n 0, 1) := by decide +kernel
theorem dX11_prefix_16 : decode cX11_prefix 16 = .ok (.iload_n 2, 1) := by decide +kernel
theorem dX11_prefix_17 : decode cX11_prefix 17 = .ok (.invokevirtual 209, 3) := by decide +kernel
theorem dX11_prefix_20 : decode cX11_prefix 20 = .ok (.astore 5, 2) := by decide +kernel
theorem dX11_prefix_22 : decode cX11_prefix 22 = .ok (.aload 5, 2) := by decide +kernel
theorem dX11_prefix_24 : decode cX11_prefix 24 = .ok (.ifnonnull 9, 3) := by decide +kernel
theorem dX11_prefix_27 : decode cX11_prefix 27 = .ok (.aload_n 0, 1) := by decide +kernel
theorem dX11_prefix_28 : decode cX11_prefix 28 = .ok (.iload_n 2, 1) := by decide +kernel
theorem dX11_prefix_29 : decode cX11_prefix 29 = .ok (.invokevirtual 213, 3) := by decide +kernel
theorem dX11_prefix_32 : decode cX11_prefix 32 = .ok (.ireturn, 1) := by decide +kernel
theorem dX11_prefix_33 : decode cX11_prefix 33 = .ok (.iload_n 3, 1) := by decide +kernel
theorem dX11_prefix_34 : decode cX11_prefix 34 = .ok (.ifCond .lt 12, 3) := by decide +kernel
theorem dX11_prefix_37 : decode cX11_prefix 37 = .ok (.iload_n 3, 1) := by decide +kernel
theorem dX11_prefix_38 : decode cX11_prefix 38 = .ok (.aload 5, 2) := by decide +kernel
theorem dX11_prefix_40 : decode cX11_prefix 40 = .ok (.getfield 96, 3) := by decide +kernel
theorem dX11_prefix_43 : decode cX11_prefix 43 = .ok (.if_icmp .le 6, 3) := by decide +kernel
theorem dX11_prefix_46 : decode cX11_prefix 46 = .ok (.bipush (-4), 2) := by decide +kernel
theorem dX11_prefix_48 : decode cX11_prefix 48 = .ok (.ireturn, 1) := by decide +kernel
theorem dX11_prefix_49 : decode cX11_prefix 49 = .ok (.aload_n 0, 1) := by decide +kernel
theorem dX11_prefix_50 : decode cX11_prefix 50 = .ok (.aload 4, 2) := by decide +kernel
theorem dX11_prefix_52 : decode cX11_prefix 52 = .ok (.aconst_null, 1) := by decide +kernel
theorem dX11_prefix_53 : decode cX11_prefix 53 = .ok (.invokevirtual 283, 3) := by decide +kernel
theorem dX11_prefix_56 : decode cX11_prefix 56 = .ok (.istore 6, 2) := by decide +kernel
theorem dX11_prefix_58 : decode cX11_prefix 58 = .ok (.iload 6, 2) := by decide +kernel
theorem dX11_prefix_60 : decode cX11_prefix 60 = .ok (.ifCond .eq 8, 3) := by decide +kernel
theorem dX11_prefix_63 : decode cX11_prefix 63 = .ok (.iload 6, 2) := by decide +kernel
theorem dX11_prefix_65 : decode cX11_prefix 65 = .ok (.goto 13, 3) := by decide +kernel
theorem dX11_prefix_68 : decode cX11_prefix 68 = .ok (.aload_n 0, 1) := by decide +kernel
theorem dX11_prefix_69 : decode cX11_prefix 69 = .ok (.getfield 71, 3) := by decide +kernel
theorem dX11_prefix_72 : decode cX11_prefix 72 = .ok (.aload 5, 2) := by decide +kernel
theorem dX11_prefix_74 : decode cX11_prefix 74 = .ok (.iload_n 3, 1) := by decide +kernel
theorem dX11_prefix_75 : decode cX11_prefix 75 = .ok (.invokevirtual 287, 3) := by decide +kernel
theorem dX11_prefix_78 : decode cX11_prefix 78 = .ok (.ireturn, 1) := by decide +kernel
theorem dX11_print_0 : decode cX11_print 0 = .ok (.aload_n 0, 1) := by decide +kernel
theorem dX11_print_1 : decode cX11_print 1 = .ok (.iload_n 1, 1) := by decide +kernel
theorem dX11_print_2 : decode cX11_print 2 = .ok (.invokevirtual 128, 3) := by decide +kernel
theorem dX11_print_5 : decode cX11_print 5 = .ok (.astore_n 2, 1) := by decide +kernel
theorem dX11_print_6 : decode cX11_print 6 = .ok (.aload_n 2, 1) := by decide +kernel
theorem dX11_print_7 : decode cX11_print 7 = .ok (.ifnonnull 6, 3) := by decide +kernel
theorem dX11_print_10 : decode cX11_print 10 = .ok (.bipush (-2), 2) := by decide +kernel
theorem dX11_print_12 : decode cX11_print 12 = .ok (.ireturn, 1) := by decide +kernel
theorem dX11_print_13 : decode cX11_print 13 = .ok (.aload_n 0, 1) := by decide +kernel
theorem dX11_print_14 : decode cX11_print 14 = .ok (.getfield 50, 3) := by decide +kernel
theorem dX11_print_17 : decode cX11_print 17 = .ok (.aload_n 2, 1) := by decide +kernel
theorem dX11_print_18 : decode cX11_print 18 = .ok (.aload_n 0, 1) := by decide +kernel
theorem dX11_print_19 : decode cX11_print 19 = .ok (.getfield 31, 3) := by decide +kernel
theorem dX11_print_22 : decode cX11_print 22 = .ok (.invokevirtual 167, 3) := by decide +kernel
theorem dX11_print_25 : decode cX11_print 25 = .ok (.aload_n 0, 1) := by decide +kernel
theorem dX11_print_26 : decode cX11_print 26 = .ok (.getfield 31, 3) := by decide +kernel
theorem dX11_print_29 : decode cX11_print 29 = .ok (.getfield 171, 3) := by decide +kernel
theorem dX11_print_32 : decode cX11_print 32 = .ok (.ifCond .eq 11, 3) := by decide +kernel
theorem dX11_print_35 : decode cX11_print 35 = .ok (.aload_n 0, 1) := by decide +kernel
theorem dX11_print_36 : decode cX11_print 36 = .ok (.iconst 4, 1) := by decide +kernel
theorem dX11_print_37 : decode cX11_print 37 = .ok (.putfield 146, 3) := by decide +kernel
theorem dX11_print_40 : decode cX11_print 40 = .ok (.bipush (-9), 2) := by decide +kernel
theorem dX11_print_42 : decode cX11_print 42 = .ok (.ireturn, 1) := by decide +kernel
theorem dX11_print_43 : decode cX11_print 43 = .ok (.aload_n 0, 1) := by decide +kernel
theorem dX11_print_44 : decode cX11_print 44 = .ok (.iconst 0, 1) := by decide +kernel
theorem dX11_print_45 : decode cX11_print 45 = .ok (.invokevirtual 174, 3) := by decide +kernel
theorem dX11_print_48 : decode cX11_print 48 = .ok (.aload_n 0, 1) := by decide +kernel
theorem dX11_print_49 : decode cX11_print 49 = .ok (.getfield 28, 3) := by decide +kernel
theorem dX11_print_52 : decode cX11_print 52 = .ok (.getfield 96, 3) := by decide +kernel
theorem dX11_print_55 : decode cX11_print 55 = .ok (.ireturn, 1) := by decide +kernel
theorem dX11_put_0 : decode cX11_put 0 = .ok (.iload_n 1, 1) := by decide +kernel
theorem dX11_put_1 : decode cX11_put 1 = .ok (.invokestatic 202, 3) := by decide +kernel
theorem dX11_put_4 : decode cX11_put 4 = .ok (.ifCond .ne 6, 3) := by decide +kernel
theorem dX11_put_7 : decode cX11_put 7 = .ok (.bipush (-2), 2) := by decide +kernel
theorem dX11_put_9 : decode cX11_put 9 = .ok (.ireturn, 1) := by decide +kernel
theorem dX11_put_10 : decode cX11_put 10 = .ok (.iload_n 2, 1) := by decide +kernel
theorem dX11_put_11 : decode cX11_put 11 = .ok (.ifCond .lt 8, 3) := by decide +kernel
theorem dX11_put_14 : decode cX11_put 14 = .ok (.iload_n 2, 1) := by decide +kernel
theorem dX11_put_15 : decode cX11_put 15 = .ok (.iconst 4, 1) := by decide +kernel
theorem dX11_put_16 : decode cX11_put 16 = .ok (.if_icmp .le 6, 3) := by decide +kernel
theorem dX11_put_19 : decode cX11_put 19 = .ok (.bipush (-4), 2) := by decide +kernel
theorem dX11_put_21 : decode cX11_put 21 = .ok (.ireturn, 1) := by decide +kernel
theorem dX11_put_22 : decode cX11_put 22 = .ok (.aload_n 0, 1) := by decide +kernel
theorem dX11_put_23 : decode cX11_put 23 = .ok (.getfield 24, 3) := by decide +kernel
theorem dX11_put_26 : decode cX11_put 26 = .ok (.iload_n 1, 1) := by decide +kernel
theorem dX11_put_27 : decode cX11_put 27 = .ok (.aaload, 1) := by decide +kernel
theorem dX11_put_28 : decode cX11_put 28 = .ok (.astore 5, 2) := by decide +kernel
theorem dX11_put_30 : decode cX11_put 30 = .ok (.aload 5, 2) := by decide +kernel
theorem dX11_put_32 : decode cX11_put 32 = .ok (.getfield 96, 3) := by decide +kernel
theorem dX11_put_35 : decode cX11_put 35 = .ok (.iload_n 2, 1) := by decide +kernel
theorem dX11_put_36 : decode cX11_put 36 = .ok (.iadd, 1) := by decide +kernel
theorem dX11_put_37 : decode cX11_put 37 = .ok (.bipush 100, 2) := by decide +kernel
theorem dX11_put_39 : decode cX11_put 39 = .ok (.if_icmp .le 6, 3) := by decide +kernel
theorem dX11_put_42 : decode cX11_put 42 = .ok (.bipush (-9), 2) := by decide +kernel
theorem dX11_put_44 : decode cX11_put 44 = .ok (.ireturn, 1) := by decide +kernel
theorem dX11_put_45 : decode cX11_put 45 = .ok (.iload_n 2, 1) := by decide +kernel
theorem dX11_put_46 : decode cX11_put 46 = .ok (.iconst 1, 1) := by decide +kernel
theorem dX11_put_47 : decode cX11_put 47 = .ok (.isub, 1) := by decide +kernel
theorem dX11_put_48 : decode cX11_put 48 = .ok (.istore 6, 2) := by decide +kernel
theorem dX11_put_50 : decode cX11_put 50 = .ok (.iload 6, 2) := by decide +kernel
theorem dX11_put_52 : decode cX11_put 52 = .ok (.ifCond .lt 25, 3) := by decide +kernel
theorem dX11_put_55 : decode cX11_put 55 = .ok (.aload 5, 2) := by decide +kernel
theorem dX11_put_57 : decode cX11_put 57 = .ok (.lload_n 3, 1) := by decide +kernel
theorem dX11_put_58 : decode cX11_put 58 = .ok (.bipush 16, 2) := by decide +kernel
theorem dX11_put_60 : decode cX11_put 60 = .ok (.iload 6, 2) := by decide +kernel
theorem dX11_put_62 : decode cX11_put 62 = .ok (.imul, 1) := by decide +kernel
theorem dX11_put_63 : decode cX11_put 63 = .ok (.lushr, 1) := by decide +kernel
theorem dX11_put_64 : decode cX11_put 64 = .ok (.l2i, 1) := by decide +kernel
theorem dX11_put_65 : decode cX11_put 65 = .ok (.ldc 178, 2) := by decide +kernel
theorem dX11_put_67 : decode cX11_put 67 = .ok (.iand, 1) := by decide +kernel
theorem dX11_put_68 : decode cX11_put 68 = .ok (.invokevirtual 99, 3) := by decide +kernel
theorem dX11_put_71 : decode cX11_put 71 = .ok (.iinc 6 (-1), 3) := by decide +kernel
theorem dX11_put_74 : decode cX11_put 74 = .ok (.goto (-24), 3) := by decide +kernel
theorem dX11_put_77 : decode cX11_put 77 = .ok (.aload 5, 2) := by decide +kernel
theorem dX11_put_79 : decode cX11_put 79 = .ok (.iconst 1, 1) := by decide +kernel
theorem dX11_put_80 : decode cX11_put 80 = .ok (.putfield 205, 3) := by decide +kernel
theorem dX11_put_83 : decode cX11_put 83 = .ok (.aload_n 0, 1) := by decide +kernel
theorem dX11_put_84 : decode cX11_put 84 = .ok (.iload_n 1, 1) := by decide +kernel
theorem dX11_put_85 : decode cX11_put 85 = .ok (.invokevirtual 206, 3) := by decide +kernel
theorem dX11_put_88 : decode cX11_put 88 = .ok (.aload 5, 2) := by decide +kernel
theorem dX11_put_90 : decode cX11_put 90 = .ok (.getfield 96, 3) := by decide +kernel
theorem dX11_put_93 : decode cX11_put 93 = .ok (.ireturn, 1) := by decide +kernel
theorem dX11_refusalByMachine_0 : decode cX11_refusalByMachine 0 = .ok (.aload_n 0, 1) := by decide +kernel
theorem dX11_refusalByMachine_1 : decode cX11_refusalByMachine 1 = .ok (.iload_n 1, 1) := by decide +kernel
theorem dX11_refusalByMachine_2 : decode cX11_refusalByMachine 2 = .ok (.invokevirtual 326, 3) := by decide +kernel
theorem dX11_refusalByMachine_5 : decode cX11_refusalByMachine 5 = .ok (.ifCond .ne 6, 3) := by decide +kernel
theorem dX11_refusalByMachine_8 : decode cX11_refusalByMachine 8 = .ok (.bipush (-6), 2) := by decide +kernel
theorem dX11_refusalByMachine_10 : decode cX11_refusalByMachine 10 = .ok (.ireturn, 1) := by decide +kernel
theorem dX11_refusalByMachine_11 : decode cX11_refusalByMachine 11 = .ok (.aload_n 0, 1) := by decide +kernel
theorem dX11_refusalByMachine_12 : decode cX11_refusalByMachine 12 = .ok (.iload_n 1, 1) := by decide +kernel
theorem dX11_refusalByMachine_13 : decode cX11_refusalByMachine 13 = .ok (.invokevirtual 329, 3) := by decide +kernel
theorem dX11_refusalByMachine_16 : decode cX11_refusalByMachine 16 = .ok (.ifCond .eq 8, 3) := by decide +kernel
theorem dX11_refusalByMachine_19 : decode cX11_refusalByMachine 19 = .ok (.bipush (-7), 2) := by decide +kernel
theorem dX11_refusalByMachine_21 : decode cX11_refusalByMachine 21 = .ok (.goto 4, 3) := by decide +kernel
theorem dX11_refusalByMachine_24 : decode cX11_refusalByMachine 24 = .ok (.iconst 0, 1) := by decide +kernel
theorem dX11_refusalByMachine_25 : decode cX11_refusalByMachine 25 = .ok (.ireturn, 1) := by decide +kernel
theorem dX11_refusalOfSome_0 : decode cX11_refusalOfSome 0 = .ok (.iconst 0, 1) := by decide +kernel
theorem dX11_refusalOfSome_1 : decode cX11_refusalOfSome 1 = .ok (.istore_n 3, 1) := by decide +kernel
theorem dX11_refusalOfSome_2 : decode cX11_refusalOfSome 2 = .ok (.iconst 0, 1) := by decide +kernel
theorem dX11_refusalOfSome_3 : decode cX11_refusalOfSome 3 = .ok (.istore 4, 2) := by decide +kernel
theorem dX11_refusalOfSome_5 : decode cX11_refusalOfSome 5 = .ok (.iload 4, 2) := by decide +kernel
theorem dX11_refusalOfSome_7 : decode cX11_refusalOfSome 7 = .ok (.aload_n 0, 1) := by decide +kernel
theorem dX11_refusalOfSome_8 : decode cX11_refusalOfSome 8 = .ok (.getfield 20, 3) := by decide +kernel
theorem dX11_refusalOfSome_11 : decode cX11_refusalOfSome 11 = .ok (.arraylength, 1) := by decide +kernel
theorem dX11_refusalOfSome_12 : decode cX11_refusalOfSome 12 = .ok (.if_icmp .ge 59, 3) := by decide +kernel
theorem dX11_refusalOfSome_15 : decode cX11_refusalOfSome 15 = .ok (.iload_n 1, 1) := by decide +kernel
theorem dX11_refusalOfSome_16 : decode cX11_refusalOfSome 16 = .ok (.iload 4, 2) := by decide +kernel
theorem dX11_refusalOfSome_18 : decode cX11_refusalOfSome 18 = .ok (.invokestatic 361, 3) := by decide +kernel
theorem dX11_refusalOfSome_21 : decode cX11_refusalOfSome 21 = .ok (.ifCond .ne 6, 3) := by decide +kernel
theorem dX11_refusalOfSome_24 : decode cX11_refusalOfSome 24 = .ok (.goto 41, 3) := by decide +kernel
theorem dX11_refusalOfSome_27 : decode cX11_refusalOfSome 27 = .ok (.aload_n 0, 1) := by decide +kernel
theorem dX11_refusalOfSome_28 : decode cX11_refusalOfSome 28 = .ok (.getfield 20, 3) := by decide +kernel
theorem dX11_refusalOfSome_31 : decode cX11_refusalOfSome 31 = .ok (.iload 4, 2) := by decide +kernel
theorem dX11_refusalOfSome_33 : decode cX11_refusalOfSome 33 = .ok (.aaload, 1) := by decide +kernel
theorem dX11_refusalOfSome_34 : decode cX11_refusalOfSome 34 = .ok (.iload_n 2, 1) := by decide +kernel
theorem dX11_refusalOfSome_35 : decode cX11_refusalOfSome 35 = .ok (.invokestatic 231, 3) := by decide +kernel
theorem dX11_refusalOfSome_38 : decode cX11_refusalOfSome 38 = .ok (.istore 5, 2) := by decide +kernel
theorem dX11_refusalOfSome_40 : decode cX11_refusalOfSome 40 = .ok (.iload 5, 2) := by decide +kernel
theorem dX11_refusalOfSome_42 : decode cX11_refusalOfSome 42 = .ok (.bipush (-6), 2) := by decide +kernel
theorem dX11_refusalOfSome_44 : decode cX11_refusalOfSome 44 = .ok (.if_icmp .ne 6, 3) := by decide +kernel
theorem dX11_refusalOfSome_47 : decode cX11_refusalOfSome 47 = .ok (.bipush (-6), 2) := by decide +kernel
theorem dX11_refusalOfSome_49 : decode cX11_refusalOfSome 49 = .ok (.ireturn, 1) := by decide +kernel
theorem dX11_refusalOfSome_50 : decode cX11_refusalOfSome 50 = .ok (.iload_n 3, 1) := by decide +kernel
theorem dX11_refusalOfSome_51 : decode cX11_refusalOfSome 51 = .ok (.iload 5, 2) := by decide +kernel
theorem dX11_refusalOfSome_53 : decode cX11_refusalOfSome 53 = .ok (.bipush (-7), 2) := by decide +kernel
theorem dX11_refusalOfSome_55 : decode cX11_refusalOfSome 55 = .ok (.if_icmp .ne 7, 3) := by decide +kernel
theorem dX11_refusalOfSome_58 : decode cX11_refusalOfSome 58 = .ok (.iconst 1, 1) := by decide +kernel
theorem dX11_refusalOfSome_59 : decode cX11_refusalOfSome 59 = .ok (.goto 4, 3) := by decide +kernel
theorem dX11_refusalOfSome_62 : decode cX11_refusalOfSome 62 = .ok (.iconst 0, 1) := by decide +kernel
theorem dX11_refusalOfSome_63 : decode cX11_refusalOfSome 63 = .ok (.ior, 1) := by decide +kernel
theorem dX11_refusalOfSome_64 : decode cX11_refusalOfSome 64 = .ok (.istore_n 3, 1) := by decide +kernel
theorem dX11_refusalOfSome_65 : decode cX11_refusalOfSome 65 = .ok (.iinc 4 1, 3) := by decide +kernel
theorem dX11_refusalOfSome_68 : decode cX11_refusalOfSome 68 = .ok (.goto (-63), 3) := by decide +kernel
theorem dX11_refusalOfSome_71 : decode cX11_refusalOfSome 71 = .ok (.iload_n 3, 1) := by decide +kernel
theorem dX11_refusalOfSome_72 : decode cX11_refusalOfSome 72 = .ok (.ifCond .eq 8, 3) := by decide +kernel
theorem dX11_refusalOfSome_75 : decode cX11_refusalOfSome 75 = .ok (.bipush (-7), 2) := by decide +kernel
theorem dX11_refusalOfSome_77 : decode cX11_refusalOfSome 77 = .ok (.goto 4, 3) := by decide +kernel
theorem dX11_refusalOfSome_80 : decode cX11_refusalOfSome 80 = .ok (.iconst 0, 1) := by decide +kernel
theorem dX11_refusalOfSome_81 : decode cX11_refusalOfSome 81 = .ok (.ireturn, 1) := by decide +kernel
theorem dX11_refusalOfSubject_0 : decode cX11_refusalOfSubject 0 = .ok (.iload_n 1, 1) := by decide +kernel
theorem dX11_refusalOfSubject_1 : decode cX11_refusalOfSubject 1 = .ok (.invokestatic 202, 3) := by decide +kernel
theorem dX11_refusalOfSubject_4 : decode cX11_refusalOfSubject 4 = .ok (.ifCond .ne 6, 3) := by decide +kernel
theorem dX11_refusalOfSubject_7 : decode cX11_refusalOfSubject 7 = .ok (.bipush (-2), 2) := by decide +kernel
theorem dX11_refusalOfSubject_9 : decode cX11_refusalOfSubject 9 = .ok (.ireturn, 1) := by decide +kernel
theorem dX11_refusalOfSubject_10 : decode cX11_refusalOfSubject 10 = .ok (.aload_n 0, 1) := by decide +kernel
theorem dX11_refusalOfSubject_11 : decode cX11_refusalOfSubject 11 = .ok (.iconst 2, 1) := by decide +kernel
theorem dX11_refusalOfSubject_12 : decode cX11_refusalOfSubject 12 = .ok (.putfield 146, 3) := by decide +kernel
theorem dX11_refusalOfSubject_15 : decode cX11_refusalOfSubject 15 = .ok (.bipush (-3), 2) := by decide +kernel
theorem dX11_refusalOfSubject_17 : decode cX11_refusalOfSubject 17 = .ok (.ireturn, 1) := by decide +kernel
theorem dX11_risky_0 : decode cX11_risky 0 = .ok (.aload_n 0, 1) := by decide +kernel
theorem dX11_risky_1 : decode cX11_risky 1 = .ok (.iload_n 1, 1) := by decide +kernel
theorem dX11_risky_2 : decode cX11_risky 2 = .ok (.invokevirtual 128, 3) := by decide +kernel
theorem dX11_risky_5 : decode cX11_risky 5 = .ok (.astore_n 2, 1) := by decide +kernel
theorem dX11_risky_6 : decode cX11_risky 6 = .ok (.aload_n 2, 1) := by decide +kernel
theorem dX11_risky_7 : decode cX11_risky 7 = .ok (.ifnonnull 6, 3) := by decide +kernel
theorem dX11_risky_10 : decode cX11_risky 10 = .ok (.bipush (-2), 2) := by decide +kernel
theorem dX11_risky_12 : decode cX11_risky 12 = .ok (.ireturn, 1) := by decide +kernel
theorem dX11_risky_13 : decode cX11_risky 13 = .ok (.aload_n 0, 1) := by decide +kernel
theorem dX11_risky_14 : decode cX11_risky 14 = .ok (.getfield 71, 3) := by decide +kernel
theorem dX11_risky_17 : decode cX11_risky 17 = .ok (.getfield 185, 3) := by decide +kernel
theorem dX11_risky_20 : decode cX11_risky 20 = .ok (.aload_n 2, 1) := by decide +kernel
theorem dX11_risky_21 : decode cX11_risky 21 = .ok (.aconst_null, 1) := by decide +kernel
theorem dX11_risky_22 : decode cX11_risky 22 = .ok (.invokevirtual 189, 3) := by decide +kernel
theorem dX11_risky_25 : decode cX11_risky 25 = .ok (.aload_n 2, 1) := by decide +kernel
theorem dX11_risky_26 : decode cX11_risky 26 = .ok (.aload_n 0, 1) := by decide +kernel
theorem dX11_risky_27 : decode cX11_risky 27 = .ok (.getfield 71, 3) := by decide +kernel
theorem dX11_risky_30 : decode cX11_risky 30 = .ok (.getfield 185, 3) := by decide +kernel
theorem dX11_risky_33 : decode cX11_risky 33 = .ok (.invokevirtual 195, 3) := by decide +kernel
theorem dX11_risky_36 : decode cX11_risky 36 = .ok (.ireturn, 1) := by decide +kernel
theorem dX11_sortThatTells_0 : decode cX11_sortThatTells 0 = .ok (.iload_n 0, 1) := by decide +kernel
theorem dX11_sortThatTells_1 : decode cX11_sortThatTells 1 = .ok (.tableswitch 53 10 15 #[39, 41, 43, 45, 47, 50], 39) := by decide +kernel
theorem dX11_sortThatTells_40 : decode cX11_sortThatTells 40 = .ok (.iconst 0, 1) := by decide +kernel
theorem dX11_sortThatTells_41 : decode cX11_sortThatTells 41 = .ok (.ireturn, 1) := by decide +kernel
theorem dX11_sortThatTells_42 : decode cX11_sortThatTells 42 = .ok (.iconst 2, 1) := by decide +kernel
theorem dX11_sortThatTells_43 : decode cX11_sortThatTells 43 = .ok (.ireturn, 1) := by decide +kernel
theorem dX11_sortThatTells_44 : decode cX11_sortThatTells 44 = .ok (.iconst 3, 1) := by decide +kernel
theorem dX11_sortThatTells_45 : decode cX11_sortThatTells 45 = .ok (.ireturn, 1) := by decide +kernel
theorem dX11_sortThatTells_46 : decode cX11_sortThatTells 46 = .ok (.iconst 4, 1) := by decide +kernel
theorem dX11_sortThatTells_47 : decode cX11_sortThatTells 47 = .ok (.ireturn, 1) := by decide +kernel
theorem dX11_sortThatTells_48 : decode cX11_sortThatTells 48 = .ok (.bipush 8, 2) := by decide +kernel
theorem dX11_sortThatTells_50 : decode cX11_sortThatTells 50 = .ok (.ireturn, 1) := by decide +kernel
theorem dX11_sortThatTells_51 : decode cX11_sortThatTells 51 = .ok (.bipush 9, 2) := by decide +kernel
theorem dX11_sortThatTells_53 : decode cX11_sortThatTells 53 = .ok (.ireturn, 1) := by decide +kernel
theorem dX11_sortThatTells_54 : decode cX11_sortThatTells 54 = .ok (.bipush 7, 2) := by decide +kernel
theorem dX11_sortThatTells_56 : decode cX11_sortThatTells 56 = .ok (.ireturn, 1) := by decide +kernel
theorem dX11_span_0 : decode cX11_span 0 = .ok (.aload_n 0, 1) := by decide +kernel
theorem dX11_span_1 : decode cX11_span 1 = .ok (.getfield 37, 3) := by decide +kernel
theorem dX11_span_4 : decode cX11_span 4 = .ok (.getfield 96, 3) := by decide +kernel
theorem dX11_span_7 : decode cX11_span 7 = .ok (.ifCond .ne 6, 3) := by decide +kernel
theorem dX11_span_10 : decode cX11_span 10 = .ok (.bipush (-2), 2) := by decide +kernel
theorem dX11_span_12 : decode cX11_span 12 = .ok (.ireturn, 1) := by decide +kernel
theorem dX11_span_13 : decode cX11_span 13 = .ok (.iload_n 1, 1) := by decide +kernel
theorem dX11_span_14 : decode cX11_span 14 = .ok (.ifCond .lt 11, 3) := by decide +kernel
theorem dX11_span_17 : decode cX11_span 17 = .ok (.iload_n 1, 1) := by decide +kernel
theorem dX11_span_18 : decode cX11_span 18 = .ok (.aload_n 0, 1) := by decide +kernel
theorem dX11_span_19 : decode cX11_span 19 = .ok (.invokevirtual 255, 3) := by decide +kernel
theorem dX11_span_22 : decode cX11_span 22 = .ok (.if_icmp .le 11, 3) := by decide +kernel
theorem dX11_span_25 : decode cX11_span 25 = .ok (.aload_n 0, 1) := by decide +kernel
theorem dX11_span_26 : decode cX11_span 26 = .ok (.iconst 1, 1) := by decide +kernel
theorem dX11_span_27 : decode cX11_span 27 = .ok (.putfield 146, 3) := by decide +kernel
theorem dX11_span_30 : decode cX11_span 30 = .ok (.bipush (-4), 2) := by decide +kernel
theorem dX11_span_32 : decode cX11_span 32 = .ok (.ireturn, 1) := by decide +kernel
theorem dX11_span_33 : decode cX11_span 33 = .ok (.aload_n 0, 1) := by decide +kernel
theorem dX11_span_34 : decode cX11_span 34 = .ok (.getfield 37, 3) := by decide +kernel
theorem dX11_span_37 : decode cX11_span 37 = .ok (.iload_n 2, 1) := by decide +kernel
theorem dX11_span_38 : decode cX11_span 38 = .ok (.ifCond .eq 11, 3) := by decide +kernel
theorem dX11_span_41 : decode cX11_span 41 = .ok (.iconst 2, 1) := by decide +kernel
theorem dX11_span_42 : decode cX11_span 42 = .ok (.iload_n 1, 1) := by decide +kernel
theorem dX11_span_43 : decode cX11_span 43 = .ok (.imul, 1) := by decide +kernel
theorem dX11_span_44 : decode cX11_span 44 = .ok (.iconst 1, 1) := by decide +kernel
theorem dX11_span_45 : decode cX11_span 45 = .ok (.iadd, 1) := by decide +kernel
theorem dX11_span_46 : decode cX11_span 46 = .ok (.goto 6, 3) := by decide +kernel
theorem dX11_span_49 : decode cX11_span 49 = .ok (.iconst 2, 1) := by decide +kernel
theorem dX11_span_50 : decode cX11_span 50 = .ok (.iload_n 1, 1) := by decide +kernel
theorem dX11_span_51 : decode cX11_span 51 = .ok (.imul, 1) := by decide +kernel
theorem dX11_span_52 : decode cX11_span 52 = .ok (.invokevirtual 222, 3) := by decide +kernel
theorem dX11_span_55 : decode cX11_span 55 = .ok (.ireturn, 1) := by decide +kernel
theorem dX11_steps_0 : decode cX11_steps 0 = .ok (.aload_n 0, 1) := by decide +kernel
theorem dX11_steps_1 : decode cX11_steps 1 = .ok (.getfield 249, 3) := by decide +kernel
theorem dX11_steps_4 : decode cX11_steps 4 = .ok (.ireturn, 1) := by decide +kernel
theorem dX11_subjectAt_0 : decode cX11_subjectAt 0 = .ok (.iload_n 1, 1) := by decide +kernel
theorem dX11_subjectAt_1 : decode cX11_subjectAt 1 = .ok (.invokestatic 202, 3) := by decide +kernel
theorem dX11_subjectAt_4 : decode cX11_subjectAt 4 = .ok (.ifCond .eq 24, 3) := by decide +kernel
theorem dX11_subjectAt_7 : decode cX11_subjectAt 7 = .ok (.aload_n 0, 1) := by decide +kernel
theorem dX11_subjectAt_8 : decode cX11_subjectAt 8 = .ok (.getfield 24, 3) := by decide +kernel
theorem dX11_subjectAt_11 : decode cX11_subjectAt 11 = .ok (.iload_n 1, 1) := by decide +kernel
theorem dX11_subjectAt_12 : decode cX11_subjectAt 12 = .ok (.aaload, 1) := by decide +kernel
theorem dX11_subjectAt_13 : decode cX11_subjectAt 13 = .ok (.getfield 205, 3) := by decide +kernel
theorem dX11_subjectAt_16 : decode cX11_subjectAt 16 = .ok (.ifCond .eq 12, 3) := by decide +kernel
theorem dX11_subjectAt_19 : decode cX11_subjectAt 19 = .ok (.aload_n 0, 1) := by decide +kernel
theorem dX11_subjectAt_20 : decode cX11_subjectAt 20 = .ok (.getfield 24, 3) := by decide +kernel
theorem dX11_subjectAt_23 : decode cX11_subjectAt 23 = .ok (.iload_n 1, 1) := by decide +kernel
theorem dX11_subjectAt_24 : decode cX11_subjectAt 24 = .ok (.aaload, 1) := by decide +kernel
theorem dX11_subjectAt_25 : decode cX11_subjectAt 25 = .ok (.goto 4, 3) := by decide +kernel
theorem dX11_subjectAt_28 : decode cX11_subjectAt 28 = .ok (.aconst_null, 1) := by decide +kernel
theorem dX11_subjectAt_29 : decode cX11_subjectAt 29 = .ok (.areturn, 1) := by decide +kernel
theorem dX11_subjectsThere_0 : decode cX11_subjectsThere 0 = .ok (.iconst 0, 1) := by decide +kernel
theorem dX11_subjectsThere_1 : decode cX11_subjectsThere 1 = .ok (.istore_n 1, 1) := by decide +kernel
theorem dX11_subjectsThere_2 : decode cX11_subjectsThere 2 = .ok (.iconst 0, 1) := by decide +kernel
theorem dX11_subjectsThere_3 : decode cX11_subjectsThere 3 = .ok (.istore_n 2, 1) := by decide +kernel
theorem dX11_subjectsThere_4 : decode cX11_subjectsThere 4 = .ok (.iload_n 2, 1) := by decide +kernel
theorem dX11_subjectsThere_5 : decode cX11_subjectsThere 5 = .ok (.aload_n 0, 1) := by decide +kernel
theorem dX11_subjectsThere_6 : decode cX11_subjectsThere 6 = .ok (.getfield 24, 3) := by decide +kernel
theorem dX11_subjectsThere_9 : decode cX11_subjectsThere 9 = .ok (.arraylength, 1) := by decide +kernel
theorem dX11_subjectsThere_10 : decode cX11_subjectsThere 10 = .ok (.if_icmp .ge 29, 3) := by decide +kernel
theorem dX11_subjectsThere_13 : decode cX11_subjectsThere 13 = .ok (.iload_n 1, 1) := by decide +kernel
theorem dX11_subjectsThere_14 : decode cX11_subjectsThere 14 = .ok (.aload_n 0, 1) := by decide +kernel
theorem dX11_subjectsThere_15 : decode cX11_subjectsThere 15 = .ok (.getfield 24, 3) := by decide +kernel
theorem dX11_subjectsThere_18 : decode cX11_subjectsThere 18 = .ok (.iload_n 2, 1) := by decide +kernel
theorem dX11_subjectsThere_19 : decode cX11_subjectsThere 19 = .ok (.aaload, 1) := by decide +kernel
theorem dX11_subjectsThere_20 : decode cX11_subjectsThere 20 = .ok (.getfield 205, 3) := by decide +kernel
theorem dX11_subjectsThere_23 : decode cX11_subjectsThere 23 = .ok (.ifCond .eq 7, 3) := by decide +kernel
theorem dX11_subjectsThere_26 : decode cX11_subjectsThere 26 = .ok (.iconst 1, 1) := by decide +kernel
theorem dX11_subjectsThere_27 : decode cX11_subjectsThere 27 = .ok (.goto 4, 3) := by decide +kernel
theorem dX11_subjectsThere_30 : decode cX11_subjectsThere 30 = .ok (.iconst 0, 1) := by decide +kernel
theorem dX11_subjectsThere_31 : decode cX11_subjectsThere 31 = .ok (.iadd, 1) := by decide +kernel
theorem dX11_subjectsThere_32 : decode cX11_subjectsThere 32 = .ok (.istore_n 1, 1) := by decide +kernel
theorem dX11_subjectsThere_33 : decode cX11_subjectsThere 33 = .ok (.iinc 2 1, 3) := by decide +kernel
theorem dX11_subjectsThere_36 : decode cX11_subjectsThere 36 = .ok (.goto (-32), 3) := by decide +kernel
theorem dX11_subjectsThere_39 : decode cX11_subjectsThere 39 = .ok (.iload_n 1, 1) := by decide +kernel
theorem dX11_subjectsThere_40 : decode cX11_subjectsThere 40 = .ok (.ireturn, 1) := by decide +kernel
theorem dX11_table_0 : decode cX11_table 0 = .ok (.aload_n 0, 1) := by decide +kernel
theorem dX11_table_1 : decode cX11_table 1 = .ok (.iload_n 1, 1) := by decide +kernel
theorem dX11_table_2 : decode cX11_table 2 = .ok (.invokevirtual 128, 3) := by decide +kernel
theorem dX11_table_5 : decode cX11_table 5 = .ok (.astore_n 2, 1) := by decide +kernel
theorem dX11_table_6 : decode cX11_table 6 = .ok (.aload_n 2, 1) := by decide +kernel
theorem dX11_table_7 : decode cX11_table 7 = .ok (.ifnonnull 6, 3) := by decide +kernel
theorem dX11_table_10 : decode cX11_table 10 = .ok (.bipush (-2), 2) := by decide +kernel
theorem dX11_table_12 : decode cX11_table 12 = .ok (.ireturn, 1) := by decide +kernel
theorem dX11_table_13 : decode cX11_table 13 = .ok (.aload_n 0, 1) := by decide +kernel
theorem dX11_table_14 : decode cX11_table 14 = .ok (.aload_n 2, 1) := by decide +kernel
theorem dX11_table_15 : decode cX11_table 15 = .ok (.aconst_null, 1) := by decide +kernel
theorem dX11_table_16 : decode cX11_table 16 = .ok (.invokevirtual 283, 3) := by decide +kernel
theorem dX11_table_19 : decode cX11_table 19 = .ok (.istore_n 3, 1) := by decide +kernel
theorem dX11_table_20 : decode cX11_table 20 = .ok (.iload_n 3, 1) := by decide +kernel
theorem dX11_table_21 : decode cX11_table 21 = .ok (.ifCond .eq 7, 3) := by decide +kernel
theorem dX11_table_24 : decode cX11_table 24 = .ok (.iload_n 3, 1) := by decide +kernel
theorem dX11_table_25 : decode cX11_table 25 = .ok (.goto 13, 3) := by decide +kernel
theorem dX11_table_28 : decode cX11_table 28 = .ok (.aload_n 0, 1) := by decide +kernel
theorem dX11_table_29 : decode cX11_table 29 = .ok (.getfield 71, 3) := by decide +kernel
theorem dX11_table_32 : decode cX11_table 32 = .ok (.getfield 291, 3) := by decide +kernel
theorem dX11_table_35 : decode cX11_table 35 = .ok (.getfield 295, 3) := by decide +kernel
theorem dX11_table_38 : decode cX11_table 38 = .ok (.ireturn, 1) := by decide +kernel
theorem dX11_tapeTellsFor_0 : decode cX11_tapeTellsFor 0 = .ok (.iconst 0, 1) := by decide +kernel
theorem dX11_tapeTellsFor_1 : decode cX11_tapeTellsFor 1 = .ok (.istore_n 2, 1) := by decide +kernel
theorem dX11_tapeTellsFor_2 : decode cX11_tapeTellsFor 2 = .ok (.iload_n 2, 1) := by decide +kernel
theorem dX11_tapeTellsFor_3 : decode cX11_tapeTellsFor 3 = .ok (.aload_n 0, 1) := by decide +kernel
theorem dX11_tapeTellsFor_4 : decode cX11_tapeTellsFor 4 = .ok (.getfield 14, 3) := by decide +kernel
theorem dX11_tapeTellsFor_7 : decode cX11_tapeTellsFor 7 = .ok (.getfield 96, 3) := by decide +kernel
theorem dX11_tapeTellsFor_10 : decode cX11_tapeTellsFor 10 = .ok (.if_icmp .ge 62, 3) := by decide +kernel
theorem dX11_tapeTellsFor_13 : decode cX11_tapeTellsFor 13 = .ok (.aload_n 0, 1) := by decide +kernel
theorem dX11_tapeTellsFor_14 : decode cX11_tapeTellsFor 14 = .ok (.getfield 14, 3) := by decide +kernel
theorem dX11_tapeTellsFor_17 : decode cX11_tapeTellsFor 17 = .ok (.iload_n 2, 1) := by decide +kernel
theorem dX11_tapeTellsFor_18 : decode cX11_tapeTellsFor 18 = .ok (.invokevirtual 222, 3) := by decide +kernel
theorem dX11_tapeTellsFor_21 : decode cX11_tapeTellsFor 21 = .ok (.bipush 36, 2) := by decide +kernel
theorem dX11_tapeTellsFor_23 : decode cX11_tapeTellsFor 23 = .ok (.if_icmp .eq 6, 3) := by decide +kernel
theorem dX11_tapeTellsFor_26 : decode cX11_tapeTellsFor 26 = .ok (.goto 40, 3) := by decide +kernel
theorem dX11_tapeTellsFor_29 : decode cX11_tapeTellsFor 29 = .ok (.iinc 2 1, 3) := by decide +kernel
theorem dX11_tapeTellsFor_32 : decode cX11_tapeTellsFor 32 = .ok (.aload_n 0, 1) := by decide +kernel
theorem dX11_tapeTellsFor_33 : decode cX11_tapeTellsFor 33 = .ok (.getfield 14, 3) := by decide +kernel
theorem dX11_tapeTellsFor_36 : decode cX11_tapeTellsFor 36 = .ok (.iload_n 2, 1) := by decide +kernel
theorem dX11_tapeTellsFor_37 : decode cX11_tapeTellsFor 37 = .ok (.invokevirtual 222, 3) := by decide +kernel
theorem dX11_tapeTellsFor_40 : decode cX11_tapeTellsFor 40 = .ok (.istore_n 3, 1) := by decide +kernel
theorem dX11_tapeTellsFor_41 : decode cX11_tapeTellsFor 41 = .ok (.iload_n 3, 1) := by decide +kernel
theorem dX11_tapeTellsFor_42 : decode cX11_tapeTellsFor 42 = .ok (.iconst (-1), 1) := by decide +kernel
theorem dX11_tapeTellsFor_43 : decode cX11_tapeTellsFor 43 = .ok (.if_icmp .eq 21, 3) := by decide +kernel
theorem dX11_tapeTellsFor_46 : decode cX11_tapeTellsFor 46 = .ok (.iload_n 3, 1) := by decide +kernel
theorem dX11_tapeTellsFor_47 : decode cX11_tapeTellsFor 47 = .ok (.invokestatic 355, 3) := by decide +kernel
theorem dX11_tapeTellsFor_50 : decode cX11_tapeTellsFor 50 = .ok (.ifCond .eq 16, 3) := by decide +kernel
theorem dX11_tapeTellsFor_53 : decode cX11_tapeTellsFor 53 = .ok (.iload_n 3, 1) := by decide +kernel
theorem dX11_tapeTellsFor_54 : decode cX11_tapeTellsFor 54 = .ok (.bipush 48, 2) := by decide +kernel
theorem dX11_tapeTellsFor_56 : decode cX11_tapeTellsFor 56 = .ok (.isub, 1) := by decide +kernel
theorem dX11_tapeTellsFor_57 : decode cX11_tapeTellsFor 57 = .ok (.aload_n 1, 1) := by decide +kernel
theorem dX11_tapeTellsFor_58 : decode cX11_tapeTellsFor 58 = .ok (.getfield 358, 3) := by decide +kernel
theorem dX11_tapeTellsFor_61 : decode cX11_tapeTellsFor 61 = .ok (.if_icmp .le 5, 3) := by decide +kernel
theorem dX11_tapeTellsFor_64 : decode cX11_tapeTellsFor 64 = .ok (.iconst 0, 1) := by decide +kernel
theorem dX11_tapeTellsFor_65 : decode cX11_tapeTellsFor 65 = .ok (.ireturn, 1) := by decide +kernel
theorem dX11_tapeTellsFor_66 : decode cX11_tapeTellsFor 66 = .ok (.iinc 2 1, 3) := by decide +kernel
theorem dX11_tapeTellsFor_69 : decode cX11_tapeTellsFor 69 = .ok (.goto (-67), 3) := by decide +kernel
theorem dX11_tapeTellsFor_72 : decode cX11_tapeTellsFor 72 = .ok (.iconst 1, 1) := by decide +kernel
theorem dX11_tapeTellsFor_73 : decode cX11_tapeTellsFor 73 = .ok (.ireturn, 1) := by decide +kernel
theorem dX11_tellRow_0 : decode cX11_tellRow 0 = .ok (.aload_n 0, 1) := by decide +kernel
theorem dX11_tellRow_1 : decode cX11_tellRow 1 = .ok (.getfield 28, 3) := by decide +kernel
theorem dX11_tellRow_4 : decode cX11_tellRow 4 = .ok (.aload_n 0, 1) := by decide +kernel
theorem dX11_tellRow_5 : decode cX11_tellRow 5 = .ok (.getfield 31, 3) := by decide +kernel
theorem dX11_tellRow_8 : decode cX11_tellRow 8 = .ok (.invokevirtual 332, 3) := by decide +kernel
theorem dX11_tellRow_11 : decode cX11_tellRow 11 = .ok (.aload_n 0, 1) := by decide +kernel
theorem dX11_tellRow_12 : decode cX11_tellRow 12 = .ok (.iload_n 1, 1) := by decide +kernel
theorem dX11_tellRow_13 : decode cX11_tellRow 13 = .ok (.putfield 320, 3) := by decide +kernel
theorem dX11_tellRow_16 : decode cX11_tellRow 16 = .ok (.return_, 1) := by decide +kernel
theorem dX11_told_0 : decode cX11_told 0 = .ok (.iload_n 1, 1) := by decide +kernel
theorem dX11_told_1 : decode cX11_told 1 = .ok (.tableswitch 101 0 6 #[43, 51, 56, 61, 69, 82, 87], 43) := by decide +kernel
theorem dX11_told_44 : decode cX11_told 44 = .ok (.aload_n 0, 1) := by decide +kernel
theorem dX11_told_45 : decode cX11_told 45 = .ok (.getfield 14, 3) := by decide +kernel
theorem dX11_told_48 : decode cX11_told 48 = .ok (.getfield 96, 3) := by decide +kernel
theorem dX11_told_51 : decode cX11_told 51 = .ok (.ireturn, 1) := by decide +kernel
theorem dX11_told_52 : decode cX11_told 52 = .ok (.aload_n 0, 1) := by decide +kernel
theorem dX11_told_53 : decode cX11_told 53 = .ok (.invokevirtual 314, 3) := by decide +kernel
theorem dX11_told_56 : decode cX11_told 56 = .ok (.ireturn, 1) := by decide +kernel
theorem dX11_told_57 : decode cX11_told 57 = .ok (.aload_n 0, 1) := by decide +kernel
theorem dX11_told_58 : decode cX11_told 58 = .ok (.invokevirtual 317, 3) := by decide +kernel
theorem dX11_told_61 : decode cX11_told 61 = .ok (.ireturn, 1) := by decide +kernel
theorem dX11_told_62 : decode cX11_told 62 = .ok (.aload_n 0, 1) := by decide +kernel
theorem dX11_told_63 : decode cX11_told 63 = .ok (.getfield 28, 3) := by decide +kernel
theorem dX11_told_66 : decode cX11_told 66 = .ok (.getfield 96, 3) := by decide +kernel
theorem dX11_told_69 : decode cX11_told 69 = .ok (.ireturn, 1) := by decide +kernel
theorem dX11_told_70 : decode cX11_told 70 = .ok (.aload_n 0, 1) := by decide +kernel
theorem dX11_told_71 : decode cX11_told 71 = .ok (.getfield 320, 3) := by decide +kernel
theorem dX11_told_74 : decode cX11_told 74 = .ok (.ifCond .eq 7, 3) := by decide +kernel
theorem dX11_told_77 : decode cX11_told 77 = .ok (.iconst 1, 1) := by decide +kernel
theorem dX11_told_78 : decode cX11_told 78 = .ok (.goto 4, 3) := by decide +kernel
theorem dX11_told_81 : decode cX11_told 81 = .ok (.iconst 0, 1) := by decide +kernel
theorem dX11_told_82 : decode cX11_told 82 = .ok (.ireturn, 1) := by decide +kernel
theorem dX11_told_83 : decode cX11_told 83 = .ok (.aload_n 0, 1) := by decide +kernel
theorem dX11_told_84 : decode cX11_told 84 = .ok (.invokevirtual 255, 3) := by decide +kernel
theorem dX11_told_87 : decode cX11_told 87 = .ok (.ireturn, 1) := by decide +kernel
theorem dX11_told_88 : decode cX11_told 88 = .ok (.aload_n 0, 1) := by decide +kernel
theorem dX11_told_89 : decode cX11_told 89 = .ok (.getfield 79, 3) := by decide +kernel
theorem dX11_told_92 : decode cX11_told 92 = .ok (.iconst (-1), 1) := by decide +kernel
theorem dX11_told_93 : decode cX11_told 93 = .ok (.if_icmp .ne 7, 3) := by decide +kernel
theorem dX11_told_96 : decode cX11_told 96 = .ok (.iconst 0, 1) := by decide +kernel
theorem dX11_told_97 : decode cX11_told 97 = .ok (.goto 4, 3) := by decide +kernel
theorem dX11_told_100 : decode cX11_told 100 = .ok (.iconst 1, 1) := by decide +kernel
theorem dX11_told_101 : decode cX11_told 101 = .ok (.ireturn, 1) := by decide +kernel
theorem dX11_told_102 : decode cX11_told 102 = .ok (.bipush (-4), 2) := by decide +kernel
theorem dX11_told_104 : decode cX11_told 104 = .ok (.ireturn, 1) := by decide +kernel
def w_X3_goAlong_w1_156 (Q : Int32 → Int32 → Bool → (Nat → Int32) → Int32 → Int32 → (Nat → Int32) → (Nat → Int32) → (Nat → Int32) → (Nat → Int32) → (Nat → Int32) → (Nat → Int32) → (Nat → Int32) → Prop) (a3_count_156 : Int32) (a3_over_156 : Bool) (a3_items_156 : Nat → Int32) (v_nextCount_156 : Int32) (v_stackCount_156 : Int32) (v_nextAt_156 : Nat → Int32) (v_nextCells_156 : Nat → Int32) (v_seen_156 : Nat → Int32) (v_waits_156 : Nat → Int32) (v_cells_156 : Nat → Int32) (v_stack_156 : Nat → Int32) (v_kept_156 : Nat → Int32) : Prop :=
  Q 0 a3_count_156 a3_over_156 a3_items_156 v_nextCount_156 v_stackCount_156 v_nextAt_156 v_nextCells_156 v_seen_156 v_waits_156 v_cells_156 v_stack_156 v_kept_156
def w_X3_goAlong_w1_150 (Q : Int32 → Int32 → Bool → (Nat → Int32) → Int32 → Int32 → (Nat → Int32) → (Nat → Int32) → (Nat → Int32) → (Nat → Int32) → (Nat → Int32) → (Nat → Int32) → (Nat → Int32) → Prop) (K3 : Int32 → Int32 → Int32 → (Nat → Int32) → (Nat → Int32) → (Nat → Int32) → (Nat → Int32) → (Nat → Int32) → (Nat → Int32) → (Nat → Int32) → Prop) (l4_150 : Int32) (v_nextCount_150 : Int32) (v_stackCount_150 : Int32) (v_nextAt_150 : Nat → Int32) (v_nextCells_150 : Nat → Int32) (v_seen_150 : Nat → Int32) (v_waits_150 : Nat → Int32) (v_cells_150 : Nat → Int32) (v_stack_150 : Nat → Int32) (v_kept_150 : Nat → Int32) : Prop :=
  ∀ x_10 : Int32, x_10 = l4_150 + 1 → K3 x_10 v_nextCount_150 v_stackCount_150 v_nextAt_150 v_nextCells_150 v_seen_150 v_waits_150 v_cells_150 v_stack_150 v_kept_150
def w_X3_goAlong_w1_136 (p1 : Int32) (na3_items : Nat) (v_width : Int32) (Q : Int32 → Int32 → Bool → (Nat → Int32) → Int32 → Int32 → (Nat → Int32) → (Nat → Int32) → (Nat → Int32) → (Nat → Int32) → (Nat → Int32) → (Nat → Int32) → (Nat → Int32) → Prop) (a3_count_136 : Int32) (a3_over_136 : Bool) (a3_items_136 : Nat → Int32) (v_nextCount_136 : Int32) (v_stackCount_136 : Int32) (v_nextAt_136 : Nat → Int32) (v_nextCells_136 : Nat → Int32) (v_seen_136 : Nat → Int32) (v_waits_136 : Nat → Int32) (v_cells_136 : Nat → Int32) (v_stack_136 : Nat → Int32) (v_kept_136 : Nat → Int32) : Prop :=
  ∀ g_12 : Nat → Int32, g_12 = upd v_cells_136 (1 : Int32).toNatClampNeg p1 → w_X3_tell a3_items_136 na3_items v_width g_12 (fun r_13_0 r_13_1 r_13_2 => Q 1 r_13_0 r_13_1 r_13_2 v_nextCount_136 v_stackCount_136 v_nextAt_136 v_nextCells_136 v_seen_136 v_waits_136 g_12 v_stack_136 v_kept_136)
def w_X3_goAlong_w1_3B (p1 : Int32) (p2 : Int32) (na3_items : Nat) (v_width : Int32) (v_nowCount : Int32) (v_stamp : Int32) (v_program_count : Int32) (v_program_kinds : Nat → Int32) (v_program_subjects : Nat → Int32) (v_program_nexts : Nat → Int32) (v_program_others : Nat → Int32) (v_edges : Nat → Bool) (v_nowAt : Nat → Int32) (v_nowCells : Nat → Int32) (v_program_tree_count : Int32) (v_program_tree_ranges : Int32) (v_program_tree_sort : Nat → Int32) (v_program_tree_value : Nat → Int32) (v_program_tree_low : Nat → Int32) (v_program_tree_high : Nat → Int32) (v_program_tree_withinCase : Nat → Bool) (v_program_tree_rangeBegin : Nat → Int32) (v_program_tree_rangeEnd : Nat → Int32) (Q : Int32 → Int32 → Bool → (Nat → Int32) → Int32 → Int32 → (Nat → Int32) → (Nat → Int32) → (Nat → Int32) → (Nat → Int32) → (Nat → Int32) → (Nat → Int32) → (Nat → Int32) → Prop) (K3 : Int32 → Int32 → Int32 → (Nat → Int32) → (Nat → Int32) → (Nat → Int32) → (Nat → Int32) → (Nat → Int32) → (Nat → Int32) → (Nat → Int32) → Prop) (a3_count_3 : Int32) (a3_over_3 : Bool) (a3_items_3 : Nat → Int32) (l4_3 : Int32) (v_nextCount_3 : Int32) (v_stackCount_3 : Int32) (v_nextAt_3 : Nat → Int32) (v_nextCells_3 : Nat → Int32) (v_seen_3 : Nat → Int32) (v_waits_3 : Nat → Int32) (v_cells_3 : Nat → Int32) (v_stack_3 : Nat → Int32) (v_kept_3 : Nat → Int32) : Prop :=
  ((v_nowCount ≤ l4_3) → w_X3_goAlong_w1_156 Q a3_count_3 a3_over_3 a3_items_3 v_nextCount_3 v_stackCount_3 v_nextAt_3 v_nextCells_3 v_seen_3 v_waits_3 v_cells_3 v_stack_3 v_kept_3) ∧ ((¬ v_nowCount ≤ l4_3) → ((256 ≤ l4_3) → w_X3_goAlong_w1_156 Q a3_count_3 a3_over_3 a3_items_3 v_nextCount_3 v_stackCount_3 v_nextAt_3 v_nextCells_3 v_seen_3 v_waits_3 v_cells_3 v_stack_3 v_kept_3) ∧ ((¬ 256 ≤ l4_3) → vp_in l4_3 256 ∧ ∀ x_4 : Int32, x_4 = v_nowAt l4_3.toNatClampNeg → ∀ x_6 : Int32, x_6 = l4_3 * (20 : Int32) → ¬ x_6 < 0 ∧ ¬ (0 : Int32) < 0 ∧ ¬ (20 : Int32) < 0 ∧ x_6.toNatClampNeg + (20 : Int32).toNatClampNeg ≤ 5120 ∧ (0 : Int32).toNatClampNeg + (20 : Int32).toNatClampNeg ≤ 20 ∧ ∀ g_7 : Nat → Int32, g_7 = va_cpy v_nowCells v_cells_3 x_6.toNatClampNeg (0 : Int32).toNatClampNeg (20 : Int32).toNatClampNeg → w_X5_kindOf x_4 v_program_count v_program_kinds (fun r_9 => ((r_9 = 6) → ((p2 = 0) → w_X3_goAlong_w1_136 p1 na3_items v_width Q a3_count_3 a3_over_3 a3_items_3 v_nextCount_3 v_stackCount_3 v_nextAt_3 v_nextCells_3 v_seen_3 v_waits_3 g_7 v_stack_3 v_kept_3) ∧ ((¬ p2 = 0) → ((¬ p1 = a3_count_3) → w_X3_goAlong_w1_150 Q K3 l4_3 v_nextCount_3 v_stackCount_3 v_nextAt_3 v_nextCells_3 v_seen_3 v_waits_3 g_7 v_stack_3 v_kept_3) ∧ ((p1 = a3_count_3) → w_X3_goAlong_w1_136 p1 na3_items v_width Q a3_count_3 a3_over_3 a3_items_3 v_nextCount_3 v_stackCount_3 v_nextAt_3 v_nextCells_3 v_seen_3 v_waits_3 g_7 v_stack_3 v_kept_3))) ∧ ((¬ r_9 = 6) → ((a3_count_3 ≤ p1) → w_X3_goAlong_w1_150 Q K3 l4_3 v_nextCount_3 v_stackCount_3 v_nextAt_3 v_nextCells_3 v_seen_3 v_waits_3 g_7 v_stack_3 v_kept_3) ∧ ((¬ a3_count_3 ≤ p1) → w_X7_at p1 a3_count_3 a3_items_3 na3_items (fun r_17 => w_X5_takes x_4 r_17 v_program_count v_program_subjects v_program_tree_count v_program_tree_ranges v_program_tree_sort v_program_tree_value v_program_tree_low v_program_tree_high v_program_tree_withinCase v_program_tree_rangeBegin v_program_tree_rangeEnd (fun r_18 => ((r_18 = 0) → w_X3_goAlong_w1_150 Q K3 l4_3 v_nextCount_3 v_stackCount_3 v_nextAt_3 v_nextCells_3 v_seen_3 v_waits_3 g_7 v_stack_3 v_kept_3) ∧ ((¬ r_18 = 0) → w_X5_nextOf x_4 v_program_count v_program_nexts (fun r_20 => w_X5_otherOf x_4 v_program_count v_program_others (fun r_21 => ∀ x_22 : Int32, x_22 = p1 + (1 : Int32) → w_X3_spread r_20 r_21 x_22 v_nextCount_3 v_stamp v_program_count v_program_kinds v_program_subjects v_program_nexts v_program_others v_edges v_nextAt_3 v_nextCells_3 v_seen_3 v_waits_3 g_7 v_stack_3 v_kept_3 (fun r_23_0 r_23_1 r_23_2 r_23_3 r_23_4 r_23_5 r_23_6 r_23_7 r_23_8 => w_X3_goAlong_w1_150 Q K3 l4_3 r_23_0 r_23_1 r_23_2 r_23_3 r_23_4 r_23_5 r_23_6 r_23_7 r_23_8)))))))))))
def w_X3_goAlong_w1_3 (p1 : Int32) (p2 : Int32) (na3_items : Nat) (v_width : Int32) (v_nowCount : Int32) (v_stamp : Int32) (v_program_count : Int32) (v_program_kinds : Nat → Int32) (v_program_subjects : Nat → Int32) (v_program_nexts : Nat → Int32) (v_program_others : Nat → Int32) (v_edges : Nat → Bool) (v_nowAt : Nat → Int32) (v_nowCells : Nat → Int32) (v_program_tree_count : Int32) (v_program_tree_ranges : Int32) (v_program_tree_sort : Nat → Int32) (v_program_tree_value : Nat → Int32) (v_program_tree_low : Nat → Int32) (v_program_tree_high : Nat → Int32) (v_program_tree_withinCase : Nat → Bool) (v_program_tree_rangeBegin : Nat → Int32) (v_program_tree_rangeEnd : Nat → Int32) (Q : Int32 → Int32 → Bool → (Nat → Int32) → Int32 → Int32 → (Nat → Int32) → (Nat → Int32) → (Nat → Int32) → (Nat → Int32) → (Nat → Int32) → (Nat → Int32) → (Nat → Int32) → Prop) (a3_count_3 : Int32) (a3_over_3 : Bool) (a3_items_3 : Nat → Int32) : Nat → Int32 → Int32 → Int32 → (Nat → Int32) → (Nat → Int32) → (Nat → Int32) → (Nat → Int32) → (Nat → Int32) → (Nat → Int32) → (Nat → Int32) → Prop
  | 0, _, _, _, _, _, _, _, _, _, _ => False
  | n9 + 1, l4_3, v_nextCount_3, v_stackCount_3, v_nextAt_3, v_nextCells_3, v_seen_3, v_waits_3, v_cells_3, v_stack_3, v_kept_3 => w_X3_goAlong_w1_3B p1 p2 na3_items v_width v_nowCount v_stamp v_program_count v_program_kinds v_program_subjects v_program_nexts v_program_others v_edges v_nowAt v_nowCells v_program_tree_count v_program_tree_ranges v_program_tree_sort v_program_tree_value v_program_tree_low v_program_tree_high v_program_tree_withinCase v_program_tree_rangeBegin v_program_tree_rangeEnd Q (w_X3_goAlong_w1_3 p1 p2 na3_items v_width v_nowCount v_stamp v_program_count v_program_kinds v_program_subjects v_program_nexts v_program_others v_edges v_nowAt v_nowCells v_program_tree_count v_program_tree_ranges v_program_tree_sort v_program_tree_value v_program_tree_low v_program_tree_high v_program_tree_withinCase v_program_tree_rangeBegin v_program_tree_rangeEnd Q a3_count_3 a3_over_3 a3_items_3 n9) a3_count_3 a3_over_3 a3_items_3 l4_3 v_nextCount_3 v_stackCount_3 v_nextAt_3 v_nextCells_3 v_seen_3 v_waits_3 v_cells_3 v_stack_3 v_kept_3
def w_X3_goAlong_w1 (p1 : Int32) (p2 : Int32) (a3_count : Int32) (a3_over : Bool) (a3_items : Nat → Int32) (na3_items : Nat) (v_width : Int32) (v_nowCount : Int32) (v_nextCount : Int32) (v_stamp : Int32) (v_stackCount : Int32) (v_program_count : Int32) (v_program_kinds : Nat → Int32) (v_program_subjects : Nat → Int32) (v_program_nexts : Nat → Int32) (v_program_others : Nat → Int32) (v_edges : Nat → Bool) (v_nextAt : Nat → Int32) (v_nextCells : Nat → Int32) (v_nowAt : Nat → Int32) (v_nowCells : Nat → Int32) (v_seen : Nat → Int32) (v_waits : Nat → Int32) (v_cells : Nat → Int32) (v_stack : Nat → Int32) (v_kept : Nat → Int32) (v_program_tree_count : Int32) (v_program_tree_ranges : Int32) (v_program_tree_sort : Nat → Int32) (v_program_tree_value : Nat → Int32) (v_program_tree_low : Nat → Int32) (v_program_tree_high : Nat → Int32) (v_program_tree_withinCase : Nat → Bool) (v_program_tree_rangeBegin : Nat → Int32) (v_program_tree_rangeEnd : Nat → Int32) (Q : Int32 → Int32 → Bool → (Nat → Int32) → Int32 → Int32 → (Nat → Int32) → (Nat → Int32) → (Nat → Int32) → (Nat → Int32) → (Nat → Int32) → (Nat → Int32) → (Nat → Int32) → Prop) : Prop :=
  ∃ k9 : Nat, w_X3_goAlong_w1_3 p1 p2 na3_items v_width v_nowCount v_stamp v_program_count v_program_kinds v_program_subjects v_program_nexts v_program_others v_edges v_nowAt v_nowCells v_program_tree_count v_program_tree_ranges v_program_tree_sort v_program_tree_value v_program_tree_low v_program_tree_high v_program_tree_withinCase v_program_tree_rangeBegin v_program_tree_rangeEnd Q a3_count a3_over a3_items k9 0 v_nextCount v_stackCount v_nextAt v_nextCells v_seen v_waits v_cells v_stack v_kept
set_option maxHeartbeats 4000000 in
set_option maxRecDepth 100000 in
theorem mt_X3_goAlong_w1 (l : Launch) (dC : Nat → ClassId) (dI : Nat → Nat → Nat) (h0 h1 h2 h3 h4 h5 h6 h7 h8 h9 h10 h11 h12 h13 h14 h15 h16 h17 h18 h19 h20 h21 h22 h23 h24 h25 h26 h27 h28 h29 h30 h31 h32 h33 h34 : Nat) (k0 k1 k2 k3 k4 k5 k6 k7 k8 k9 k10 k11 k12 k13 k14 k15 k16 k17 k18 k19 k20 k21 : ClassId) (p1 : Int32) (p2 : Int32) (a3_count : Int32) (a3_over : Bool) (a3_there : Bool) (a3_items : Nat → Int32) (na3_items : Nat) (v_width : Int32) (v_nowCount : Int32) (v_nextCount : Int32) (v_stamp : Int32) (v_stackCount : Int32) (v_program_start : Int32) (v_program_count : Int32) (v_program_kinds : Nat → Int32) (v_program_subjects : Nat → Int32) (v_program_nexts : Nat → Int32) (v_program_others : Nat → Int32) (v_edges : Nat → Bool) (v_nextAt : Nat → Int32) (v_nextCells : Nat → Int32) (v_nowAt : Nat → Int32) (v_nowCells : Nat → Int32) (v_seen : Nat → Int32) (v_waits : Nat → Int32) (v_cells : Nat → Int32) (v_stack : Nat → Int32) (v_kept : Nat → Int32) (v_program_tree_there : Bool) (v_program_tree_count : Int32) (v_program_tree_captures : Int32) (v_program_tree_ranges : Int32) (v_program_tree_sort : Nat → Int32) (v_program_tree_value : Nat → Int32) (v_program_tree_low : Nat → Int32) (v_program_tree_high : Nat → Int32) (v_program_tree_withinCase : Nat → Bool) (v_program_tree_rangeBegin : Nat → Int32) (v_program_tree_rangeEnd : Nat → Int32) (Q : Int32 → Int32 → Bool → (Nat → Int32) → Int32 → Int32 → (Nat → Int32) → (Nat → Int32) → (Nat → Int32) → (Nat → Int32) → (Nat → Int32) → (Nat → Int32) → (Nat → Int32) → Prop) (w : w_X3_goAlong_w1 p1 p2 a3_count a3_over a3_items na3_items v_width v_nowCount v_nextCount v_stamp v_stackCount v_program_count v_program_kinds v_program_subjects v_program_nexts v_program_others v_edges v_nextAt v_nextCells v_nowAt v_nowCells v_seen v_waits v_cells v_stack v_kept v_program_tree_count v_program_tree_ranges v_program_tree_sort v_program_tree_value v_program_tree_low v_program_tree_high v_program_tree_withinCase v_program_tree_rangeBegin v_program_tree_rangeEnd Q) (sz : Nat) : Met l yX3_goAlong (WS yX3_goAlong cX3_goAlong 6 (some (.boolean))) ({ frames := 4, cells := 0, slots := 0, locals := 94 } : Room) (va_Pc [.ref h0, .int p1, .int p2, .ref h1] (fun U => U.heap.size = sz ∧ va_P (dC, dI) vwCl [(h1, .inr (10, oX7 (.ref h2) a3_count a3_over a3_there)), (h2, .inl (k0, na3_items, .inl a3_items)), (h0, .inr (6, oX3 (.ref h3) (.ref h1) v_width (.ref h8) (.ref h11) (.ref h12) v_nowCount (.ref h9) (.ref h10) v_nextCount (.ref h13) (.ref h14) v_stamp (.ref h15) (.ref h16) (.ref h17) v_stackCount)), (h3, .inr (8, oX5 v_program_start v_program_count (.ref h18) (.ref h4) (.ref h5) (.ref h6) (.ref h7))), (h4, .inl (k1, 512, .inl v_program_kinds)), (h5, .inl (k2, 512, .inl v_program_subjects)), (h6, .inl (k3, 512, .inl v_program_nexts)), (h7, .inl (k4, 512, .inl v_program_others)), (h8, .inl (k5, 4, .inl (fun q9 => bz (v_edges q9)))), (h9, .inl (k6, 256, .inl v_nextAt)), (h10, .inl (k7, 5120, .inl v_nextCells)), (h11, .inl (k8, 256, .inl v_nowAt)), (h12, .inl (k9, 5120, .inl v_nowCells)), (h13, .inl (k10, 5632, .inl v_seen)), (h14, .inl (k11, 512, .inl v_waits)), (h15, .inl (k12, 20, .inl v_cells)), (h16, .inl (k13, 11266, .inl v_stack)), (h17, .inl (k14, 11266, .inl v_kept)), (h18, .inr (13, oX10 v_program_tree_there v_program_tree_count v_program_tree_captures v_program_tree_ranges (.ref h19) (.ref h26) (.ref h27) (.ref h28) (.ref h29) (.ref h30) (.ref h20) (.ref h21) (.ref h22) (.ref h31) (.ref h32) (.ref h33) (.ref h23) (.ref h34) (.ref h24) (.ref h25))), (h19, .inl (k15, 256, .inl v_program_tree_sort)), (h20, .inl (k16, 256, .inl v_program_tree_value)), (h21, .inl (k17, 256, .inl v_program_tree_low)), (h22, .inl (k18, 256, .inl v_program_tree_high)), (h23, .inl (k19, 256, .inl (fun q9 => bz (v_program_tree_withinCase q9)))), (h24, .inl (k20, 512, .inl v_program_tree_rangeBegin)), (h25, .inl (k21, 512, .inl v_program_tree_rangeEnd))] U.heap ∧ va_K (dC, dI) vwCl [(k0, .int), (k1, .int), (k2, .int), (k3, .int), (k4, .int), (k5, .boolean), (k6, .int), (k7, .int), (k8, .int), (k9, .int), (k10, .int), (k11, .int), (k12, .int), (k13, .int), (k14, .int), (k15, .int), (k16, .int), (k17, .int), (k18, .int), (k19, .boolean), (k20, .int), (k21, .int)] U ∧ va_D (fun _ => True) [(h1, .inr (10, oX7 (.ref h2) a3_count a3_over a3_there)), (h2, .inl (k0, na3_items, .inl a3_items)), (h0, .inr (6, oX3 (.ref h3) (.ref h1) v_width (.ref h8) (.ref h11) (.ref h12) v_nowCount (.ref h9) (.ref h10) v_nextCount (.ref h13) (.ref h14) v_stamp (.ref h15) (.ref h16) (.ref h17) v_stackCount)), (h3, .inr (8, oX5 v_program_start v_program_count (.ref h18) (.ref h4) (.ref h5) (.ref h6) (.ref h7))), (h4, .inl (k1, 512, .inl v_program_kinds)), (h5, .inl (k2, 512, .inl v_program_subjects)), (h6, .inl (k3, 512, .inl v_program_nexts)), (h7, .inl (k4, 512, .inl v_program_others)), (h8, .inl (k5, 4, .inl (fun q9 => bz (v_edges q9)))), (h9, .inl (k6, 256, .inl v_nextAt)), (h10, .inl (k7, 5120, .inl v_nextCells)), (h11, .inl (k8, 256, .inl v_nowAt)), (h12, .inl (k9, 5120, .inl v_nowCells)), (h13, .inl (k10, 5632, .inl v_seen)), (h14, .inl (k11, 512, .inl v_waits)), (h15, .inl (k12, 20, .inl v_cells)), (h16, .inl (k13, 11266, .inl v_stack)), (h17, .inl (k14, 11266, .inl v_kept)), (h18, .inr (13, oX10 v_program_tree_there v_program_tree_count v_program_tree_captures v_program_tree_ranges (.ref h19) (.ref h26) (.ref h27) (.ref h28) (.ref h29) (.ref h30) (.ref h20) (.ref h21) (.ref h22) (.ref h31) (.ref h32) (.ref h33) (.ref h23) (.ref h34) (.ref h24) (.ref h25))), (h19, .inl (k15, 256, .inl v_program_tree_sort)), (h20, .inl (k16, 256, .inl v_program_tree_value)), (h21, .inl (k17, 256, .inl v_program_tree_low)), (h22, .inl (k18, 256, .inl v_program_tree_high)), (h23, .inl (k19, 256, .inl (fun q9 => bz (v_program_tree_withinCase q9)))), (h24, .inl (k20, 512, .inl v_program_tree_rangeBegin)), (h25, .inl (k21, 512, .inl v_program_tree_rangeEnd))] ∧ EX U)) (va_Qi (fun (r u : Int32) => r = u) (fun (u : Int32) (t : State) => ∃ (oa3_count : Int32), ∃ (oa3_over : Bool), ∃ (oa3_items : Nat → Int32), ∃ (ov_nextCount : Int32), ∃ (ov_stackCount : Int32), ∃ (ov_nextAt : Nat → Int32), ∃ (ov_nextCells : Nat → Int32), ∃ (ov_seen : Nat → Int32), ∃ (ov_waits : Nat → Int32), ∃ (ov_cells : Nat → Int32), ∃ (ov_stack : Nat → Int32), ∃ (ov_kept : Nat → Int32), (Q u oa3_count oa3_over oa3_items ov_nextCount ov_stackCount ov_nextAt ov_nextCells ov_seen ov_waits ov_cells ov_stack ov_kept) ∧ va_P (dC, dI) vwCl [(h1, .inr (10, oX7 (.ref h2) oa3_count oa3_over a3_there)), (h2, .inl (k0, na3_items, .inl oa3_items)), (h0, .inr (6, oX3 (.ref h3) (.ref h1) v_width (.ref h8) (.ref h11) (.ref h12) v_nowCount (.ref h9) (.ref h10) ov_nextCount (.ref h13) (.ref h14) v_stamp (.ref h15) (.ref h16) (.ref h17) ov_stackCount)), (h3, .inr (8, oX5 v_program_start v_program_count (.ref h18) (.ref h4) (.ref h5) (.ref h6) (.ref h7))), (h4, .inl (k1, 512, .inl v_program_kinds)), (h5, .inl (k2, 512, .inl v_program_subjects)), (h6, .inl (k3, 512, .inl v_program_nexts)), (h7, .inl (k4, 512, .inl v_program_others)), (h8, .inl (k5, 4, .inl (fun q9 => bz (v_edges q9)))), (h9, .inl (k6, 256, .inl ov_nextAt)), (h10, .inl (k7, 5120, .inl ov_nextCells)), (h11, .inl (k8, 256, .inl v_nowAt)), (h12, .inl (k9, 5120, .inl v_nowCells)), (h13, .inl (k10, 5632, .inl ov_seen)), (h14, .inl (k11, 512, .inl ov_waits)), (h15, .inl (k12, 20, .inl ov_cells)), (h16, .inl (k13, 11266, .inl ov_stack)), (h17, .inl (k14, 11266, .inl ov_kept)), (h18, .inr (13, oX10 v_program_tree_there v_program_tree_count v_program_tree_captures v_program_tree_ranges (.ref h19) (.ref h26) (.ref h27) (.ref h28) (.ref h29) (.ref h30) (.ref h20) (.ref h21) (.ref h22) (.ref h31) (.ref h32) (.ref h33) (.ref h23) (.ref h34) (.ref h24) (.ref h25))), (h19, .inl (k15, 256, .inl v_program_tree_sort)), (h20, .inl (k16, 256, .inl v_program_tree_value)), (h21, .inl (k17, 256, .inl v_program_tree_low)), (h22, .inl (k18, 256, .inl v_program_tree_high)), (h23, .inl (k19, 256, .inl (fun q9 => bz (v_program_tree_withinCase q9)))), (h24, .inl (k20, 512, .inl v_program_tree_rangeBegin)), (h25, .inl (k21, 512, .inl v_program_tree_rangeEnd))] t.heap ∧ va_D (va_A [(h1, .inr (10, oX7 (.ref h2) a3_count a3_over a3_there)), (h2, .inl (k0, na3_items, .inl a3_items)), (h0, .inr (6, oX3 (.ref h3) (.ref h1) v_width (.ref h8) (.ref h11) (.ref h12) v_nowCount (.ref h9) (.ref h10) v_nextCount (.ref h13) (.ref h14) v_stamp (.ref h15) (.ref h16) (.ref h17) v_stackCount)), (h3, .inr (8, oX5 v_program_start v_program_count (.ref h18) (.ref h4) (.ref h5) (.ref h6) (.ref h7))), (h4, .inl (k1, 512, .inl v_program_kinds)), (h5, .inl (k2, 512, .inl v_program_subjects)), (h6, .inl (k3, 512, .inl v_program_nexts)), (h7, .inl (k4, 512, .inl v_program_others)), (h8, .inl (k5, 4, .inl (fun q9 => bz (v_edges q9)))), (h9, .inl (k6, 256, .inl v_nextAt)), (h10, .inl (k7, 5120, .inl v_nextCells)), (h11, .inl (k8, 256, .inl v_nowAt)), (h12, .inl (k9, 5120, .inl v_nowCells)), (h13, .inl (k10, 5632, .inl v_seen)), (h14, .inl (k11, 512, .inl v_waits)), (h15, .inl (k12, 20, .inl v_cells)), (h16, .inl (k13, 11266, .inl v_stack)), (h17, .inl (k14, 11266, .inl v_kept)), (h18, .inr (13, oX10 v_program_tree_there v_program_tree_count v_program_tree_captures v_program_tree_ranges (.ref h19) (.ref h26) (.ref h27) (.ref h28) (.ref h29) (.ref h30) (.ref h20) (.ref h21) (.ref h22) (.ref h31) (.ref h32) (.ref h33) (.ref h23) (.ref h34) (.ref h24) (.ref h25))), (h19, .inl (k15, 256, .inl v_program_tree_sort)), (h20, .inl (k16, 256, .inl v_program_tree_value)), (h21, .inl (k17, 256, .inl v_program_tree_low)), (h22, .inl (k18, 256, .inl v_program_tree_high)), (h23, .inl (k19, 256, .inl (fun q9 => bz (v_program_tree_withinCase q9)))), (h24, .inl (k20, 512, .inl v_program_tree_rangeBegin)), (h25, .inl (k21, 512, .inl v_program_tree_rangeEnd))] sz) [(h1, .inr (10, oX7 (.ref h2) oa3_count oa3_over a3_there)), (h2, .inl (k0, na3_items, .inl oa3_items)), (h0, .inr (6, oX3 (.ref h3) (.ref h1) v_width (.ref h8) (.ref h11) (.ref h12) v_nowCount (.ref h9) (.ref h10) ov_nextCount (.ref h13) (.ref h14) v_stamp (.ref h15) (.ref h16) (.ref h17) ov_stackCount)), (h3, .inr (8, oX5 v_program_start v_program_count (.ref h18) (.ref h4) (.ref h5) (.ref h6) (.ref h7))), (h4, .inl (k1, 512, .inl v_program_kinds)), (h5, .inl (k2, 512, .inl v_program_subjects)), (h6, .inl (k3, 512, .inl v_program_nexts)), (h7, .inl (k4, 512, .inl v_program_others)), (h8, .inl (k5, 4, .inl (fun q9 => bz (v_edges q9)))), (h9, .inl (k6, 256, .inl ov_nextAt)), (h10, .inl (k7, 5120, .inl ov_nextCells)), (h11, .inl (k8, 256, .inl v_nowAt)), (h12, .inl (k9, 5120, .inl v_nowCells)), (h13, .inl (k10, 5632, .inl ov_seen)), (h14, .inl (k11, 512, .inl ov_waits)), (h15, .inl (k12, 20, .inl ov_cells)), (h16, .inl (k13, 11266, .inl ov_stack)), (h17, .inl (k14, 11266, .inl ov_kept)), (h18, .inr (13, oX10 v_program_tree_there v_program_tree_count v_program_tree_captures v_program_tree_ranges (.ref h19) (.ref h26) (.ref h27) (.ref h28) (.ref h29) (.ref h30) (.ref h20) (.ref h21) (.ref h22) (.ref h31) (.ref h32) (.ref h33) (.ref h23) (.ref h34) (.ref h24) (.ref h25))), (h19, .inl (k15, 256, .inl v_program_tree_sort)), (h20, .inl (k16, 256, .inl v_program_tree_value)), (h21, .inl (k17, 256, .inl v_program_tree_low)), (h22, .inl (k18, 256, .inl v_program_tree_high)), (h23, .inl (k19, 256, .inl (fun q9 => bz (v_program_tree_withinCase q9)))), (h24, .inl (k20, 512, .inl v_program_tree_rangeBegin)), (h25, .inl (k21, 512, .inl v_program_tree_rangeEnd))]) (va_A [(h1, .inr (10, oX7 (.ref h2) a3_count a3_over a3_there)), (h2, .inl (k0, na3_items, .inl a3_items)), (h0, .inr (6, oX3 (.ref h3) (.ref h1) v_width (.ref h8) (.ref h11) (.ref h12) v_nowCount (.ref h9) (.ref h10) v_nextCount (.ref h13) (.ref h14) v_stamp (.ref h15) (.ref h16) (.ref h17) v_stackCount)), (h3, .inr (8, oX5 v_program_start v_program_count (.ref h18) (.ref h4) (.ref h5) (.ref h6) (.ref h7))), (h4, .inl (k1, 512, .inl v_program_kinds)), (h5, .inl (k2, 512, .inl v_program_subjects)), (h6, .inl (k3, 512, .inl v_program_nexts)), (h7, .inl (k4, 512, .inl v_program_others)), (h8, .inl (k5, 4, .inl (fun q9 => bz (v_edges q9)))), (h9, .inl (k6, 256, .inl v_nextAt)), (h10, .inl (k7, 5120, .inl v_nextCells)), (h11, .inl (k8, 256, .inl v_nowAt)), (h12, .inl (k9, 5120, .inl v_nowCells)), (h13, .inl (k10, 5632, .inl v_seen)), (h14, .inl (k11, 512, .inl v_waits)), (h15, .inl (k12, 20, .inl v_cells)), (h16, .inl (k13, 11266, .inl v_stack)), (h17, .inl (k14, 11266, .inl v_kept)), (h18, .inr (13, oX10 v_program_tree_there v_program_tree_count v_program_tree_captures v_program_tree_ranges (.ref h19) (.ref h26) (.ref h27) (.ref h28) (.ref h29) (.ref h30) (.ref h20) (.ref h21) (.ref h22) (.ref h31) (.ref h32) (.ref h33) (.ref h23) (.ref h34) (.ref h24) (.ref h25))), (h19, .inl (k15, 256, .inl v_program_tree_sort)), (h20, .inl (k16, 256, .inl v_program_tree_value)), (h21, .inl (k17, 256, .inl v_program_tree_low)), (h22, .inl (k18, 256, .inl v_program_tree_high)), (h23, .inl (k19, 256, .inl (fun q9 => bz (v_program_tree_withinCase q9)))), (h24, .inl (k20, 512, .inl v_program_tree_rangeBegin)), (h25, .inl (k21, 512, .inl v_program_tree_rangeEnd))] sz)) 0 0 (va_A [(h1, .inr (10, oX7 (.ref h2) a3_count a3_over a3_there)), (h2, .inl (k0, na3_items, .inl a3_items)), (h0, .inr (6, oX3 (.ref h3) (.ref h1) v_width (.ref h8) (.ref h11) (.ref h12) v_nowCount (.ref h9) (.ref h10) v_nextCount (.ref h13) (.ref h14) v_stamp (.ref h15) (.ref h16) (.ref h17) v_stackCount)), (h3, .inr (8, oX5 v_program_start v_program_count (.ref h18) (.ref h4) (.ref h5) (.ref h6) (.ref h7))), (h4, .inl (k1, 512, .inl v_program_kinds)), (h5, .inl (k2, 512, .inl v_program_subjects)), (h6, .inl (k3, 512, .inl v_program_nexts)), (h7, .inl (k4, 512, .inl v_program_others)), (h8, .inl (k5, 4, .inl (fun q9 => bz (v_edges q9)))), (h9, .inl (k6, 256, .inl v_nextAt)), (h10, .inl (k7, 5120, .inl v_nextCells)), (h11, .inl (k8, 256, .inl v_nowAt)), (h12, .inl (k9, 5120, .inl v_nowCells)), (h13, .inl (k10, 5632, .inl v_seen)), (h14, .inl (k11, 512, .inl v_waits)), (h15, .inl (k12, 20, .inl v_cells)), (h16, .inl (k13, 11266, .inl v_stack)), (h17, .inl (k14, 11266, .inl v_kept)), (h18, .inr (13, oX10 v_program_tree_there v_program_tree_count v_program_tree_captures v_program_tree_ranges (.ref h19) (.ref h26) (.ref h27) (.ref h28) (.ref h29) (.ref h30) (.ref h20) (.ref h21) (.ref h22) (.ref h31) (.ref h32) (.ref h33) (.ref h23) (.ref h34) (.ref h24) (.ref h25))), (h19, .inl (k15, 256, .inl v_program_tree_sort)), (h20, .inl (k16, 256, .inl v_program_tree_value)), (h21, .inl (k17, 256, .inl v_program_tree_low)), (h22, .inl (k18, 256, .inl v_program_tree_high)), (h23, .inl (k19, 256, .inl (fun q9 => bz (v_program_tree_withinCase q9)))), (h24, .inl (k20, 512, .inl v_program_tree_rangeBegin)), (h25, .inl (k21, 512, .inl v_program_tree_rangeEnd))] sz) := by
  refine Met.ofW (cc := cX3_goAlong) (maxL := 6) (ret := (some (.boolean))) (by decide) rfl ?_
  intro p e s m args below meth c s₁ B hml hv
  obtain ⟨rfl, hsz, hP, hK, hD0, hE⟩ := hv
  have hx := B.exec
  have hb := B.bytes
  have hr := B.returns
  have hts := atoms_spec (ws := WS yX3_goAlong cX3_goAlong 6 (some (.boolean))) B.pre
  have ht : ∀ w ∈ TW, w.before _ s = true := fun w h => hts w (List.mem_cons_of_mem _ h)
  have hown : s.vm.findClass "PatternWorkshop$Parallel" = some m.cls := findClass_of_methodNamed B.named
  have hlocks := B.notSynchronized
  subst hsz
  have hD := hD0.self (sz := s.heap.size)
  generalize hAe : va_A [(h1, .inr (10, oX7 (.ref h2) a3_count a3_over a3_there)), (h2, .inl (k0, na3_items, .inl a3_items)), (h0, .inr (6, oX3 (.ref h3) (.ref h1) v_width (.ref h8) (.ref h11) (.ref h12) v_nowCount (.ref h9) (.ref h10) v_nextCount (.ref h13) (.ref h14) v_stamp (.ref h15) (.ref h16) (.ref h17) v_stackCount)), (h3, .inr (8, oX5 v_program_start v_program_count (.ref h18) (.ref h4) (.ref h5) (.ref h6) (.ref h7))), (h4, .inl (k1, 512, .inl v_program_kinds)), (h5, .inl (k2, 512, .inl v_program_subjects)), (h6, .inl (k3, 512, .inl v_program_nexts)), (h7, .inl (k4, 512, .inl v_program_others)), (h8, .inl (k5, 4, .inl (fun q9 => bz (v_edges q9)))), (h9, .inl (k6, 256, .inl v_nextAt)), (h10, .inl (k7, 5120, .inl v_nextCells)), (h11, .inl (k8, 256, .inl v_nowAt)), (h12, .inl (k9, 5120, .inl v_nowCells)), (h13, .inl (k10, 5632, .inl v_seen)), (h14, .inl (k11, 512, .inl v_waits)), (h15, .inl (k12, 20, .inl v_cells)), (h16, .inl (k13, 11266, .inl v_stack)), (h17, .inl (k14, 11266, .inl v_kept)), (h18, .inr (13, oX10 v_program_tree_there v_program_tree_count v_program_tree_captures v_program_tree_ranges (.ref h19) (.ref h26) (.ref h27) (.ref h28) (.ref h29) (.ref h30) (.ref h20) (.ref h21) (.ref h22) (.ref h31) (.ref h32) (.ref h33) (.ref h23) (.ref h34) (.ref h24) (.ref h25))), (h19, .inl (k15, 256, .inl v_program_tree_sort)), (h20, .inl (k16, 256, .inl v_program_tree_value)), (h21, .inl (k17, 256, .inl v_program_tree_low)), (h22, .inl (k18, 256, .inl v_program_tree_high)), (h23, .inl (k19, 256, .inl (fun q9 => bz (v_program_tree_withinCase q9)))), (h24, .inl (k20, 512, .inl v_program_tree_rangeBegin)), (h25, .inl (k21, 512, .inl v_program_tree_rangeEnd))] s.heap.size = A at hD ⊢
  have hA : ∀ q : Nat, s.heap.size ≤ q → A q := fun q h => by rw [← hAe]; exact Or.inr h
  have hS : va_S A s.heap s.heap [] := va_S.rf
  have hP : va_P (dC, dI) vwCl [(h1, .inr (10, oX7 (.ref h2) a3_count a3_over a3_there)), (h2, .inl (k0, na3_items, .inl a3_items)), (h0, .inr (6, oX3 (.ref h3) (.ref h1) v_width (.ref h8) (.ref h11) (.ref h12) v_nowCount (.ref h9) (.ref h10) v_nextCount (.ref h13) (.ref h14) v_stamp (.ref h15) (.ref h16) (.ref h17) v_stackCount)), (h3, .inr (8, oX5 v_program_start v_program_count (.ref h18) (.ref h4) (.ref h5) (.ref h6) (.ref h7))), (h4, .inl (k1, 512, .inl v_program_kinds)), (h5, .inl (k2, 512, .inl v_program_subjects)), (h6, .inl (k3, 512, .inl v_program_nexts)), (h7, .inl (k4, 512, .inl v_program_others)), (h8, .inl (k5, 4, .inl (fun q9 => bz (v_edges q9)))), (h9, .inl (k6, 256, .inl v_nextAt)), (h10, .inl (k7, 5120, .inl v_nextCells)), (h11, .inl (k8, 256, .inl v_nowAt)), (h12, .inl (k9, 5120, .inl v_nowCells)), (h13, .inl (k10, 5632, .inl v_seen)), (h14, .inl (k11, 512, .inl v_waits)), (h15, .inl (k12, 20, .inl v_cells)), (h16, .inl (k13, 11266, .inl v_stack)), (h17, .inl (k14, 11266, .inl v_kept)), (h18, .inr (13, oX10 v_program_tree_there v_program_tree_count v_program_tree_captures v_program_tree_ranges (.ref h19) (.ref h26) (.ref h27) (.ref h28) (.ref h29) (.ref h30) (.ref h20) (.ref h21) (.ref h22) (.ref h31) (.ref h32) (.ref h33) (.ref h23) (.ref h34) (.ref h24) (.ref h25))), (h19, .inl (k15, 256, .inl v_program_tree_sort)), (h20, .inl (k16, 256, .inl v_program_tree_value)), (h21, .inl (k17, 256, .inl v_program_tree_low)), (h22, .inl (k18, 256, .inl v_program_tree_high)), (h23, .inl (k19, 256, .inl (fun q9 => bz (v_program_tree_withinCase q9)))), (h24, .inl (k20, 512, .inl v_program_tree_rangeBegin)), (h25, .inl (k21, 512, .inl v_program_tree_rangeEnd))] s.heap := hP
  have hl := lv_entry ([.ref h0, .int p1, .int p2, .ref h1]) (n := 6) (Nat.le_of_ble_eq_true rfl)
  rw [lg_entry_eq]
  generalize (lg_sl ([.ref h0, .int p1, .int p2, .ref h1]) ++ List.replicate (6 - (lg_sl ([.ref h0, .int p1, .int p2, .ref h1])).length) Slot.unset).toArray = ls at hl ⊢
  have hl : lv_has ls 6 [(0, .ref h0), (1, .int p1), (2, .int p2), (3, .ref h1)] := hl
  clear hD0
  obtain ⟨QQ, hQQ⟩ : ∃ QQ, QQ = MQ below (va_Qi (fun (r u : Int32) => r = u) (fun (u : Int32) (t : State) => ∃ (oa3_count : Int32), ∃ (oa3_over : Bool), ∃ (oa3_items : Nat → Int32), ∃ (ov_nextCount : Int32), ∃ (ov_stackCount : Int32), ∃ (ov_nextAt : Nat → Int32), ∃ (ov_nextCells : Nat → Int32), ∃ (ov_seen : Nat → Int32), ∃ (ov_waits : Nat → Int32), ∃ (ov_cells : Nat → Int32), ∃ (ov_stack : Nat → Int32), ∃ (ov_kept : Nat → Int32), (Q u oa3_count oa3_over oa3_items ov_nextCount ov_stackCount ov_nextAt ov_nextCells ov_seen ov_waits ov_cells ov_stack ov_kept) ∧ va_P (dC, dI) vwCl [(h1, .inr (10, oX7 (.ref h2) oa3_count oa3_over a3_there)), (h2, .inl (k0, na3_items, .inl oa3_items)), (h0, .inr (6, oX3 (.ref h3) (.ref h1) v_width (.ref h8) (.ref h11) (.ref h12) v_nowCount (.ref h9) (.ref h10) ov_nextCount (.ref h13) (.ref h14) v_stamp (.ref h15) (.ref h16) (.ref h17) ov_stackCount)), (h3, .inr (8, oX5 v_program_start v_program_count (.ref h18) (.ref h4) (.ref h5) (.ref h6) (.ref h7))), (h4, .inl (k1, 512, .inl v_program_kinds)), (h5, .inl (k2, 512, .inl v_program_subjects)), (h6, .inl (k3, 512, .inl v_program_nexts)), (h7, .inl (k4, 512, .inl v_program_others)), (h8, .inl (k5, 4, .inl (fun q9 => bz (v_edges q9)))), (h9, .inl (k6, 256, .inl ov_nextAt)), (h10, .inl (k7, 5120, .inl ov_nextCells)), (h11, .inl (k8, 256, .inl v_nowAt)), (h12, .inl (k9, 5120, .inl v_nowCells)), (h13, .inl (k10, 5632, .inl ov_seen)), (h14, .inl (k11, 512, .inl ov_waits)), (h15, .inl (k12, 20, .inl ov_cells)), (h16, .inl (k13, 11266, .inl ov_stack)), (h17, .inl (k14, 11266, .inl ov_kept)), (h18, .inr (13, oX10 v_program_tree_there v_program_tree_count v_program_tree_captures v_program_tree_ranges (.ref h19) (.ref h26) (.ref h27) (.ref h28) (.ref h29) (.ref h30) (.ref h20) (.ref h21) (.ref h22) (.ref h31) (.ref h32) (.ref h33) (.ref h23) (.ref h34) (.ref h24) (.ref h25))), (h19, .inl (k15, 256, .inl v_program_tree_sort)), (h20, .inl (k16, 256, .inl v_program_tree_value)), (h21, .inl (k17, 256, .inl v_program_tree_low)), (h22, .inl (k18, 256, .inl v_program_tree_high)), (h23, .inl (k19, 256, .inl (fun q9 => bz (v_program_tree_withinCase q9)))), (h24, .inl (k20, 512, .inl v_program_tree_rangeBegin)), (h25, .inl (k21, 512, .inl v_program_tree_rangeEnd))] t.heap ∧ va_D A [(h1, .inr (10, oX7 (.ref h2) oa3_count oa3_over a3_there)), (h2, .inl (k0, na3_items, .inl oa3_items)), (h0, .inr (6, oX3 (.ref h3) (.ref h1) v_width (.ref h8) (.ref h11) (.ref h12) v_nowCount (.ref h9) (.ref h10) ov_nextCount (.ref h13) (.ref h14) v_stamp (.ref h15) (.ref h16) (.ref h17) ov_stackCount)), (h3, .inr (8, oX5 v_program_start v_program_count (.ref h18) (.ref h4) (.ref h5) (.ref h6) (.ref h7))), (h4, .inl (k1, 512, .inl v_program_kinds)), (h5, .inl (k2, 512, .inl v_program_subjects)), (h6, .inl (k3, 512, .inl v_program_nexts)), (h7, .inl (k4, 512, .inl v_program_others)), (h8, .inl (k5, 4, .inl (fun q9 => bz (v_edges q9)))), (h9, .inl (k6, 256, .inl ov_nextAt)), (h10, .inl (k7, 5120, .inl ov_nextCells)), (h11, .inl (k8, 256, .inl v_nowAt)), (h12, .inl (k9, 5120, .inl v_nowCells)), (h13, .inl (k10, 5632, .inl ov_seen)), (h14, .inl (k11, 512, .inl ov_waits)), (h15, .inl (k12, 20, .inl ov_cells)), (h16, .inl (k13, 11266, .inl ov_stack)), (h17, .inl (k14, 11266, .inl ov_kept)), (h18, .inr (13, oX10 v_program_tree_there v_program_tree_count v_program_tree_captures v_program_tree_ranges (.ref h19) (.ref h26) (.ref h27) (.ref h28) (.ref h29) (.ref h30) (.ref h20) (.ref h21) (.ref h22) (.ref h31) (.ref h32) (.ref h33) (.ref h23) (.ref h34) (.ref h24) (.ref h25))), (h19, .inl (k15, 256, .inl v_program_tree_sort)), (h20, .inl (k16, 256, .inl v_program_tree_value)), (h21, .inl (k17, 256, .inl v_program_tree_low)), (h22, .inl (k18, 256, .inl v_program_tree_high)), (h23, .inl (k19, 256, .inl (fun q9 => bz (v_program_tree_withinCase q9)))), (h24, .inl (k20, 512, .inl v_program_tree_rangeBegin)), (h25, .inl (k21, 512, .inl v_program_tree_rangeEnd))]) A) ([.ref h0, .int p1, .int p2, .ref h1]).toArray s 0 0 A := ⟨_, rfl⟩
  show W p l e ({ frames := 4, cells := 0, slots := 0, locals := 94 } : Room) s m ([.ref h0, .int p1, .int p2, .ref h1]).toArray below meth c s.heap [] 0 0 (MQ below (va_Qi (fun (r u : Int32) => r = u) (fun (u : Int32) (t : State) => ∃ (oa3_count : Int32), ∃ (oa3_over : Bool), ∃ (oa3_items : Nat → Int32), ∃ (ov_nextCount : Int32), ∃ (ov_stackCount : Int32), ∃ (ov_nextAt : Nat → Int32), ∃ (ov_nextCells : Nat → Int32), ∃ (ov_seen : Nat → Int32), ∃ (ov_waits : Nat → Int32), ∃ (ov_cells : Nat → Int32), ∃ (ov_stack : Nat → Int32), ∃ (ov_kept : Nat → Int32), (Q u oa3_count oa3_over oa3_items ov_nextCount ov_stackCount ov_nextAt ov_nextCells ov_seen ov_waits ov_cells ov_stack ov_kept) ∧ va_P (dC, dI) vwCl [(h1, .inr (10, oX7 (.ref h2) oa3_count oa3_over a3_there)), (h2, .inl (k0, na3_items, .inl oa3_items)), (h0, .inr (6, oX3 (.ref h3) (.ref h1) v_width (.ref h8) (.ref h11) (.ref h12) v_nowCount (.ref h9) (.ref h10) ov_nextCount (.ref h13) (.ref h14) v_stamp (.ref h15) (.ref h16) (.ref h17) ov_stackCount)), (h3, .inr (8, oX5 v_program_start v_program_count (.ref h18) (.ref h4) (.ref h5) (.ref h6) (.ref h7))), (h4, .inl (k1, 512, .inl v_program_kinds)), (h5, .inl (k2, 512, .inl v_program_subjects)), (h6, .inl (k3, 512, .inl v_program_nexts)), (h7, .inl (k4, 512, .inl v_program_others)), (h8, .inl (k5, 4, .inl (fun q9 => bz (v_edges q9)))), (h9, .inl (k6, 256, .inl ov_nextAt)), (h10, .inl (k7, 5120, .inl ov_nextCells)), (h11, .inl (k8, 256, .inl v_nowAt)), (h12, .inl (k9, 5120, .inl v_nowCells)), (h13, .inl (k10, 5632, .inl ov_seen)), (h14, .inl (k11, 512, .inl ov_waits)), (h15, .inl (k12, 20, .inl ov_cells)), (h16, .inl (k13, 11266, .inl ov_stack)), (h17, .inl (k14, 11266, .inl ov_kept)), (h18, .inr (13, oX10 v_program_tree_there v_program_tree_count v_program_tree_captures v_program_tree_ranges (.ref h19) (.ref h26) (.ref h27) (.ref h28) (.ref h29) (.ref h30) (.ref h20) (.ref h21) (.ref h22) (.ref h31) (.ref h32) (.ref h33) (.ref h23) (.ref h34) (.ref h24) (.ref h25))), (h19, .inl (k15, 256, .inl v_program_tree_sort)), (h20, .inl (k16, 256, .inl v_program_tree_value)), (h21, .inl (k17, 256, .inl v_program_tree_low)), (h22, .inl (k18, 256, .inl v_program_tree_high)), (h23, .inl (k19, 256, .inl (fun q9 => bz (v_program_tree_withinCase q9)))), (h24, .inl (k20, 512, .inl v_program_tree_rangeBegin)), (h25, .inl (k21, 512, .inl v_program_tree_rangeEnd))] t.heap ∧ va_D A [(h1, .inr (10, oX7 (.ref h2) oa3_count oa3_over a3_there)), (h2, .inl (k0, na3_items, .inl oa3_items)), (h0, .inr (6, oX3 (.ref h3) (.ref h1) v_width (.ref h8) (.ref h11) (.ref h12) v_nowCount (.ref h9) (.ref h10) ov_nextCount (.ref h13) (.ref h14) v_stamp (.ref h15) (.ref h16) (.ref h17) ov_stackCount)), (h3, .inr (8, oX5 v_program_start v_program_count (.ref h18) (.ref h4) (.ref h5) (.ref h6) (.ref h7))), (h4, .inl (k1, 512, .inl v_program_kinds)), (h5, .inl (k2, 512, .inl v_program_subjects)), (h6, .inl (k3, 512, .inl v_program_nexts)), (h7, .inl (k4, 512, .inl v_program_others)), (h8, .inl (k5, 4, .inl (fun q9 => bz (v_edges q9)))), (h9, .inl (k6, 256, .inl ov_nextAt)), (h10, .inl (k7, 5120, .inl ov_nextCells)), (h11, .inl (k8, 256, .inl v_nowAt)), (h12, .inl (k9, 5120, .inl v_nowCells)), (h13, .inl (k10, 5632, .inl ov_seen)), (h14, .inl (k11, 512, .inl ov_waits)), (h15, .inl (k12, 20, .inl ov_cells)), (h16, .inl (k13, 11266, .inl ov_stack)), (h17, .inl (k14, 11266, .inl ov_kept)), (h18, .inr (13, oX10 v_program_tree_there v_program_tree_count v_program_tree_captures v_program_tree_ranges (.ref h19) (.ref h26) (.ref h27) (.ref h28) (.ref h29) (.ref h30) (.ref h20) (.ref h21) (.ref h22) (.ref h31) (.ref h32) (.ref h33) (.ref h23) (.ref h34) (.ref h24) (.ref h25))), (h19, .inl (k15, 256, .inl v_program_tree_sort)), (h20, .inl (k16, 256, .inl v_program_tree_value)), (h21, .inl (k17, 256, .inl v_program_tree_low)), (h22, .inl (k18, 256, .inl v_program_tree_high)), (h23, .inl (k19, 256, .inl (fun q9 => bz (v_program_tree_withinCase q9)))), (h24, .inl (k20, 512, .inl v_program_tree_rangeBegin)), (h25, .inl (k21, 512, .inl v_program_tree_rangeEnd))]) A) ([.ref h0, .int p1, .int p2, .ref h1]).toArray s 0 0 A) (F0 m 0 ls [])
  rw [← hQQ]
  unfold w_X3_goAlong_w1 at w
  refine lv_iconst (v := 0) hx hb dX3_goAlong_0 (by decide) ?_
  refine lv_istore (lv' := [(4, .int 0), (0, .ref h0), (1, .int p1), (2, .int p2), (3, .ref h1)]) hx hb dX3_goAlong_1 hl (by decide) rfl (fun ls_1 hl_1 => ?_)
  clear hl
  have k_3 : ∀ (a3_count_3 : Int32) (a3_over_3 : Bool) (a3_items_3 : Nat → Int32), ∀ n_3 : Nat, ∀ (l4_3 : Int32) (v_nextCount_3 : Int32) (v_stackCount_3 : Int32) (v_nextAt_3 : Nat → Int32) (v_nextCells_3 : Nat → Int32) (v_seen_3 : Nat → Int32) (v_waits_3 : Nat → Int32) (v_cells_3 : Nat → Int32) (v_stack_3 : Nat → Int32) (v_kept_3 : Nat → Int32), ∀ (H_b3 : Heap) (locs_b3 : List Loc) (ls_b3 : Array Slot), w_X3_goAlong_w1_3 p1 p2 na3_items v_width v_nowCount v_stamp v_program_count v_program_kinds v_program_subjects v_program_nexts v_program_others v_edges v_nowAt v_nowCells v_program_tree_count v_program_tree_ranges v_program_tree_sort v_program_tree_value v_program_tree_low v_program_tree_high v_program_tree_withinCase v_program_tree_rangeBegin v_program_tree_rangeEnd Q a3_count_3 a3_over_3 a3_items_3 n_3 l4_3 v_nextCount_3 v_stackCount_3 v_nextAt_3 v_nextCells_3 v_seen_3 v_waits_3 v_cells_3 v_stack_3 v_kept_3 → va_P (dC, dI) vwCl [(h1, .inr (10, oX7 (.ref h2) a3_count_3 a3_over_3 a3_there)), (h2, .inl (k0, na3_items, .inl a3_items_3)), (h0, .inr (6, oX3 (.ref h3) (.ref h1) v_width (.ref h8) (.ref h11) (.ref h12) v_nowCount (.ref h9) (.ref h10) v_nextCount_3 (.ref h13) (.ref h14) v_stamp (.ref h15) (.ref h16) (.ref h17) v_stackCount_3)), (h3, .inr (8, oX5 v_program_start v_program_count (.ref h18) (.ref h4) (.ref h5) (.ref h6) (.ref h7))), (h4, .inl (k1, 512, .inl v_program_kinds)), (h5, .inl (k2, 512, .inl v_program_subjects)), (h6, .inl (k3, 512, .inl v_program_nexts)), (h7, .inl (k4, 512, .inl v_program_others)), (h8, .inl (k5, 4, .inl (fun q9 => bz (v_edges q9)))), (h9, .inl (k6, 256, .inl v_nextAt_3)), (h10, .inl (k7, 5120, .inl v_nextCells_3)), (h11, .inl (k8, 256, .inl v_nowAt)), (h12, .inl (k9, 5120, .inl v_nowCells)), (h13, .inl (k10, 5632, .inl v_seen_3)), (h14, .inl (k11, 512, .inl v_waits_3)), (h15, .inl (k12, 20, .inl v_cells_3)), (h16, .inl (k13, 11266, .inl v_stack_3)), (h17, .inl (k14, 11266, .inl v_kept_3)), (h18, .inr (13, oX10 v_program_tree_there v_program_tree_count v_program_tree_captures v_program_tree_ranges (.ref h19) (.ref h26) (.ref h27) (.ref h28) (.ref h29) (.ref h30) (.ref h20) (.ref h21) (.ref h22) (.ref h31) (.ref h32) (.ref h33) (.ref h23) (.ref h34) (.ref h24) (.ref h25))), (h19, .inl (k15, 256, .inl v_program_tree_sort)), (h20, .inl (k16, 256, .inl v_program_tree_value)), (h21, .inl (k17, 256, .inl v_program_tree_low)), (h22, .inl (k18, 256, .inl v_program_tree_high)), (h23, .inl (k19, 256, .inl (fun q9 => bz (v_program_tree_withinCase q9)))), (h24, .inl (k20, 512, .inl v_program_tree_rangeBegin)), (h25, .inl (k21, 512, .inl v_program_tree_rangeEnd))] H_b3 → va_D A [(h1, .inr (10, oX7 (.ref h2) a3_count_3 a3_over_3 a3_there)), (h2, .inl (k0, na3_items, .inl a3_items_3)), (h0, .inr (6, oX3 (.ref h3) (.ref h1) v_width (.ref h8) (.ref h11) (.ref h12) v_nowCount (.ref h9) (.ref h10) v_nextCount_3 (.ref h13) (.ref h14) v_stamp (.ref h15) (.ref h16) (.ref h17) v_stackCount_3)), (h3, .inr (8, oX5 v_program_start v_program_count (.ref h18) (.ref h4) (.ref h5) (.ref h6) (.ref h7))), (h4, .inl (k1, 512, .inl v_program_kinds)), (h5, .inl (k2, 512, .inl v_program_subjects)), (h6, .inl (k3, 512, .inl v_program_nexts)), (h7, .inl (k4, 512, .inl v_program_others)), (h8, .inl (k5, 4, .inl (fun q9 => bz (v_edges q9)))), (h9, .inl (k6, 256, .inl v_nextAt_3)), (h10, .inl (k7, 5120, .inl v_nextCells_3)), (h11, .inl (k8, 256, .inl v_nowAt)), (h12, .inl (k9, 5120, .inl v_nowCells)), (h13, .inl (k10, 5632, .inl v_seen_3)), (h14, .inl (k11, 512, .inl v_waits_3)), (h15, .inl (k12, 20, .inl v_cells_3)), (h16, .inl (k13, 11266, .inl v_stack_3)), (h17, .inl (k14, 11266, .inl v_kept_3)), (h18, .inr (13, oX10 v_program_tree_there v_program_tree_count v_program_tree_captures v_program_tree_ranges (.ref h19) (.ref h26) (.ref h27) (.ref h28) (.ref h29) (.ref h30) (.ref h20) (.ref h21) (.ref h22) (.ref h31) (.ref h32) (.ref h33) (.ref h23) (.ref h34) (.ref h24) (.ref h25))), (h19, .inl (k15, 256, .inl v_program_tree_sort)), (h20, .inl (k16, 256, .inl v_program_tree_value)), (h21, .inl (k17, 256, .inl v_program_tree_low)), (h22, .inl (k18, 256, .inl v_program_tree_high)), (h23, .inl (k19, 256, .inl (fun q9 => bz (v_program_tree_withinCase q9)))), (h24, .inl (k20, 512, .inl v_program_tree_rangeBegin)), (h25, .inl (k21, 512, .inl v_program_tree_rangeEnd))] → va_S A s.heap H_b3 locs_b3 → lv_has ls_b3 6 [(0, .ref h0), (1, .int p1), (2, .int p2), (3, .ref h1), (4, .int l4_3)] → W p l e ({ frames := 4, cells := 0, slots := 0, locals := 94 } : Room) s m ([.ref h0, .int p1, .int p2, .ref h1]).toArray below meth c H_b3 locs_b3 0 0 QQ (F0 m 3 ls_b3 []) := by
    intro a3_count_3 a3_over_3 a3_items_3
    intro n_3
    induction n_3 with
    | zero =>
      intro l4_3 v_nextCount_3 v_stackCount_3 v_nextAt_3 v_nextCells_3 v_seen_3 v_waits_3 v_cells_3 v_stack_3 v_kept_3 H_b3 locs_b3 ls_b3 w_b3 hP_b3 hD_b3 hS_b3 hl_b3
      exact False.elim (by unfold w_X3_goAlong_w1_3 at w_b3; exact w_b3)
    | succ n_3 ih_3 =>
      intro l4_3 v_nextCount_3 v_stackCount_3 v_nextAt_3 v_nextCells_3 v_seen_3 v_waits_3 v_cells_3 v_stack_3 v_kept_3 H_b3 locs_b3 ls_b3 w_b3 hP_b3 hD_b3 hS_b3 hl_b3
      unfold w_X3_goAlong_w1_3 at w_b3
      unfold w_X3_goAlong_w1_3B at w_b3
      refine lv_iload hx hb dX3_goAlong_3 (lv_at hl_b3 4 rfl) ?_
      refine lv_aload_n hx hb dX3_goAlong_5 rfl (lv_at hl_b3 0 rfl) ?_
      refine va_get (D := (dC, dI)) (ci := 6) (v := .int v_nowCount) (C := RX3) (T := TX3) (N := 17) hx hb ht inX3 hown hK hP_b3 2 rfl rfl 6 (by decide) (ht _ tw_625) (fun _ h9 => h9) rfl dX3_goAlong_6 ?_
      have k_156 : ∀ (a3_count_156 : Int32) (a3_over_156 : Bool) (a3_items_156 : Nat → Int32) (v_nextCount_156 : Int32) (v_stackCount_156 : Int32) (v_nextAt_156 : Nat → Int32) (v_nextCells_156 : Nat → Int32) (v_seen_156 : Nat → Int32) (v_waits_156 : Nat → Int32) (v_cells_156 : Nat → Int32) (v_stack_156 : Nat → Int32) (v_kept_156 : Nat → Int32), ∀ (H_b156 : Heap) (locs_b156 : List Loc) (ls_b156 : Array Slot), w_X3_goAlong_w1_156 Q a3_count_156 a3_over_156 a3_items_156 v_nextCount_156 v_stackCount_156 v_nextAt_156 v_nextCells_156 v_seen_156 v_waits_156 v_cells_156 v_stack_156 v_kept_156 → va_P (dC, dI) vwCl [(h1, .inr (10, oX7 (.ref h2) a3_count_156 a3_over_156 a3_there)), (h2, .inl (k0, na3_items, .inl a3_items_156)), (h0, .inr (6, oX3 (.ref h3) (.ref h1) v_width (.ref h8) (.ref h11) (.ref h12) v_nowCount (.ref h9) (.ref h10) v_nextCount_156 (.ref h13) (.ref h14) v_stamp (.ref h15) (.ref h16) (.ref h17) v_stackCount_156)), (h3, .inr (8, oX5 v_program_start v_program_count (.ref h18) (.ref h4) (.ref h5) (.ref h6) (.ref h7))), (h4, .inl (k1, 512, .inl v_program_kinds)), (h5, .inl (k2, 512, .inl v_program_subjects)), (h6, .inl (k3, 512, .inl v_program_nexts)), (h7, .inl (k4, 512, .inl v_program_others)), (h8, .inl (k5, 4, .inl (fun q9 => bz (v_edges q9)))), (h9, .inl (k6, 256, .inl v_nextAt_156)), (h10, .inl (k7, 5120, .inl v_nextCells_156)), (h11, .inl (k8, 256, .inl v_nowAt)), (h12, .inl (k9, 5120, .inl v_nowCells)), (h13, .inl (k10, 5632, .inl v_seen_156)), (h14, .inl (k11, 512, .inl v_waits_156)), (h15, .inl (k12, 20, .inl v_cells_156)), (h16, .inl (k13, 11266, .inl v_stack_156)), (h17, .inl (k14, 11266, .inl v_kept_156)), (h18, .inr (13, oX10 v_program_tree_there v_program_tree_count v_program_tree_captures v_program_tree_ranges (.ref h19) (.ref h26) (.ref h27) (.ref h28) (.ref h29) (.ref h30) (.ref h20) (.ref h21) (.ref h22) (.ref h31) (.ref h32) (.ref h33) (.ref h23) (.ref h34) (.ref h24) (.ref h25))), (h19, .inl (k15, 256, .inl v_program_tree_sort)), (h20, .inl (k16, 256, .inl v_program_tree_value)), (h21, .inl (k17, 256, .inl v_program_tree_low)), (h22, .inl (k18, 256, .inl v_program_tree_high)), (h23, .inl (k19, 256, .inl (fun q9 => bz (v_program_tree_withinCase q9)))), (h24, .inl (k20, 512, .inl v_program_tree_rangeBegin)), (h25, .inl (k21, 512, .inl v_program_tree_rangeEnd))] H_b156 → va_D A [(h1, .inr (10, oX7 (.ref h2) a3_count_156 a3_over_156 a3_there)), (h2, .inl (k0, na3_items, .inl a3_items_156)), (h0, .inr (6, oX3 (.ref h3) (.ref h1) v_width (.ref h8) (.ref h11) (.ref h12) v_nowCount (.ref h9) (.ref h10) v_nextCount_156 (.ref h13) (.ref h14) v_stamp (.ref h15) (.ref h16) (.ref h17) v_stackCount_156)), (h3, .inr (8, oX5 v_program_start v_program_count (.ref h18) (.ref h4) (.ref h5) (.ref h6) (.ref h7))), (h4, .inl (k1, 512, .inl v_program_kinds)), (h5, .inl (k2, 512, .inl v_program_subjects)), (h6, .inl (k3, 512, .inl v_program_nexts)), (h7, .inl (k4, 512, .inl v_program_others)), (h8, .inl (k5, 4, .inl (fun q9 => bz (v_edges q9)))), (h9, .inl (k6, 256, .inl v_nextAt_156)), (h10, .inl (k7, 5120, .inl v_nextCells_156)), (h11, .inl (k8, 256, .inl v_nowAt)), (h12, .inl (k9, 5120, .inl v_nowCells)), (h13, .inl (k10, 5632, .inl v_seen_156)), (h14, .inl (k11, 512, .inl v_waits_156)), (h15, .inl (k12, 20, .inl v_cells_156)), (h16, .inl (k13, 11266, .inl v_stack_156)), (h17, .inl (k14, 11266, .inl v_kept_156)), (h18, .inr (13, oX10 v_program_tree_there v_program_tree_count v_program_tree_captures v_program_tree_ranges (.ref h19) (.ref h26) (.ref h27) (.ref h28) (.ref h29) (.ref h30) (.ref h20) (.ref h21) (.ref h22) (.ref h31) (.ref h32) (.ref h33) (.ref h23) (.ref h34) (.ref h24) (.ref h25))), (h19, .inl (k15, 256, .inl v_program_tree_sort)), (h20, .inl (k16, 256, .inl v_program_tree_value)), (h21, .inl (k17, 256, .inl v_program_tree_low)), (h22, .inl (k18, 256, .inl v_program_tree_high)), (h23, .inl (k19, 256, .inl (fun q9 => bz (v_program_tree_withinCase q9)))), (h24, .inl (k20, 512, .inl v_program_tree_rangeBegin)), (h25, .inl (k21, 512, .inl v_program_tree_rangeEnd))] → va_S A s.heap H_b156 locs_b156 → lv_has ls_b156 6 [] → W p l e ({ frames := 4, cells := 0, slots := 0, locals := 94 } : Room) s m ([.ref h0, .int p1, .int p2, .ref h1]).toArray below meth c H_b156 locs_b156 0 0 QQ (F0 m 156 ls_b156 []) := by
        intro a3_count_156 a3_over_156 a3_items_156 v_nextCount_156 v_stackCount_156 v_nextAt_156 v_nextCells_156 v_seen_156 v_waits_156 v_cells_156 v_stack_156 v_kept_156 H_b156 locs_b156 ls_b156 w_b156 hP_b156 hD_b156 hS_b156 hl_b156
        unfold w_X3_goAlong_w1_156 at w_b156
        refine lv_iconst (v := 0) hx hb dX3_goAlong_156 (by decide) ?_
        rw [hQQ]
        exact W.zret (v := 0) hx hb hr rfl (fun t9 ht9 hW9 => ⟨⟨0, 0, rfl, rfl, ⟨a3_count_156, a3_over_156, a3_items_156, v_nextCount_156, v_stackCount_156, v_nextAt_156, v_nextCells_156, v_seen_156, v_waits_156, v_cells_156, v_stack_156, v_kept_156, w_b156, by rw [ht9]; exact hP_b156, hD_b156⟩⟩, hS_b156.F ht9⟩) hS_b156.2.2 dX3_goAlong_157
      refine lv_icmp_ge (tgt := 156) hx hb dX3_goAlong_9 (by decide) (fun c_2 => ?_) (fun c_2 => ?_)
      · exact k_156 a3_count_3 a3_over_3 a3_items_3 v_nextCount_3 v_stackCount_3 v_nextAt_3 v_nextCells_3 v_seen_3 v_waits_3 v_cells_3 v_stack_3 v_kept_3 _ _ _ (w_b3.1 c_2) hP_b3 hD_b3 hS_b3 (lv_sub hl_b3 [] rfl)
      · refine lv_iload hx hb dX3_goAlong_12 (lv_at hl_b3 4 rfl) ?_
        refine lv_sipush (v := 256) hx hb dX3_goAlong_14 (by decide) ?_
        refine lv_icmp_ge (tgt := 156) hx hb dX3_goAlong_17 (by decide) (fun c_3 => ?_) (fun c_3 => ?_)
        · exact k_156 a3_count_3 a3_over_3 a3_items_3 v_nextCount_3 v_stackCount_3 v_nextAt_3 v_nextCells_3 v_seen_3 v_waits_3 v_cells_3 v_stack_3 v_kept_3 _ _ _ ((w_b3.2 c_2).1 c_3) hP_b3 hD_b3 hS_b3 (lv_sub hl_b3 [] rfl)
        · refine lv_aload_n hx hb dX3_goAlong_20 rfl (lv_at hl_b3 0 rfl) ?_
          refine va_get (D := (dC, dI)) (ci := 6) (v := .ref h11) (C := RX3) (T := TX3) (N := 17) hx hb ht inX3 hown hK hP_b3 2 rfl rfl 4 (by decide) (ht _ tw_623) (fun _ h9 => h9) rfl dX3_goAlong_21 ?_
          refine lv_iload hx hb dX3_goAlong_24 (lv_at hl_b3 4 rfl) ?_
          refine va_iald hx hb hK hP_b3 11 8 rfl rfl (i := l4_3) ((w_b3.2 c_2).2 c_3).1 dX3_goAlong_26 ?_
          refine lv_topi (fun x_4 ex_4 => ?_)
          have ex_4 : x_4 = v_nowAt l4_3.toNatClampNeg := ex_4
          refine lv_istore (lv' := [(5, .int x_4), (0, .ref h0), (1, .int p1), (2, .int p2), (3, .ref h1), (4, .int l4_3)]) hx hb dX3_goAlong_27 hl_b3 (by decide) rfl (fun ls_5 hl_5 => ?_)
          clear hl_b3
          refine lv_aload_n hx hb dX3_goAlong_29 rfl (lv_at hl_5 1 rfl) ?_
          refine va_get (D := (dC, dI)) (ci := 6) (v := .ref h12) (C := RX3) (T := TX3) (N := 17) hx hb ht inX3 hown hK hP_b3 2 rfl rfl 5 (by decide) (ht _ tw_624) (fun _ h9 => h9) rfl dX3_goAlong_30 ?_
          refine lv_iload hx hb dX3_goAlong_33 (lv_at hl_5 5 rfl) ?_
          refine lv_bipush (v := 20) hx hb dX3_goAlong_35 (by decide) ?_
          refine lv_imul hx hb dX3_goAlong_37 ?_
          refine lv_topi (fun x_6 ex_6 => ?_)
          have ex_6 : x_6 = l4_3 * (20 : Int32) := ex_6
          refine lv_aload_n hx hb dX3_goAlong_38 rfl (lv_at hl_5 1 rfl) ?_
          refine va_get (D := (dC, dI)) (ci := 6) (v := .ref h15) (C := RX3) (T := TX3) (N := 17) hx hb ht inX3 hown hK hP_b3 2 rfl rfl 13 (by decide) (ht _ tw_632) (fun _ h9 => h9) rfl dX3_goAlong_39 ?_
          refine lv_iconst (v := 0) hx hb dX3_goAlong_42 (by decide) ?_
          refine lv_bipush (v := 20) hx hb dX3_goAlong_43 (by decide) ?_
          have w_8 := ((((w_b3.2 c_2).2 c_3).2) x_4 ex_4) x_6 ex_6
          refine va_copyi hx hb (by rw [hml]; exact hl_5.1.symm) hown (ht _ tw_1556) (ht _ tw_1558) (ht _ tw_1557) (ht _ tw_258) hK hP_b3 hD_b3 hS_b3 12 15 9 12 rfl rfl rfl rfl rfl w_8.1 w_8.2.1 w_8.2.2.1 w_8.2.2.2.1 w_8.2.2.2.2.1 (fun _ _ => rfl) (Nat.le_of_ble_eq_true rfl) (Nat.le_of_ble_eq_true rfl) dX3_goAlong_45 (fun H_7 locs_7 hP_7 hD_7 hS_7 => ?_)
          obtain ⟨g_7, hg_7⟩ : ∃ g : Nat → Int32, g = va_cpy v_nowCells v_cells_3 x_6.toNatClampNeg (0 : Int32).toNatClampNeg (20 : Int32).toNatClampNeg := ⟨_, rfl⟩
          have hP_7 : va_P (dC, dI) vwCl [(h1, .inr (10, oX7 (.ref h2) a3_count_3 a3_over_3 a3_there)), (h2, .inl (k0, na3_items, .inl a3_items_3)), (h0, .inr (6, oX3 (.ref h3) (.ref h1) v_width (.ref h8) (.ref h11) (.ref h12) v_nowCount (.ref h9) (.ref h10) v_nextCount_3 (.ref h13) (.ref h14) v_stamp (.ref h15) (.ref h16) (.ref h17) v_stackCount_3)), (h3, .inr (8, oX5 v_program_start v_program_count (.ref h18) (.ref h4) (.ref h5) (.ref h6) (.ref h7))), (h4, .inl (k1, 512, .inl v_program_kinds)), (h5, .inl (k2, 512, .inl v_program_subjects)), (h6, .inl (k3, 512, .inl v_program_nexts)), (h7, .inl (k4, 512, .inl v_program_others)), (h8, .inl (k5, 4, .inl (fun q9 => bz (v_edges q9)))), (h9, .inl (k6, 256, .inl v_nextAt_3)), (h10, .inl (k7, 5120, .inl v_nextCells_3)), (h11, .inl (k8, 256, .inl v_nowAt)), (h12, .inl (k9, 5120, .inl v_nowCells)), (h13, .inl (k10, 5632, .inl v_seen_3)), (h14, .inl (k11, 512, .inl v_waits_3)), (h15, .inl (k12, 20, .inl g_7)), (h16, .inl (k13, 11266, .inl v_stack_3)), (h17, .inl (k14, 11266, .inl v_kept_3)), (h18, .inr (13, oX10 v_program_tree_there v_program_tree_count v_program_tree_captures v_program_tree_ranges (.ref h19) (.ref h26) (.ref h27) (.ref h28) (.ref h29) (.ref h30) (.ref h20) (.ref h21) (.ref h22) (.ref h31) (.ref h32) (.ref h33) (.ref h23) (.ref h34) (.ref h24) (.ref h25))), (h19, .inl (k15, 256, .inl v_program_tree_sort)), (h20, .inl (k16, 256, .inl v_program_tree_value)), (h21, .inl (k17, 256, .inl v_program_tree_low)), (h22, .inl (k18, 256, .inl v_program_tree_high)), (h23, .inl (k19, 256, .inl (fun q9 => bz (v_program_tree_withinCase q9)))), (h24, .inl (k20, 512, .inl v_program_tree_rangeBegin)), (h25, .inl (k21, 512, .inl v_program_tree_rangeEnd))] H_7 := by rw [hg_7]; exact hP_7
          have hD_7 : va_D A [(h1, .inr (10, oX7 (.ref h2) a3_count_3 a3_over_3 a3_there)), (h2, .inl (k0, na3_items, .inl a3_items_3)), (h0, .inr (6, oX3 (.ref h3) (.ref h1) v_width (.ref h8) (.ref h11) (.ref h12) v_nowCount (.ref h9) (.ref h10) v_nextCount_3 (.ref h13) (.ref h14) v_stamp (.ref h15) (.ref h16) (.ref h17) v_stackCount_3)), (h3, .inr (8, oX5 v_program_start v_program_count (.ref h18) (.ref h4) (.ref h5) (.ref h6) (.ref h7))), (h4, .inl (k1, 512, .inl v_program_kinds)), (h5, .inl (k2, 512, .inl v_program_subjects)), (h6, .inl (k3, 512, .inl v_program_nexts)), (h7, .inl (k4, 512, .inl v_program_others)), (h8, .inl (k5, 4, .inl (fun q9 => bz (v_edges q9)))), (h9, .inl (k6, 256, .inl v_nextAt_3)), (h10, .inl (k7, 5120, .inl v_nextCells_3)), (h11, .inl (k8, 256, .inl v_nowAt)), (h12, .inl (k9, 5120, .inl v_nowCells)), (h13, .inl (k10, 5632, .inl v_seen_3)), (h14, .inl (k11, 512, .inl v_waits_3)), (h15, .inl (k12, 20, .inl g_7)), (h16, .inl (k13, 11266, .inl v_stack_3)), (h17, .inl (k14, 11266, .inl v_kept_3)), (h18, .inr (13, oX10 v_program_tree_there v_program_tree_count v_program_tree_captures v_program_tree_ranges (.ref h19) (.ref h26) (.ref h27) (.ref h28) (.ref h29) (.ref h30) (.ref h20) (.ref h21) (.ref h22) (.ref h31) (.ref h32) (.ref h33) (.ref h23) (.ref h34) (.ref h24) (.ref h25))), (h19, .inl (k15, 256, .inl v_program_tree_sort)), (h20, .inl (k16, 256, .inl v_program_tree_value)), (h21, .inl (k17, 256, .inl v_program_tree_low)), (h22, .inl (k18, 256, .inl v_program_tree_high)), (h23, .inl (k19, 256, .inl (fun q9 => bz (v_program_tree_withinCase q9)))), (h24, .inl (k20, 512, .inl v_program_tree_rangeBegin)), (h25, .inl (k21, 512, .inl v_program_tree_rangeEnd))] := by rw [hg_7]; exact hD_7
          refine lv_aload_n hx hb dX3_goAlong_48 rfl (lv_at hl_5 1 rfl) ?_
          refine va_get (D := (dC, dI)) (ci := 6) (v := .ref h3) (C := RX3) (T := TX3) (N := 17) hx hb ht inX3 hown hK hP_7 2 rfl rfl 0 (by decide) (ht _ tw_619) (fun _ h9 => h9) rfl dX3_goAlong_49 ?_
          refine lv_iload hx hb dX3_goAlong_52 (lv_at hl_5 0 rfl) ?_
          have hPc_9 := vaPq hP_7 (wsq := [(h3, .inr (8, oX5 v_program_start v_program_count (.ref h18) (.ref h4) (.ref h5) (.ref h6) (.ref h7))), (h4, .inl (k1, 512, .inl v_program_kinds))]) [3, 4] rfl
          have hDc_9 := vaDq hD_7 (wsq := [(h3, .inr (8, oX5 v_program_start v_program_count (.ref h18) (.ref h4) (.ref h5) (.ref h6) (.ref h7))), (h4, .inl (k1, 512, .inl v_program_kinds))]) [3, 4] (by decide) rfl
          have hKc_9 := vaKq hK (tysq := [(k1, .int)]) [1] rfl
          have hFc_9 := va_free (wc := [(h3, .inr (8, oX5 v_program_start v_program_count (.ref h18) (.ref h4) (.ref h5) (.ref h6) (.ref h7))), (h4, .inl (k1, 512, .inl v_program_kinds))]) hD_7 hS_7 hA [3, 4] rfl
          refine va_calli (va_runV (As := [.int x_4]) (rest := []) ⟨hx, hb, hml, hown, ht⟩ (mt_X5_kindOf l dC dI h3 h4 h18 h5 h6 h7 k1 x_4 v_program_start v_program_count v_program_kinds _ (w_8.2.2.2.2.2 g_7 hg_7) H_7.size) (cwV 1 ht (goodV tw_1536 tw_1537 tw_1538 tw_245 gw_X5_kindOf) rfl rfl rfl (by decide +kernel) ⟨Nat.le_of_ble_eq_true rfl, Nat.le_of_ble_eq_true rfl⟩) ⟨fun a U g mk q => by obtain ⟨q0, q1, qP, qK, qD⟩ := q; exact ⟨q0, q1, qP, va_K.moved (u := U) (U := U.calling g mk a) (Vm.Alike.refl U.vm) qK, qD⟩, va_recv hKc_9 hPc_9 (ci := 8) (q0 := 0) rfl rfl, fun U hU hW => ⟨rfl, by rw [hU], by rw [hU]; exact hPc_9, va_K.moved hW.alike hKc_9, hDc_9.weaken (fun _ _ _ _ => trivial)⟩⟩ rfl rfl hl_5.1 rfl (lv_room (Nat.le_of_ble_eq_true rfl)) dX3_goAlong_54 ⟨Nat.le_of_ble_eq_true rfl, Nat.le_of_ble_eq_true rfl⟩) hS_7 (fun q _ h => hFc_9 q h) hFc_9 (fun r_9 u_9 t_9 H_9 locs_9 ht_9 hvm_9 hw_9 hB_9 hz_9 hk_9 hS_9 => ?_)
          subst hw_9
          obtain ⟨w_9, hP1_9, hD1_9⟩ := hB_9
          rw [ht_9] at hP1_9
          obtain ⟨hP_9, hD_9⟩ := va_join (wr := [(h1, .inr (10, oX7 (.ref h2) a3_count_3 a3_over_3 a3_there)), (h2, .inl (k0, na3_items, .inl a3_items_3)), (h0, .inr (6, oX3 (.ref h3) (.ref h1) v_width (.ref h8) (.ref h11) (.ref h12) v_nowCount (.ref h9) (.ref h10) v_nextCount_3 (.ref h13) (.ref h14) v_stamp (.ref h15) (.ref h16) (.ref h17) v_stackCount_3)), (h5, .inl (k2, 512, .inl v_program_subjects)), (h6, .inl (k3, 512, .inl v_program_nexts)), (h7, .inl (k4, 512, .inl v_program_others)), (h8, .inl (k5, 4, .inl (fun q9 => bz (v_edges q9)))), (h9, .inl (k6, 256, .inl v_nextAt_3)), (h10, .inl (k7, 5120, .inl v_nextCells_3)), (h11, .inl (k8, 256, .inl v_nowAt)), (h12, .inl (k9, 5120, .inl v_nowCells)), (h13, .inl (k10, 5632, .inl v_seen_3)), (h14, .inl (k11, 512, .inl v_waits_3)), (h15, .inl (k12, 20, .inl g_7)), (h16, .inl (k13, 11266, .inl v_stack_3)), (h17, .inl (k14, 11266, .inl v_kept_3)), (h18, .inr (13, oX10 v_program_tree_there v_program_tree_count v_program_tree_captures v_program_tree_ranges (.ref h19) (.ref h26) (.ref h27) (.ref h28) (.ref h29) (.ref h30) (.ref h20) (.ref h21) (.ref h22) (.ref h31) (.ref h32) (.ref h33) (.ref h23) (.ref h34) (.ref h24) (.ref h25))), (h19, .inl (k15, 256, .inl v_program_tree_sort)), (h20, .inl (k16, 256, .inl v_program_tree_value)), (h21, .inl (k17, 256, .inl v_program_tree_low)), (h22, .inl (k18, 256, .inl v_program_tree_high)), (h23, .inl (k19, 256, .inl (fun q9 => bz (v_program_tree_withinCase q9)))), (h24, .inl (k20, 512, .inl v_program_tree_rangeBegin)), (h25, .inl (k21, 512, .inl v_program_tree_rangeEnd))]) (w1 := [(h3, .inr (8, oX5 v_program_start v_program_count (.ref h18) (.ref h4) (.ref h5) (.ref h6) (.ref h7))), (h4, .inl (k1, 512, .inl v_program_kinds))]) hP_7 hD_7 [3, 4] [0, 1, 2, 5, 6, 7, 8, 9, 10, 11, 12, 13, 14, 15, 16, 17, 18, 19, 20, 21, 22, 23, 24, 25] rfl rfl (by decide) (by decide) hk_9 hFc_9 hP1_9 hD1_9
          have hP_9 := vaPq hP_9 (wsq := [(h1, .inr (10, oX7 (.ref h2) a3_count_3 a3_over_3 a3_there)), (h2, .inl (k0, na3_items, .inl a3_items_3)), (h0, .inr (6, oX3 (.ref h3) (.ref h1) v_width (.ref h8) (.ref h11) (.ref h12) v_nowCount (.ref h9) (.ref h10) v_nextCount_3 (.ref h13) (.ref h14) v_stamp (.ref h15) (.ref h16) (.ref h17) v_stackCount_3)), (h3, .inr (8, oX5 v_program_start v_program_count (.ref h18) (.ref h4) (.ref h5) (.ref h6) (.ref h7))), (h4, .inl (k1, 512, .inl v_program_kinds)), (h5, .inl (k2, 512, .inl v_program_subjects)), (h6, .inl (k3, 512, .inl v_program_nexts)), (h7, .inl (k4, 512, .inl v_program_others)), (h8, .inl (k5, 4, .inl (fun q9 => bz (v_edges q9)))), (h9, .inl (k6, 256, .inl v_nextAt_3)), (h10, .inl (k7, 5120, .inl v_nextCells_3)), (h11, .inl (k8, 256, .inl v_nowAt)), (h12, .inl (k9, 5120, .inl v_nowCells)), (h13, .inl (k10, 5632, .inl v_seen_3)), (h14, .inl (k11, 512, .inl v_waits_3)), (h15, .inl (k12, 20, .inl g_7)), (h16, .inl (k13, 11266, .inl v_stack_3)), (h17, .inl (k14, 11266, .inl v_kept_3)), (h18, .inr (13, oX10 v_program_tree_there v_program_tree_count v_program_tree_captures v_program_tree_ranges (.ref h19) (.ref h26) (.ref h27) (.ref h28) (.ref h29) (.ref h30) (.ref h20) (.ref h21) (.ref h22) (.ref h31) (.ref h32) (.ref h33) (.ref h23) (.ref h34) (.ref h24) (.ref h25))), (h19, .inl (k15, 256, .inl v_program_tree_sort)), (h20, .inl (k16, 256, .inl v_program_tree_value)), (h21, .inl (k17, 256, .inl v_program_tree_low)), (h22, .inl (k18, 256, .inl v_program_tree_high)), (h23, .inl (k19, 256, .inl (fun q9 => bz (v_program_tree_withinCase q9)))), (h24, .inl (k20, 512, .inl v_program_tree_rangeBegin)), (h25, .inl (k21, 512, .inl v_program_tree_rangeEnd))]) [0, 1, 2, 24, 25, 3, 4, 5, 6, 7, 8, 9, 10, 11, 12, 13, 14, 15, 16, 17, 18, 19, 20, 21, 22, 23] rfl
          have hD_9 := vaDq hD_9 (wsq := [(h1, .inr (10, oX7 (.ref h2) a3_count_3 a3_over_3 a3_there)), (h2, .inl (k0, na3_items, .inl a3_items_3)), (h0, .inr (6, oX3 (.ref h3) (.ref h1) v_width (.ref h8) (.ref h11) (.ref h12) v_nowCount (.ref h9) (.ref h10) v_nextCount_3 (.ref h13) (.ref h14) v_stamp (.ref h15) (.ref h16) (.ref h17) v_stackCount_3)), (h3, .inr (8, oX5 v_program_start v_program_count (.ref h18) (.ref h4) (.ref h5) (.ref h6) (.ref h7))), (h4, .inl (k1, 512, .inl v_program_kinds)), (h5, .inl (k2, 512, .inl v_program_subjects)), (h6, .inl (k3, 512, .inl v_program_nexts)), (h7, .inl (k4, 512, .inl v_program_others)), (h8, .inl (k5, 4, .inl (fun q9 => bz (v_edges q9)))), (h9, .inl (k6, 256, .inl v_nextAt_3)), (h10, .inl (k7, 5120, .inl v_nextCells_3)), (h11, .inl (k8, 256, .inl v_nowAt)), (h12, .inl (k9, 5120, .inl v_nowCells)), (h13, .inl (k10, 5632, .inl v_seen_3)), (h14, .inl (k11, 512, .inl v_waits_3)), (h15, .inl (k12, 20, .inl g_7)), (h16, .inl (k13, 11266, .inl v_stack_3)), (h17, .inl (k14, 11266, .inl v_kept_3)), (h18, .inr (13, oX10 v_program_tree_there v_program_tree_count v_program_tree_captures v_program_tree_ranges (.ref h19) (.ref h26) (.ref h27) (.ref h28) (.ref h29) (.ref h30) (.ref h20) (.ref h21) (.ref h22) (.ref h31) (.ref h32) (.ref h33) (.ref h23) (.ref h34) (.ref h24) (.ref h25))), (h19, .inl (k15, 256, .inl v_program_tree_sort)), (h20, .inl (k16, 256, .inl v_program_tree_value)), (h21, .inl (k17, 256, .inl v_program_tree_low)), (h22, .inl (k18, 256, .inl v_program_tree_high)), (h23, .inl (k19, 256, .inl (fun q9 => bz (v_program_tree_withinCase q9)))), (h24, .inl (k20, 512, .inl v_program_tree_rangeBegin)), (h25, .inl (k21, 512, .inl v_program_tree_rangeEnd))]) [0, 1, 2, 24, 25, 3, 4, 5, 6, 7, 8, 9, 10, 11, 12, 13, 14, 15, 16, 17, 18, 19, 20, 21, 22, 23] (by decide) rfl
          clear hPc_9 hDc_9 hKc_9 hFc_9 hP1_9 hD1_9 hk_9 hz_9
          refine lv_bipush (v := 6) hx hb dX3_goAlong_57 (by decide) ?_
          have k_150 : ∀ (l4_150 : Int32) (v_nextCount_150 : Int32) (v_stackCount_150 : Int32) (v_nextAt_150 : Nat → Int32) (v_nextCells_150 : Nat → Int32) (v_seen_150 : Nat → Int32) (v_waits_150 : Nat → Int32) (v_cells_150 : Nat → Int32) (v_stack_150 : Nat → Int32) (v_kept_150 : Nat → Int32), ∀ (H_b150 : Heap) (locs_b150 : List Loc) (ls_b150 : Array Slot), w_X3_goAlong_w1_150 Q (w_X3_goAlong_w1_3 p1 p2 na3_items v_width v_nowCount v_stamp v_program_count v_program_kinds v_program_subjects v_program_nexts v_program_others v_edges v_nowAt v_nowCells v_program_tree_count v_program_tree_ranges v_program_tree_sort v_program_tree_value v_program_tree_low v_program_tree_high v_program_tree_withinCase v_program_tree_rangeBegin v_program_tree_rangeEnd Q a3_count_3 a3_over_3 a3_items_3 n_3) l4_150 v_nextCount_150 v_stackCount_150 v_nextAt_150 v_nextCells_150 v_seen_150 v_waits_150 v_cells_150 v_stack_150 v_kept_150 → va_P (dC, dI) vwCl [(h1, .inr (10, oX7 (.ref h2) a3_count_3 a3_over_3 a3_there)), (h2, .inl (k0, na3_items, .inl a3_items_3)), (h0, .inr (6, oX3 (.ref h3) (.ref h1) v_width (.ref h8) (.ref h11) (.ref h12) v_nowCount (.ref h9) (.ref h10) v_nextCount_150 (.ref h13) (.ref h14) v_stamp (.ref h15) (.ref h16) (.ref h17) v_stackCount_150)), (h3, .inr (8, oX5 v_program_start v_program_count (.ref h18) (.ref h4) (.ref h5) (.ref h6) (.ref h7))), (h4, .inl (k1, 512, .inl v_program_kinds)), (h5, .inl (k2, 512, .inl v_program_subjects)), (h6, .inl (k3, 512, .inl v_program_nexts)), (h7, .inl (k4, 512, .inl v_program_others)), (h8, .inl (k5, 4, .inl (fun q9 => bz (v_edges q9)))), (h9, .inl (k6, 256, .inl v_nextAt_150)), (h10, .inl (k7, 5120, .inl v_nextCells_150)), (h11, .inl (k8, 256, .inl v_nowAt)), (h12, .inl (k9, 5120, .inl v_nowCells)), (h13, .inl (k10, 5632, .inl v_seen_150)), (h14, .inl (k11, 512, .inl v_waits_150)), (h15, .inl (k12, 20, .inl v_cells_150)), (h16, .inl (k13, 11266, .inl v_stack_150)), (h17, .inl (k14, 11266, .inl v_kept_150)), (h18, .inr (13, oX10 v_program_tree_there v_program_tree_count v_program_tree_captures v_program_tree_ranges (.ref h19) (.ref h26) (.ref h27) (.ref h28) (.ref h29) (.ref h30) (.ref h20) (.ref h21) (.ref h22) (.ref h31) (.ref h32) (.ref h33) (.ref h23) (.ref h34) (.ref h24) (.ref h25))), (h19, .inl (k15, 256, .inl v_program_tree_sort)), (h20, .inl (k16, 256, .inl v_program_tree_value)), (h21, .inl (k17, 256, .inl v_program_tree_low)), (h22, .inl (k18, 256, .inl v_program_tree_high)), (h23, .inl (k19, 256, .inl (fun q9 => bz (v_program_tree_withinCase q9)))), (h24, .inl (k20, 512, .inl v_program_tree_rangeBegin)), (h25, .inl (k21, 512, .inl v_program_tree_rangeEnd))] H_b150 → va_D A [(h1, .inr (10, oX7 (.ref h2) a3_count_3 a3_over_3 a3_there)), (h2, .inl (k0, na3_items, .inl a3_items_3)), (h0, .inr (6, oX3 (.ref h3) (.ref h1) v_width (.ref h8) (.ref h11) (.ref h12) v_nowCount (.ref h9) (.ref h10) v_nextCount_150 (.ref h13) (.ref h14) v_stamp (.ref h15) (.ref h16) (.ref h17) v_stackCount_150)), (h3, .inr (8, oX5 v_program_start v_program_count (.ref h18) (.ref h4) (.ref h5) (.ref h6) (.ref h7))), (h4, .inl (k1, 512, .inl v_program_kinds)), (h5, .inl (k2, 512, .inl v_program_subjects)), (h6, .inl (k3, 512, .inl v_program_nexts)), (h7, .inl (k4, 512, .inl v_program_others)), (h8, .inl (k5, 4, .inl (fun q9 => bz (v_edges q9)))), (h9, .inl (k6, 256, .inl v_nextAt_150)), (h10, .inl (k7, 5120, .inl v_nextCells_150)), (h11, .inl (k8, 256, .inl v_nowAt)), (h12, .inl (k9, 5120, .inl v_nowCells)), (h13, .inl (k10, 5632, .inl v_seen_150)), (h14, .inl (k11, 512, .inl v_waits_150)), (h15, .inl (k12, 20, .inl v_cells_150)), (h16, .inl (k13, 11266, .inl v_stack_150)), (h17, .inl (k14, 11266, .inl v_kept_150)), (h18, .inr (13, oX10 v_program_tree_there v_program_tree_count v_program_tree_captures v_program_tree_ranges (.ref h19) (.ref h26) (.ref h27) (.ref h28) (.ref h29) (.ref h30) (.ref h20) (.ref h21) (.ref h22) (.ref h31) (.ref h32) (.ref h33) (.ref h23) (.ref h34) (.ref h24) (.ref h25))), (h19, .inl (k15, 256, .inl v_program_tree_sort)), (h20, .inl (k16, 256, .inl v_program_tree_value)), (h21, .inl (k17, 256, .inl v_program_tree_low)), (h22, .inl (k18, 256, .inl v_program_tree_high)), (h23, .inl (k19, 256, .inl (fun q9 => bz (v_program_tree_withinCase q9)))), (h24, .inl (k20, 512, .inl v_program_tree_rangeBegin)), (h25, .inl (k21, 512, .inl v_program_tree_rangeEnd))] → va_S A s.heap H_b150 locs_b150 → lv_has ls_b150 6 [(0, .ref h0), (1, .int p1), (2, .int p2), (3, .ref h1), (4, .int l4_150)] → W p l e ({ frames := 4, cells := 0, slots := 0, locals := 94 } : Room) s m ([.ref h0, .int p1, .int p2, .ref h1]).toArray below meth c H_b150 locs_b150 0 0 QQ (F0 m 150 ls_b150 []) := by
            intro l4_150 v_nextCount_150 v_stackCount_150 v_nextAt_150 v_nextCells_150 v_seen_150 v_waits_150 v_cells_150 v_stack_150 v_kept_150 H_b150 locs_b150 ls_b150 w_b150 hP_b150 hD_b150 hS_b150 hl_b150
            unfold w_X3_goAlong_w1_150 at w_b150
            obtain ⟨x_10, ex_10⟩ : ∃ y : Int32, y = l4_150 + 1 := ⟨_, rfl⟩
            refine lv_iinc (v := x_10) (lv' := [(4, .int x_10), (0, .ref h0), (1, .int p1), (2, .int p2), (3, .ref h1)]) hx hb dX3_goAlong_150 hl_b150 (k := 4) rfl ex_10.symm (by decide) rfl (fun ls_10 hl_10 => ?_)
            refine lv_goto (tgt := 3) hx hb dX3_goAlong_153 (by decide) ?_
            exact ih_3 x_10 v_nextCount_150 v_stackCount_150 v_nextAt_150 v_nextCells_150 v_seen_150 v_waits_150 v_cells_150 v_stack_150 v_kept_150 _ _ _ (w_b150 x_10 ex_10) hP_b150 hD_b150 hS_b150 (lv_sub hl_10 [1, 2, 3, 4, 0] rfl)
          refine lv_icmp_eq (tgt := 121) hx hb dX3_goAlong_59 (by decide) (fun c_11 => ?_) (fun c_11 => ?_)
          · refine lv_iload_n hx hb dX3_goAlong_121 rfl (lv_at hl_5 3 rfl) ?_
            have k_136 : ∀ (a3_count_136 : Int32) (a3_over_136 : Bool) (a3_items_136 : Nat → Int32) (v_nextCount_136 : Int32) (v_stackCount_136 : Int32) (v_nextAt_136 : Nat → Int32) (v_nextCells_136 : Nat → Int32) (v_seen_136 : Nat → Int32) (v_waits_136 : Nat → Int32) (v_cells_136 : Nat → Int32) (v_stack_136 : Nat → Int32) (v_kept_136 : Nat → Int32), ∀ (H_b136 : Heap) (locs_b136 : List Loc) (ls_b136 : Array Slot), w_X3_goAlong_w1_136 p1 na3_items v_width Q a3_count_136 a3_over_136 a3_items_136 v_nextCount_136 v_stackCount_136 v_nextAt_136 v_nextCells_136 v_seen_136 v_waits_136 v_cells_136 v_stack_136 v_kept_136 → va_P (dC, dI) vwCl [(h1, .inr (10, oX7 (.ref h2) a3_count_136 a3_over_136 a3_there)), (h2, .inl (k0, na3_items, .inl a3_items_136)), (h0, .inr (6, oX3 (.ref h3) (.ref h1) v_width (.ref h8) (.ref h11) (.ref h12) v_nowCount (.ref h9) (.ref h10) v_nextCount_136 (.ref h13) (.ref h14) v_stamp (.ref h15) (.ref h16) (.ref h17) v_stackCount_136)), (h3, .inr (8, oX5 v_program_start v_program_count (.ref h18) (.ref h4) (.ref h5) (.ref h6) (.ref h7))), (h4, .inl (k1, 512, .inl v_program_kinds)), (h5, .inl (k2, 512, .inl v_program_subjects)), (h6, .inl (k3, 512, .inl v_program_nexts)), (h7, .inl (k4, 512, .inl v_program_others)), (h8, .inl (k5, 4, .inl (fun q9 => bz (v_edges q9)))), (h9, .inl (k6, 256, .inl v_nextAt_136)), (h10, .inl (k7, 5120, .inl v_nextCells_136)), (h11, .inl (k8, 256, .inl v_nowAt)), (h12, .inl (k9, 5120, .inl v_nowCells)), (h13, .inl (k10, 5632, .inl v_seen_136)), (h14, .inl (k11, 512, .inl v_waits_136)), (h15, .inl (k12, 20, .inl v_cells_136)), (h16, .inl (k13, 11266, .inl v_stack_136)), (h17, .inl (k14, 11266, .inl v_kept_136)), (h18, .inr (13, oX10 v_program_tree_there v_program_tree_count v_program_tree_captures v_program_tree_ranges (.ref h19) (.ref h26) (.ref h27) (.ref h28) (.ref h29) (.ref h30) (.ref h20) (.ref h21) (.ref h22) (.ref h31) (.ref h32) (.ref h33) (.ref h23) (.ref h34) (.ref h24) (.ref h25))), (h19, .inl (k15, 256, .inl v_program_tree_sort)), (h20, .inl (k16, 256, .inl v_program_tree_value)), (h21, .inl (k17, 256, .inl v_program_tree_low)), (h22, .inl (k18, 256, .inl v_program_tree_high)), (h23, .inl (k19, 256, .inl (fun q9 => bz (v_program_tree_withinCase q9)))), (h24, .inl (k20, 512, .inl v_program_tree_rangeBegin)), (h25, .inl (k21, 512, .inl v_program_tree_rangeEnd))] H_b136 → va_D A [(h1, .inr (10, oX7 (.ref h2) a3_count_136 a3_over_136 a3_there)), (h2, .inl (k0, na3_items, .inl a3_items_136)), (h0, .inr (6, oX3 (.ref h3) (.ref h1) v_width (.ref h8) (.ref h11) (.ref h12) v_nowCount (.ref h9) (.ref h10) v_nextCount_136 (.ref h13) (.ref h14) v_stamp (.ref h15) (.ref h16) (.ref h17) v_stackCount_136)), (h3, .inr (8, oX5 v_program_start v_program_count (.ref h18) (.ref h4) (.ref h5) (.ref h6) (.ref h7))), (h4, .inl (k1, 512, .inl v_program_kinds)), (h5, .inl (k2, 512, .inl v_program_subjects)), (h6, .inl (k3, 512, .inl v_program_nexts)), (h7, .inl (k4, 512, .inl v_program_others)), (h8, .inl (k5, 4, .inl (fun q9 => bz (v_edges q9)))), (h9, .inl (k6, 256, .inl v_nextAt_136)), (h10, .inl (k7, 5120, .inl v_nextCells_136)), (h11, .inl (k8, 256, .inl v_nowAt)), (h12, .inl (k9, 5120, .inl v_nowCells)), (h13, .inl (k10, 5632, .inl v_seen_136)), (h14, .inl (k11, 512, .inl v_waits_136)), (h15, .inl (k12, 20, .inl v_cells_136)), (h16, .inl (k13, 11266, .inl v_stack_136)), (h17, .inl (k14, 11266, .inl v_kept_136)), (h18, .inr (13, oX10 v_program_tree_there v_program_tree_count v_program_tree_captures v_program_tree_ranges (.ref h19) (.ref h26) (.ref h27) (.ref h28) (.ref h29) (.ref h30) (.ref h20) (.ref h21) (.ref h22) (.ref h31) (.ref h32) (.ref h33) (.ref h23) (.ref h34) (.ref h24) (.ref h25))), (h19, .inl (k15, 256, .inl v_program_tree_sort)), (h20, .inl (k16, 256, .inl v_program_tree_value)), (h21, .inl (k17, 256, .inl v_program_tree_low)), (h22, .inl (k18, 256, .inl v_program_tree_high)), (h23, .inl (k19, 256, .inl (fun q9 => bz (v_program_tree_withinCase q9)))), (h24, .inl (k20, 512, .inl v_program_tree_rangeBegin)), (h25, .inl (k21, 512, .inl v_program_tree_rangeEnd))] → va_S A s.heap H_b136 locs_b136 → lv_has ls_b136 6 [(0, .ref h0), (1, .int p1), (3, .ref h1)] → W p l e ({ frames := 4, cells := 0, slots := 0, locals := 94 } : Room) s m ([.ref h0, .int p1, .int p2, .ref h1]).toArray below meth c H_b136 locs_b136 0 0 QQ (F0 m 136 ls_b136 []) := by
              intro a3_count_136 a3_over_136 a3_items_136 v_nextCount_136 v_stackCount_136 v_nextAt_136 v_nextCells_136 v_seen_136 v_waits_136 v_cells_136 v_stack_136 v_kept_136 H_b136 locs_b136 ls_b136 w_b136 hP_b136 hD_b136 hS_b136 hl_b136
              unfold w_X3_goAlong_w1_136 at w_b136
              refine lv_aload_n hx hb dX3_goAlong_136 rfl (lv_at hl_b136 0 rfl) ?_
              refine va_get (D := (dC, dI)) (ci := 6) (v := .ref h15) (C := RX3) (T := TX3) (N := 17) hx hb ht inX3 hown hK hP_b136 2 rfl rfl 13 (by decide) (ht _ tw_632) (fun _ h9 => h9) rfl dX3_goAlong_137 ?_
              refine lv_iconst (v := 1) hx hb dX3_goAlong_140 (by decide) ?_
              refine lv_iload_n hx hb dX3_goAlong_141 rfl (lv_at hl_b136 1 rfl) ?_
              refine va_iast hx hb hK hP_b136 hD_b136 hS_b136 15 12 rfl rfl (i := 1) (vpi (by decide)) dX3_goAlong_142 (fun H_12 locs_12 hP_12 hD_12 hS_12 => ?_)
              obtain ⟨g_12, hg_12⟩ : ∃ g : Nat → Int32, g = upd v_cells_136 (1 : Int32).toNatClampNeg p1 := ⟨_, rfl⟩
              have hP_12 : va_P (dC, dI) vwCl [(h1, .inr (10, oX7 (.ref h2) a3_count_136 a3_over_136 a3_there)), (h2, .inl (k0, na3_items, .inl a3_items_136)), (h0, .inr (6, oX3 (.ref h3) (.ref h1) v_width (.ref h8) (.ref h11) (.ref h12) v_nowCount (.ref h9) (.ref h10) v_nextCount_136 (.ref h13) (.ref h14) v_stamp (.ref h15) (.ref h16) (.ref h17) v_stackCount_136)), (h3, .inr (8, oX5 v_program_start v_program_count (.ref h18) (.ref h4) (.ref h5) (.ref h6) (.ref h7))), (h4, .inl (k1, 512, .inl v_program_kinds)), (h5, .inl (k2, 512, .inl v_program_subjects)), (h6, .inl (k3, 512, .inl v_program_nexts)), (h7, .inl (k4, 512, .inl v_program_others)), (h8, .inl (k5, 4, .inl (fun q9 => bz (v_edges q9)))), (h9, .inl (k6, 256, .inl v_nextAt_136)), (h10, .inl (k7, 5120, .inl v_nextCells_136)), (h11, .inl (k8, 256, .inl v_nowAt)), (h12, .inl (k9, 5120, .inl v_nowCells)), (h13, .inl (k10, 5632, .inl v_seen_136)), (h14, .inl (k11, 512, .inl v_waits_136)), (h15, .inl (k12, 20, .inl g_12)), (h16, .inl (k13, 11266, .inl v_stack_136)), (h17, .inl (k14, 11266, .inl v_kept_136)), (h18, .inr (13, oX10 v_program_tree_there v_program_tree_count v_program_tree_captures v_program_tree_ranges (.ref h19) (.ref h26) (.ref h27) (.ref h28) (.ref h29) (.ref h30) (.ref h20) (.ref h21) (.ref h22) (.ref h31) (.ref h32) (.ref h33) (.ref h23) (.ref h34) (.ref h24) (.ref h25))), (h19, .inl (k15, 256, .inl v_program_tree_sort)), (h20, .inl (k16, 256, .inl v_program_tree_value)), (h21, .inl (k17, 256, .inl v_program_tree_low)), (h22, .inl (k18, 256, .inl v_program_tree_high)), (h23, .inl (k19, 256, .inl (fun q9 => bz (v_program_tree_withinCase q9)))), (h24, .inl (k20, 512, .inl v_program_tree_rangeBegin)), (h25, .inl (k21, 512, .inl v_program_tree_rangeEnd))] H_12 := by rw [hg_12]; exact hP_12
              have hD_12 : va_D A [(h1, .inr (10, oX7 (.ref h2) a3_count_136 a3_over_136 a3_there)), (h2, .inl (k0, na3_items, .inl a3_items_136)), (h0, .inr (6, oX3 (.ref h3) (.ref h1) v_width (.ref h8) (.ref h11) (.ref h12) v_nowCount (.ref h9) (.ref h10) v_nextCount_136 (.ref h13) (.ref h14) v_stamp (.ref h15) (.ref h16) (.ref h17) v_stackCount_136)), (h3, .inr (8, oX5 v_program_start v_program_count (.ref h18) (.ref h4) (.ref h5) (.ref h6) (.ref h7))), (h4, .inl (k1, 512, .inl v_program_kinds)), (h5, .inl (k2, 512, .inl v_program_subjects)), (h6, .inl (k3, 512, .inl v_program_nexts)), (h7, .inl (k4, 512, .inl v_program_others)), (h8, .inl (k5, 4, .inl (fun q9 => bz (v_edges q9)))), (h9, .inl (k6, 256, .inl v_nextAt_136)), (h10, .inl (k7, 5120, .inl v_nextCells_136)), (h11, .inl (k8, 256, .inl v_nowAt)), (h12, .inl (k9, 5120, .inl v_nowCells)), (h13, .inl (k10, 5632, .inl v_seen_136)), (h14, .inl (k11, 512, .inl v_waits_136)), (h15, .inl (k12, 20, .inl g_12)), (h16, .inl (k13, 11266, .inl v_stack_136)), (h17, .inl (k14, 11266, .inl v_kept_136)), (h18, .inr (13, oX10 v_program_tree_there v_program_tree_count v_program_tree_captures v_program_tree_ranges (.ref h19) (.ref h26) (.ref h27) (.ref h28) (.ref h29) (.ref h30) (.ref h20) (.ref h21) (.ref h22) (.ref h31) (.ref h32) (.ref h33) (.ref h23) (.ref h34) (.ref h24) (.ref h25))), (h19, .inl (k15, 256, .inl v_program_tree_sort)), (h20, .inl (k16, 256, .inl v_program_tree_value)), (h21, .inl (k17, 256, .inl v_program_tree_low)), (h22, .inl (k18, 256, .inl v_program_tree_high)), (h23, .inl (k19, 256, .inl (fun q9 => bz (v_program_tree_withinCase q9)))), (h24, .inl (k20, 512, .inl v_program_tree_rangeBegin)), (h25, .inl (k21, 512, .inl v_program_tree_rangeEnd))] := by rw [hg_12]; exact hD_12
              refine lv_aload_n hx hb dX3_goAlong_143 rfl (lv_at hl_b136 0 rfl) ?_
              refine lv_aload_n hx hb dX3_goAlong_144 rfl (lv_at hl_b136 2 rfl) ?_
              have hPc_13 := vaPq hP_12 (wsq := [(h1, .inr (10, oX7 (.ref h2) a3_count_136 a3_over_136 a3_there)), (h2, .inl (k0, na3_items, .inl a3_items_136)), (h0, .inr (6, oX3 (.ref h3) (.ref h1) v_width (.ref h8) (.ref h11) (.ref h12) v_nowCount (.ref h9) (.ref h10) v_nextCount_136 (.ref h13) (.ref h14) v_stamp (.ref h15) (.ref h16) (.ref h17) v_stackCount_136)), (h15, .inl (k12, 20, .inl g_12))]) [0, 1, 2, 15] rfl
              have hDc_13 := vaDq hD_12 (wsq := [(h1, .inr (10, oX7 (.ref h2) a3_count_136 a3_over_136 a3_there)), (h2, .inl (k0, na3_items, .inl a3_items_136)), (h0, .inr (6, oX3 (.ref h3) (.ref h1) v_width (.ref h8) (.ref h11) (.ref h12) v_nowCount (.ref h9) (.ref h10) v_nextCount_136 (.ref h13) (.ref h14) v_stamp (.ref h15) (.ref h16) (.ref h17) v_stackCount_136)), (h15, .inl (k12, 20, .inl g_12))]) [0, 1, 2, 15] (by decide) rfl
              have hKc_13 := vaKq hK (tysq := [(k0, .int), (k12, .int)]) [0, 12] rfl
              have hFc_13 := va_free (wc := [(h1, .inr (10, oX7 (.ref h2) a3_count_136 a3_over_136 a3_there)), (h2, .inl (k0, na3_items, .inl a3_items_136)), (h0, .inr (6, oX3 (.ref h3) (.ref h1) v_width (.ref h8) (.ref h11) (.ref h12) v_nowCount (.ref h9) (.ref h10) v_nextCount_136 (.ref h13) (.ref h14) v_stamp (.ref h15) (.ref h16) (.ref h17) v_stackCount_136)), (h15, .inl (k12, 20, .inl g_12))]) hD_12 hS_12 hA [0, 1, 2, 15] rfl
              refine va_callv (va_runV (As := [.ref h1]) (rest := []) ⟨hx, hb, hml, hown, ht⟩ (mt_X3_tell l dC dI h0 h1 h2 h15 h3 h1 h8 h11 h12 h9 h10 h13 h14 h16 h17 k0 k12 a3_count_136 a3_over_136 a3_there a3_items_136 na3_items v_width v_nowCount v_nextCount_136 v_stamp v_stackCount_136 g_12 _ (w_b136 g_12 hg_12) H_12.size) (cwV 1 ht (goodV tw_1574 tw_1576 tw_87 tw_244 gw_X3_tell) rfl rfl rfl (by decide +kernel) ⟨Nat.le_of_ble_eq_true rfl, Nat.le_of_ble_eq_true rfl⟩) ⟨fun a U g mk q => by obtain ⟨q0, q1, qP, qK, qD⟩ := q; exact ⟨q0, q1, qP, va_K.moved (u := U) (U := U.calling g mk a) (Vm.Alike.refl U.vm) qK, qD⟩, va_recv hKc_13 hPc_13 (ci := 6) (q0 := 2) rfl rfl, fun U hU hW => ⟨rfl, by rw [hU], by rw [hU]; exact hPc_13, va_K.moved hW.alike hKc_13, hDc_13.weaken (fun _ _ _ _ => trivial)⟩⟩ rfl rfl hl_b136.1 rfl (lv_room (Nat.le_of_ble_eq_true rfl)) dX3_goAlong_145 ⟨Nat.le_of_ble_eq_true rfl, Nat.le_of_ble_eq_true rfl⟩) hS_12 (fun q _ h => hFc_13 q h) hFc_13 (fun u_13 t_13 H_13 locs_13 ht_13 hvm_13 hw_13 hB_13 hz_13 hk_13 hS_13 => ?_)
              subst hw_13
              obtain ⟨r_13_0, r_13_1, r_13_2, w_13, hP1_13, hD1_13⟩ := hB_13
              rw [ht_13] at hP1_13
              obtain ⟨hP_13, hD_13⟩ := va_join (wr := [(h3, .inr (8, oX5 v_program_start v_program_count (.ref h18) (.ref h4) (.ref h5) (.ref h6) (.ref h7))), (h4, .inl (k1, 512, .inl v_program_kinds)), (h5, .inl (k2, 512, .inl v_program_subjects)), (h6, .inl (k3, 512, .inl v_program_nexts)), (h7, .inl (k4, 512, .inl v_program_others)), (h8, .inl (k5, 4, .inl (fun q9 => bz (v_edges q9)))), (h9, .inl (k6, 256, .inl v_nextAt_136)), (h10, .inl (k7, 5120, .inl v_nextCells_136)), (h11, .inl (k8, 256, .inl v_nowAt)), (h12, .inl (k9, 5120, .inl v_nowCells)), (h13, .inl (k10, 5632, .inl v_seen_136)), (h14, .inl (k11, 512, .inl v_waits_136)), (h16, .inl (k13, 11266, .inl v_stack_136)), (h17, .inl (k14, 11266, .inl v_kept_136)), (h18, .inr (13, oX10 v_program_tree_there v_program_tree_count v_program_tree_captures v_program_tree_ranges (.ref h19) (.ref h26) (.ref h27) (.ref h28) (.ref h29) (.ref h30) (.ref h20) (.ref h21) (.ref h22) (.ref h31) (.ref h32) (.ref h33) (.ref h23) (.ref h34) (.ref h24) (.ref h25))), (h19, .inl (k15, 256, .inl v_program_tree_sort)), (h20, .inl (k16, 256, .inl v_program_tree_value)), (h21, .inl (k17, 256, .inl v_program_tree_low)), (h22, .inl (k18, 256, .inl v_program_tree_high)), (h23, .inl (k19, 256, .inl (fun q9 => bz (v_program_tree_withinCase q9)))), (h24, .inl (k20, 512, .inl v_program_tree_rangeBegin)), (h25, .inl (k21, 512, .inl v_program_tree_rangeEnd))]) (w1 := [(h1, .inr (10, oX7 (.ref h2) r_13_0 r_13_1 a3_there)), (h2, .inl (k0, na3_items, .inl r_13_2)), (h0, .inr (6, oX3 (.ref h3) (.ref h1) v_width (.ref h8) (.ref h11) (.ref h12) v_nowCount (.ref h9) (.ref h10) v_nextCount_136 (.ref h13) (.ref h14) v_stamp (.ref h15) (.ref h16) (.ref h17) v_stackCount_136)), (h15, .inl (k12, 20, .inl g_12))]) hP_12 hD_12 [0, 1, 2, 15] [3, 4, 5, 6, 7, 8, 9, 10, 11, 12, 13, 14, 16, 17, 18, 19, 20, 21, 22, 23, 24, 25] rfl rfl (by decide) (by decide) hk_13 hFc_13 hP1_13 hD1_13
              have hP_13 := vaPq hP_13 (wsq := [(h1, .inr (10, oX7 (.ref h2) r_13_0 r_13_1 a3_there)), (h2, .inl (k0, na3_items, .inl r_13_2)), (h0, .inr (6, oX3 (.ref h3) (.ref h1) v_width (.ref h8) (.ref h11) (.ref h12) v_nowCount (.ref h9) (.ref h10) v_nextCount_136 (.ref h13) (.ref h14) v_stamp (.ref h15) (.ref h16) (.ref h17) v_stackCount_136)), (h3, .inr (8, oX5 v_program_start v_program_count (.ref h18) (.ref h4) (.ref h5) (.ref h6) (.ref h7))), (h4, .inl (k1, 512, .inl v_program_kinds)), (h5, .inl (k2, 512, .inl v_program_subjects)), (h6, .inl (k3, 512, .inl v_program_nexts)), (h7, .inl (k4, 512, .inl v_program_others)), (h8, .inl (k5, 4, .inl (fun q9 => bz (v_edges q9)))), (h9, .inl (k6, 256, .inl v_nextAt_136)), (h10, .inl (k7, 5120, .inl v_nextCells_136)), (h11, .inl (k8, 256, .inl v_nowAt)), (h12, .inl (k9, 5120, .inl v_nowCells)), (h13, .inl (k10, 5632, .inl v_seen_136)), (h14, .inl (k11, 512, .inl v_waits_136)), (h15, .inl (k12, 20, .inl g_12)), (h16, .inl (k13, 11266, .inl v_stack_136)), (h17, .inl (k14, 11266, .inl v_kept_136)), (h18, .inr (13, oX10 v_program_tree_there v_program_tree_count v_program_tree_captures v_program_tree_ranges (.ref h19) (.ref h26) (.ref h27) (.ref h28) (.ref h29) (.ref h30) (.ref h20) (.ref h21) (.ref h22) (.ref h31) (.ref h32) (.ref h33) (.ref h23) (.ref h34) (.ref h24) (.ref h25))), (h19, .inl (k15, 256, .inl v_program_tree_sort)), (h20, .inl (k16, 256, .inl v_program_tree_value)), (h21, .inl (k17, 256, .inl v_program_tree_low)), (h22, .inl (k18, 256, .inl v_program_tree_high)), (h23, .inl (k19, 256, .inl (fun q9 => bz (v_program_tree_withinCase q9)))), (h24, .inl (k20, 512, .inl v_program_tree_rangeBegin)), (h25, .inl (k21, 512, .inl v_program_tree_rangeEnd))]) [22, 23, 24, 0, 1, 2, 3, 4, 5, 6, 7, 8, 9, 10, 11, 25, 12, 13, 14, 15, 16, 17, 18, 19, 20, 21] rfl
              have hD_13 := vaDq hD_13 (wsq := [(h1, .inr (10, oX7 (.ref h2) r_13_0 r_13_1 a3_there)), (h2, .inl (k0, na3_items, .inl r_13_2)), (h0, .inr (6, oX3 (.ref h3) (.ref h1) v_width (.ref h8) (.ref h11) (.ref h12) v_nowCount (.ref h9) (.ref h10) v_nextCount_136 (.ref h13) (.ref h14) v_stamp (.ref h15) (.ref h16) (.ref h17) v_stackCount_136)), (h3, .inr (8, oX5 v_program_start v_program_count (.ref h18) (.ref h4) (.ref h5) (.ref h6) (.ref h7))), (h4, .inl (k1, 512, .inl v_program_kinds)), (h5, .inl (k2, 512, .inl v_program_subjects)), (h6, .inl (k3, 512, .inl v_program_nexts)), (h7, .inl (k4, 512, .inl v_program_others)), (h8, .inl (k5, 4, .inl (fun q9 => bz (v_edges q9)))), (h9, .inl (k6, 256, .inl v_nextAt_136)), (h10, .inl (k7, 5120, .inl v_nextCells_136)), (h11, .inl (k8, 256, .inl v_nowAt)), (h12, .inl (k9, 5120, .inl v_nowCells)), (h13, .inl (k10, 5632, .inl v_seen_136)), (h14, .inl (k11, 512, .inl v_waits_136)), (h15, .inl (k12, 20, .inl g_12)), (h16, .inl (k13, 11266, .inl v_stack_136)), (h17, .inl (k14, 11266, .inl v_kept_136)), (h18, .inr (13, oX10 v_program_tree_there v_program_tree_count v_program_tree_captures v_program_tree_ranges (.ref h19) (.ref h26) (.ref h27) (.ref h28) (.ref h29) (.ref h30) (.ref h20) (.ref h21) (.ref h22) (.ref h31) (.ref h32) (.ref h33) (.ref h23) (.ref h34) (.ref h24) (.ref h25))), (h19, .inl (k15, 256, .inl v_program_tree_sort)), (h20, .inl (k16, 256, .inl v_program_tree_value)), (h21, .inl (k17, 256, .inl v_program_tree_low)), (h22, .inl (k18, 256, .inl v_program_tree_high)), (h23, .inl (k19, 256, .inl (fun q9 => bz (v_program_tree_withinCase q9)))), (h24, .inl (k20, 512, .inl v_program_tree_rangeBegin)), (h25, .inl (k21, 512, .inl v_program_tree_rangeEnd))]) [22, 23, 24, 0, 1, 2, 3, 4, 5, 6, 7, 8, 9, 10, 11, 25, 12, 13, 14, 15, 16, 17, 18, 19, 20, 21] (by decide) rfl
              clear hPc_13 hDc_13 hKc_13 hFc_13 hP1_13 hD1_13 hk_13 hz_13
              refine lv_iconst (v := 1) hx hb dX3_goAlong_148 (by decide) ?_
              rw [hQQ]
              exact W.zret (v := 1) hx hb hr rfl (fun t9 ht9 hW9 => ⟨⟨1, 1, rfl, rfl, ⟨r_13_0, r_13_1, r_13_2, v_nextCount_136, v_stackCount_136, v_nextAt_136, v_nextCells_136, v_seen_136, v_waits_136, g_12, v_stack_136, v_kept_136, w_13, by rw [ht9]; exact hP_13, hD_13⟩⟩, hS_13.F ht9⟩) hS_13.2.2 dX3_goAlong_149
            refine lv_if_eq (tgt := 136) hx hb dX3_goAlong_122 (by decide) (fun c_14 => ?_) (fun c_14 => ?_)
            · exact k_136 a3_count_3 a3_over_3 a3_items_3 v_nextCount_3 v_stackCount_3 v_nextAt_3 v_nextCells_3 v_seen_3 v_waits_3 g_7 v_stack_3 v_kept_3 _ _ _ ((w_9.1 c_11).1 c_14) hP_9 hD_9 hS_9 (lv_sub hl_5 [1, 2, 4] rfl)
            · refine lv_iload_n hx hb dX3_goAlong_125 rfl (lv_at hl_5 2 rfl) ?_
              refine lv_aload_n hx hb dX3_goAlong_126 rfl (lv_at hl_5 1 rfl) ?_
              refine va_get (D := (dC, dI)) (ci := 6) (v := .ref h1) (C := RX3) (T := TX3) (N := 17) hx hb ht inX3 hown hK hP_9 2 rfl rfl 1 (by decide) (ht _ tw_620) (fun _ h9 => h9) rfl dX3_goAlong_127 ?_
              refine va_get (D := (dC, dI)) (ci := 10) (v := .int a3_count_3) (C := RX7) (T := TX7) (N := 4) hx hb ht inX7 hown hK hP_9 0 rfl rfl 1 (by decide) (ht _ tw_279) (fun _ h9 => h9) rfl dX3_goAlong_130 ?_
              refine lv_icmp_ne (tgt := 150) hx hb dX3_goAlong_133 (by decide) (fun c_15 => ?_) (fun c_15 => ?_)
              · exact k_150 l4_3 v_nextCount_3 v_stackCount_3 v_nextAt_3 v_nextCells_3 v_seen_3 v_waits_3 g_7 v_stack_3 v_kept_3 _ _ _ (((w_9.1 c_11).2 c_14).1 c_15) hP_9 hD_9 hS_9 (lv_sub hl_5 [1, 2, 3, 4, 5] rfl)
              · exact k_136 a3_count_3 a3_over_3 a3_items_3 v_nextCount_3 v_stackCount_3 v_nextAt_3 v_nextCells_3 v_seen_3 v_waits_3 g_7 v_stack_3 v_kept_3 _ _ _ (((w_9.1 c_11).2 c_14).2 c_15) hP_9 hD_9 hS_9 (lv_sub hl_5 [1, 2, 4] rfl)
          · refine lv_iload_n hx hb dX3_goAlong_62 rfl (lv_at hl_5 2 rfl) ?_
            refine lv_aload_n hx hb dX3_goAlong_63 rfl (lv_at hl_5 1 rfl) ?_
            refine va_get (D := (dC, dI)) (ci := 6) (v := .ref h1) (C := RX3) (T := TX3) (N := 17) hx hb ht inX3 hown hK hP_9 2 rfl rfl 1 (by decide) (ht _ tw_620) (fun _ h9 => h9) rfl dX3_goAlong_64 ?_
            refine va_get (D := (dC, dI)) (ci := 10) (v := .int a3_count_3) (C := RX7) (T := TX7) (N := 4) hx hb ht inX7 hown hK hP_9 0 rfl rfl 1 (by decide) (ht _ tw_279) (fun _ h9 => h9) rfl dX3_goAlong_67 ?_
            refine lv_icmp_ge (tgt := 150) hx hb dX3_goAlong_70 (by decide) (fun c_16 => ?_) (fun c_16 => ?_)
            · exact k_150 l4_3 v_nextCount_3 v_stackCount_3 v_nextAt_3 v_nextCells_3 v_seen_3 v_waits_3 g_7 v_stack_3 v_kept_3 _ _ _ ((w_9.2 c_11).1 c_16) hP_9 hD_9 hS_9 (lv_sub hl_5 [1, 2, 3, 4, 5] rfl)
            · refine lv_aload_n hx hb dX3_goAlong_73 rfl (lv_at hl_5 1 rfl) ?_
              refine va_get (D := (dC, dI)) (ci := 6) (v := .ref h3) (C := RX3) (T := TX3) (N := 17) hx hb ht inX3 hown hK hP_9 2 rfl rfl 0 (by decide) (ht _ tw_619) (fun _ h9 => h9) rfl dX3_goAlong_74 ?_
              refine lv_iload hx hb dX3_goAlong_77 (lv_at hl_5 0 rfl) ?_
              refine lv_aload_n hx hb dX3_goAlong_79 rfl (lv_at hl_5 1 rfl) ?_
              refine va_get (D := (dC, dI)) (ci := 6) (v := .ref h1) (C := RX3) (T := TX3) (N := 17) hx hb ht inX3 hown hK hP_9 2 rfl rfl 1 (by decide) (ht _ tw_620) (fun _ h9 => h9) rfl dX3_goAlong_80 ?_
              refine lv_iload_n hx hb dX3_goAlong_83 rfl (lv_at hl_5 2 rfl) ?_
              have hPc_17 := vaPq hP_9 (wsq := [(h1, .inr (10, oX7 (.ref h2) a3_count_3 a3_over_3 a3_there)), (h2, .inl (k0, na3_items, .inl a3_items_3))]) [0, 1] rfl
              have hDc_17 := vaDq hD_9 (wsq := [(h1, .inr (10, oX7 (.ref h2) a3_count_3 a3_over_3 a3_there)), (h2, .inl (k0, na3_items, .inl a3_items_3))]) [0, 1] (by decide) rfl
              have hKc_17 := vaKq hK (tysq := [(k0, .int)]) [0] rfl
              have hFc_17 := va_free (wc := [(h1, .inr (10, oX7 (.ref h2) a3_count_3 a3_over_3 a3_there)), (h2, .inl (k0, na3_items, .inl a3_items_3))]) hD_9 hS_9 hA [0, 1] rfl
              refine va_calli (va_runV (As := [.int p1]) (rest := [.int x_4, .ref h3]) ⟨hx, hb, hml, hown, ht⟩ (mt_X7_at l dC dI h1 h2 k0 p1 a3_count_3 a3_over_3 a3_there a3_items_3 na3_items _ ((w_9.2 c_11).2 c_16) H_9.size) (cwV 1 ht (goodV tw_1567 tw_908 tw_909 tw_237 gw_X7_at) rfl rfl rfl (by decide +kernel) ⟨Nat.le_of_ble_eq_true rfl, Nat.le_of_ble_eq_true rfl⟩) ⟨fun a U g mk q => by obtain ⟨q0, q1, qP, qK, qD⟩ := q; exact ⟨q0, q1, qP, va_K.moved (u := U) (U := U.calling g mk a) (Vm.Alike.refl U.vm) qK, qD⟩, va_recv hKc_17 hPc_17 (ci := 10) (q0 := 0) rfl rfl, fun U hU hW => ⟨rfl, by rw [hU], by rw [hU]; exact hPc_17, va_K.moved hW.alike hKc_17, hDc_17.weaken (fun _ _ _ _ => trivial)⟩⟩ rfl rfl hl_5.1 rfl (lv_room (Nat.le_of_ble_eq_true rfl)) dX3_goAlong_84 ⟨Nat.le_of_ble_eq_true rfl, Nat.le_of_ble_eq_true rfl⟩) hS_9 (fun q _ h => hFc_17 q h) hFc_17 (fun r_17 u_17 t_17 H_17 locs_17 ht_17 hvm_17 hw_17 hB_17 hz_17 hk_17 hS_17 => ?_)
              subst hw_17
              obtain ⟨w_17, hP1_17, hD1_17⟩ := hB_17
              rw [ht_17] at hP1_17
              obtain ⟨hP_17, hD_17⟩ := va_join (wr := [(h0, .inr (6, oX3 (.ref h3) (.ref h1) v_width (.ref h8) (.ref h11) (.ref h12) v_nowCount (.ref h9) (.ref h10) v_nextCount_3 (.ref h13) (.ref h14) v_stamp (.ref h15) (.ref h16) (.ref h17) v_stackCount_3)), (h3, .inr (8, oX5 v_program_start v_program_count (.ref h18) (.ref h4) (.ref h5) (.ref h6) (.ref h7))), (h4, .inl (k1, 512, .inl v_program_kinds)), (h5, .inl (k2, 512, .inl v_program_subjects)), (h6, .inl (k3, 512, .inl v_program_nexts)), (h7, .inl (k4, 512, .inl v_program_others)), (h8, .inl (k5, 4, .inl (fun q9 => bz (v_edges q9)))), (h9, .inl (k6, 256, .inl v_nextAt_3)), (h10, .inl (k7, 5120, .inl v_nextCells_3)), (h11, .inl (k8, 256, .inl v_nowAt)), (h12, .inl (k9, 5120, .inl v_nowCells)), (h13, .inl (k10, 5632, .inl v_seen_3)), (h14, .inl (k11, 512, .inl v_waits_3)), (h15, .inl (k12, 20, .inl g_7)), (h16, .inl (k13, 11266, .inl v_stack_3)), (h17, .inl (k14, 11266, .inl v_kept_3)), (h18, .inr (13, oX10 v_program_tree_there v_program_tree_count v_program_tree_captures v_program_tree_ranges (.ref h19) (.ref h26) (.ref h27) (.ref h28) (.ref h29) (.ref h30) (.ref h20) (.ref h21) (.ref h22) (.ref h31) (.ref h32) (.ref h33) (.ref h23) (.ref h34) (.ref h24) (.ref h25))), (h19, .inl (k15, 256, .inl v_program_tree_sort)), (h20, .inl (k16, 256, .inl v_program_tree_value)), (h21, .inl (k17, 256, .inl v_program_tree_low)), (h22, .inl (k18, 256, .inl v_program_tree_high)), (h23, .inl (k19, 256, .inl (fun q9 => bz (v_program_tree_withinCase q9)))), (h24, .inl (k20, 512, .inl v_program_tree_rangeBegin)), (h25, .inl (k21, 512, .inl v_program_tree_rangeEnd))]) (w1 := [(h1, .inr (10, oX7 (.ref h2) a3_count_3 a3_over_3 a3_there)), (h2, .inl (k0, na3_items, .inl a3_items_3))]) hP_9 hD_9 [0, 1] [2, 3, 4, 5, 6, 7, 8, 9, 10, 11, 12, 13, 14, 15, 16, 17, 18, 19, 20, 21, 22, 23, 24, 25] rfl rfl (by decide) (by decide) hk_17 hFc_17 hP1_17 hD1_17
              have hP_17 := vaPq hP_17 (wsq := [(h1, .inr (10, oX7 (.ref h2) a3_count_3 a3_over_3 a3_there)), (h2, .inl (k0, na3_items, .inl a3_items_3)), (h0, .inr (6, oX3 (.ref h3) (.ref h1) v_width (.ref h8) (.ref h11) (.ref h12) v_nowCount (.ref h9) (.ref h10) v_nextCount_3 (.ref h13) (.ref h14) v_stamp (.ref h15) (.ref h16) (.ref h17) v_stackCount_3)), (h3, .inr (8, oX5 v_program_start v_program_count (.ref h18) (.ref h4) (.ref h5) (.ref h6) (.ref h7))), (h4, .inl (k1, 512, .inl v_program_kinds)), (h5, .inl (k2, 512, .inl v_program_subjects)), (h6, .inl (k3, 512, .inl v_program_nexts)), (h7, .inl (k4, 512, .inl v_program_others)), (h8, .inl (k5, 4, .inl (fun q9 => bz (v_edges q9)))), (h9, .inl (k6, 256, .inl v_nextAt_3)), (h10, .inl (k7, 5120, .inl v_nextCells_3)), (h11, .inl (k8, 256, .inl v_nowAt)), (h12, .inl (k9, 5120, .inl v_nowCells)), (h13, .inl (k10, 5632, .inl v_seen_3)), (h14, .inl (k11, 512, .inl v_waits_3)), (h15, .inl (k12, 20, .inl g_7)), (h16, .inl (k13, 11266, .inl v_stack_3)), (h17, .inl (k14, 11266, .inl v_kept_3)), (h18, .inr (13, oX10 v_program_tree_there v_program_tree_count v_program_tree_captures v_program_tree_ranges (.ref h19) (.ref h26) (.ref h27) (.ref h28) (.ref h29) (.ref h30) (.ref h20) (.ref h21) (.ref h22) (.ref h31) (.ref h32) (.ref h33) (.ref h23) (.ref h34) (.ref h24) (.ref h25))), (h19, .inl (k15, 256, .inl v_program_tree_sort)), (h20, .inl (k16, 256, .inl v_program_tree_value)), (h21, .inl (k17, 256, .inl v_program_tree_low)), (h22, .inl (k18, 256, .inl v_program_tree_high)), (h23, .inl (k19, 256, .inl (fun q9 => bz (v_program_tree_withinCase q9)))), (h24, .inl (k20, 512, .inl v_program_tree_rangeBegin)), (h25, .inl (k21, 512, .inl v_program_tree_rangeEnd))]) [24, 25, 0, 1, 2, 3, 4, 5, 6, 7, 8, 9, 10, 11, 12, 13, 14, 15, 16, 17, 18, 19, 20, 21, 22, 23] rfl
              have hD_17 := vaDq hD_17 (wsq := [(h1, .inr (10, oX7 (.ref h2) a3_count_3 a3_over_3 a3_there)), (h2, .inl (k0, na3_items, .inl a3_items_3)), (h0, .inr (6, oX3 (.ref h3) (.ref h1) v_width (.ref h8) (.ref h11) (.ref h12) v_nowCount (.ref h9) (.ref h10) v_nextCount_3 (.ref h13) (.ref h14) v_stamp (.ref h15) (.ref h16) (.ref h17) v_stackCount_3)), (h3, .inr (8, oX5 v_program_start v_program_count (.ref h18) (.ref h4) (.ref h5) (.ref h6) (.ref h7))), (h4, .inl (k1, 512, .inl v_program_kinds)), (h5, .inl (k2, 512, .inl v_program_subjects)), (h6, .inl (k3, 512, .inl v_program_nexts)), (h7, .inl (k4, 512, .inl v_program_others)), (h8, .inl (k5, 4, .inl (fun q9 => bz (v_edges q9)))), (h9, .inl (k6, 256, .inl v_nextAt_3)), (h10, .inl (k7, 5120, .inl v_nextCells_3)), (h11, .inl (k8, 256, .inl v_nowAt)), (h12, .inl (k9, 5120, .inl v_nowCells)), (h13, .inl (k10, 5632, .inl v_seen_3)), (h14, .inl (k11, 512, .inl v_waits_3)), (h15, .inl (k12, 20, .inl g_7)), (h16, .inl (k13, 11266, .inl v_stack_3)), (h17, .inl (k14, 11266, .inl v_kept_3)), (h18, .inr (13, oX10 v_program_tree_there v_program_tree_count v_program_tree_captures v_program_tree_ranges (.ref h19) (.ref h26) (.ref h27) (.ref h28) (.ref h29) (.ref h30) (.ref h20) (.ref h21) (.ref h22) (.ref h31) (.ref h32) (.ref h33) (.ref h23) (.ref h34) (.ref h24) (.ref h25))), (h19, .inl (k15, 256, .inl v_program_tree_sort)), (h20, .inl (k16, 256, .inl v_program_tree_value)), (h21, .inl (k17, 256, .inl v_program_tree_low)), (h22, .inl (k18, 256, .inl v_program_tree_high)), (h23, .inl (k19, 256, .inl (fun q9 => bz (v_program_tree_withinCase q9)))), (h24, .inl (k20, 512, .inl v_program_tree_rangeBegin)), (h25, .inl (k21, 512, .inl v_program_tree_rangeEnd))]) [24, 25, 0, 1, 2, 3, 4, 5, 6, 7, 8, 9, 10, 11, 12, 13, 14, 15, 16, 17, 18, 19, 20, 21, 22, 23] (by decide) rfl
              clear hPc_17 hDc_17 hKc_17 hFc_17 hP1_17 hD1_17 hk_17 hz_17
              have hPc_18 := vaPq hP_17 (wsq := [(h3, .inr (8, oX5 v_program_start v_program_count (.ref h18) (.ref h4) (.ref h5) (.ref h6) (.ref h7))), (h5, .inl (k2, 512, .inl v_program_subjects)), (h18, .inr (13, oX10 v_program_tree_there v_program_tree_count v_program_tree_captures v_program_tree_ranges (.ref h19) (.ref h26) (.ref h27) (.ref h28) (.ref h29) (.ref h30) (.ref h20) (.ref h21) (.ref h22) (.ref h31) (.ref h32) (.ref h33) (.ref h23) (.ref h34) (.ref h24) (.ref h25))), (h19, .inl (k15, 256, .inl v_program_tree_sort)), (h20, .inl (k16, 256, .inl v_program_tree_value)), (h21, .inl (k17, 256, .inl v_program_tree_low)), (h22, .inl (k18, 256, .inl v_program_tree_high)), (h23, .inl (k19, 256, .inl (fun q9 => bz (v_program_tree_withinCase q9)))), (h24, .inl (k20, 512, .inl v_program_tree_rangeBegin)), (h25, .inl (k21, 512, .inl v_program_tree_rangeEnd))]) [3, 5, 18, 19, 20, 21, 22, 23, 24, 25] rfl
              have hDc_18 := vaDq hD_17 (wsq := [(h3, .inr (8, oX5 v_program_start v_program_count (.ref h18) (.ref h4) (.ref h5) (.ref h6) (.ref h7))), (h5, .inl (k2, 512, .inl v_program_subjects)), (h18, .inr (13, oX10 v_program_tree_there v_program_tree_count v_program_tree_captures v_program_tree_ranges (.ref h19) (.ref h26) (.ref h27) (.ref h28) (.ref h29) (.ref h30) (.ref h20) (.ref h21) (.ref h22) (.ref h31) (.ref h32) (.ref h33) (.ref h23) (.ref h34) (.ref h24) (.ref h25))), (h19, .inl (k15, 256, .inl v_program_tree_sort)), (h20, .inl (k16, 256, .inl v_program_tree_value)), (h21, .inl (k17, 256, .inl v_program_tree_low)), (h22, .inl (k18, 256, .inl v_program_tree_high)), (h23, .inl (k19, 256, .inl (fun q9 => bz (v_program_tree_withinCase q9)))), (h24, .inl (k20, 512, .inl v_program_tree_rangeBegin)), (h25, .inl (k21, 512, .inl v_program_tree_rangeEnd))]) [3, 5, 18, 19, 20, 21, 22, 23, 24, 25] (by decide) rfl
              have hKc_18 := vaKq hK (tysq := [(k2, .int), (k15, .int), (k16, .int), (k17, .int), (k18, .int), (k19, .boolean), (k20, .int), (k21, .int)]) [2, 15, 16, 17, 18, 19, 20, 21] rfl
              have hFc_18 := va_free (wc := [(h3, .inr (8, oX5 v_program_start v_program_count (.ref h18) (.ref h4) (.ref h5) (.ref h6) (.ref h7))), (h5, .inl (k2, 512, .inl v_program_subjects)), (h18, .inr (13, oX10 v_program_tree_there v_program_tree_count v_program_tree_captures v_program_tree_ranges (.ref h19) (.ref h26) (.ref h27) (.ref h28) (.ref h29) (.ref h30) (.ref h20) (.ref h21) (.ref h22) (.ref h31) (.ref h32) (.ref h33) (.ref h23) (.ref h34) (.ref h24) (.ref h25))), (h19, .inl (k15, 256, .inl v_program_tree_sort)), (h20, .inl (k16, 256, .inl v_program_tree_value)), (h21, .inl (k17, 256, .inl v_program_tree_low)), (h22, .inl (k18, 256, .inl v_program_tree_high)), (h23, .inl (k19, 256, .inl (fun q9 => bz (v_program_tree_withinCase q9)))), (h24, .inl (k20, 512, .inl v_program_tree_rangeBegin)), (h25, .inl (k21, 512, .inl v_program_tree_rangeEnd))]) hD_17 hS_17 hA [3, 5, 18, 19, 20, 21, 22, 23, 24, 25] rfl
              refine va_calli (va_runV (As := [.int x_4, .int r_17]) (rest := []) ⟨hx, hb, hml, hown, ht⟩ (mt_X5_takes l dC dI h3 h5 h18 h19 h20 h21 h22 h23 h24 h25 h4 h6 h7 h26 h27 h28 h29 h30 h31 h32 h33 h34 k2 k15 k16 k17 k18 k19 k20 k21 x_4 r_17 v_program_start v_program_count v_program_subjects v_program_tree_there v_program_tree_count v_program_tree_captures v_program_tree_ranges v_program_tree_sort v_program_tree_value v_program_tree_low v_program_tree_high v_program_tree_withinCase v_program_tree_rangeBegin v_program_tree_rangeEnd _ w_17 H_17.size) (cwV 2 ht (goodV tw_1568 tw_1569 tw_1570 tw_245 gw_X5_takes) rfl rfl rfl (by decide +kernel) ⟨Nat.le_of_ble_eq_true rfl, Nat.le_of_ble_eq_true rfl⟩) ⟨fun a U g mk q => by obtain ⟨q0, q1, qP, qK, qD, q5⟩ := q; exact ⟨q0, q1, qP, va_K.moved (u := U) (U := U.calling g mk a) (Vm.Alike.refl U.vm) qK, qD, q5.calling⟩, va_recv hKc_18 hPc_18 (ci := 8) (q0 := 0) rfl rfl, fun U hU hW => ⟨rfl, by rw [hU], by rw [hU]; exact hPc_18, va_K.moved hW.alike hKc_18, hDc_18.weaken (fun _ _ _ _ => trivial), hE.warm hW⟩⟩ rfl rfl hl_5.1 rfl (lv_room (Nat.le_of_ble_eq_true rfl)) dX3_goAlong_87 ⟨Nat.le_of_ble_eq_true rfl, Nat.le_of_ble_eq_true rfl⟩) hS_17 (fun q _ h => hFc_18 q h) hFc_18 (fun r_18 u_18 t_18 H_18 locs_18 ht_18 hvm_18 hw_18 hB_18 hz_18 hk_18 hS_18 => ?_)
              subst hw_18
              obtain ⟨w_18, hP1_18, hD1_18⟩ := hB_18
              rw [ht_18] at hP1_18
              obtain ⟨hP_18, hD_18⟩ := va_join (wr := [(h1, .inr (10, oX7 (.ref h2) a3_count_3 a3_over_3 a3_there)), (h2, .inl (k0, na3_items, .inl a3_items_3)), (h0, .inr (6, oX3 (.ref h3) (.ref h1) v_width (.ref h8) (.ref h11) (.ref h12) v_nowCount (.ref h9) (.ref h10) v_nextCount_3 (.ref h13) (.ref h14) v_stamp (.ref h15) (.ref h16) (.ref h17) v_stackCount_3)), (h4, .inl (k1, 512, .inl v_program_kinds)), (h6, .inl (k3, 512, .inl v_program_nexts)), (h7, .inl (k4, 512, .inl v_program_others)), (h8, .inl (k5, 4, .inl (fun q9 => bz (v_edges q9)))), (h9, .inl (k6, 256, .inl v_nextAt_3)), (h10, .inl (k7, 5120, .inl v_nextCells_3)), (h11, .inl (k8, 256, .inl v_nowAt)), (h12, .inl (k9, 5120, .inl v_nowCells)), (h13, .inl (k10, 5632, .inl v_seen_3)), (h14, .inl (k11, 512, .inl v_waits_3)), (h15, .inl (k12, 20, .inl g_7)), (h16, .inl (k13, 11266, .inl v_stack_3)), (h17, .inl (k14, 11266, .inl v_kept_3))]) (w1 := [(h3, .inr (8, oX5 v_program_start v_program_count (.ref h18) (.ref h4) (.ref h5) (.ref h6) (.ref h7))), (h5, .inl (k2, 512, .inl v_program_subjects)), (h18, .inr (13, oX10 v_program_tree_there v_program_tree_count v_program_tree_captures v_program_tree_ranges (.ref h19) (.ref h26) (.ref h27) (.ref h28) (.ref h29) (.ref h30) (.ref h20) (.ref h21) (.ref h22) (.ref h31) (.ref h32) (.ref h33) (.ref h23) (.ref h34) (.ref h24) (.ref h25))), (h19, .inl (k15, 256, .inl v_program_tree_sort)), (h20, .inl (k16, 256, .inl v_program_tree_value)), (h21, .inl (k17, 256, .inl v_program_tree_low)), (h22, .inl (k18, 256, .inl v_program_tree_high)), (h23, .inl (k19, 256, .inl (fun q9 => bz (v_program_tree_withinCase q9)))), (h24, .inl (k20, 512, .inl v_program_tree_rangeBegin)), (h25, .inl (k21, 512, .inl v_program_tree_rangeEnd))]) hP_17 hD_17 [3, 5, 18, 19, 20, 21, 22, 23, 24, 25] [0, 1, 2, 4, 6, 7, 8, 9, 10, 11, 12, 13, 14, 15, 16, 17] rfl rfl (by decide) (by decide) hk_18 hFc_18 hP1_18 hD1_18
              have hP_18 := vaPq hP_18 (wsq := [(h1, .inr (10, oX7 (.ref h2) a3_count_3 a3_over_3 a3_there)), (h2, .inl (k0, na3_items, .inl a3_items_3)), (h0, .inr (6, oX3 (.ref h3) (.ref h1) v_width (.ref h8) (.ref h11) (.ref h12) v_nowCount (.ref h9) (.ref h10) v_nextCount_3 (.ref h13) (.ref h14) v_stamp (.ref h15) (.ref h16) (.ref h17) v_stackCount_3)), (h3, .inr (8, oX5 v_program_start v_program_count (.ref h18) (.ref h4) (.ref h5) (.ref h6) (.ref h7))), (h4, .inl (k1, 512, .inl v_program_kinds)), (h5, .inl (k2, 512, .inl v_program_subjects)), (h6, .inl (k3, 512, .inl v_program_nexts)), (h7, .inl (k4, 512, .inl v_program_others)), (h8, .inl (k5, 4, .inl (fun q9 => bz (v_edges q9)))), (h9, .inl (k6, 256, .inl v_nextAt_3)), (h10, .inl (k7, 5120, .inl v_nextCells_3)), (h11, .inl (k8, 256, .inl v_nowAt)), (h12, .inl (k9, 5120, .inl v_nowCells)), (h13, .inl (k10, 5632, .inl v_seen_3)), (h14, .inl (k11, 512, .inl v_waits_3)), (h15, .inl (k12, 20, .inl g_7)), (h16, .inl (k13, 11266, .inl v_stack_3)), (h17, .inl (k14, 11266, .inl v_kept_3)), (h18, .inr (13, oX10 v_program_tree_there v_program_tree_count v_program_tree_captures v_program_tree_ranges (.ref h19) (.ref h26) (.ref h27) (.ref h28) (.ref h29) (.ref h30) (.ref h20) (.ref h21) (.ref h22) (.ref h31) (.ref h32) (.ref h33) (.ref h23) (.ref h34) (.ref h24) (.ref h25))), (h19, .inl (k15, 256, .inl v_program_tree_sort)), (h20, .inl (k16, 256, .inl v_program_tree_value)), (h21, .inl (k17, 256, .inl v_program_tree_low)), (h22, .inl (k18, 256, .inl v_program_tree_high)), (h23, .inl (k19, 256, .inl (fun q9 => bz (v_program_tree_withinCase q9)))), (h24, .inl (k20, 512, .inl v_program_tree_rangeBegin)), (h25, .inl (k21, 512, .inl v_program_tree_rangeEnd))]) [0, 1, 2, 16, 3, 17, 4, 5, 6, 7, 8, 9, 10, 11, 12, 13, 14, 15, 18, 19, 20, 21, 22, 23, 24, 25] rfl
              have hD_18 := vaDq hD_18 (wsq := [(h1, .inr (10, oX7 (.ref h2) a3_count_3 a3_over_3 a3_there)), (h2, .inl (k0, na3_items, .inl a3_items_3)), (h0, .inr (6, oX3 (.ref h3) (.ref h1) v_width (.ref h8) (.ref h11) (.ref h12) v_nowCount (.ref h9) (.ref h10) v_nextCount_3 (.ref h13) (.ref h14) v_stamp (.ref h15) (.ref h16) (.ref h17) v_stackCount_3)), (h3, .inr (8, oX5 v_program_start v_program_count (.ref h18) (.ref h4) (.ref h5) (.ref h6) (.ref h7))), (h4, .inl (k1, 512, .inl v_program_kinds)), (h5, .inl (k2, 512, .inl v_program_subjects)), (h6, .inl (k3, 512, .inl v_program_nexts)), (h7, .inl (k4, 512, .inl v_program_others)), (h8, .inl (k5, 4, .inl (fun q9 => bz (v_edges q9)))), (h9, .inl (k6, 256, .inl v_nextAt_3)), (h10, .inl (k7, 5120, .inl v_nextCells_3)), (h11, .inl (k8, 256, .inl v_nowAt)), (h12, .inl (k9, 5120, .inl v_nowCells)), (h13, .inl (k10, 5632, .inl v_seen_3)), (h14, .inl (k11, 512, .inl v_waits_3)), (h15, .inl (k12, 20, .inl g_7)), (h16, .inl (k13, 11266, .inl v_stack_3)), (h17, .inl (k14, 11266, .inl v_kept_3)), (h18, .inr (13, oX10 v_program_tree_there v_program_tree_count v_program_tree_captures v_program_tree_ranges (.ref h19) (.ref h26) (.ref h27) (.ref h28) (.ref h29) (.ref h30) (.ref h20) (.ref h21) (.ref h22) (.ref h31) (.ref h32) (.ref h33) (.ref h23) (.ref h34) (.ref h24) (.ref h25))), (h19, .inl (k15, 256, .inl v_program_tree_sort)), (h20, .inl (k16, 256, .inl v_program_tree_value)), (h21, .inl (k17, 256, .inl v_program_tree_low)), (h22, .inl (k18, 256, .inl v_program_tree_high)), (h23, .inl (k19, 256, .inl (fun q9 => bz (v_program_tree_withinCase q9)))), (h24, .inl (k20, 512, .inl v_program_tree_rangeBegin)), (h25, .inl (k21, 512, .inl v_program_tree_rangeEnd))]) [0, 1, 2, 16, 3, 17, 4, 5, 6, 7, 8, 9, 10, 11, 12, 13, 14, 15, 18, 19, 20, 21, 22, 23, 24, 25] (by decide) rfl
              clear hPc_18 hDc_18 hKc_18 hFc_18 hP1_18 hD1_18 hk_18 hz_18
              refine lv_if_eq (tgt := 150) hx hb dX3_goAlong_90 (by decide) (fun c_19 => ?_) (fun c_19 => ?_)
              · exact k_150 l4_3 v_nextCount_3 v_stackCount_3 v_nextAt_3 v_nextCells_3 v_seen_3 v_waits_3 g_7 v_stack_3 v_kept_3 _ _ _ (w_18.1 c_19) hP_18 hD_18 hS_18 (lv_sub hl_5 [1, 2, 3, 4, 5] rfl)
              · refine lv_aload_n hx hb dX3_goAlong_93 rfl (lv_at hl_5 1 rfl) ?_
                refine lv_aload_n hx hb dX3_goAlong_94 rfl (lv_at hl_5 1 rfl) ?_
                refine va_get (D := (dC, dI)) (ci := 6) (v := .ref h3) (C := RX3) (T := TX3) (N := 17) hx hb ht inX3 hown hK hP_18 2 rfl rfl 0 (by decide) (ht _ tw_619) (fun _ h9 => h9) rfl dX3_goAlong_95 ?_
                refine lv_iload hx hb dX3_goAlong_98 (lv_at hl_5 0 rfl) ?_
                have hPc_20 := vaPq hP_18 (wsq := [(h3, .inr (8, oX5 v_program_start v_program_count (.ref h18) (.ref h4) (.ref h5) (.ref h6) (.ref h7))), (h6, .inl (k3, 512, .inl v_program_nexts))]) [3, 6] rfl
                have hDc_20 := vaDq hD_18 (wsq := [(h3, .inr (8, oX5 v_program_start v_program_count (.ref h18) (.ref h4) (.ref h5) (.ref h6) (.ref h7))), (h6, .inl (k3, 512, .inl v_program_nexts))]) [3, 6] (by decide) rfl
                have hKc_20 := vaKq hK (tysq := [(k3, .int)]) [3] rfl
                have hFc_20 := va_free (wc := [(h3, .inr (8, oX5 v_program_start v_program_count (.ref h18) (.ref h4) (.ref h5) (.ref h6) (.ref h7))), (h6, .inl (k3, 512, .inl v_program_nexts))]) hD_18 hS_18 hA [3, 6] rfl
                refine va_calli (va_runV (As := [.int x_4]) (rest := [.ref h0]) ⟨hx, hb, hml, hown, ht⟩ (mt_X5_nextOf l dC dI h3 h6 h18 h4 h5 h7 k3 x_4 v_program_start v_program_count v_program_nexts _ (w_18.2 c_19) H_18.size) (cwV 1 ht (goodV tw_1532 tw_1533 tw_1534 tw_245 gw_X5_nextOf) rfl rfl rfl (by decide +kernel) ⟨Nat.le_of_ble_eq_true rfl, Nat.le_of_ble_eq_true rfl⟩) ⟨fun a U g mk q => by obtain ⟨q0, q1, qP, qK, qD⟩ := q; exact ⟨q0, q1, qP, va_K.moved (u := U) (U := U.calling g mk a) (Vm.Alike.refl U.vm) qK, qD⟩, va_recv hKc_20 hPc_20 (ci := 8) (q0 := 0) rfl rfl, fun U hU hW => ⟨rfl, by rw [hU], by rw [hU]; exact hPc_20, va_K.moved hW.alike hKc_20, hDc_20.weaken (fun _ _ _ _ => trivial)⟩⟩ rfl rfl hl_5.1 rfl (lv_room (Nat.le_of_ble_eq_true rfl)) dX3_goAlong_100 ⟨Nat.le_of_ble_eq_true rfl, Nat.le_of_ble_eq_true rfl⟩) hS_18 (fun q _ h => hFc_20 q h) hFc_20 (fun r_20 u_20 t_20 H_20 locs_20 ht_20 hvm_20 hw_20 hB_20 hz_20 hk_20 hS_20 => ?_)
                subst hw_20
                obtain ⟨w_20, hP1_20, hD1_20⟩ := hB_20
                rw [ht_20] at hP1_20
                obtain ⟨hP_20, hD_20⟩ := va_join (wr := [(h1, .inr (10, oX7 (.ref h2) a3_count_3 a3_over_3 a3_there)), (h2, .inl (k0, na3_items, .inl a3_items_3)), (h0, .inr (6, oX3 (.ref h3) (.ref h1) v_width (.ref h8) (.ref h11) (.ref h12) v_nowCount (.ref h9) (.ref h10) v_nextCount_3 (.ref h13) (.ref h14) v_stamp (.ref h15) (.ref h16) (.ref h17) v_stackCount_3)), (h4, .inl (k1, 512, .inl v_program_kinds)), (h5, .inl (k2, 512, .inl v_program_subjects)), (h7, .inl (k4, 512, .inl v_program_others)), (h8, .inl (k5, 4, .inl (fun q9 => bz (v_edges q9)))), (h9, .inl (k6, 256, .inl v_nextAt_3)), (h10, .inl (k7, 5120, .inl v_nextCells_3)), (h11, .inl (k8, 256, .inl v_nowAt)), (h12, .inl (k9, 5120, .inl v_nowCells)), (h13, .inl (k10, 5632, .inl v_seen_3)), (h14, .inl (k11, 512, .inl v_waits_3)), (h15, .inl (k12, 20, .inl g_7)), (h16, .inl (k13, 11266, .inl v_stack_3)), (h17, .inl (k14, 11266, .inl v_kept_3)), (h18, .inr (13, oX10 v_program_tree_there v_program_tree_count v_program_tree_captures v_program_tree_ranges (.ref h19) (.ref h26) (.ref h27) (.ref h28) (.ref h29) (.ref h30) (.ref h20) (.ref h21) (.ref h22) (.ref h31) (.ref h32) (.ref h33) (.ref h23) (.ref h34) (.ref h24) (.ref h25))), (h19, .inl (k15, 256, .inl v_program_tree_sort)), (h20, .inl (k16, 256, .inl v_program_tree_value)), (h21, .inl (k17, 256, .inl v_program_tree_low)), (h22, .inl (k18, 256, .inl v_program_tree_high)), (h23, .inl (k19, 256, .inl (fun q9 => bz (v_program_tree_withinCase q9)))), (h24, .inl (k20, 512, .inl v_program_tree_rangeBegin)), (h25, .inl (k21, 512, .inl v_program_tree_rangeEnd))]) (w1 := [(h3, .inr (8, oX5 v_program_start v_program_count (.ref h18) (.ref h4) (.ref h5) (.ref h6) (.ref h7))), (h6, .inl (k3, 512, .inl v_program_nexts))]) hP_18 hD_18 [3, 6] [0, 1, 2, 4, 5, 7, 8, 9, 10, 11, 12, 13, 14, 15, 16, 17, 18, 19, 20, 21, 22, 23, 24, 25] rfl rfl (by decide) (by decide) hk_20 hFc_20 hP1_20 hD1_20
                have hP_20 := vaPq hP_20 (wsq := [(h1, .inr (10, oX7 (.ref h2) a3_count_3 a3_over_3 a3_there)), (h2, .inl (k0, na3_items, .inl a3_items_3)), (h0, .inr (6, oX3 (.ref h3) (.ref h1) v_width (.ref h8) (.ref h11) (.ref h12) v_nowCount (.ref h9) (.ref h10) v_nextCount_3 (.ref h13) (.ref h14) v_stamp (.ref h15) (.ref h16) (.ref h17) v_stackCount_3)), (h3, .inr (8, oX5 v_program_start v_program_count (.ref h18) (.ref h4) (.ref h5) (.ref h6) (.ref h7))), (h4, .inl (k1, 512, .inl v_program_kinds)), (h5, .inl (k2, 512, .inl v_program_subjects)), (h6, .inl (k3, 512, .inl v_program_nexts)), (h7, .inl (k4, 512, .inl v_program_others)), (h8, .inl (k5, 4, .inl (fun q9 => bz (v_edges q9)))), (h9, .inl (k6, 256, .inl v_nextAt_3)), (h10, .inl (k7, 5120, .inl v_nextCells_3)), (h11, .inl (k8, 256, .inl v_nowAt)), (h12, .inl (k9, 5120, .inl v_nowCells)), (h13, .inl (k10, 5632, .inl v_seen_3)), (h14, .inl (k11, 512, .inl v_waits_3)), (h15, .inl (k12, 20, .inl g_7)), (h16, .inl (k13, 11266, .inl v_stack_3)), (h17, .inl (k14, 11266, .inl v_kept_3)), (h18, .inr (13, oX10 v_program_tree_there v_program_tree_count v_program_tree_captures v_program_tree_ranges (.ref h19) (.ref h26) (.ref h27) (.ref h28) (.ref h29) (.ref h30) (.ref h20) (.ref h21) (.ref h22) (.ref h31) (.ref h32) (.ref h33) (.ref h23) (.ref h34) (.ref h24) (.ref h25))), (h19, .inl (k15, 256, .inl v_program_tree_sort)), (h20, .inl (k16, 256, .inl v_program_tree_value)), (h21, .inl (k17, 256, .inl v_program_tree_low)), (h22, .inl (k18, 256, .inl v_program_tree_high)), (h23, .inl (k19, 256, .inl (fun q9 => bz (v_program_tree_withinCase q9)))), (h24, .inl (k20, 512, .inl v_program_tree_rangeBegin)), (h25, .inl (k21, 512, .inl v_program_tree_rangeEnd))]) [0, 1, 2, 24, 3, 4, 25, 5, 6, 7, 8, 9, 10, 11, 12, 13, 14, 15, 16, 17, 18, 19, 20, 21, 22, 23] rfl
                have hD_20 := vaDq hD_20 (wsq := [(h1, .inr (10, oX7 (.ref h2) a3_count_3 a3_over_3 a3_there)), (h2, .inl (k0, na3_items, .inl a3_items_3)), (h0, .inr (6, oX3 (.ref h3) (.ref h1) v_width (.ref h8) (.ref h11) (.ref h12) v_nowCount (.ref h9) (.ref h10) v_nextCount_3 (.ref h13) (.ref h14) v_stamp (.ref h15) (.ref h16) (.ref h17) v_stackCount_3)), (h3, .inr (8, oX5 v_program_start v_program_count (.ref h18) (.ref h4) (.ref h5) (.ref h6) (.ref h7))), (h4, .inl (k1, 512, .inl v_program_kinds)), (h5, .inl (k2, 512, .inl v_program_subjects)), (h6, .inl (k3, 512, .inl v_program_nexts)), (h7, .inl (k4, 512, .inl v_program_others)), (h8, .inl (k5, 4, .inl (fun q9 => bz (v_edges q9)))), (h9, .inl (k6, 256, .inl v_nextAt_3)), (h10, .inl (k7, 5120, .inl v_nextCells_3)), (h11, .inl (k8, 256, .inl v_nowAt)), (h12, .inl (k9, 5120, .inl v_nowCells)), (h13, .inl (k10, 5632, .inl v_seen_3)), (h14, .inl (k11, 512, .inl v_waits_3)), (h15, .inl (k12, 20, .inl g_7)), (h16, .inl (k13, 11266, .inl v_stack_3)), (h17, .inl (k14, 11266, .inl v_kept_3)), (h18, .inr (13, oX10 v_program_tree_there v_program_tree_count v_program_tree_captures v_program_tree_ranges (.ref h19) (.ref h26) (.ref h27) (.ref h28) (.ref h29) (.ref h30) (.ref h20) (.ref h21) (.ref h22) (.ref h31) (.ref h32) (.ref h33) (.ref h23) (.ref h34) (.ref h24) (.ref h25))), (h19, .inl (k15, 256, .inl v_program_tree_sort)), (h20, .inl (k16, 256, .inl v_program_tree_value)), (h21, .inl (k17, 256, .inl v_program_tree_low)), (h22, .inl (k18, 256, .inl v_program_tree_high)), (h23, .inl (k19, 256, .inl (fun q9 => bz (v_program_tree_withinCase q9)))), (h24, .inl (k20, 512, .inl v_program_tree_rangeBegin)), (h25, .inl (k21, 512, .inl v_program_tree_rangeEnd))]) [0, 1, 2, 24, 3, 4, 25, 5, 6, 7, 8, 9, 10, 11, 12, 13, 14, 15, 16, 17, 18, 19, 20, 21, 22, 23] (by decide) rfl
                clear hPc_20 hDc_20 hKc_20 hFc_20 hP1_20 hD1_20 hk_20 hz_20
                refine lv_aload_n hx hb dX3_goAlong_103 rfl (lv_at hl_5 1 rfl) ?_
                refine va_get (D := (dC, dI)) (ci := 6) (v := .ref h3) (C := RX3) (T := TX3) (N := 17) hx hb ht inX3 hown hK hP_20 2 rfl rfl 0 (by decide) (ht _ tw_619) (fun _ h9 => h9) rfl dX3_goAlong_104 ?_
                refine lv_iload hx hb dX3_goAlong_107 (lv_at hl_5 0 rfl) ?_
                have hPc_21 := vaPq hP_20 (wsq := [(h3, .inr (8, oX5 v_program_start v_program_count (.ref h18) (.ref h4) (.ref h5) (.ref h6) (.ref h7))), (h7, .inl (k4, 512, .inl v_program_others))]) [3, 7] rfl
                have hDc_21 := vaDq hD_20 (wsq := [(h3, .inr (8, oX5 v_program_start v_program_count (.ref h18) (.ref h4) (.ref h5) (.ref h6) (.ref h7))), (h7, .inl (k4, 512, .inl v_program_others))]) [3, 7] (by decide) rfl
                have hKc_21 := vaKq hK (tysq := [(k4, .int)]) [4] rfl
                have hFc_21 := va_free (wc := [(h3, .inr (8, oX5 v_program_start v_program_count (.ref h18) (.ref h4) (.ref h5) (.ref h6) (.ref h7))), (h7, .inl (k4, 512, .inl v_program_others))]) hD_20 hS_20 hA [3, 7] rfl
                refine va_calli (va_runV (As := [.int x_4]) (rest := [.int r_20, .ref h0]) ⟨hx, hb, hml, hown, ht⟩ (mt_X5_otherOf l dC dI h3 h7 h18 h4 h5 h6 k4 x_4 v_program_start v_program_count v_program_others _ w_20 H_20.size) (cwV 1 ht (goodV tw_1544 tw_1545 tw_1546 tw_245 gw_X5_otherOf) rfl rfl rfl (by decide +kernel) ⟨Nat.le_of_ble_eq_true rfl, Nat.le_of_ble_eq_true rfl⟩) ⟨fun a U g mk q => by obtain ⟨q0, q1, qP, qK, qD⟩ := q; exact ⟨q0, q1, qP, va_K.moved (u := U) (U := U.calling g mk a) (Vm.Alike.refl U.vm) qK, qD⟩, va_recv hKc_21 hPc_21 (ci := 8) (q0 := 0) rfl rfl, fun U hU hW => ⟨rfl, by rw [hU], by rw [hU]; exact hPc_21, va_K.moved hW.alike hKc_21, hDc_21.weaken (fun _ _ _ _ => trivial)⟩⟩ rfl rfl hl_5.1 rfl (lv_room (Nat.le_of_ble_eq_true rfl)) dX3_goAlong_109 ⟨Nat.le_of_ble_eq_true rfl, Nat.le_of_ble_eq_true rfl⟩) hS_20 (fun q _ h => hFc_21 q h) hFc_21 (fun r_21 u_21 t_21 H_21 locs_21 ht_21 hvm_21 hw_21 hB_21 hz_21 hk_21 hS_21 => ?_)
                subst hw_21
                obtain ⟨w_21, hP1_21, hD1_21⟩ := hB_21
                rw [ht_21] at hP1_21
                obtain ⟨hP_21, hD_21⟩ := va_join (wr := [(h1, .inr (10, oX7 (.ref h2) a3_count_3 a3_over_3 a3_there)), (h2, .inl (k0, na3_items, .inl a3_items_3)), (h0, .inr (6, oX3 (.ref h3) (.ref h1) v_width (.ref h8) (.ref h11) (.ref h12) v_nowCount (.ref h9) (.ref h10) v_nextCount_3 (.ref h13) (.ref h14) v_stamp (.ref h15) (.ref h16) (.ref h17) v_stackCount_3)), (h4, .inl (k1, 512, .inl v_program_kinds)), (h5, .inl (k2, 512, .inl v_program_subjects)), (h6, .inl (k3, 512, .inl v_program_nexts)), (h8, .inl (k5, 4, .inl (fun q9 => bz (v_edges q9)))), (h9, .inl (k6, 256, .inl v_nextAt_3)), (h10, .inl (k7, 5120, .inl v_nextCells_3)), (h11, .inl (k8, 256, .inl v_nowAt)), (h12, .inl (k9, 5120, .inl v_nowCells)), (h13, .inl (k10, 5632, .inl v_seen_3)), (h14, .inl (k11, 512, .inl v_waits_3)), (h15, .inl (k12, 20, .inl g_7)), (h16, .inl (k13, 11266, .inl v_stack_3)), (h17, .inl (k14, 11266, .inl v_kept_3)), (h18, .inr (13, oX10 v_program_tree_there v_program_tree_count v_program_tree_captures v_program_tree_ranges (.ref h19) (.ref h26) (.ref h27) (.ref h28) (.ref h29) (.ref h30) (.ref h20) (.ref h21) (.ref h22) (.ref h31) (.ref h32) (.ref h33) (.ref h23) (.ref h34) (.ref h24) (.ref h25))), (h19, .inl (k15, 256, .inl v_program_tree_sort)), (h20, .inl (k16, 256, .inl v_program_tree_value)), (h21, .inl (k17, 256, .inl v_program_tree_low)), (h22, .inl (k18, 256, .inl v_program_tree_high)), (h23, .inl (k19, 256, .inl (fun q9 => bz (v_program_tree_withinCase q9)))), (h24, .inl (k20, 512, .inl v_program_tree_rangeBegin)), (h25, .inl (k21, 512, .inl v_program_tree_rangeEnd))]) (w1 := [(h3, .inr (8, oX5 v_program_start v_program_count (.ref h18) (.ref h4) (.ref h5) (.ref h6) (.ref h7))), (h7, .inl (k4, 512, .inl v_program_others))]) hP_20 hD_20 [3, 7] [0, 1, 2, 4, 5, 6, 8, 9, 10, 11, 12, 13, 14, 15, 16, 17, 18, 19, 20, 21, 22, 23, 24, 25] rfl rfl (by decide) (by decide) hk_21 hFc_21 hP1_21 hD1_21
                have hP_21 := vaPq hP_21 (wsq := [(h1, .inr (10, oX7 (.ref h2) a3_count_3 a3_over_3 a3_there)), (h2, .inl (k0, na3_items, .inl a3_items_3)), (h0, .inr (6, oX3 (.ref h3) (.ref h1) v_width (.ref h8) (.ref h11) (.ref h12) v_nowCount (.ref h9) (.ref h10) v_nextCount_3 (.ref h13) (.ref h14) v_stamp (.ref h15) (.ref h16) (.ref h17) v_stackCount_3)), (h3, .inr (8, oX5 v_program_start v_program_count (.ref h18) (.ref h4) (.ref h5) (.ref h6) (.ref h7))), (h4, .inl (k1, 512, .inl v_program_kinds)), (h5, .inl (k2, 512, .inl v_program_subjects)), (h6, .inl (k3, 512, .inl v_program_nexts)), (h7, .inl (k4, 512, .inl v_program_others)), (h8, .inl (k5, 4, .inl (fun q9 => bz (v_edges q9)))), (h9, .inl (k6, 256, .inl v_nextAt_3)), (h10, .inl (k7, 5120, .inl v_nextCells_3)), (h11, .inl (k8, 256, .inl v_nowAt)), (h12, .inl (k9, 5120, .inl v_nowCells)), (h13, .inl (k10, 5632, .inl v_seen_3)), (h14, .inl (k11, 512, .inl v_waits_3)), (h15, .inl (k12, 20, .inl g_7)), (h16, .inl (k13, 11266, .inl v_stack_3)), (h17, .inl (k14, 11266, .inl v_kept_3)), (h18, .inr (13, oX10 v_program_tree_there v_program_tree_count v_program_tree_captures v_program_tree_ranges (.ref h19) (.ref h26) (.ref h27) (.ref h28) (.ref h29) (.ref h30) (.ref h20) (.ref h21) (.ref h22) (.ref h31) (.ref h32) (.ref h33) (.ref h23) (.ref h34) (.ref h24) (.ref h25))), (h19, .inl (k15, 256, .inl v_program_tree_sort)), (h20, .inl (k16, 256, .inl v_program_tree_value)), (h21, .inl (k17, 256, .inl v_program_tree_low)), (h22, .inl (k18, 256, .inl v_program_tree_high)), (h23, .inl (k19, 256, .inl (fun q9 => bz (v_program_tree_withinCase q9)))), (h24, .inl (k20, 512, .inl v_program_tree_rangeBegin)), (h25, .inl (k21, 512, .inl v_program_tree_rangeEnd))]) [0, 1, 2, 24, 3, 4, 5, 25, 6, 7, 8, 9, 10, 11, 12, 13, 14, 15, 16, 17, 18, 19, 20, 21, 22, 23] rfl
                have hD_21 := vaDq hD_21 (wsq := [(h1, .inr (10, oX7 (.ref h2) a3_count_3 a3_over_3 a3_there)), (h2, .inl (k0, na3_items, .inl a3_items_3)), (h0, .inr (6, oX3 (.ref h3) (.ref h1) v_width (.ref h8) (.ref h11) (.ref h12) v_nowCount (.ref h9) (.ref h10) v_nextCount_3 (.ref h13) (.ref h14) v_stamp (.ref h15) (.ref h16) (.ref h17) v_stackCount_3)), (h3, .inr (8, oX5 v_program_start v_program_count (.ref h18) (.ref h4) (.ref h5) (.ref h6) (.ref h7))), (h4, .inl (k1, 512, .inl v_program_kinds)), (h5, .inl (k2, 512, .inl v_program_subjects)), (h6, .inl (k3, 512, .inl v_program_nexts)), (h7, .inl (k4, 512, .inl v_program_others)), (h8, .inl (k5, 4, .inl (fun q9 => bz (v_edges q9)))), (h9, .inl (k6, 256, .inl v_nextAt_3)), (h10, .inl (k7, 5120, .inl v_nextCells_3)), (h11, .inl (k8, 256, .inl v_nowAt)), (h12, .inl (k9, 5120, .inl v_nowCells)), (h13, .inl (k10, 5632, .inl v_seen_3)), (h14, .inl (k11, 512, .inl v_waits_3)), (h15, .inl (k12, 20, .inl g_7)), (h16, .inl (k13, 11266, .inl v_stack_3)), (h17, .inl (k14, 11266, .inl v_kept_3)), (h18, .inr (13, oX10 v_program_tree_there v_program_tree_count v_program_tree_captures v_program_tree_ranges (.ref h19) (.ref h26) (.ref h27) (.ref h28) (.ref h29) (.ref h30) (.ref h20) (.ref h21) (.ref h22) (.ref h31) (.ref h32) (.ref h33) (.ref h23) (.ref h34) (.ref h24) (.ref h25))), (h19, .inl (k15, 256, .inl v_program_tree_sort)), (h20, .inl (k16, 256, .inl v_program_tree_value)), (h21, .inl (k17, 256, .inl v_program_tree_low)), (h22, .inl (k18, 256, .inl v_program_tree_high)), (h23, .inl (k19, 256, .inl (fun q9 => bz (v_program_tree_withinCase q9)))), (h24, .inl (k20, 512, .inl v_program_tree_rangeBegin)), (h25, .inl (k21, 512, .inl v_program_tree_rangeEnd))]) [0, 1, 2, 24, 3, 4, 5, 25, 6, 7, 8, 9, 10, 11, 12, 13, 14, 15, 16, 17, 18, 19, 20, 21, 22, 23] (by decide) rfl
                clear hPc_21 hDc_21 hKc_21 hFc_21 hP1_21 hD1_21 hk_21 hz_21
                refine lv_iload_n hx hb dX3_goAlong_112 rfl (lv_at hl_5 2 rfl) ?_
                refine lv_iconst (v := 1) hx hb dX3_goAlong_113 (by decide) ?_
                refine lv_iadd hx hb dX3_goAlong_114 ?_
                refine lv_topi (fun x_22 ex_22 => ?_)
                have ex_22 : x_22 = p1 + (1 : Int32) := ex_22
                have hPc_23 := vaPq hP_21 (wsq := [(h0, .inr (6, oX3 (.ref h3) (.ref h1) v_width (.ref h8) (.ref h11) (.ref h12) v_nowCount (.ref h9) (.ref h10) v_nextCount_3 (.ref h13) (.ref h14) v_stamp (.ref h15) (.ref h16) (.ref h17) v_stackCount_3)), (h3, .inr (8, oX5 v_program_start v_program_count (.ref h18) (.ref h4) (.ref h5) (.ref h6) (.ref h7))), (h4, .inl (k1, 512, .inl v_program_kinds)), (h5, .inl (k2, 512, .inl v_program_subjects)), (h6, .inl (k3, 512, .inl v_program_nexts)), (h7, .inl (k4, 512, .inl v_program_others)), (h8, .inl (k5, 4, .inl (fun q9 => bz (v_edges q9)))), (h9, .inl (k6, 256, .inl v_nextAt_3)), (h10, .inl (k7, 5120, .inl v_nextCells_3)), (h13, .inl (k10, 5632, .inl v_seen_3)), (h14, .inl (k11, 512, .inl v_waits_3)), (h15, .inl (k12, 20, .inl g_7)), (h16, .inl (k13, 11266, .inl v_stack_3)), (h17, .inl (k14, 11266, .inl v_kept_3))]) [2, 3, 4, 5, 6, 7, 8, 9, 10, 13, 14, 15, 16, 17] rfl
                have hDc_23 := vaDq hD_21 (wsq := [(h0, .inr (6, oX3 (.ref h3) (.ref h1) v_width (.ref h8) (.ref h11) (.ref h12) v_nowCount (.ref h9) (.ref h10) v_nextCount_3 (.ref h13) (.ref h14) v_stamp (.ref h15) (.ref h16) (.ref h17) v_stackCount_3)), (h3, .inr (8, oX5 v_program_start v_program_count (.ref h18) (.ref h4) (.ref h5) (.ref h6) (.ref h7))), (h4, .inl (k1, 512, .inl v_program_kinds)), (h5, .inl (k2, 512, .inl v_program_subjects)), (h6, .inl (k3, 512, .inl v_program_nexts)), (h7, .inl (k4, 512, .inl v_program_others)), (h8, .inl (k5, 4, .inl (fun q9 => bz (v_edges q9)))), (h9, .inl (k6, 256, .inl v_nextAt_3)), (h10, .inl (k7, 5120, .inl v_nextCells_3)), (h13, .inl (k10, 5632, .inl v_seen_3)), (h14, .inl (k11, 512, .inl v_waits_3)), (h15, .inl (k12, 20, .inl g_7)), (h16, .inl (k13, 11266, .inl v_stack_3)), (h17, .inl (k14, 11266, .inl v_kept_3))]) [2, 3, 4, 5, 6, 7, 8, 9, 10, 13, 14, 15, 16, 17] (by decide) rfl
                have hKc_23 := vaKq hK (tysq := [(k1, .int), (k2, .int), (k3, .int), (k4, .int), (k5, .boolean), (k6, .int), (k7, .int), (k10, .int), (k11, .int), (k12, .int), (k13, .int), (k14, .int)]) [1, 2, 3, 4, 5, 6, 7, 10, 11, 12, 13, 14] rfl
                have hFc_23 := va_free (wc := [(h0, .inr (6, oX3 (.ref h3) (.ref h1) v_width (.ref h8) (.ref h11) (.ref h12) v_nowCount (.ref h9) (.ref h10) v_nextCount_3 (.ref h13) (.ref h14) v_stamp (.ref h15) (.ref h16) (.ref h17) v_stackCount_3)), (h3, .inr (8, oX5 v_program_start v_program_count (.ref h18) (.ref h4) (.ref h5) (.ref h6) (.ref h7))), (h4, .inl (k1, 512, .inl v_program_kinds)), (h5, .inl (k2, 512, .inl v_program_subjects)), (h6, .inl (k3, 512, .inl v_program_nexts)), (h7, .inl (k4, 512, .inl v_program_others)), (h8, .inl (k5, 4, .inl (fun q9 => bz (v_edges q9)))), (h9, .inl (k6, 256, .inl v_nextAt_3)), (h10, .inl (k7, 5120, .inl v_nextCells_3)), (h13, .inl (k10, 5632, .inl v_seen_3)), (h14, .inl (k11, 512, .inl v_waits_3)), (h15, .inl (k12, 20, .inl g_7)), (h16, .inl (k13, 11266, .inl v_stack_3)), (h17, .inl (k14, 11266, .inl v_kept_3))]) hD_21 hS_21 hA [2, 3, 4, 5, 6, 7, 8, 9, 10, 13, 14, 15, 16, 17] rfl
                refine va_callv (va_runV (As := [.int r_20, .int r_21, .int x_22]) (rest := []) ⟨hx, hb, hml, hown, ht⟩ (mt_X3_spread l dC dI h0 h3 h4 h5 h6 h7 h8 h9 h10 h13 h14 h15 h16 h17 h1 h11 h12 h18 k1 k2 k3 k4 k5 k6 k7 k10 k11 k12 k13 k14 r_20 r_21 x_22 v_width v_nowCount v_nextCount_3 v_stamp v_stackCount_3 v_program_start v_program_count v_program_kinds v_program_subjects v_program_nexts v_program_others v_edges v_nextAt_3 v_nextCells_3 v_seen_3 v_waits_3 g_7 v_stack_3 v_kept_3 _ (w_21 x_22 ex_22) H_21.size) (cwV 3 ht (goodV tw_1512 tw_1514 tw_78 tw_244 gw_X3_spread) rfl rfl rfl (by decide +kernel) ⟨Nat.le_of_ble_eq_true rfl, Nat.le_of_ble_eq_true rfl⟩) ⟨fun a U g mk q => by obtain ⟨q0, q1, qP, qK, qD⟩ := q; exact ⟨q0, q1, qP, va_K.moved (u := U) (U := U.calling g mk a) (Vm.Alike.refl U.vm) qK, qD⟩, va_recv hKc_23 hPc_23 (ci := 6) (q0 := 0) rfl rfl, fun U hU hW => ⟨rfl, by rw [hU], by rw [hU]; exact hPc_23, va_K.moved hW.alike hKc_23, hDc_23.weaken (fun _ _ _ _ => trivial)⟩⟩ rfl rfl hl_5.1 rfl (lv_room (Nat.le_of_ble_eq_true rfl)) dX3_goAlong_115 ⟨Nat.le_of_ble_eq_true rfl, Nat.le_of_ble_eq_true rfl⟩) hS_21 (fun q _ h => hFc_23 q h) hFc_23 (fun u_23 t_23 H_23 locs_23 ht_23 hvm_23 hw_23 hB_23 hz_23 hk_23 hS_23 => ?_)
                subst hw_23
                refine exo_9 hB_23 (fun r_23_0 r_23_1 r_23_2 r_23_3 r_23_4 r_23_5 r_23_6 r_23_7 r_23_8 hX_23 => ?_)
                clear hB_23
                obtain ⟨w_23, hP1_23, hD1_23⟩ := hX_23
                rw [ht_23] at hP1_23
                obtain ⟨hP_23, hD_23⟩ := va_join (wr := [(h1, .inr (10, oX7 (.ref h2) a3_count_3 a3_over_3 a3_there)), (h2, .inl (k0, na3_items, .inl a3_items_3)), (h11, .inl (k8, 256, .inl v_nowAt)), (h12, .inl (k9, 5120, .inl v_nowCells)), (h18, .inr (13, oX10 v_program_tree_there v_program_tree_count v_program_tree_captures v_program_tree_ranges (.ref h19) (.ref h26) (.ref h27) (.ref h28) (.ref h29) (.ref h30) (.ref h20) (.ref h21) (.ref h22) (.ref h31) (.ref h32) (.ref h33) (.ref h23) (.ref h34) (.ref h24) (.ref h25))), (h19, .inl (k15, 256, .inl v_program_tree_sort)), (h20, .inl (k16, 256, .inl v_program_tree_value)), (h21, .inl (k17, 256, .inl v_program_tree_low)), (h22, .inl (k18, 256, .inl v_program_tree_high)), (h23, .inl (k19, 256, .inl (fun q9 => bz (v_program_tree_withinCase q9)))), (h24, .inl (k20, 512, .inl v_program_tree_rangeBegin)), (h25, .inl (k21, 512, .inl v_program_tree_rangeEnd))]) (w1 := [(h0, .inr (6, oX3 (.ref h3) (.ref h1) v_width (.ref h8) (.ref h11) (.ref h12) v_nowCount (.ref h9) (.ref h10) r_23_0 (.ref h13) (.ref h14) v_stamp (.ref h15) (.ref h16) (.ref h17) r_23_1)), (h3, .inr (8, oX5 v_program_start v_program_count (.ref h18) (.ref h4) (.ref h5) (.ref h6) (.ref h7))), (h4, .inl (k1, 512, .inl v_program_kinds)), (h5, .inl (k2, 512, .inl v_program_subjects)), (h6, .inl (k3, 512, .inl v_program_nexts)), (h7, .inl (k4, 512, .inl v_program_others)), (h8, .inl (k5, 4, .inl (fun q9 => bz (v_edges q9)))), (h9, .inl (k6, 256, .inl r_23_2)), (h10, .inl (k7, 5120, .inl r_23_3)), (h13, .inl (k10, 5632, .inl r_23_4)), (h14, .inl (k11, 512, .inl r_23_5)), (h15, .inl (k12, 20, .inl r_23_6)), (h16, .inl (k13, 11266, .inl r_23_7)), (h17, .inl (k14, 11266, .inl r_23_8))]) hP_21 hD_21 [2, 3, 4, 5, 6, 7, 8, 9, 10, 13, 14, 15, 16, 17] [0, 1, 11, 12, 18, 19, 20, 21, 22, 23, 24, 25] rfl rfl (by decide) (by decide) hk_23 hFc_23 hP1_23 hD1_23
                have hP_23 := vaPq hP_23 (wsq := [(h1, .inr (10, oX7 (.ref h2) a3_count_3 a3_over_3 a3_there)), (h2, .inl (k0, na3_items, .inl a3_items_3)), (h0, .inr (6, oX3 (.ref h3) (.ref h1) v_width (.ref h8) (.ref h11) (.ref h12) v_nowCount (.ref h9) (.ref h10) r_23_0 (.ref h13) (.ref h14) v_stamp (.ref h15) (.ref h16) (.ref h17) r_23_1)), (h3, .inr (8, oX5 v_program_start v_program_count (.ref h18) (.ref h4) (.ref h5) (.ref h6) (.ref h7))), (h4, .inl (k1, 512, .inl v_program_kinds)), (h5, .inl (k2, 512, .inl v_program_subjects)), (h6, .inl (k3, 512, .inl v_program_nexts)), (h7, .inl (k4, 512, .inl v_program_others)), (h8, .inl (k5, 4, .inl (fun q9 => bz (v_edges q9)))), (h9, .inl (k6, 256, .inl r_23_2)), (h10, .inl (k7, 5120, .inl r_23_3)), (h11, .inl (k8, 256, .inl v_nowAt)), (h12, .inl (k9, 5120, .inl v_nowCells)), (h13, .inl (k10, 5632, .inl r_23_4)), (h14, .inl (k11, 512, .inl r_23_5)), (h15, .inl (k12, 20, .inl r_23_6)), (h16, .inl (k13, 11266, .inl r_23_7)), (h17, .inl (k14, 11266, .inl r_23_8)), (h18, .inr (13, oX10 v_program_tree_there v_program_tree_count v_program_tree_captures v_program_tree_ranges (.ref h19) (.ref h26) (.ref h27) (.ref h28) (.ref h29) (.ref h30) (.ref h20) (.ref h21) (.ref h22) (.ref h31) (.ref h32) (.ref h33) (.ref h23) (.ref h34) (.ref h24) (.ref h25))), (h19, .inl (k15, 256, .inl v_program_tree_sort)), (h20, .inl (k16, 256, .inl v_program_tree_value)), (h21, .inl (k17, 256, .inl v_program_tree_low)), (h22, .inl (k18, 256, .inl v_program_tree_high)), (h23, .inl (k19, 256, .inl (fun q9 => bz (v_program_tree_withinCase q9)))), (h24, .inl (k20, 512, .inl v_program_tree_rangeBegin)), (h25, .inl (k21, 512, .inl v_program_tree_rangeEnd))]) [0, 1, 12, 13, 14, 15, 16, 17, 18, 19, 20, 2, 3, 21, 22, 23, 24, 25, 4, 5, 6, 7, 8, 9, 10, 11] rfl
                have hD_23 := vaDq hD_23 (wsq := [(h1, .inr (10, oX7 (.ref h2) a3_count_3 a3_over_3 a3_there)), (h2, .inl (k0, na3_items, .inl a3_items_3)), (h0, .inr (6, oX3 (.ref h3) (.ref h1) v_width (.ref h8) (.ref h11) (.ref h12) v_nowCount (.ref h9) (.ref h10) r_23_0 (.ref h13) (.ref h14) v_stamp (.ref h15) (.ref h16) (.ref h17) r_23_1)), (h3, .inr (8, oX5 v_program_start v_program_count (.ref h18) (.ref h4) (.ref h5) (.ref h6) (.ref h7))), (h4, .inl (k1, 512, .inl v_program_kinds)), (h5, .inl (k2, 512, .inl v_program_subjects)), (h6, .inl (k3, 512, .inl v_program_nexts)), (h7, .inl (k4, 512, .inl v_program_others)), (h8, .inl (k5, 4, .inl (fun q9 => bz (v_edges q9)))), (h9, .inl (k6, 256, .inl r_23_2)), (h10, .inl (k7, 5120, .inl r_23_3)), (h11, .inl (k8, 256, .inl v_nowAt)), (h12, .inl (k9, 5120, .inl v_nowCells)), (h13, .inl (k10, 5632, .inl r_23_4)), (h14, .inl (k11, 512, .inl r_23_5)), (h15, .inl (k12, 20, .inl r_23_6)), (h16, .inl (k13, 11266, .inl r_23_7)), (h17, .inl (k14, 11266, .inl r_23_8)), (h18, .inr (13, oX10 v_program_tree_there v_program_tree_count v_program_tree_captures v_program_tree_ranges (.ref h19) (.ref h26) (.ref h27) (.ref h28) (.ref h29) (.ref h30) (.ref h20) (.ref h21) (.ref h22) (.ref h31) (.ref h32) (.ref h33) (.ref h23) (.ref h34) (.ref h24) (.ref h25))), (h19, .inl (k15, 256, .inl v_program_tree_sort)), (h20, .inl (k16, 256, .inl v_program_tree_value)), (h21, .inl (k17, 256, .inl v_program_tree_low)), (h22, .inl (k18, 256, .inl v_program_tree_high)), (h23, .inl (k19, 256, .inl (fun q9 => bz (v_program_tree_withinCase q9)))), (h24, .inl (k20, 512, .inl v_program_tree_rangeBegin)), (h25, .inl (k21, 512, .inl v_program_tree_rangeEnd))]) [0, 1, 12, 13, 14, 15, 16, 17, 18, 19, 20, 2, 3, 21, 22, 23, 24, 25, 4, 5, 6, 7, 8, 9, 10, 11] (by decide) rfl
                clear hPc_23 hDc_23 hKc_23 hFc_23 hP1_23 hD1_23 hk_23 hz_23
                refine lv_goto (tgt := 150) hx hb dX3_goAlong_118 (by decide) ?_
                exact k_150 l4_3 r_23_0 r_23_1 r_23_2 r_23_3 r_23_4 r_23_5 r_23_6 r_23_7 r_23_8 _ _ _ w_23 hP_23 hD_23 hS_23 (lv_sub hl_5 [1, 2, 3, 4, 5] rfl)
  obtain ⟨n_24, w_24⟩ := w
  exact k_3 a3_count a3_over a3_items n_24 0 v_nextCount v_stackCount v_nextAt v_nextCells v_seen v_waits v_cells v_stack v_kept _ _ _ w_24 hP hD hS (lv_sub hl_1 [1, 2, 3, 4, 0] rfl)
