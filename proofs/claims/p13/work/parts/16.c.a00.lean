abbrev cX11_pattern : ByteArray := prog_1_method_3_code
def yX11_pattern : MethodName := ⟨RX11, "pattern", "(I)I"⟩
abbrev cX6_addLeaf : ByteArray := prog_8_method_10_code
def yX6_addLeaf : MethodName := ⟨RX6, "addLeaf", "(II)V"⟩
abbrev cX6_addOne : ByteArray := prog_8_method_14_code
def yX6_addOne : MethodName := ⟨RX6, "addOne", "(I)V"⟩
abbrev cX6_begin : ByteArray := prog_8_method_4_code
def yX6_begin : MethodName := ⟨RX6, "begin", "(LPatternWorkshop$Row;)V"⟩
abbrev cX6_closeGroup : ByteArray := prog_8_method_18_code
def yX6_closeGroup : MethodName := ⟨RX6, "closeGroup", "()V"⟩
abbrev cX6_exchange : ByteArray := prog_8_method_2_code
def yX6_exchange : MethodName := ⟨RX6, "exchange", "(LPatternWorkshop$Tree;)LPatternWorkshop$Tree;"⟩
abbrev cX6_openGroup : ByteArray := prog_8_method_7_code
def yX6_openGroup : MethodName := ⟨RX6, "openGroup", "()LPatternWorkshop$Group;"⟩
abbrev cX6_read : ByteArray := prog_8_method_3_code
def yX6_read : MethodName := ⟨RX6, "read", "(LPatternWorkshop$Row;)Z"⟩
abbrev cX6_readBackByName : ByteArray := prog_8_method_31_code
def yX6_readBackByName : MethodName := ⟨RX6, "readBackByName", "()V"⟩
abbrev cX6_readCode : ByteArray := prog_8_method_30_code
def yX6_readCode : MethodName := ⟨RX6, "readCode", "()V"⟩
abbrev cX6_readDigits : ByteArray := prog_8_method_28_code
def yX6_readDigits : MethodName := ⟨RX6, "readDigits", "()V"⟩
abbrev cX6_readEscape : ByteArray := prog_8_method_27_code
def yX6_readEscape : MethodName := ⟨RX6, "readEscape", "()V"⟩
abbrev cX6_readGroup : ByteArray := prog_8_method_19_code
def yX6_readGroup : MethodName := ⟨RX6, "readGroup", "()V"⟩
abbrev cX6_readLeaf : ByteArray := prog_8_method_9_code
def yX6_readLeaf : MethodName := ⟨RX6, "readLeaf", "(II)V"⟩
abbrev cX6_readLoop : ByteArray := prog_8_method_24_code
def yX6_readLoop : MethodName := ⟨RX6, "readLoop", "(I)V"⟩
abbrev cX6_readNext : ByteArray := prog_8_method_8_code
def yX6_readNext : MethodName := ⟨RX6, "readNext", "(I)V"⟩
abbrev cX6_readOtherEscape : ByteArray := prog_8_method_32_code
def yX6_readOtherEscape : MethodName := ⟨RX6, "readOtherEscape", "(I)V"⟩
abbrev cX6_readSet : ByteArray := prog_8_method_34_code
def yX6_readSet : MethodName := ⟨RX6, "readSet", "()V"⟩
abbrev cX6_readWordSigns : ByteArray := prog_8_method_29_code
def yX6_readWordSigns : MethodName := ⟨RX6, "readWordSigns", "()V"⟩
abbrev cX6_skipComment : ByteArray := prog_8_method_23_code
def yX6_skipComment : MethodName := ⟨RX6, "skipComment", "()V"⟩
theorem tw_0 : (.selects "PatternWorkshop$Reader" yX6_begin yX6_begin : Cond) ∈ TW := tw_of 0 (by decide +kernel) (by decide +kernel)
theorem tw_1 : (.selects "PatternWorkshop$Reader" yX6_openGroup yX6_openGroup : Cond) ∈ TW := tw_of 1 (by decide +kernel) (by decide +kernel)
theorem tw_3 : (.selects "PatternWorkshop$Reader" yX6_readNext yX6_readNext : Cond) ∈ TW := tw_of 3 (by decide +kernel) (by decide +kernel)
theorem tw_4 : (.selects "PatternWorkshop$Reader" yX6_closeRow yX6_closeRow : Cond) ∈ TW := tw_of 4 (by decide +kernel) (by decide +kernel)
theorem tw_9 : (.selects "PatternWorkshop$Reader" yX6_readGroup yX6_readGroup : Cond) ∈ TW := tw_of 9 (by decide +kernel) (by decide +kernel)
theorem tw_10 : (.selects "PatternWorkshop$Reader" yX6_skipComment yX6_skipComment : Cond) ∈ TW := tw_of 10 (by decide +kernel) (by decide +kernel)
theorem tw_11 : (.selects "PatternWorkshop$Reader" yX6_countItem yX6_countItem : Cond) ∈ TW := tw_of 11 (by decide +kernel) (by decide +kernel)
theorem tw_12 : (.selects "PatternWorkshop$Reader" yX6_readName yX6_readName : Cond) ∈ TW := tw_of 12 (by decide +kernel) (by decide +kernel)
theorem tw_13 : (.selects "PatternWorkshop$Reader" yX6_closeGroup yX6_closeGroup : Cond) ∈ TW := tw_of 13 (by decide +kernel) (by decide +kernel)
theorem tw_14 : (.selects "PatternWorkshop$Reader" yX6_choiceOf yX6_choiceOf : Cond) ∈ TW := tw_of 14 (by decide +kernel) (by decide +kernel)
theorem tw_15 : (.selects "PatternWorkshop$Reader" yX6_addOne yX6_addOne : Cond) ∈ TW := tw_of 15 (by decide +kernel) (by decide +kernel)
theorem tw_16 : (.selects "PatternWorkshop$Reader" yX6_readSet yX6_readSet : Cond) ∈ TW := tw_of 16 (by decide +kernel) (by decide +kernel)
theorem tw_17 : (.selects "PatternWorkshop$Reader" yX6_readPart yX6_readPart : Cond) ∈ TW := tw_of 17 (by decide +kernel) (by decide +kernel)
theorem tw_21 : (.selects "PatternWorkshop$Reader" yX6_makeSet yX6_makeSet : Cond) ∈ TW := tw_of 21 (by decide +kernel) (by decide +kernel)
theorem tw_22 : (.selects "PatternWorkshop$Reader" yX6_readEscape yX6_readEscape : Cond) ∈ TW := tw_of 22 (by decide +kernel) (by decide +kernel)
theorem tw_23 : (.selects "PatternWorkshop$Reader" yX6_addLeaf yX6_addLeaf : Cond) ∈ TW := tw_of 23 (by decide +kernel) (by decide +kernel)
theorem tw_24 : (.selects "PatternWorkshop$Reader" yX6_readDigits yX6_readDigits : Cond) ∈ TW := tw_of 24 (by decide +kernel) (by decide +kernel)
theorem tw_25 : (.selects "PatternWorkshop$Reader" yX6_readWordSigns yX6_readWordSigns : Cond) ∈ TW := tw_of 25 (by decide +kernel) (by decide +kernel)
theorem tw_26 : (.selects "PatternWorkshop$Reader" yX6_readCode yX6_readCode : Cond) ∈ TW := tw_of 26 (by decide +kernel) (by decide +kernel)
theorem tw_27 : (.selects "PatternWorkshop$Reader" yX6_readBackByName yX6_readBackByName : Cond) ∈ TW := tw_of 27 (by decide +kernel) (by decide +kernel)
theorem tw_28 : (.selects "PatternWorkshop$Reader" yX6_readOtherEscape yX6_readOtherEscape : Cond) ∈ TW := tw_of 28 (by decide +kernel) (by decide +kernel)
theorem tw_29 : (.selects "PatternWorkshop$Reader" yX6_readLoop yX6_readLoop : Cond) ∈ TW := tw_of 29 (by decide +kernel) (by decide +kernel)
theorem tw_31 : (.selects "PatternWorkshop$Reader" yX6_readMost yX6_readMost : Cond) ∈ TW := tw_of 31 (by decide +kernel) (by decide +kernel)
theorem tw_32 : (.selects "PatternWorkshop$Reader" yX6_readLeaf yX6_readLeaf : Cond) ∈ TW := tw_of 32 (by decide +kernel) (by decide +kernel)
theorem tw_280 : (.fieldLink "PatternWorkshop$Reader" 72 "PatternWorkshop$Row" "count" "I" : Cond) ∈ TW := tw_in (tb_0 (List.mem_of_getElem? (i := 45) rfl)) (by decide +kernel)
theorem tw_320 : (.fieldLink "PatternWorkshop" 127 "PatternWorkshop$Tree" "count" "I" : Cond) ∈ TW := tw_in (tb_0 (List.mem_of_getElem? (i := 85) rfl)) (by decide +kernel)
theorem tw_391 : (.fieldLink "PatternWorkshop$Reader" 198 "PatternWorkshop$Group" "sort" "I" : Cond) ∈ TW := tw_in (tb_0 (List.mem_of_getElem? (i := 156) rfl)) (by decide +kernel)
theorem tw_393 : (.fieldLink "PatternWorkshop$Reader" 200 "PatternWorkshop$Group" "value" "I" : Cond) ∈ TW := tw_in (tb_0 (List.mem_of_getElem? (i := 158) rfl)) (by decide +kernel)
theorem tw_395 : (.fieldLink "PatternWorkshop$Reader" 202 "PatternWorkshop$Group" "name" "I" : Cond) ∈ TW := tw_in (tb_0 (List.mem_of_getElem? (i := 160) rfl)) (by decide +kernel)
theorem tw_399 : (.fieldLink "PatternWorkshop$Reader" 169 "PatternWorkshop$Group" "loopable" "Z" : Cond) ∈ TW := tw_in (tb_0 (List.mem_of_getElem? (i := 164) rfl)) (by decide +kernel)
theorem tw_436 : (.fieldLink "PatternWorkshop" 113 "PatternWorkshop$Reader" "fault" "I" : Cond) ∈ TW := tw_in (tb_0 (List.mem_of_getElem? (i := 201) rfl)) (by decide +kernel)
theorem tw_437 : (.fieldLink "PatternWorkshop" 112 "PatternWorkshop$Reader" "faultPlace" "I" : Cond) ∈ TW := tw_in (tb_0 (List.mem_of_getElem? (i := 202) rfl)) (by decide +kernel)
theorem tw_447 : (.fieldLink "PatternWorkshop$Reader" 85 "PatternWorkshop$Reader" "depth" "I" : Cond) ∈ TW := tw_in (tb_0 (List.mem_of_getElem? (i := 212) rfl)) (by decide +kernel)
theorem tw_872 : (.code yX11_pattern cX11_pattern 3 (some (.int)) : Cond) ∈ TW := tw_in (tb_2 (List.mem_of_getElem? (i := 157) rfl)) (by decide +kernel)
theorem tw_876 : (.methodLink "PatternWorkshop" 105 yX6_read : Cond) ∈ TW := tw_in (tb_2 (List.mem_of_getElem? (i := 161) rfl)) (by decide +kernel)
theorem tw_877 : (.instanceMethod yX6_read : Cond) ∈ TW := tw_in (tb_2 (List.mem_of_getElem? (i := 162) rfl)) (by decide +kernel)
theorem tw_878 : (.selects "PatternWorkshop$Reader" yX6_read yX6_read : Cond) ∈ TW := tw_in (tb_2 (List.mem_of_getElem? (i := 163) rfl)) (by decide +kernel)
theorem tw_879 : (.code yX6_read cX6_read 3 (some (.boolean)) : Cond) ∈ TW := tw_in (tb_2 (List.mem_of_getElem? (i := 164) rfl)) (by decide +kernel)
theorem tw_880 : (.methodLink "PatternWorkshop$Reader" 64 yX6_begin : Cond) ∈ TW := tw_in (tb_2 (List.mem_of_getElem? (i := 165) rfl)) (by decide +kernel)
theorem tw_882 : (.instanceMethod yX6_begin : Cond) ∈ TW := tw_in (tb_2 (List.mem_of_getElem? (i := 167) rfl)) (by decide +kernel)
theorem tw_883 : (.code yX6_begin cX6_begin 2 none : Cond) ∈ TW := tw_in (tb_2 (List.mem_of_getElem? (i := 168) rfl)) (by decide +kernel)
theorem tw_884 : (.methodLink "PatternWorkshop$Reader" 110 yX10_reset : Cond) ∈ TW := tw_in (tb_2 (List.mem_of_getElem? (i := 169) rfl)) (by decide +kernel)
theorem tw_885 : (.instanceMethod yX10_reset : Cond) ∈ TW := tw_in (tb_2 (List.mem_of_getElem? (i := 170) rfl)) (by decide +kernel)
theorem tw_886 : (.selects "PatternWorkshop$Tree" yX10_reset yX10_reset : Cond) ∈ TW := tw_in (tb_2 (List.mem_of_getElem? (i := 171) rfl)) (by decide +kernel)
theorem tw_888 : (.methodLink "PatternWorkshop$Reader" 120 yJ7_fill_53178 : Cond) ∈ TW := tw_in (tb_2 (List.mem_of_getElem? (i := 173) rfl)) (by decide +kernel)
theorem tw_891 : (.methodLink "PatternWorkshop$Reader" 91 yX6_openGroup : Cond) ∈ TW := tw_in (tb_2 (List.mem_of_getElem? (i := 176) rfl)) (by decide +kernel)
theorem tw_893 : (.instanceMethod yX6_openGroup : Cond) ∈ TW := tw_in (tb_2 (List.mem_of_getElem? (i := 178) rfl)) (by decide +kernel)
theorem tw_894 : (.code yX6_openGroup cX6_openGroup 1 (some (.object "PatternWorkshop$Group")) : Cond) ∈ TW := tw_in (tb_2 (List.mem_of_getElem? (i := 179) rfl)) (by decide +kernel)
theorem tw_895 : (.methodLink "PatternWorkshop$Reader" 126 yX2_begin : Cond) ∈ TW := tw_in (tb_2 (List.mem_of_getElem? (i := 180) rfl)) (by decide +kernel)
theorem tw_896 : (.instanceMethod yX2_begin : Cond) ∈ TW := tw_in (tb_2 (List.mem_of_getElem? (i := 181) rfl)) (by decide +kernel)
theorem tw_897 : (.selects "PatternWorkshop$Group" yX2_begin yX2_begin : Cond) ∈ TW := tw_in (tb_2 (List.mem_of_getElem? (i := 182) rfl)) (by decide +kernel)
theorem tw_911 : (.methodLink "PatternWorkshop$Reader" 82 yX6_readNext : Cond) ∈ TW := tw_in (tb_2 (List.mem_of_getElem? (i := 196) rfl)) (by decide +kernel)
theorem tw_913 : (.instanceMethod yX6_readNext : Cond) ∈ TW := tw_in (tb_2 (List.mem_of_getElem? (i := 198) rfl)) (by decide +kernel)
theorem tw_914 : (.code yX6_readNext cX6_readNext 2 none : Cond) ∈ TW := tw_in (tb_2 (List.mem_of_getElem? (i := 199) rfl)) (by decide +kernel)
theorem tw_915 : (.methodLink "PatternWorkshop$Reader" 95 yX6_closeRow : Cond) ∈ TW := tw_in (tb_2 (List.mem_of_getElem? (i := 200) rfl)) (by decide +kernel)
theorem tw_917 : (.instanceMethod yX6_closeRow : Cond) ∈ TW := tw_in (tb_2 (List.mem_of_getElem? (i := 202) rfl)) (by decide +kernel)
theorem tw_936 : (.methodLink "PatternWorkshop$Reader" 131 yX6_readGroup : Cond) ∈ TW := tw_in (tb_2 (List.mem_of_getElem? (i := 221) rfl)) (by decide +kernel)
theorem tw_938 : (.instanceMethod yX6_readGroup : Cond) ∈ TW := tw_in (tb_2 (List.mem_of_getElem? (i := 223) rfl)) (by decide +kernel)
theorem tw_939 : (.code yX6_readGroup cX6_readGroup 5 none : Cond) ∈ TW := tw_in (tb_2 (List.mem_of_getElem? (i := 224) rfl)) (by decide +kernel)
theorem tw_940 : (.methodLink "PatternWorkshop$Reader" 205 yX6_skipComment : Cond) ∈ TW := tw_in (tb_2 (List.mem_of_getElem? (i := 225) rfl)) (by decide +kernel)
theorem tw_942 : (.instanceMethod yX6_skipComment : Cond) ∈ TW := tw_in (tb_2 (List.mem_of_getElem? (i := 227) rfl)) (by decide +kernel)
theorem tw_943 : (.code yX6_skipComment cX6_skipComment 2 none : Cond) ∈ TW := tw_in (tb_2 (List.mem_of_getElem? (i := 228) rfl)) (by decide +kernel)
theorem tw_944 : (.methodLink "PatternWorkshop$Reader" 208 yX6_sortOfMark : Cond) ∈ TW := tw_in (tb_2 (List.mem_of_getElem? (i := 229) rfl)) (by decide +kernel)
theorem tw_945 : (.static yX6_sortOfMark : Cond) ∈ TW := tw_in (tb_2 (List.mem_of_getElem? (i := 230) rfl)) (by decide +kernel)
theorem tw_947 : (.methodLink "PatternWorkshop$Reader" 149 yX6_countItem : Cond) ∈ TW := tw_in (tb_2 (List.mem_of_getElem? (i := 232) rfl)) (by decide +kernel)
theorem tw_949 : (.instanceMethod yX6_countItem : Cond) ∈ TW := tw_in (tb_2 (List.mem_of_getElem? (i := 234) rfl)) (by decide +kernel)
theorem tw_951 : (.methodLink "PatternWorkshop$Reader" 214 yX6_readName : Cond) ∈ TW := tw_in (tb_2 (List.mem_of_getElem? (i := 236) rfl)) (by decide +kernel)
theorem tw_953 : (.instanceMethod yX6_readName : Cond) ∈ TW := tw_in (tb_2 (List.mem_of_getElem? (i := 238) rfl)) (by decide +kernel)
theorem tw_958 : (.methodLink "PatternWorkshop$Reader" 217 yX6_lookOfMark : Cond) ∈ TW := tw_in (tb_3 (List.mem_of_getElem? (i := 3) rfl)) (by decide +kernel)
theorem tw_959 : (.static yX6_lookOfMark : Cond) ∈ TW := tw_in (tb_3 (List.mem_of_getElem? (i := 4) rfl)) (by decide +kernel)
theorem tw_961 : (.methodLink "PatternWorkshop$Reader" 134 yX6_closeGroup : Cond) ∈ TW := tw_in (tb_3 (List.mem_of_getElem? (i := 6) rfl)) (by decide +kernel)
theorem tw_963 : (.instanceMethod yX6_closeGroup : Cond) ∈ TW := tw_in (tb_3 (List.mem_of_getElem? (i := 8) rfl)) (by decide +kernel)
theorem tw_964 : (.code yX6_closeGroup cX6_closeGroup 3 none : Cond) ∈ TW := tw_in (tb_3 (List.mem_of_getElem? (i := 9) rfl)) (by decide +kernel)
theorem tw_965 : (.methodLink "PatternWorkshop$Reader" 99 yX6_choiceOf : Cond) ∈ TW := tw_in (tb_3 (List.mem_of_getElem? (i := 10) rfl)) (by decide +kernel)
theorem tw_967 : (.instanceMethod yX6_choiceOf : Cond) ∈ TW := tw_in (tb_3 (List.mem_of_getElem? (i := 12) rfl)) (by decide +kernel)
theorem tw_969 : (.methodLink "PatternWorkshop$Reader" 160 yX6_addOne : Cond) ∈ TW := tw_in (tb_3 (List.mem_of_getElem? (i := 14) rfl)) (by decide +kernel)
theorem tw_971 : (.instanceMethod yX6_addOne : Cond) ∈ TW := tw_in (tb_3 (List.mem_of_getElem? (i := 16) rfl)) (by decide +kernel)
theorem tw_972 : (.code yX6_addOne cX6_addOne 3 none : Cond) ∈ TW := tw_in (tb_3 (List.mem_of_getElem? (i := 17) rfl)) (by decide +kernel)
theorem tw_973 : (.methodLink "PatternWorkshop$Reader" 137 yX6_readSet : Cond) ∈ TW := tw_in (tb_3 (List.mem_of_getElem? (i := 18) rfl)) (by decide +kernel)
theorem tw_975 : (.instanceMethod yX6_readSet : Cond) ∈ TW := tw_in (tb_3 (List.mem_of_getElem? (i := 20) rfl)) (by decide +kernel)
theorem tw_976 : (.code yX6_readSet cX6_readSet 3 none : Cond) ∈ TW := tw_in (tb_3 (List.mem_of_getElem? (i := 21) rfl)) (by decide +kernel)
theorem tw_977 : (.methodLink "PatternWorkshop$Reader" 267 yX6_readPart : Cond) ∈ TW := tw_in (tb_3 (List.mem_of_getElem? (i := 22) rfl)) (by decide +kernel)
theorem tw_979 : (.instanceMethod yX6_readPart : Cond) ∈ TW := tw_in (tb_3 (List.mem_of_getElem? (i := 24) rfl)) (by decide +kernel)
theorem tw_1000 : (.methodLink "PatternWorkshop$Reader" 254 yX6_makeSet : Cond) ∈ TW := tw_in (tb_3 (List.mem_of_getElem? (i := 45) rfl)) (by decide +kernel)
theorem tw_1002 : (.instanceMethod yX6_makeSet : Cond) ∈ TW := tw_in (tb_3 (List.mem_of_getElem? (i := 47) rfl)) (by decide +kernel)
theorem tw_1013 : (.methodLink "PatternWorkshop$Reader" 140 yX6_readEscape : Cond) ∈ TW := tw_in (tb_3 (List.mem_of_getElem? (i := 58) rfl)) (by decide +kernel)
theorem tw_1015 : (.instanceMethod yX6_readEscape : Cond) ∈ TW := tw_in (tb_3 (List.mem_of_getElem? (i := 60) rfl)) (by decide +kernel)
theorem tw_1016 : (.code yX6_readEscape cX6_readEscape 2 none : Cond) ∈ TW := tw_in (tb_3 (List.mem_of_getElem? (i := 61) rfl)) (by decide +kernel)
theorem tw_1017 : (.methodLink "PatternWorkshop$Reader" 153 yX6_addLeaf : Cond) ∈ TW := tw_in (tb_3 (List.mem_of_getElem? (i := 62) rfl)) (by decide +kernel)
theorem tw_1019 : (.instanceMethod yX6_addLeaf : Cond) ∈ TW := tw_in (tb_3 (List.mem_of_getElem? (i := 64) rfl)) (by decide +kernel)
theorem tw_1020 : (.code yX6_addLeaf cX6_addLeaf 3 none : Cond) ∈ TW := tw_in (tb_3 (List.mem_of_getElem? (i := 65) rfl)) (by decide +kernel)
theorem tw_1021 : (.methodLink "PatternWorkshop$Reader" 233 yX6_readDigits : Cond) ∈ TW := tw_in (tb_3 (List.mem_of_getElem? (i := 66) rfl)) (by decide +kernel)
theorem tw_1023 : (.instanceMethod yX6_readDigits : Cond) ∈ TW := tw_in (tb_3 (List.mem_of_getElem? (i := 68) rfl)) (by decide +kernel)
theorem tw_1024 : (.code yX6_readDigits cX6_readDigits 1 none : Cond) ∈ TW := tw_in (tb_3 (List.mem_of_getElem? (i := 69) rfl)) (by decide +kernel)
theorem tw_1025 : (.methodLink "PatternWorkshop$Reader" 236 yX6_readWordSigns : Cond) ∈ TW := tw_in (tb_3 (List.mem_of_getElem? (i := 70) rfl)) (by decide +kernel)
theorem tw_1027 : (.instanceMethod yX6_readWordSigns : Cond) ∈ TW := tw_in (tb_3 (List.mem_of_getElem? (i := 72) rfl)) (by decide +kernel)
theorem tw_1028 : (.code yX6_readWordSigns cX6_readWordSigns 1 none : Cond) ∈ TW := tw_in (tb_3 (List.mem_of_getElem? (i := 73) rfl)) (by decide +kernel)
theorem tw_1029 : (.methodLink "PatternWorkshop$Reader" 239 yX6_readCode : Cond) ∈ TW := tw_in (tb_3 (List.mem_of_getElem? (i := 74) rfl)) (by decide +kernel)
theorem tw_1031 : (.instanceMethod yX6_readCode : Cond) ∈ TW := tw_in (tb_3 (List.mem_of_getElem? (i := 76) rfl)) (by decide +kernel)
theorem tw_1032 : (.code yX6_readCode cX6_readCode 2 none : Cond) ∈ TW := tw_in (tb_3 (List.mem_of_getElem? (i := 77) rfl)) (by decide +kernel)
theorem tw_1033 : (.methodLink "PatternWorkshop$Reader" 242 yX6_readBackByName : Cond) ∈ TW := tw_in (tb_3 (List.mem_of_getElem? (i := 78) rfl)) (by decide +kernel)
theorem tw_1035 : (.instanceMethod yX6_readBackByName : Cond) ∈ TW := tw_in (tb_3 (List.mem_of_getElem? (i := 80) rfl)) (by decide +kernel)
theorem tw_1036 : (.code yX6_readBackByName cX6_readBackByName 2 none : Cond) ∈ TW := tw_in (tb_3 (List.mem_of_getElem? (i := 81) rfl)) (by decide +kernel)
theorem tw_1037 : (.methodLink "PatternWorkshop$Reader" 245 yX6_readOtherEscape : Cond) ∈ TW := tw_in (tb_3 (List.mem_of_getElem? (i := 82) rfl)) (by decide +kernel)
theorem tw_1039 : (.instanceMethod yX6_readOtherEscape : Cond) ∈ TW := tw_in (tb_3 (List.mem_of_getElem? (i := 84) rfl)) (by decide +kernel)
theorem tw_1040 : (.code yX6_readOtherEscape cX6_readOtherEscape 2 none : Cond) ∈ TW := tw_in (tb_3 (List.mem_of_getElem? (i := 85) rfl)) (by decide +kernel)
theorem tw_1041 : (.methodLink "PatternWorkshop$Reader" 143 yX6_readLoop : Cond) ∈ TW := tw_in (tb_3 (List.mem_of_getElem? (i := 86) rfl)) (by decide +kernel)
theorem tw_1043 : (.instanceMethod yX6_readLoop : Cond) ∈ TW := tw_in (tb_3 (List.mem_of_getElem? (i := 88) rfl)) (by decide +kernel)
theorem tw_1044 : (.code yX6_readLoop cX6_readLoop 6 none : Cond) ∈ TW := tw_in (tb_3 (List.mem_of_getElem? (i := 89) rfl)) (by decide +kernel)
theorem tw_1049 : (.methodLink "PatternWorkshop$Reader" 227 yX6_readMost : Cond) ∈ TW := tw_in (tb_3 (List.mem_of_getElem? (i := 94) rfl)) (by decide +kernel)
theorem tw_1051 : (.instanceMethod yX6_readMost : Cond) ∈ TW := tw_in (tb_3 (List.mem_of_getElem? (i := 96) rfl)) (by decide +kernel)
theorem tw_1053 : (.methodLink "PatternWorkshop$Reader" 146 yX6_readLeaf : Cond) ∈ TW := tw_in (tb_3 (List.mem_of_getElem? (i := 98) rfl)) (by decide +kernel)
theorem tw_1055 : (.instanceMethod yX6_readLeaf : Cond) ∈ TW := tw_in (tb_3 (List.mem_of_getElem? (i := 100) rfl)) (by decide +kernel)
theorem tw_1056 : (.code yX6_readLeaf cX6_readLeaf 3 none : Cond) ∈ TW := tw_in (tb_3 (List.mem_of_getElem? (i := 101) rfl)) (by decide +kernel)
theorem tw_1077 : (.methodLink "PatternWorkshop$Reader" 107 yX10_measure : Cond) ∈ TW := tw_in (tb_3 (List.mem_of_getElem? (i := 122) rfl)) (by decide +kernel)
theorem tw_1078 : (.instanceMethod yX10_measure : Cond) ∈ TW := tw_in (tb_3 (List.mem_of_getElem? (i := 123) rfl)) (by decide +kernel)
theorem tw_1079 : (.selects "PatternWorkshop$Tree" yX10_measure yX10_measure : Cond) ∈ TW := tw_in (tb_3 (List.mem_of_getElem? (i := 124) rfl)) (by decide +kernel)
theorem tw_1128 : (.methodLink "PatternWorkshop" 116 yX6_exchange : Cond) ∈ TW := tw_in (tb_3 (List.mem_of_getElem? (i := 173) rfl)) (by decide +kernel)
theorem tw_1129 : (.instanceMethod yX6_exchange : Cond) ∈ TW := tw_in (tb_3 (List.mem_of_getElem? (i := 174) rfl)) (by decide +kernel)
theorem tw_1130 : (.selects "PatternWorkshop$Reader" yX6_exchange yX6_exchange : Cond) ∈ TW := tw_in (tb_3 (List.mem_of_getElem? (i := 175) rfl)) (by decide +kernel)
theorem tw_1131 : (.code yX6_exchange cX6_exchange 3 (some (.object "PatternWorkshop$Tree")) : Cond) ∈ TW := tw_in (tb_3 (List.mem_of_getElem? (i := 176) rfl)) (by decide +kernel)
theorem gw_X11_pattern : GoodIn TW (WS yX11_pattern cX11_pattern 3 (some (.int))) := goodC tw_872
theorem gw_X6_addLeaf : GoodIn TW (WS yX6_addLeaf cX6_addLeaf 3 none) := goodC tw_1020
theorem gw_X6_addOne : GoodIn TW (WS yX6_addOne cX6_addOne 3 none) := goodC tw_972
theorem gw_X6_begin : GoodIn TW (WS yX6_begin cX6_begin 2 none) := goodC tw_883
theorem gw_X6_closeGroup : GoodIn TW (WS yX6_closeGroup cX6_closeGroup 3 none) := goodC tw_964
theorem gw_X6_exchange : GoodIn TW (WS yX6_exchange cX6_exchange 3 (some (.object "PatternWorkshop$Tree"))) := goodC tw_1131
theorem gw_X6_openGroup : GoodIn TW (WS yX6_openGroup cX6_openGroup 1 (some (.object "PatternWorkshop$Group"))) := goodC tw_894
theorem gw_X6_read : GoodIn TW (WS yX6_read cX6_read 3 (some (.boolean))) := goodC tw_879
theorem gw_X6_readBackByName : GoodIn TW (WS yX6_readBackByName cX6_readBackByName 2 none) := goodC tw_1036
theorem gw_X6_readCode : GoodIn TW (WS yX6_readCode cX6_readCode 2 none) := goodC tw_1032
theorem gw_X6_readDigits : GoodIn TW (WS yX6_readDigits cX6_readDigits 1 none) := goodC tw_1024
theorem gw_X6_readEscape : GoodIn TW (WS yX6_readEscape cX6_readEscape 2 none) := goodC tw_1016
theorem gw_X6_readGroup : GoodIn TW (WS yX6_readGroup cX6_readGroup 5 none) := goodC tw_939
theorem gw_X6_readLeaf : GoodIn TW (WS yX6_readLeaf cX6_readLeaf 3 none) := goodC tw_1056
theorem gw_X6_readLoop : GoodIn TW (WS yX6_readLoop cX6_readLoop 6 none) := goodC tw_1044
theorem gw_X6_readNext : GoodIn TW (WS yX6_readNext cX6_readNext 2 none) := goodC tw_914
theorem gw_X6_readOtherEscape : GoodIn TW (WS yX6_readOtherEscape cX6_readOtherEscape 2 none) := goodC tw_1040
theorem gw_X6_readSet : GoodIn TW (WS yX6_readSet cX6_readSet 3 none) := goodC tw_976
theorem gw_X6_readWordSigns : GoodIn TW (WS yX6_readWordSigns cX6_readWordSigns 1 none) := goodC tw_1028
theorem gw_X6_skipComment : GoodIn TW (WS yX6_skipComment cX6_skipComment 2 none) := goodC tw_943
