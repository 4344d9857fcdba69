abbrev oX0 (z0 : Int32) (z1 : Value) : List Value := [.int z0, z1]
abbrev oX1 (z0 : Int32) (z1 : Value) (z2 : Value) (z3 : Bool) (z4 : Int32) (z5 : Int32) (z6 : Int32) (z7 : Int32) (z8 : Int32) (z9 : Int32) (z10 : Value) (z11 : Value) (z12 : Value) (z13 : Value) (z14 : Value) (z15 : Value) (z16 : Int32) (z17 : Value) (z18 : Int32) : List Value := [.int z0, z1, z2, .int (bz z3), .int z4, .int z5, .int z6, .int z7, .int z8, .int z9, z10, z11, z12, z13, z14, z15, .int z16, z17, .int z18]
abbrev oX10 (z0 : Bool) (z1 : Int32) (z2 : Int32) (z3 : Int32) (z4 : Value) (z5 : Value) (z6 : Value) (z7 : Value) (z8 : Value) (z9 : Value) (z10 : Value) (z11 : Value) (z12 : Value) (z13 : Value) (z14 : Value) (z15 : Value) (z16 : Value) (z17 : Value) (z18 : Value) (z19 : Value) : List Value := [.int (bz z0), .int z1, .int z2, .int z3, z4, z5, z6, z7, z8, z9, z10, z11, z12, z13, z14, z15, z16, z17, z18, z19]
abbrev oX2 (z0 : Int32) (z1 : Int32) (z2 : Int32) (z3 : Int32) (z4 : Bool) (z5 : Int32) (z6 : Int32) (z7 : Int32) (z8 : Int32) (z9 : Int32) (z10 : Int32) : List Value := [.int z0, .int z1, .int z2, .int z3, .int (bz z4), .int z5, .int z6, .int z7, .int z8, .int z9, .int z10]
abbrev oX3 (z0 : Value) (z1 : Value) (z2 : Int32) (z3 : Value) (z4 : Value) (z5 : Value) (z6 : Int32) (z7 : Value) (z8 : Value) (z9 : Int32) (z10 : Value) (z11 : Value) (z12 : Int32) (z13 : Value) (z14 : Value) (z15 : Value) (z16 : Int32) : List Value := [z0, z1, .int z2, z3, z4, z5, .int z6, z7, z8, .int z9, z10, z11, .int z12, z13, z14, z15, .int z16]
abbrev oX4 (z0 : Value) (z1 : Int32) : List Value := [z0, .int z1]
abbrev oX5 (z0 : Int32) (z1 : Int32) (z2 : Value) (z3 : Value) (z4 : Value) (z5 : Value) (z6 : Value) : List Value := [.int z0, .int z1, z2, z3, z4, z5, z6]
abbrev oX6 (z0 : Int32) (z1 : Int32) (z2 : Value) (z3 : Value) (z4 : Value) (z5 : Value) (z6 : Value) (z7 : Value) (z8 : Int32) (z9 : Value) (z10 : Int32) (z11 : Value) (z12 : Value) (z13 : Int32) (z14 : Int32) (z15 : Value) (z16 : Value) (z17 : Value) (z18 : Int32) : List Value := [.int z0, .int z1, z2, z3, z4, z5, z6, z7, .int z8, z9, .int z10, z11, z12, .int z13, .int z14, z15, z16, z17, .int z18]
abbrev oX7 (z0 : Value) (z1 : Int32) (z2 : Bool) (z3 : Bool) : List Value := [z0, .int z1, .int (bz z2), .int (bz z3)]
abbrev oX8 (z0 : Value) (z1 : Value) (z2 : Value) (z3 : Bool) (z4 : Bool) (z5 : Value) (z6 : Int32) (z7 : Value) (z8 : Value) (z9 : Value) (z10 : Int32) (z11 : Int32) : List Value := [z0, z1, z2, .int (bz z3), .int (bz z4), z5, .int z6, z7, z8, z9, .int z10, .int z11]
abbrev oX9 (z0 : Int32) (z1 : Value) (z2 : Int32) (z3 : Value) (z4 : Value) (z5 : Value) (z6 : Value) (z7 : Value) (z8 : Int32) (z9 : Value) (z10 : Int32) (z11 : Int32) (z12 : Value) (z13 : Value) (z14 : Value) (z15 : Value) (z16 : Value) (z17 : Value) : List Value := [.int z0, z1, .int z2, z3, z4, z5, z6, z7, .int z8, z9, .int z10, .int z11, z12, z13, z14, z15, z16, z17]
abbrev cJ7_fill_53178 : ByteArray := prog_25_method_103_code
def yJ7_fill_53178 : MethodName := ⟨RJ7, "fill", "([II)V"⟩
abbrev cX0_addBegin : ByteArray := prog_2_method_8_code
def yX0_addBegin : MethodName := ⟨RX0, "addBegin", "(I)V"⟩
abbrev cX0_addParts : ByteArray := prog_2_method_6_code
def yX0_addParts : MethodName := ⟨RX0, "addParts", "(LPatternWorkshop$Tree;I)V"⟩
abbrev cX0_addRange : ByteArray := prog_2_method_7_code
def yX0_addRange : MethodName := ⟨RX0, "addRange", "(IIZ)V"⟩
abbrev cX0_addTree : ByteArray := prog_2_method_5_code
def yX0_addTree : MethodName := ⟨RX0, "addTree", "(LPatternWorkshop$Tree;)V"⟩
abbrev cX0_classOf : ByteArray := prog_2_method_4_code
def yX0_classOf : MethodName := ⟨RX0, "classOf", "(I)I"⟩
abbrev cX0_gather : ByteArray := prog_2_method_2_code
def yX0_gather : MethodName := ⟨RX0, "gather", "(LPatternWorkshop$Tree;LPatternWorkshop$Tree;)V"⟩
abbrev cX0_leastOf : ByteArray := prog_2_method_3_code
def yX0_leastOf : MethodName := ⟨RX0, "leastOf", "(I)I"⟩
abbrev cX10_add : ByteArray := prog_12_method_18_code
def yX10_add : MethodName := ⟨RX10, "add", "(IIIII)I"⟩
abbrev cX10_addRange : ByteArray := prog_12_method_20_code
def yX10_addRange : MethodName := ⟨RX10, "addRange", "(II)V"⟩
abbrev cX10_beforeOf : ByteArray := prog_12_method_10_code
def yX10_beforeOf : MethodName := ⟨RX10, "beforeOf", "(I)I"⟩
abbrev cX10_beginsWith : ByteArray := prog_12_method_37_code
def yX10_beginsWith : MethodName := ⟨RX10, "beginsWith", "(II)Z"⟩
abbrev cX10_captureNamed : ByteArray := prog_12_method_30_code
def yX10_captureNamed : MethodName := ⟨RX10, "captureNamed", "(I)I"⟩
abbrev cX10_close : ByteArray := prog_12_method_19_code
def yX10_close : MethodName := ⟨RX10, "close", "(I)V"⟩
abbrev cX10_copies : ByteArray := prog_12_method_27_code
def yX10_copies : MethodName := ⟨RX10, "copies", "(I)I"⟩
abbrev cX10_deadRow : ByteArray := prog_12_method_42_code
def yX10_deadRow : MethodName := ⟨RX10, "deadRow", "(I)I"⟩
abbrev cX10_endOf : ByteArray := prog_12_method_11_code
def yX10_endOf : MethodName := ⟨RX10, "endOf", "(I)I"⟩
abbrev cX10_firstOf : ByteArray := prog_12_method_12_code
def yX10_firstOf : MethodName := ⟨RX10, "firstOf", "(I)I"⟩
abbrev cX10_firstRisky : ByteArray := prog_12_method_40_code
def yX10_firstRisky : MethodName := ⟨RX10, "firstRisky", "(LPatternWorkshop$Alphabet;)I"⟩
abbrev cX10_has : ByteArray := prog_12_method_3_code
def yX10_has : MethodName := ⟨RX10, "has", "(I)Z"⟩
abbrev cX10_hasInParts : ByteArray := prog_12_method_35_code
def yX10_hasInParts : MethodName := ⟨RX10, "hasInParts", "(II)Z"⟩
abbrev cX10_highOf : ByteArray := prog_12_method_8_code
def yX10_highOf : MethodName := ⟨RX10, "highOf", "(I)I"⟩
abbrev cX10_holderOf : ByteArray := prog_12_method_5_code
def yX10_holderOf : MethodName := ⟨RX10, "holderOf", "(I)I"⟩
abbrev cX10_isEndless : ByteArray := prog_12_method_17_code
def yX10_isEndless : MethodName := ⟨RX10, "isEndless", "(I)Z"⟩
abbrev cX10_isMarked : ByteArray := prog_12_method_16_code
def yX10_isMarked : MethodName := ⟨RX10, "isMarked", "(I)Z"⟩
abbrev cX10_isParallel : ByteArray := prog_12_method_32_code
def yX10_isParallel : MethodName := ⟨RX10, "isParallel", "(I)Z"⟩
abbrev cX10_isSaidAhead : ByteArray := prog_12_method_43_code
def yX10_isSaidAhead : MethodName := ⟨RX10, "isSaidAhead", "(I)Z"⟩
abbrev cX10_isTakenBy : ByteArray := prog_12_method_31_code
def yX10_isTakenBy : MethodName := ⟨RX10, "isTakenBy", "(I)Z"⟩
abbrev cX10_isTooLargeFor : ByteArray := prog_12_method_33_code
def yX10_isTooLargeFor : MethodName := ⟨RX10, "isTooLargeFor", "(I)Z"⟩
abbrev cX10_isWithinCase : ByteArray := prog_12_method_15_code
def yX10_isWithinCase : MethodName := ⟨RX10, "isWithinCase", "(I)Z"⟩
abbrev cX10_lastOf : ByteArray := prog_12_method_9_code
def yX10_lastOf : MethodName := ⟨RX10, "lastOf", "(I)I"⟩
abbrev cX10_lowOf : ByteArray := prog_12_method_7_code
def yX10_lowOf : MethodName := ⟨RX10, "lowOf", "(I)I"⟩
abbrev cX10_markBeginning : ByteArray := prog_12_method_36_code
def yX10_markBeginning : MethodName := ⟨RX10, "markBeginning", "(I)V"⟩
abbrev cX10_maybeEmpty : ByteArray := prog_12_method_26_code
def yX10_maybeEmpty : MethodName := ⟨RX10, "maybeEmpty", "(IZZ)Z"⟩
abbrev cX10_measure : ByteArray := prog_12_method_24_code
def yX10_measure : MethodName := ⟨RX10, "measure", "()V"⟩
abbrev cX10_measureNode : ByteArray := prog_12_method_25_code
def yX10_measureNode : MethodName := ⟨RX10, "measureNode", "(I)V"⟩
abbrev cX10_nextOf : ByteArray := prog_12_method_13_code
def yX10_nextOf : MethodName := ⟨RX10, "nextOf", "(I)I"⟩
abbrev cX10_nodeAlike : ByteArray := prog_12_method_45_code
def yX10_nodeAlike : MethodName := ⟨RX10, "nodeAlike", "(II)Z"⟩
abbrev cX10_outermostEndless : ByteArray := prog_12_method_41_code
def yX10_outermostEndless : MethodName := ⟨RX10, "outermostEndless", "(I)I"⟩
abbrev cX10_partBegin : ByteArray := prog_12_method_22_code
def yX10_partBegin : MethodName := ⟨RX10, "partBegin", "(II)I"⟩
abbrev cX10_partEnd : ByteArray := prog_12_method_23_code
def yX10_partEnd : MethodName := ⟨RX10, "partEnd", "(II)I"⟩
abbrev cX10_partsOf : ByteArray := prog_12_method_14_code
def yX10_partsOf : MethodName := ⟨RX10, "partsOf", "(I)I"⟩
abbrev cX10_printAlike : ByteArray := prog_12_method_44_code
def yX10_printAlike : MethodName := ⟨RX10, "printAlike", "(II)Z"⟩
abbrev cX10_rangeCount : ByteArray := prog_12_method_21_code
def yX10_rangeCount : MethodName := ⟨RX10, "rangeCount", "()I"⟩
abbrev cX10_reset : ByteArray := prog_12_method_2_code
def yX10_reset : MethodName := ⟨RX10, "reset", "()V"⟩
abbrev cX10_rowBegins : ByteArray := prog_12_method_38_code
def yX10_rowBegins : MethodName := ⟨RX10, "rowBegins", "(I)Z"⟩
abbrev cX10_sameParts : ByteArray := prog_12_method_46_code
def yX10_sameParts : MethodName := ⟨RX10, "sameParts", "(II)Z"⟩
abbrev cX10_somePartIsMarked : ByteArray := prog_12_method_39_code
def yX10_somePartIsMarked : MethodName := ⟨RX10, "somePartIsMarked", "(I)Z"⟩
abbrev cX10_sortOf : ByteArray := prog_12_method_4_code
def yX10_sortOf : MethodName := ⟨RX10, "sortOf", "(I)I"⟩
abbrev cX10_takes : ByteArray := prog_12_method_34_code
def yX10_takes : MethodName := ⟨RX10, "takes", "(II)Z"⟩
abbrev cX10_takesOneSign : ByteArray := prog_12_method_28_code
def yX10_takesOneSign : MethodName := ⟨RX10, "takesOneSign", "(I)Z"⟩
abbrev cX10_tellOfAll : ByteArray := prog_12_method_29_code
def yX10_tellOfAll : MethodName := ⟨RX10, "tellOfAll", "(II)I"⟩
abbrev cX10_valueOf : ByteArray := prog_12_method_6_code
def yX10_valueOf : MethodName := ⟨RX10, "valueOf", "(I)I"⟩
abbrev cX11_edgeHolds : ByteArray := prog_1_method_45_code
def yX11_edgeHolds : MethodName := ⟨RX11, "edgeHolds", "(ILPatternWorkshop$Row;I)Z"⟩
abbrev cX11_isDigit : ByteArray := prog_1_method_40_code
def yX11_isDigit : MethodName := ⟨RX11, "isDigit", "(I)Z"⟩
abbrev cX11_isLetter : ByteArray := prog_1_method_39_code
def yX11_isLetter : MethodName := ⟨RX11, "isLetter", "(I)Z"⟩
abbrev cX11_isPlain : ByteArray := prog_1_method_42_code
def yX11_isPlain : MethodName := ⟨RX11, "isPlain", "(I)Z"⟩
abbrev cX11_isSmall : ByteArray := prog_1_method_38_code
def yX11_isSmall : MethodName := ⟨RX11, "isSmall", "(I)Z"⟩
abbrev cX11_isTapeSign : ByteArray := prog_1_method_37_code
def yX11_isTapeSign : MethodName := ⟨RX11, "isTapeSign", "(I)Z"⟩
abbrev cX11_isWordSign : ByteArray := prog_1_method_41_code
def yX11_isWordSign : MethodName := ⟨RX11, "isWordSign", "(I)Z"⟩
abbrev cX11_otherCase : ByteArray := prog_1_method_43_code
def yX11_otherCase : MethodName := ⟨RX11, "otherCase", "(I)I"⟩
abbrev cX1_askBack : ByteArray := prog_3_method_11_code
def yX1_askBack : MethodName := ⟨RX1, "askBack", "()V"⟩
abbrev cX1_askEdge : ByteArray := prog_3_method_10_code
def yX1_askEdge : MethodName := ⟨RX1, "askEdge", "()V"⟩
abbrev cX1_askSign : ByteArray := prog_3_method_9_code
def yX1_askSign : MethodName := ⟨RX1, "askSign", "()V"⟩
abbrev cX1_begin : ByteArray := prog_3_method_2_code
def yX1_begin : MethodName := ⟨RX1, "begin", "(LPatternWorkshop$Tree;LPatternWorkshop$Row;IZ)V"⟩
abbrev cX1_captureBegin : ByteArray := prog_3_method_35_code
def yX1_captureBegin : MethodName := ⟨RX1, "captureBegin", "(I)I"⟩
abbrev cX1_captureEnd : ByteArray := prog_3_method_36_code
def yX1_captureEnd : MethodName := ⟨RX1, "captureEnd", "(I)I"⟩
abbrev cX1_cell : ByteArray := prog_3_method_32_code
def yX1_cell : MethodName := ⟨RX1, "cell", "(I)I"⟩
abbrev cX1_cutToBase : ByteArray := prog_3_method_19_code
def yX1_cutToBase : MethodName := ⟨RX1, "cutToBase", "()V"⟩
abbrev cX1_endLoop : ByteArray := prog_3_method_17_code
def yX1_endLoop : MethodName := ⟨RX1, "endLoop", "()V"⟩
abbrev cX1_endTurn : ByteArray := prog_3_method_16_code
def yX1_endTurn : MethodName := ⟨RX1, "endTurn", "()V"⟩
abbrev cX1_enterPart : ByteArray := prog_3_method_8_code
def yX1_enterPart : MethodName := ⟨RX1, "enterPart", "()V"⟩
abbrev cX1_entryOf : ByteArray := prog_3_method_20_code
def yX1_entryOf : MethodName := ⟨RX1, "entryOf", "(I)I"⟩
abbrev cX1_finish : ByteArray := prog_3_method_28_code
def yX1_finish : MethodName := ⟨RX1, "finish", "()V"⟩
abbrev cX1_leaveLook : ByteArray := prog_3_method_27_code
def yX1_leaveLook : MethodName := ⟨RX1, "leaveLook", "()V"⟩
abbrev cX1_leavePartOfRow : ByteArray := prog_3_method_26_code
def yX1_leavePartOfRow : MethodName := ⟨RX1, "leavePartOfRow", "(I)V"⟩
abbrev cX1_lookAgain : ByteArray := prog_3_method_24_code
def yX1_lookAgain : MethodName := ⟨RX1, "lookAgain", "()V"⟩
abbrev cX1_looksBehind : ByteArray := prog_3_method_21_code
def yX1_looksBehind : MethodName := ⟨RX1, "looksBehind", "()Z"⟩
abbrev cX1_markBase : ByteArray := prog_3_method_18_code
def yX1_markBase : MethodName := ⟨RX1, "markBase", "()V"⟩
abbrev cX1_startAt : ByteArray := prog_3_method_3_code
def yX1_startAt : MethodName := ⟨RX1, "startAt", "(I)V"⟩
abbrev cX1_startFurther : ByteArray := prog_3_method_30_code
def yX1_startFurther : MethodName := ⟨RX1, "startFurther", "()V"⟩
abbrev cX1_step : ByteArray := prog_3_method_6_code
def yX1_step : MethodName := ⟨RX1, "step", "()Z"⟩
abbrev cX1_tell : ByteArray := prog_3_method_5_code
def yX1_tell : MethodName := ⟨RX1, "tell", "(LPatternWorkshop$Row;)V"⟩
abbrev cX1_undo : ByteArray := prog_3_method_34_code
def yX1_undo : MethodName := ⟨RX1, "undo", "(I)V"⟩
abbrev cX2_begin : ByteArray := prog_4_method_2_code
def yX2_begin : MethodName := ⟨RX2, "begin", "(III)V"⟩
abbrev cX2_beginRow : ByteArray := prog_4_method_3_code
def yX2_beginRow : MethodName := ⟨RX2, "beginRow", "()V"⟩
abbrev cX3_cellAt : ByteArray := prog_5_method_11_code
def yX3_cellAt : MethodName := ⟨RX3, "cellAt", "(I)I"⟩
abbrev cX3_exchangeLists : ByteArray := prog_5_method_4_code
def yX3_exchangeLists : MethodName := ⟨RX3, "exchangeLists", "()V"⟩
abbrev cX3_goAlong : ByteArray := prog_5_method_5_code
def yX3_goAlong : MethodName := ⟨RX3, "goAlong", "(IZLPatternWorkshop$Row;)Z"⟩
abbrev cX3_isNew : ByteArray := prog_5_method_8_code
def yX3_isNew : MethodName := ⟨RX3, "isNew", "(I)Z"⟩
abbrev cX3_markEdges : ByteArray := prog_5_method_3_code
def yX3_markEdges : MethodName := ⟨RX3, "markEdges", "(I)V"⟩
abbrev cX3_push : ByteArray := prog_5_method_10_code
def yX3_push : MethodName := ⟨RX3, "push", "(II)V"⟩
abbrev cX3_run : ByteArray := prog_5_method_2_code
def yX3_run : MethodName := ⟨RX3, "run", "(LPatternWorkshop$Tree;LPatternWorkshop$Row;IZLPatternWorkshop$Row;)Z"⟩
abbrev cX3_setCell : ByteArray := prog_5_method_12_code
def yX3_setCell : MethodName := ⟨RX3, "setCell", "(II)V"⟩
abbrev cX3_spread : ByteArray := prog_5_method_7_code
def yX3_spread : MethodName := ⟨RX3, "spread", "(III)V"⟩
abbrev cX3_spreadOne : ByteArray := prog_5_method_9_code
def yX3_spreadOne : MethodName := ⟨RX3, "spreadOne", "(III)V"⟩
abbrev cX3_stopAt : ByteArray := prog_5_method_13_code
def yX3_stopAt : MethodName := ⟨RX3, "stopAt", "(I)V"⟩
abbrev cX3_tell : ByteArray := prog_5_method_6_code
def yX3_tell : MethodName := ⟨RX3, "tell", "(LPatternWorkshop$Row;)V"⟩
abbrev cX4_isGrouped : ByteArray := prog_6_method_4_code
def yX4_isGrouped : MethodName := ⟨RX4, "isGrouped", "(III)Z"⟩
abbrev cX4_isMark : ByteArray := prog_6_method_7_code
def yX4_isMark : MethodName := ⟨RX4, "isMark", "(I)Z"⟩
abbrev cX4_markOfLook : ByteArray := prog_6_method_13_code
def yX4_markOfLook : MethodName := ⟨RX4, "markOfLook", "(I)I"⟩
abbrev cX4_write : ByteArray := prog_6_method_2_code
def yX4_write : MethodName := ⟨RX4, "write", "(LPatternWorkshop$Tree;LPatternWorkshop$Row;)V"⟩
abbrev cX4_writeClosing : ByteArray := prog_6_method_14_code
def yX4_writeClosing : MethodName := ⟨RX4, "writeClosing", "(LPatternWorkshop$Tree;I)V"⟩
abbrev cX4_writeCode : ByteArray := prog_6_method_8_code
def yX4_writeCode : MethodName := ⟨RX4, "writeCode", "(I)V"⟩
abbrev cX4_writeEdge : ByteArray := prog_6_method_9_code
def yX4_writeEdge : MethodName := ⟨RX4, "writeEdge", "(I)V"⟩
abbrev cX4_writeLeaf : ByteArray := prog_6_method_5_code
def yX4_writeLeaf : MethodName := ⟨RX4, "writeLeaf", "(LPatternWorkshop$Tree;I)V"⟩
abbrev cX4_writeLoop : ByteArray := prog_6_method_15_code
def yX4_writeLoop : MethodName := ⟨RX4, "writeLoop", "(II)V"⟩
abbrev cX4_writeMember : ByteArray := prog_6_method_11_code
def yX4_writeMember : MethodName := ⟨RX4, "writeMember", "(I)V"⟩
abbrev cX4_writeNode : ByteArray := prog_6_method_3_code
def yX4_writeNode : MethodName := ⟨RX4, "writeNode", "(LPatternWorkshop$Tree;II)V"⟩
abbrev cX4_writeNumber : ByteArray := prog_6_method_16_code
def yX4_writeNumber : MethodName := ⟨RX4, "writeNumber", "(I)V"⟩
abbrev cX4_writeOpening : ByteArray := prog_6_method_12_code
def yX4_writeOpening : MethodName := ⟨RX4, "writeOpening", "(LPatternWorkshop$Tree;I)V"⟩
abbrev cX4_writeSet : ByteArray := prog_6_method_10_code
def yX4_writeSet : MethodName := ⟨RX4, "writeSet", "(LPatternWorkshop$Tree;I)V"⟩
abbrev cX4_writeSign : ByteArray := prog_6_method_6_code
def yX4_writeSign : MethodName := ⟨RX4, "writeSign", "(I)V"⟩
abbrev cX5_add : ByteArray := prog_7_method_9_code
def yX5_add : MethodName := ⟨RX5, "add", "(IIII)I"⟩
abbrev cX5_aim : ByteArray := prog_7_method_14_code
def yX5_aim : MethodName := ⟨RX5, "aim", "(IIIZ)V"⟩
abbrev cX5_build : ByteArray := prog_7_method_10_code
def yX5_build : MethodName := ⟨RX5, "build", "(IIII)I"⟩
abbrev cX5_buildChoice : ByteArray := prog_7_method_12_code
def yX5_buildChoice : MethodName := ⟨RX5, "buildChoice", "(IIII)I"⟩
abbrev cX5_buildLoop : ByteArray := prog_7_method_13_code
def yX5_buildLoop : MethodName := ⟨RX5, "buildLoop", "(IIII)I"⟩
abbrev cX5_buildRow : ByteArray := prog_7_method_11_code
def yX5_buildRow : MethodName := ⟨RX5, "buildRow", "(IIII)I"⟩
abbrev cX5_has : ByteArray := prog_7_method_3_code
def yX5_has : MethodName := ⟨RX5, "has", "(I)Z"⟩
abbrev cX5_kindOf : ByteArray := prog_7_method_4_code
def yX5_kindOf : MethodName := ⟨RX5, "kindOf", "(I)I"⟩
abbrev cX5_nextOf : ByteArray := prog_7_method_6_code
def yX5_nextOf : MethodName := ⟨RX5, "nextOf", "(I)I"⟩
abbrev cX5_otherOf : ByteArray := prog_7_method_7_code
def yX5_otherOf : MethodName := ⟨RX5, "otherOf", "(I)I"⟩
abbrev cX5_subjectOf : ByteArray := prog_7_method_5_code
def yX5_subjectOf : MethodName := ⟨RX5, "subjectOf", "(I)I"⟩
abbrev cX5_takes : ByteArray := prog_7_method_8_code
def yX5_takes : MethodName := ⟨RX5, "takes", "(II)Z"⟩
abbrev cX5_write : ByteArray := prog_7_method_2_code
def yX5_write : MethodName := ⟨RX5, "write", "(LPatternWorkshop$Tree;)V"⟩
abbrev cX6_addPart : ByteArray := prog_8_method_37_code
def yX6_addPart : MethodName := ⟨RX6, "addPart", "(II)V"⟩
abbrev cX6_addPending : ByteArray := prog_8_method_15_code
def yX6_addPending : MethodName := ⟨RX6, "addPending", "(LPatternWorkshop$Group;)V"⟩
abbrev cX6_blame : ByteArray := prog_8_method_5_code
def yX6_blame : MethodName := ⟨RX6, "blame", "(II)V"⟩
abbrev cX6_choiceOf : ByteArray := prog_8_method_17_code
def yX6_choiceOf : MethodName := ⟨RX6, "choiceOf", "(LPatternWorkshop$Group;)I"⟩
abbrev cX6_closeRow : ByteArray := prog_8_method_16_code
def yX6_closeRow : MethodName := ⟨RX6, "closeRow", "(LPatternWorkshop$Group;)V"⟩
abbrev cX6_countItem : ByteArray := prog_8_method_11_code
def yX6_countItem : MethodName := ⟨RX6, "countItem", "()Z"⟩
abbrev cX6_here : ByteArray := prog_8_method_6_code
def yX6_here : MethodName := ⟨RX6, "here", "()I"⟩
abbrev cX6_lay : ByteArray := prog_8_method_39_code
def yX6_lay : MethodName := ⟨RX6, "lay", "(III)V"⟩
abbrev cX6_lookOfMark : ByteArray := prog_8_method_21_code
def yX6_lookOfMark : MethodName := ⟨RX6, "lookOfMark", "(I)I"⟩
abbrev cX6_make : ByteArray := prog_8_method_12_code
def yX6_make : MethodName := ⟨RX6, "make", "(IIII)I"⟩
abbrev cX6_makeRound : ByteArray := prog_8_method_13_code
def yX6_makeRound : MethodName := ⟨RX6, "makeRound", "(IIIII)I"⟩
abbrev cX6_makeSet : ByteArray := prog_8_method_38_code
def yX6_makeSet : MethodName := ⟨RX6, "makeSet", "(Z)I"⟩
abbrev cX6_readHex : ByteArray := prog_8_method_33_code
def yX6_readHex : MethodName := ⟨RX6, "readHex", "()I"⟩
abbrev cX6_readMember : ByteArray := prog_8_method_36_code
def yX6_readMember : MethodName := ⟨RX6, "readMember", "()I"⟩
abbrev cX6_readMost : ByteArray := prog_8_method_26_code
def yX6_readMost : MethodName := ⟨RX6, "readMost", "(I)I"⟩
abbrev cX6_readName : ByteArray := prog_8_method_22_code
def yX6_readName : MethodName := ⟨RX6, "readName", "()I"⟩
abbrev cX6_readNumber : ByteArray := prog_8_method_25_code
def yX6_readNumber : MethodName := ⟨RX6, "readNumber", "(I)I"⟩
abbrev cX6_readPart : ByteArray := prog_8_method_35_code
def yX6_readPart : MethodName := ⟨RX6, "readPart", "()V"⟩
abbrev cX6_sortOfMark : ByteArray := prog_8_method_20_code
def yX6_sortOfMark : MethodName := ⟨RX6, "sortOfMark", "(I)I"⟩
abbrev cX7_add : ByteArray := prog_9_method_3_code
def yX7_add : MethodName := ⟨RX7, "add", "(I)V"⟩
abbrev cX7_addFrom : ByteArray := prog_9_method_4_code
def yX7_addFrom : MethodName := ⟨RX7, "addFrom", "(LPatternWorkshop$Row;II)V"⟩
abbrev cX7_at : ByteArray := prog_9_method_2_code
def yX7_at : MethodName := ⟨RX7, "at", "(I)I"⟩
abbrev cX7_empty : ByteArray := prog_9_method_5_code
def yX7_empty : MethodName := ⟨RX7, "empty", "()V"⟩
abbrev cX7_take : ByteArray := prog_9_method_6_code
def yX7_take : MethodName := ⟨RX7, "take", "(LPatternWorkshop$Row;)V"⟩
abbrev cX7_turnRound : ByteArray := prog_9_method_7_code
def yX7_turnRound : MethodName := ⟨RX7, "turnRound", "()V"⟩
abbrev cX8_longestBeginning : ByteArray := prog_10_method_3_code
def yX8_longestBeginning : MethodName := ⟨RX8, "longestBeginning", "(LPatternWorkshop$Row;I)I"⟩
abbrev cX8_look : ByteArray := prog_10_method_5_code
def yX8_look : MethodName := ⟨RX8, "look", "(IZZ)V"⟩
abbrev cX8_make : ByteArray := prog_10_method_2_code
def yX8_make : MethodName := ⟨RX8, "make", "(LPatternWorkshop$Tree;LPatternWorkshop$Tree;)Z"⟩
abbrev cX8_meet : ByteArray := prog_10_method_6_code
def yX8_meet : MethodName := ⟨RX8, "meet", "(III)V"⟩
abbrev cX8_walkBoth : ByteArray := prog_10_method_4_code
def yX8_walkBoth : MethodName := ⟨RX8, "walkBoth", "()V"⟩
abbrev cX8_writeParting : ByteArray := prog_10_method_7_code
def yX8_writeParting : MethodName := ⟨RX8, "writeParting", "(LPatternWorkshop$Row;)V"⟩
abbrev cX9_ends : ByteArray := prog_11_method_10_code
def yX9_ends : MethodName := ⟨RX9, "ends", "(I)Z"⟩
abbrev cX9_fewestStates : ByteArray := prog_11_method_15_code
def yX9_fewestStates : MethodName := ⟨RX9, "fewestStates", "()I"⟩
abbrev cX9_fillState : ByteArray := prog_11_method_7_code
def yX9_fillState : MethodName := ⟨RX9, "fillState", "(I)Z"⟩
abbrev cX9_followOf : ByteArray := prog_11_method_9_code
def yX9_followOf : MethodName := ⟨RX9, "followOf", "(J)J"⟩
abbrev cX9_groupOf : ByteArray := prog_11_method_18_code
def yX9_groupOf : MethodName := ⟨RX9, "groupOf", "(I)I"⟩
abbrev cX9_leadsToLive : ByteArray := prog_11_method_14_code
def yX9_leadsToLive : MethodName := ⟨RX9, "leadsToLive", "(I)Z"⟩
abbrev cX9_longestBeginning : ByteArray := prog_11_method_12_code
def yX9_longestBeginning : MethodName := ⟨RX9, "longestBeginning", "(LPatternWorkshop$Alphabet;LPatternWorkshop$Row;I)I"⟩
abbrev cX9_make : ByteArray := prog_11_method_2_code
def yX9_make : MethodName := ⟨RX9, "make", "(LPatternWorkshop$Tree;LPatternWorkshop$Alphabet;)Z"⟩
abbrev cX9_markLive : ByteArray := prog_11_method_13_code
def yX9_markLive : MethodName := ⟨RX9, "markLive", "()V"⟩
abbrev cX9_next : ByteArray := prog_11_method_11_code
def yX9_next : MethodName := ⟨RX9, "next", "(II)I"⟩
abbrev cX9_numberPositions : ByteArray := prog_11_method_3_code
def yX9_numberPositions : MethodName := ⟨RX9, "numberPositions", "()V"⟩
abbrev cX9_push : ByteArray := prog_11_method_6_code
def yX9_push : MethodName := ⟨RX9, "push", "(I)V"⟩
abbrev cX9_reach : ByteArray := prog_11_method_5_code
def yX9_reach : MethodName := ⟨RX9, "reach", "(I)J"⟩
abbrev cX9_refine : ByteArray := prog_11_method_16_code
def yX9_refine : MethodName := ⟨RX9, "refine", "()I"⟩
abbrev cX9_stateOf : ByteArray := prog_11_method_8_code
def yX9_stateOf : MethodName := ⟨RX9, "stateOf", "(J)I"⟩
abbrev cX9_staysTogether : ByteArray := prog_11_method_17_code
def yX9_staysTogether : MethodName := ⟨RX9, "staysTogether", "(II)Z"⟩
abbrev cX9_takersOf : ByteArray := prog_11_method_4_code
def yX9_takersOf : MethodName := ⟨RX9, "takersOf", "(I)J"⟩
theorem tw_2 : (.selects "PatternWorkshop$Reader" yX6_here yX6_here : Cond) ∈ TW := tw_of 2 (by decide +kernel) (by decide +kernel)
theorem tw_5 : (.selects "PatternWorkshop$Reader" yX6_addPending yX6_addPending : Cond) ∈ TW := tw_of 5 (by decide +kernel) (by decide +kernel)
theorem tw_6 : (.selects "PatternWorkshop$Reader" yX6_makeRound yX6_makeRound : Cond) ∈ TW := tw_of 6 (by decide +kernel) (by decide +kernel)
theorem tw_7 : (.selects "PatternWorkshop$Reader" yX6_make yX6_make : Cond) ∈ TW := tw_of 7 (by decide +kernel) (by decide +kernel)
theorem tw_8 : (.selects "PatternWorkshop$Reader" yX6_blame yX6_blame : Cond) ∈ TW := tw_of 8 (by decide +kernel) (by decide +kernel)
theorem tw_18 : (.selects "PatternWorkshop$Reader" yX6_readMember yX6_readMember : Cond) ∈ TW := tw_of 18 (by decide +kernel) (by decide +kernel)
theorem tw_19 : (.selects "PatternWorkshop$Reader" yX6_readHex yX6_readHex : Cond) ∈ TW := tw_of 19 (by decide +kernel) (by decide +kernel)
theorem tw_20 : (.selects "PatternWorkshop$Reader" yX6_addPart yX6_addPart : Cond) ∈ TW := tw_of 20 (by decide +kernel) (by decide +kernel)
theorem tw_30 : (.selects "PatternWorkshop$Reader" yX6_readNumber yX6_readNumber : Cond) ∈ TW := tw_of 30 (by decide +kernel) (by decide +kernel)
theorem tw_33 : (.selects "PatternWorkshop$Reader" yX6_lay yX6_lay : Cond) ∈ TW := tw_of 33 (by decide +kernel) (by decide +kernel)
theorem tw_34 : (.selects "PatternWorkshop$Tree" yX10_measureNode yX10_measureNode : Cond) ∈ TW := tw_of 34 (by decide +kernel) (by decide +kernel)
theorem tw_35 : (.selects "PatternWorkshop$Tree" yX10_copies yX10_copies : Cond) ∈ TW := tw_of 35 (by decide +kernel) (by decide +kernel)
theorem tw_36 : (.selects "PatternWorkshop$Tree" yX10_takesOneSign yX10_takesOneSign : Cond) ∈ TW := tw_of 36 (by decide +kernel) (by decide +kernel)
theorem tw_37 : (.selects "PatternWorkshop$Tree" yX10_maybeEmpty yX10_maybeEmpty : Cond) ∈ TW := tw_of 37 (by decide +kernel) (by decide +kernel)
theorem tw_41 : (.selects "PatternWorkshop$Printer" yX4_writeNode yX4_writeNode : Cond) ∈ TW := tw_of 41 (by decide +kernel) (by decide +kernel)
theorem tw_42 : (.selects "PatternWorkshop$Printer" yX4_writeLeaf yX4_writeLeaf : Cond) ∈ TW := tw_of 42 (by decide +kernel) (by decide +kernel)
theorem tw_43 : (.selects "PatternWorkshop$Printer" yX4_writeSign yX4_writeSign : Cond) ∈ TW := tw_of 43 (by decide +kernel) (by decide +kernel)
theorem tw_44 : (.selects "PatternWorkshop$Printer" yX4_writeCode yX4_writeCode : Cond) ∈ TW := tw_of 44 (by decide +kernel) (by decide +kernel)
theorem tw_45 : (.selects "PatternWorkshop$Printer" yX4_writeSet yX4_writeSet : Cond) ∈ TW := tw_of 45 (by decide +kernel) (by decide +kernel)
theorem tw_46 : (.selects "PatternWorkshop$Printer" yX4_writeMember yX4_writeMember : Cond) ∈ TW := tw_of 46 (by decide +kernel) (by decide +kernel)
theorem tw_47 : (.selects "PatternWorkshop$Printer" yX4_writeEdge yX4_writeEdge : Cond) ∈ TW := tw_of 47 (by decide +kernel) (by decide +kernel)
theorem tw_48 : (.selects "PatternWorkshop$Printer" yX4_writeOpening yX4_writeOpening : Cond) ∈ TW := tw_of 48 (by decide +kernel) (by decide +kernel)
theorem tw_49 : (.selects "PatternWorkshop$Printer" yX4_writeClosing yX4_writeClosing : Cond) ∈ TW := tw_of 49 (by decide +kernel) (by decide +kernel)
theorem tw_50 : (.selects "PatternWorkshop$Printer" yX4_writeLoop yX4_writeLoop : Cond) ∈ TW := tw_of 50 (by decide +kernel) (by decide +kernel)
theorem tw_51 : (.selects "PatternWorkshop$Printer" yX4_writeNumber yX4_writeNumber : Cond) ∈ TW := tw_of 51 (by decide +kernel) (by decide +kernel)
theorem tw_53 : (.selects "PatternWorkshop$Tree" yX10_beginsWith yX10_beginsWith : Cond) ∈ TW := tw_of 53 (by decide +kernel) (by decide +kernel)
theorem tw_54 : (.selects "PatternWorkshop$Tree" yX10_hasInParts yX10_hasInParts : Cond) ∈ TW := tw_of 54 (by decide +kernel) (by decide +kernel)
theorem tw_55 : (.selects "PatternWorkshop$Tree" yX10_rowBegins yX10_rowBegins : Cond) ∈ TW := tw_of 55 (by decide +kernel) (by decide +kernel)
theorem tw_56 : (.selects "PatternWorkshop$Tree" yX10_somePartIsMarked yX10_somePartIsMarked : Cond) ∈ TW := tw_of 56 (by decide +kernel) (by decide +kernel)
theorem tw_57 : (.selects "PatternWorkshop$Alphabet" yX0_addTree yX0_addTree : Cond) ∈ TW := tw_of 57 (by decide +kernel) (by decide +kernel)
theorem tw_58 : (.selects "PatternWorkshop$Alphabet" yX0_addRange yX0_addRange : Cond) ∈ TW := tw_of 58 (by decide +kernel) (by decide +kernel)
theorem tw_59 : (.selects "PatternWorkshop$Alphabet" yX0_addBegin yX0_addBegin : Cond) ∈ TW := tw_of 59 (by decide +kernel) (by decide +kernel)
theorem tw_60 : (.selects "PatternWorkshop$Alphabet" yX0_addParts yX0_addParts : Cond) ∈ TW := tw_of 60 (by decide +kernel) (by decide +kernel)
theorem tw_61 : (.selects "PatternWorkshop$Tree" yX10_outermostEndless yX10_outermostEndless : Cond) ∈ TW := tw_of 61 (by decide +kernel) (by decide +kernel)
theorem tw_62 : (.selects "PatternWorkshop$Tree" yX10_isSaidAhead yX10_isSaidAhead : Cond) ∈ TW := tw_of 62 (by decide +kernel) (by decide +kernel)
theorem tw_63 : (.selects "PatternWorkshop$Tree" yX10_printAlike yX10_printAlike : Cond) ∈ TW := tw_of 63 (by decide +kernel) (by decide +kernel)
theorem tw_64 : (.selects "PatternWorkshop$Tree" yX10_nodeAlike yX10_nodeAlike : Cond) ∈ TW := tw_of 64 (by decide +kernel) (by decide +kernel)
theorem tw_65 : (.selects "PatternWorkshop$Tree" yX10_sameParts yX10_sameParts : Cond) ∈ TW := tw_of 65 (by decide +kernel) (by decide +kernel)
theorem tw_69 : (.selects "PatternWorkshop$Tree" yX10_isParallel yX10_isParallel : Cond) ∈ TW := tw_of 69 (by decide +kernel) (by decide +kernel)
theorem tw_71 : (.selects "PatternWorkshop$Program" yX5_add yX5_add : Cond) ∈ TW := tw_of 71 (by decide +kernel) (by decide +kernel)
theorem tw_72 : (.selects "PatternWorkshop$Program" yX5_build yX5_build : Cond) ∈ TW := tw_of 72 (by decide +kernel) (by decide +kernel)
theorem tw_73 : (.selects "PatternWorkshop$Program" yX5_buildRow yX5_buildRow : Cond) ∈ TW := tw_of 73 (by decide +kernel) (by decide +kernel)
theorem tw_74 : (.selects "PatternWorkshop$Program" yX5_buildChoice yX5_buildChoice : Cond) ∈ TW := tw_of 74 (by decide +kernel) (by decide +kernel)
theorem tw_75 : (.selects "PatternWorkshop$Program" yX5_buildLoop yX5_buildLoop : Cond) ∈ TW := tw_of 75 (by decide +kernel) (by decide +kernel)
theorem tw_76 : (.selects "PatternWorkshop$Program" yX5_aim yX5_aim : Cond) ∈ TW := tw_of 76 (by decide +kernel) (by decide +kernel)
theorem tw_77 : (.selects "PatternWorkshop$Parallel" yX3_markEdges yX3_markEdges : Cond) ∈ TW := tw_of 77 (by decide +kernel) (by decide +kernel)
theorem tw_78 : (.selects "PatternWorkshop$Parallel" yX3_spread yX3_spread : Cond) ∈ TW := tw_of 78 (by decide +kernel) (by decide +kernel)
theorem tw_79 : (.selects "PatternWorkshop$Parallel" yX3_push yX3_push : Cond) ∈ TW := tw_of 79 (by decide +kernel) (by decide +kernel)
theorem tw_80 : (.selects "PatternWorkshop$Parallel" yX3_setCell yX3_setCell : Cond) ∈ TW := tw_of 80 (by decide +kernel) (by decide +kernel)
theorem tw_81 : (.selects "PatternWorkshop$Parallel" yX3_isNew yX3_isNew : Cond) ∈ TW := tw_of 81 (by decide +kernel) (by decide +kernel)
theorem tw_82 : (.selects "PatternWorkshop$Parallel" yX3_spreadOne yX3_spreadOne : Cond) ∈ TW := tw_of 82 (by decide +kernel) (by decide +kernel)
theorem tw_83 : (.selects "PatternWorkshop$Parallel" yX3_cellAt yX3_cellAt : Cond) ∈ TW := tw_of 83 (by decide +kernel) (by decide +kernel)
theorem tw_84 : (.selects "PatternWorkshop$Parallel" yX3_stopAt yX3_stopAt : Cond) ∈ TW := tw_of 84 (by decide +kernel) (by decide +kernel)
theorem tw_85 : (.selects "PatternWorkshop$Parallel" yX3_exchangeLists yX3_exchangeLists : Cond) ∈ TW := tw_of 85 (by decide +kernel) (by decide +kernel)
theorem tw_86 : (.selects "PatternWorkshop$Parallel" yX3_goAlong yX3_goAlong : Cond) ∈ TW := tw_of 86 (by decide +kernel) (by decide +kernel)
theorem tw_87 : (.selects "PatternWorkshop$Parallel" yX3_tell yX3_tell : Cond) ∈ TW := tw_of 87 (by decide +kernel) (by decide +kernel)
theorem tw_88 : (.selects "PatternWorkshop$GoingBack" yX1_startAt yX1_startAt : Cond) ∈ TW := tw_of 88 (by decide +kernel) (by decide +kernel)
theorem tw_94 : (.selects "PatternWorkshop$GoingBack" yX1_captureBegin yX1_captureBegin : Cond) ∈ TW := tw_of 94 (by decide +kernel) (by decide +kernel)
theorem tw_95 : (.selects "PatternWorkshop$GoingBack" yX1_cell yX1_cell : Cond) ∈ TW := tw_of 95 (by decide +kernel) (by decide +kernel)
theorem tw_96 : (.selects "PatternWorkshop$GoingBack" yX1_captureEnd yX1_captureEnd : Cond) ∈ TW := tw_of 96 (by decide +kernel) (by decide +kernel)
theorem tw_103 : (.selects "PatternWorkshop$GoingBack" yX1_looksBehind yX1_looksBehind : Cond) ∈ TW := tw_of 103 (by decide +kernel) (by decide +kernel)
theorem tw_110 : (.selects "PatternWorkshop$GoingBack" yX1_entryOf yX1_entryOf : Cond) ∈ TW := tw_of 110 (by decide +kernel) (by decide +kernel)
theorem tw_111 : (.selects "PatternWorkshop$GoingBack" yX1_cutToBase yX1_cutToBase : Cond) ∈ TW := tw_of 111 (by decide +kernel) (by decide +kernel)
theorem tw_130 : (.selects "PatternWorkshop$Table" yX9_numberPositions yX9_numberPositions : Cond) ∈ TW := tw_of 130 (by decide +kernel) (by decide +kernel)
theorem tw_131 : (.selects "PatternWorkshop$Table" yX9_reach yX9_reach : Cond) ∈ TW := tw_of 131 (by decide +kernel) (by decide +kernel)
theorem tw_132 : (.selects "PatternWorkshop$Table" yX9_push yX9_push : Cond) ∈ TW := tw_of 132 (by decide +kernel) (by decide +kernel)
theorem tw_133 : (.selects "PatternWorkshop$Table" yX9_takersOf yX9_takersOf : Cond) ∈ TW := tw_of 133 (by decide +kernel) (by decide +kernel)
theorem tw_134 : (.selects "PatternWorkshop$Table" yX9_fillState yX9_fillState : Cond) ∈ TW := tw_of 134 (by decide +kernel) (by decide +kernel)
theorem tw_135 : (.selects "PatternWorkshop$Table" yX9_stateOf yX9_stateOf : Cond) ∈ TW := tw_of 135 (by decide +kernel) (by decide +kernel)
theorem tw_136 : (.selects "PatternWorkshop$Table" yX9_followOf yX9_followOf : Cond) ∈ TW := tw_of 136 (by decide +kernel) (by decide +kernel)
theorem tw_137 : (.selects "PatternWorkshop$Table" yX9_markLive yX9_markLive : Cond) ∈ TW := tw_of 137 (by decide +kernel) (by decide +kernel)
theorem tw_138 : (.selects "PatternWorkshop$Table" yX9_leadsToLive yX9_leadsToLive : Cond) ∈ TW := tw_of 138 (by decide +kernel) (by decide +kernel)
theorem tw_139 : (.selects "PatternWorkshop$Table" yX9_refine yX9_refine : Cond) ∈ TW := tw_of 139 (by decide +kernel) (by decide +kernel)
theorem tw_140 : (.selects "PatternWorkshop$Table" yX9_staysTogether yX9_staysTogether : Cond) ∈ TW := tw_of 140 (by decide +kernel) (by decide +kernel)
theorem tw_141 : (.selects "PatternWorkshop$Table" yX9_groupOf yX9_groupOf : Cond) ∈ TW := tw_of 141 (by decide +kernel) (by decide +kernel)
theorem tw_142 : (.selects "PatternWorkshop$Sets" yX8_meet yX8_meet : Cond) ∈ TW := tw_of 142 (by decide +kernel) (by decide +kernel)
theorem tw_143 : (.selects "PatternWorkshop$Sets" yX8_look yX8_look : Cond) ∈ TW := tw_of 143 (by decide +kernel) (by decide +kernel)
theorem tw_236 : (.initialized "PatternWorkshop" : Cond) ∈ TW := tw_in (tb_0 (List.mem_of_getElem? (i := 1) rfl)) (by decide +kernel)
theorem tw_250 : (.initialized "java/util/Arrays" : Cond) ∈ TW := tw_in (tb_0 (List.mem_of_getElem? (i := 15) rfl)) (by decide +kernel)
theorem tw_258 : (.initialized "java/lang/System" : Cond) ∈ TW := tw_in (tb_0 (List.mem_of_getElem? (i := 23) rfl)) (by decide +kernel)
theorem tw_277 : (.fieldLink "PatternWorkshop$Row" 21 "PatternWorkshop$Row" "count" "I" : Cond) ∈ TW := tw_in (tb_0 (List.mem_of_getElem? (i := 42) rfl)) (by decide +kernel)
theorem tw_278 : (.fieldLink "PatternWorkshop" 96 "PatternWorkshop$Row" "count" "I" : Cond) ∈ TW := tw_in (tb_0 (List.mem_of_getElem? (i := 43) rfl)) (by decide +kernel)
theorem tw_279 : (.fieldLink "PatternWorkshop$Parallel" 84 "PatternWorkshop$Row" "count" "I" : Cond) ∈ TW := tw_in (tb_0 (List.mem_of_getElem? (i := 44) rfl)) (by decide +kernel)
theorem tw_281 : (.fieldLink "PatternWorkshop$Printer" 79 "PatternWorkshop$Row" "count" "I" : Cond) ∈ TW := tw_in (tb_0 (List.mem_of_getElem? (i := 46) rfl)) (by decide +kernel)
theorem tw_282 : (.fieldLink "PatternWorkshop$GoingBack" 171 "PatternWorkshop$Row" "count" "I" : Cond) ∈ TW := tw_in (tb_0 (List.mem_of_getElem? (i := 47) rfl)) (by decide +kernel)
theorem tw_283 : (.fieldLink "PatternWorkshop$Table" 140 "PatternWorkshop$Row" "count" "I" : Cond) ∈ TW := tw_in (tb_0 (List.mem_of_getElem? (i := 48) rfl)) (by decide +kernel)
theorem tw_284 : (.fieldLink "PatternWorkshop$Row" 25 "PatternWorkshop$Row" "over" "Z" : Cond) ∈ TW := tw_in (tb_0 (List.mem_of_getElem? (i := 49) rfl)) (by decide +kernel)
theorem tw_317 : (.fieldLink "PatternWorkshop$Tree" 67 "PatternWorkshop$Tree" "there" "Z" : Cond) ∈ TW := tw_in (tb_0 (List.mem_of_getElem? (i := 82) rfl)) (by decide +kernel)
theorem tw_319 : (.fieldLink "PatternWorkshop$Tree" 71 "PatternWorkshop$Tree" "count" "I" : Cond) ∈ TW := tw_in (tb_0 (List.mem_of_getElem? (i := 84) rfl)) (by decide +kernel)
theorem tw_321 : (.fieldLink "PatternWorkshop$Tree" 75 "PatternWorkshop$Tree" "captures" "I" : Cond) ∈ TW := tw_in (tb_0 (List.mem_of_getElem? (i := 86) rfl)) (by decide +kernel)
theorem tw_322 : (.fieldLink "PatternWorkshop$Parallel" 63 "PatternWorkshop$Tree" "captures" "I" : Cond) ∈ TW := tw_in (tb_0 (List.mem_of_getElem? (i := 87) rfl)) (by decide +kernel)
theorem tw_323 : (.fieldLink "PatternWorkshop$GoingBack" 127 "PatternWorkshop$Tree" "captures" "I" : Cond) ∈ TW := tw_in (tb_0 (List.mem_of_getElem? (i := 88) rfl)) (by decide +kernel)
theorem tw_324 : (.fieldLink "PatternWorkshop$Reader" 211 "PatternWorkshop$Tree" "captures" "I" : Cond) ∈ TW := tw_in (tb_0 (List.mem_of_getElem? (i := 89) rfl)) (by decide +kernel)
theorem tw_326 : (.fieldLink "PatternWorkshop$Tree" 78 "PatternWorkshop$Tree" "ranges" "I" : Cond) ∈ TW := tw_in (tb_0 (List.mem_of_getElem? (i := 91) rfl)) (by decide +kernel)
theorem tw_390 : (.fieldLink "PatternWorkshop$Group" 9 "PatternWorkshop$Group" "sort" "I" : Cond) ∈ TW := tw_in (tb_0 (List.mem_of_getElem? (i := 155) rfl)) (by decide +kernel)
theorem tw_392 : (.fieldLink "PatternWorkshop$Group" 15 "PatternWorkshop$Group" "value" "I" : Cond) ∈ TW := tw_in (tb_0 (List.mem_of_getElem? (i := 157) rfl)) (by decide +kernel)
theorem tw_394 : (.fieldLink "PatternWorkshop$Group" 18 "PatternWorkshop$Group" "name" "I" : Cond) ∈ TW := tw_in (tb_0 (List.mem_of_getElem? (i := 159) rfl)) (by decide +kernel)
theorem tw_396 : (.fieldLink "PatternWorkshop$Group" 33 "PatternWorkshop$Group" "pending" "I" : Cond) ∈ TW := tw_in (tb_0 (List.mem_of_getElem? (i := 161) rfl)) (by decide +kernel)
theorem tw_397 : (.fieldLink "PatternWorkshop$Reader" 166 "PatternWorkshop$Group" "pending" "I" : Cond) ∈ TW := tw_in (tb_0 (List.mem_of_getElem? (i := 162) rfl)) (by decide +kernel)
theorem tw_398 : (.fieldLink "PatternWorkshop$Group" 36 "PatternWorkshop$Group" "loopable" "Z" : Cond) ∈ TW := tw_in (tb_0 (List.mem_of_getElem? (i := 163) rfl)) (by decide +kernel)
theorem tw_400 : (.fieldLink "PatternWorkshop$Group" 40 "PatternWorkshop$Group" "rowFirst" "I" : Cond) ∈ TW := tw_in (tb_0 (List.mem_of_getElem? (i := 165) rfl)) (by decide +kernel)
theorem tw_401 : (.fieldLink "PatternWorkshop$Reader" 176 "PatternWorkshop$Group" "rowFirst" "I" : Cond) ∈ TW := tw_in (tb_0 (List.mem_of_getElem? (i := 166) rfl)) (by decide +kernel)
theorem tw_402 : (.fieldLink "PatternWorkshop$Group" 43 "PatternWorkshop$Group" "rowLast" "I" : Cond) ∈ TW := tw_in (tb_0 (List.mem_of_getElem? (i := 167) rfl)) (by decide +kernel)
theorem tw_403 : (.fieldLink "PatternWorkshop$Reader" 173 "PatternWorkshop$Group" "rowLast" "I" : Cond) ∈ TW := tw_in (tb_0 (List.mem_of_getElem? (i := 168) rfl)) (by decide +kernel)
theorem tw_404 : (.fieldLink "PatternWorkshop$Group" 46 "PatternWorkshop$Group" "rowCount" "I" : Cond) ∈ TW := tw_in (tb_0 (List.mem_of_getElem? (i := 169) rfl)) (by decide +kernel)
theorem tw_405 : (.fieldLink "PatternWorkshop$Reader" 179 "PatternWorkshop$Group" "rowCount" "I" : Cond) ∈ TW := tw_in (tb_0 (List.mem_of_getElem? (i := 170) rfl)) (by decide +kernel)
theorem tw_406 : (.fieldLink "PatternWorkshop$Group" 21 "PatternWorkshop$Group" "choiceFirst" "I" : Cond) ∈ TW := tw_in (tb_0 (List.mem_of_getElem? (i := 171) rfl)) (by decide +kernel)
theorem tw_407 : (.fieldLink "PatternWorkshop$Reader" 189 "PatternWorkshop$Group" "choiceFirst" "I" : Cond) ∈ TW := tw_in (tb_0 (List.mem_of_getElem? (i := 172) rfl)) (by decide +kernel)
theorem tw_408 : (.fieldLink "PatternWorkshop$Group" 24 "PatternWorkshop$Group" "choiceLast" "I" : Cond) ∈ TW := tw_in (tb_0 (List.mem_of_getElem? (i := 173) rfl)) (by decide +kernel)
theorem tw_409 : (.fieldLink "PatternWorkshop$Reader" 186 "PatternWorkshop$Group" "choiceLast" "I" : Cond) ∈ TW := tw_in (tb_0 (List.mem_of_getElem? (i := 174) rfl)) (by decide +kernel)
theorem tw_410 : (.fieldLink "PatternWorkshop$Group" 27 "PatternWorkshop$Group" "choiceCount" "I" : Cond) ∈ TW := tw_in (tb_0 (List.mem_of_getElem? (i := 175) rfl)) (by decide +kernel)
theorem tw_411 : (.fieldLink "PatternWorkshop$Reader" 192 "PatternWorkshop$Group" "choiceCount" "I" : Cond) ∈ TW := tw_in (tb_0 (List.mem_of_getElem? (i := 176) rfl)) (by decide +kernel)
theorem tw_435 : (.fieldLink "PatternWorkshop$Reader" 75 "PatternWorkshop$Reader" "fault" "I" : Cond) ∈ TW := tw_in (tb_0 (List.mem_of_getElem? (i := 200) rfl)) (by decide +kernel)
theorem tw_438 : (.fieldLink "PatternWorkshop$Reader" 113 "PatternWorkshop$Reader" "faultPlace" "I" : Cond) ∈ TW := tw_in (tb_0 (List.mem_of_getElem? (i := 203) rfl)) (by decide +kernel)
theorem tw_445 : (.fieldLink "PatternWorkshop$Reader" 116 "PatternWorkshop$Reader" "count" "I" : Cond) ∈ TW := tw_in (tb_0 (List.mem_of_getElem? (i := 210) rfl)) (by decide +kernel)
theorem tw_450 : (.fieldLink "PatternWorkshop$Reader" 68 "PatternWorkshop$Reader" "at" "I" : Cond) ∈ TW := tw_in (tb_0 (List.mem_of_getElem? (i := 215) rfl)) (by decide +kernel)
theorem tw_451 : (.fieldLink "PatternWorkshop$Reader" 117 "PatternWorkshop$Reader" "items" "I" : Cond) ∈ TW := tw_in (tb_0 (List.mem_of_getElem? (i := 216) rfl)) (by decide +kernel)
theorem tw_455 : (.fieldLink "PatternWorkshop$Reader" 248 "PatternWorkshop$Reader" "partCount" "I" : Cond) ∈ TW := tw_in (tb_0 (List.mem_of_getElem? (i := 220) rfl)) (by decide +kernel)
theorem tw_504 : (.fieldLink "PatternWorkshop$Printer" 23 "PatternWorkshop$Printer" "behindOpening" "I" : Cond) ∈ TW := tw_in (tb_1 (List.mem_of_getElem? (i := 29) rfl)) (by decide +kernel)
theorem tw_520 : (.fieldLink "PatternWorkshop$GoingBack" 55 "PatternWorkshop$GoingBack" "steps" "I" : Cond) ∈ TW := tw_in (tb_1 (List.mem_of_getElem? (i := 45) rfl)) (by decide +kernel)
theorem tw_524 : (.fieldLink "PatternWorkshop$GoingBack" 51 "PatternWorkshop$GoingBack" "wholeOnly" "Z" : Cond) ∈ TW := tw_in (tb_1 (List.mem_of_getElem? (i := 49) rfl)) (by decide +kernel)
theorem tw_525 : (.fieldLink "PatternWorkshop$GoingBack" 62 "PatternWorkshop$GoingBack" "start" "I" : Cond) ∈ TW := tw_in (tb_1 (List.mem_of_getElem? (i := 50) rfl)) (by decide +kernel)
theorem tw_526 : (.fieldLink "PatternWorkshop$GoingBack" 71 "PatternWorkshop$GoingBack" "mode" "I" : Cond) ∈ TW := tw_in (tb_1 (List.mem_of_getElem? (i := 51) rfl)) (by decide +kernel)
theorem tw_527 : (.fieldLink "PatternWorkshop$GoingBack" 68 "PatternWorkshop$GoingBack" "node" "I" : Cond) ∈ TW := tw_in (tb_1 (List.mem_of_getElem? (i := 52) rfl)) (by decide +kernel)
theorem tw_528 : (.fieldLink "PatternWorkshop$GoingBack" 65 "PatternWorkshop$GoingBack" "place" "I" : Cond) ∈ TW := tw_in (tb_1 (List.mem_of_getElem? (i := 53) rfl)) (by decide +kernel)
theorem tw_529 : (.fieldLink "PatternWorkshop$GoingBack" 92 "PatternWorkshop$GoingBack" "limit" "I" : Cond) ∈ TW := tw_in (tb_1 (List.mem_of_getElem? (i := 54) rfl)) (by decide +kernel)
theorem tw_530 : (.fieldLink "PatternWorkshop$GoingBack" 95 "PatternWorkshop$GoingBack" "verdict" "I" : Cond) ∈ TW := tw_in (tb_1 (List.mem_of_getElem? (i := 55) rfl)) (by decide +kernel)
theorem tw_537 : (.fieldLink "PatternWorkshop$GoingBack" 74 "PatternWorkshop$GoingBack" "choiceCount" "I" : Cond) ∈ TW := tw_in (tb_1 (List.mem_of_getElem? (i := 62) rfl)) (by decide +kernel)
theorem tw_539 : (.fieldLink "PatternWorkshop$GoingBack" 77 "PatternWorkshop$GoingBack" "trailCount" "I" : Cond) ∈ TW := tw_in (tb_1 (List.mem_of_getElem? (i := 64) rfl)) (by decide +kernel)
theorem tw_593 : (.fieldLink "PatternWorkshop$Program" 44 "PatternWorkshop$Program" "start" "I" : Cond) ∈ TW := tw_in (tb_1 (List.mem_of_getElem? (i := 118) rfl)) (by decide +kernel)
theorem tw_594 : (.fieldLink "PatternWorkshop$Parallel" 96 "PatternWorkshop$Program" "start" "I" : Cond) ∈ TW := tw_in (tb_1 (List.mem_of_getElem? (i := 119) rfl)) (by decide +kernel)
theorem tw_595 : (.fieldLink "PatternWorkshop$Table" 97 "PatternWorkshop$Program" "start" "I" : Cond) ∈ TW := tw_in (tb_1 (List.mem_of_getElem? (i := 120) rfl)) (by decide +kernel)
theorem tw_596 : (.fieldLink "PatternWorkshop$Program" 33 "PatternWorkshop$Program" "count" "I" : Cond) ∈ TW := tw_in (tb_1 (List.mem_of_getElem? (i := 121) rfl)) (by decide +kernel)
theorem tw_621 : (.fieldLink "PatternWorkshop$Parallel" 75 "PatternWorkshop$Parallel" "width" "I" : Cond) ∈ TW := tw_in (tb_1 (List.mem_of_getElem? (i := 146) rfl)) (by decide +kernel)
theorem tw_625 : (.fieldLink "PatternWorkshop$Parallel" 106 "PatternWorkshop$Parallel" "nowCount" "I" : Cond) ∈ TW := tw_in (tb_1 (List.mem_of_getElem? (i := 150) rfl)) (by decide +kernel)
theorem tw_628 : (.fieldLink "PatternWorkshop$Parallel" 78 "PatternWorkshop$Parallel" "nextCount" "I" : Cond) ∈ TW := tw_in (tb_1 (List.mem_of_getElem? (i := 153) rfl)) (by decide +kernel)
theorem tw_631 : (.fieldLink "PatternWorkshop$Parallel" 81 "PatternWorkshop$Parallel" "stamp" "I" : Cond) ∈ TW := tw_in (tb_1 (List.mem_of_getElem? (i := 156) rfl)) (by decide +kernel)
theorem tw_635 : (.fieldLink "PatternWorkshop$Parallel" 150 "PatternWorkshop$Parallel" "stackCount" "I" : Cond) ∈ TW := tw_in (tb_1 (List.mem_of_getElem? (i := 160) rfl)) (by decide +kernel)
theorem tw_683 : (.fieldLink "PatternWorkshop$Alphabet" 15 "PatternWorkshop$Alphabet" "count" "I" : Cond) ∈ TW := tw_in (tb_1 (List.mem_of_getElem? (i := 208) rfl)) (by decide +kernel)
theorem tw_684 : (.fieldLink "PatternWorkshop$Table" 61 "PatternWorkshop$Alphabet" "count" "I" : Cond) ∈ TW := tw_in (tb_1 (List.mem_of_getElem? (i := 209) rfl)) (by decide +kernel)
theorem tw_685 : (.fieldLink "PatternWorkshop$Sets" 82 "PatternWorkshop$Alphabet" "count" "I" : Cond) ∈ TW := tw_in (tb_1 (List.mem_of_getElem? (i := 210) rfl)) (by decide +kernel)
theorem tw_686 : (.fieldLink "PatternWorkshop$Tree" 155 "PatternWorkshop$Alphabet" "count" "I" : Cond) ∈ TW := tw_in (tb_1 (List.mem_of_getElem? (i := 211) rfl)) (by decide +kernel)
theorem tw_701 : (.fieldLink "PatternWorkshop$Table" 96 "PatternWorkshop$Table" "count" "I" : Cond) ∈ TW := tw_in (tb_1 (List.mem_of_getElem? (i := 226) rfl)) (by decide +kernel)
theorem tw_704 : (.fieldLink "PatternWorkshop$Table" 79 "PatternWorkshop$Table" "positionCount" "I" : Cond) ∈ TW := tw_in (tb_1 (List.mem_of_getElem? (i := 229) rfl)) (by decide +kernel)
theorem tw_710 : (.fieldLink "PatternWorkshop$Table" 114 "PatternWorkshop$Table" "stamp" "I" : Cond) ∈ TW := tw_in (tb_1 (List.mem_of_getElem? (i := 235) rfl)) (by decide +kernel)
theorem tw_712 : (.fieldLink "PatternWorkshop$Table" 117 "PatternWorkshop$Table" "stackCount" "I" : Cond) ∈ TW := tw_in (tb_1 (List.mem_of_getElem? (i := 237) rfl)) (by decide +kernel)
theorem tw_713 : (.fieldLink "PatternWorkshop$Table" 73 "PatternWorkshop$Table" "width" "I" : Cond) ∈ TW := tw_in (tb_1 (List.mem_of_getElem? (i := 238) rfl)) (by decide +kernel)
theorem tw_763 : (.fieldLink "PatternWorkshop$Sets" 53 "PatternWorkshop$Sets" "onlyInOne" "Z" : Cond) ∈ TW := tw_in (tb_2 (List.mem_of_getElem? (i := 48) rfl)) (by decide +kernel)
theorem tw_765 : (.fieldLink "PatternWorkshop$Sets" 57 "PatternWorkshop$Sets" "onlyInOther" "Z" : Cond) ∈ TW := tw_in (tb_2 (List.mem_of_getElem? (i := 50) rfl)) (by decide +kernel)
theorem tw_768 : (.fieldLink "PatternWorkshop$Sets" 64 "PatternWorkshop$Sets" "stamp" "I" : Cond) ∈ TW := tw_in (tb_2 (List.mem_of_getElem? (i := 53) rfl)) (by decide +kernel)
theorem tw_772 : (.fieldLink "PatternWorkshop$Sets" 67 "PatternWorkshop$Sets" "pairCount" "I" : Cond) ∈ TW := tw_in (tb_2 (List.mem_of_getElem? (i := 57) rfl)) (by decide +kernel)
theorem tw_773 : (.fieldLink "PatternWorkshop$Sets" 60 "PatternWorkshop$Sets" "parted" "I" : Cond) ∈ TW := tw_in (tb_2 (List.mem_of_getElem? (i := 58) rfl)) (by decide +kernel)
theorem tw_862 : (.methodLink "PatternWorkshop" 92 yX11_isTapeSign : Cond) ∈ TW := tw_in (tb_2 (List.mem_of_getElem? (i := 147) rfl)) (by decide +kernel)
theorem tw_863 : (.static yX11_isTapeSign : Cond) ∈ TW := tw_in (tb_2 (List.mem_of_getElem? (i := 148) rfl)) (by decide +kernel)
theorem tw_864 : (.code yX11_isTapeSign cX11_isTapeSign 1 (some (.boolean)) : Cond) ∈ TW := tw_in (tb_2 (List.mem_of_getElem? (i := 149) rfl)) (by decide +kernel)
theorem tw_866 : (.instanceMethod yX7_add : Cond) ∈ TW := tw_in (tb_2 (List.mem_of_getElem? (i := 151) rfl)) (by decide +kernel)
theorem tw_867 : (.selects "PatternWorkshop$Row" yX7_add yX7_add : Cond) ∈ TW := tw_in (tb_2 (List.mem_of_getElem? (i := 152) rfl)) (by decide +kernel)
theorem tw_868 : (.code yX7_add cX7_add 2 none : Cond) ∈ TW := tw_in (tb_2 (List.mem_of_getElem? (i := 153) rfl)) (by decide +kernel)
theorem tw_887 : (.code yX10_reset cX10_reset 1 none : Cond) ∈ TW := tw_in (tb_2 (List.mem_of_getElem? (i := 172) rfl)) (by decide +kernel)
theorem tw_889 : (.static yJ7_fill_53178 : Cond) ∈ TW := tw_in (tb_2 (List.mem_of_getElem? (i := 174) rfl)) (by decide +kernel)
theorem tw_890 : (.code yJ7_fill_53178 cJ7_fill_53178 4 none : Cond) ∈ TW := tw_in (tb_2 (List.mem_of_getElem? (i := 175) rfl)) (by decide +kernel)
theorem tw_898 : (.code yX2_begin cX2_begin 4 none : Cond) ∈ TW := tw_in (tb_2 (List.mem_of_getElem? (i := 183) rfl)) (by decide +kernel)
theorem tw_899 : (.methodLink "PatternWorkshop$Group" 30 yX2_beginRow : Cond) ∈ TW := tw_in (tb_2 (List.mem_of_getElem? (i := 184) rfl)) (by decide +kernel)
theorem tw_900 : (.instanceMethod yX2_beginRow : Cond) ∈ TW := tw_in (tb_2 (List.mem_of_getElem? (i := 185) rfl)) (by decide +kernel)
theorem tw_901 : (.selects "PatternWorkshop$Group" yX2_beginRow yX2_beginRow : Cond) ∈ TW := tw_in (tb_2 (List.mem_of_getElem? (i := 186) rfl)) (by decide +kernel)
theorem tw_902 : (.code yX2_beginRow cX2_beginRow 1 none : Cond) ∈ TW := tw_in (tb_2 (List.mem_of_getElem? (i := 187) rfl)) (by decide +kernel)
theorem tw_903 : (.methodLink "PatternWorkshop$Reader" 78 yX6_here : Cond) ∈ TW := tw_in (tb_2 (List.mem_of_getElem? (i := 188) rfl)) (by decide +kernel)
theorem tw_905 : (.instanceMethod yX6_here : Cond) ∈ TW := tw_in (tb_2 (List.mem_of_getElem? (i := 190) rfl)) (by decide +kernel)
theorem tw_906 : (.code yX6_here cX6_here 1 (some (.int)) : Cond) ∈ TW := tw_in (tb_2 (List.mem_of_getElem? (i := 191) rfl)) (by decide +kernel)
theorem tw_907 : (.methodLink "PatternWorkshop$Reader" 128 yX7_at : Cond) ∈ TW := tw_in (tb_2 (List.mem_of_getElem? (i := 192) rfl)) (by decide +kernel)
theorem tw_908 : (.instanceMethod yX7_at : Cond) ∈ TW := tw_in (tb_2 (List.mem_of_getElem? (i := 193) rfl)) (by decide +kernel)
theorem tw_909 : (.selects "PatternWorkshop$Row" yX7_at yX7_at : Cond) ∈ TW := tw_in (tb_2 (List.mem_of_getElem? (i := 194) rfl)) (by decide +kernel)
theorem tw_910 : (.code yX7_at cX7_at 2 (some (.int)) : Cond) ∈ TW := tw_in (tb_2 (List.mem_of_getElem? (i := 195) rfl)) (by decide +kernel)
theorem tw_918 : (.code yX6_closeRow cX6_closeRow 3 none : Cond) ∈ TW := tw_in (tb_2 (List.mem_of_getElem? (i := 203) rfl)) (by decide +kernel)
theorem tw_919 : (.methodLink "PatternWorkshop$Reader" 163 yX6_addPending : Cond) ∈ TW := tw_in (tb_2 (List.mem_of_getElem? (i := 204) rfl)) (by decide +kernel)
theorem tw_921 : (.instanceMethod yX6_addPending : Cond) ∈ TW := tw_in (tb_2 (List.mem_of_getElem? (i := 206) rfl)) (by decide +kernel)
theorem tw_922 : (.code yX6_addPending cX6_addPending 2 none : Cond) ∈ TW := tw_in (tb_2 (List.mem_of_getElem? (i := 207) rfl)) (by decide +kernel)
theorem tw_923 : (.methodLink "PatternWorkshop$Reader" 182 yX6_makeRound : Cond) ∈ TW := tw_in (tb_2 (List.mem_of_getElem? (i := 208) rfl)) (by decide +kernel)
theorem tw_925 : (.instanceMethod yX6_makeRound : Cond) ∈ TW := tw_in (tb_2 (List.mem_of_getElem? (i := 210) rfl)) (by decide +kernel)
theorem tw_926 : (.code yX6_makeRound cX6_makeRound 7 (some (.int)) : Cond) ∈ TW := tw_in (tb_2 (List.mem_of_getElem? (i := 211) rfl)) (by decide +kernel)
theorem tw_927 : (.methodLink "PatternWorkshop$Reader" 156 yX6_make : Cond) ∈ TW := tw_in (tb_2 (List.mem_of_getElem? (i := 212) rfl)) (by decide +kernel)
theorem tw_929 : (.instanceMethod yX6_make : Cond) ∈ TW := tw_in (tb_2 (List.mem_of_getElem? (i := 214) rfl)) (by decide +kernel)
theorem tw_930 : (.code yX6_make cX6_make 6 (some (.int)) : Cond) ∈ TW := tw_in (tb_2 (List.mem_of_getElem? (i := 215) rfl)) (by decide +kernel)
theorem tw_931 : (.methodLink "PatternWorkshop$Reader" 88 yX6_blame : Cond) ∈ TW := tw_in (tb_2 (List.mem_of_getElem? (i := 216) rfl)) (by decide +kernel)
theorem tw_933 : (.instanceMethod yX6_blame : Cond) ∈ TW := tw_in (tb_2 (List.mem_of_getElem? (i := 218) rfl)) (by decide +kernel)
theorem tw_934 : (.code yX6_blame cX6_blame 3 none : Cond) ∈ TW := tw_in (tb_2 (List.mem_of_getElem? (i := 219) rfl)) (by decide +kernel)
theorem tw_935 : (.methodLink "PatternWorkshop$Reader" 195 yX2_beginRow : Cond) ∈ TW := tw_in (tb_2 (List.mem_of_getElem? (i := 220) rfl)) (by decide +kernel)
theorem tw_946 : (.code yX6_sortOfMark cX6_sortOfMark 1 (some (.int)) : Cond) ∈ TW := tw_in (tb_2 (List.mem_of_getElem? (i := 231) rfl)) (by decide +kernel)
theorem tw_950 : (.code yX6_countItem cX6_countItem 1 (some (.boolean)) : Cond) ∈ TW := tw_in (tb_2 (List.mem_of_getElem? (i := 235) rfl)) (by decide +kernel)
theorem tw_954 : (.code yX6_readName cX6_readName 2 (some (.int)) : Cond) ∈ TW := tw_in (tb_2 (List.mem_of_getElem? (i := 239) rfl)) (by decide +kernel)
theorem tw_956 : (.static yX11_isSmall : Cond) ∈ TW := tw_in (tb_3 (List.mem_of_getElem? (i := 1) rfl)) (by decide +kernel)
theorem tw_957 : (.code yX11_isSmall cX11_isSmall 1 (some (.boolean)) : Cond) ∈ TW := tw_in (tb_3 (List.mem_of_getElem? (i := 2) rfl)) (by decide +kernel)
theorem tw_960 : (.code yX6_lookOfMark cX6_lookOfMark 1 (some (.int)) : Cond) ∈ TW := tw_in (tb_3 (List.mem_of_getElem? (i := 5) rfl)) (by decide +kernel)
theorem tw_968 : (.code yX6_choiceOf cX6_choiceOf 2 (some (.int)) : Cond) ∈ TW := tw_in (tb_3 (List.mem_of_getElem? (i := 13) rfl)) (by decide +kernel)
theorem tw_980 : (.code yX6_readPart cX6_readPart 4 none : Cond) ∈ TW := tw_in (tb_3 (List.mem_of_getElem? (i := 25) rfl)) (by decide +kernel)
theorem tw_981 : (.methodLink "PatternWorkshop$Reader" 270 yX6_readMember : Cond) ∈ TW := tw_in (tb_3 (List.mem_of_getElem? (i := 26) rfl)) (by decide +kernel)
theorem tw_983 : (.instanceMethod yX6_readMember : Cond) ∈ TW := tw_in (tb_3 (List.mem_of_getElem? (i := 28) rfl)) (by decide +kernel)
theorem tw_984 : (.code yX6_readMember cX6_readMember 2 (some (.int)) : Cond) ∈ TW := tw_in (tb_3 (List.mem_of_getElem? (i := 29) rfl)) (by decide +kernel)
theorem tw_985 : (.methodLink "PatternWorkshop$Reader" 258 yX6_readHex : Cond) ∈ TW := tw_in (tb_3 (List.mem_of_getElem? (i := 30) rfl)) (by decide +kernel)
theorem tw_987 : (.instanceMethod yX6_readHex : Cond) ∈ TW := tw_in (tb_3 (List.mem_of_getElem? (i := 32) rfl)) (by decide +kernel)
theorem tw_988 : (.code yX6_readHex cX6_readHex 4 (some (.int)) : Cond) ∈ TW := tw_in (tb_3 (List.mem_of_getElem? (i := 33) rfl)) (by decide +kernel)
theorem tw_990 : (.static yX11_isDigit : Cond) ∈ TW := tw_in (tb_3 (List.mem_of_getElem? (i := 35) rfl)) (by decide +kernel)
theorem tw_991 : (.code yX11_isDigit cX11_isDigit 1 (some (.boolean)) : Cond) ∈ TW := tw_in (tb_3 (List.mem_of_getElem? (i := 36) rfl)) (by decide +kernel)
theorem tw_994 : (.static yX11_isLetter : Cond) ∈ TW := tw_in (tb_3 (List.mem_of_getElem? (i := 39) rfl)) (by decide +kernel)
theorem tw_995 : (.code yX11_isLetter cX11_isLetter 2 (some (.boolean)) : Cond) ∈ TW := tw_in (tb_3 (List.mem_of_getElem? (i := 40) rfl)) (by decide +kernel)
theorem tw_996 : (.methodLink "PatternWorkshop$Reader" 251 yX6_addPart : Cond) ∈ TW := tw_in (tb_3 (List.mem_of_getElem? (i := 41) rfl)) (by decide +kernel)
theorem tw_998 : (.instanceMethod yX6_addPart : Cond) ∈ TW := tw_in (tb_3 (List.mem_of_getElem? (i := 43) rfl)) (by decide +kernel)
theorem tw_999 : (.code yX6_addPart cX6_addPart 4 none : Cond) ∈ TW := tw_in (tb_3 (List.mem_of_getElem? (i := 44) rfl)) (by decide +kernel)
theorem tw_1003 : (.code yX6_makeSet cX6_makeSet 6 (some (.int)) : Cond) ∈ TW := tw_in (tb_3 (List.mem_of_getElem? (i := 48) rfl)) (by decide +kernel)
theorem tw_1004 : (.methodLink "PatternWorkshop$Reader" 273 yX10_rangeCount : Cond) ∈ TW := tw_in (tb_3 (List.mem_of_getElem? (i := 49) rfl)) (by decide +kernel)
theorem tw_1005 : (.instanceMethod yX10_rangeCount : Cond) ∈ TW := tw_in (tb_3 (List.mem_of_getElem? (i := 50) rfl)) (by decide +kernel)
theorem tw_1006 : (.selects "PatternWorkshop$Tree" yX10_rangeCount yX10_rangeCount : Cond) ∈ TW := tw_in (tb_3 (List.mem_of_getElem? (i := 51) rfl)) (by decide +kernel)
theorem tw_1007 : (.code yX10_rangeCount cX10_rangeCount 1 (some (.int)) : Cond) ∈ TW := tw_in (tb_3 (List.mem_of_getElem? (i := 52) rfl)) (by decide +kernel)
theorem tw_1008 : (.methodLink "PatternWorkshop$Reader" 276 yX10_addRange : Cond) ∈ TW := tw_in (tb_3 (List.mem_of_getElem? (i := 53) rfl)) (by decide +kernel)
theorem tw_1009 : (.instanceMethod yX10_addRange : Cond) ∈ TW := tw_in (tb_3 (List.mem_of_getElem? (i := 54) rfl)) (by decide +kernel)
theorem tw_1010 : (.selects "PatternWorkshop$Tree" yX10_addRange yX10_addRange : Cond) ∈ TW := tw_in (tb_3 (List.mem_of_getElem? (i := 55) rfl)) (by decide +kernel)
theorem tw_1011 : (.code yX10_addRange cX10_addRange 3 none : Cond) ∈ TW := tw_in (tb_3 (List.mem_of_getElem? (i := 56) rfl)) (by decide +kernel)
theorem tw_1012 : (.methodLink "PatternWorkshop$Reader" 279 ⟨"java/lang/Math", "max", "(II)I"⟩ : Cond) ∈ TW := tw_in (tb_3 (List.mem_of_getElem? (i := 57) rfl)) (by decide +kernel)
theorem tw_1045 : (.methodLink "PatternWorkshop$Reader" 224 yX6_readNumber : Cond) ∈ TW := tw_in (tb_3 (List.mem_of_getElem? (i := 90) rfl)) (by decide +kernel)
theorem tw_1047 : (.instanceMethod yX6_readNumber : Cond) ∈ TW := tw_in (tb_3 (List.mem_of_getElem? (i := 92) rfl)) (by decide +kernel)
theorem tw_1048 : (.code yX6_readNumber cX6_readNumber 4 (some (.int)) : Cond) ∈ TW := tw_in (tb_3 (List.mem_of_getElem? (i := 93) rfl)) (by decide +kernel)
theorem tw_1052 : (.code yX6_readMost cX6_readMost 3 (some (.int)) : Cond) ∈ TW := tw_in (tb_3 (List.mem_of_getElem? (i := 97) rfl)) (by decide +kernel)
theorem tw_1057 : (.methodLink "PatternWorkshop$Reader" 103 yX6_lay : Cond) ∈ TW := tw_in (tb_3 (List.mem_of_getElem? (i := 102) rfl)) (by decide +kernel)
theorem tw_1059 : (.instanceMethod yX6_lay : Cond) ∈ TW := tw_in (tb_3 (List.mem_of_getElem? (i := 104) rfl)) (by decide +kernel)
theorem tw_1060 : (.code yX6_lay cX6_lay 6 none : Cond) ∈ TW := tw_in (tb_3 (List.mem_of_getElem? (i := 105) rfl)) (by decide +kernel)
theorem tw_1061 : (.methodLink "PatternWorkshop$Reader" 285 yX10_add : Cond) ∈ TW := tw_in (tb_3 (List.mem_of_getElem? (i := 106) rfl)) (by decide +kernel)
theorem tw_1062 : (.instanceMethod yX10_add : Cond) ∈ TW := tw_in (tb_3 (List.mem_of_getElem? (i := 107) rfl)) (by decide +kernel)
theorem tw_1063 : (.selects "PatternWorkshop$Tree" yX10_add yX10_add : Cond) ∈ TW := tw_in (tb_3 (List.mem_of_getElem? (i := 108) rfl)) (by decide +kernel)
theorem tw_1064 : (.code yX10_add cX10_add 7 (some (.int)) : Cond) ∈ TW := tw_in (tb_3 (List.mem_of_getElem? (i := 109) rfl)) (by decide +kernel)
theorem tw_1065 : (.methodLink "PatternWorkshop$Tree" 88 yX10_lastOf : Cond) ∈ TW := tw_in (tb_3 (List.mem_of_getElem? (i := 110) rfl)) (by decide +kernel)
theorem tw_1066 : (.instanceMethod yX10_lastOf : Cond) ∈ TW := tw_in (tb_3 (List.mem_of_getElem? (i := 111) rfl)) (by decide +kernel)
theorem tw_1067 : (.selects "PatternWorkshop$Tree" yX10_lastOf yX10_lastOf : Cond) ∈ TW := tw_in (tb_3 (List.mem_of_getElem? (i := 112) rfl)) (by decide +kernel)
theorem tw_1068 : (.code yX10_lastOf cX10_lastOf 2 (some (.int)) : Cond) ∈ TW := tw_in (tb_3 (List.mem_of_getElem? (i := 113) rfl)) (by decide +kernel)
theorem tw_1069 : (.methodLink "PatternWorkshop$Tree" 91 yX10_has : Cond) ∈ TW := tw_in (tb_3 (List.mem_of_getElem? (i := 114) rfl)) (by decide +kernel)
theorem tw_1070 : (.instanceMethod yX10_has : Cond) ∈ TW := tw_in (tb_3 (List.mem_of_getElem? (i := 115) rfl)) (by decide +kernel)
theorem tw_1071 : (.selects "PatternWorkshop$Tree" yX10_has yX10_has : Cond) ∈ TW := tw_in (tb_3 (List.mem_of_getElem? (i := 116) rfl)) (by decide +kernel)
theorem tw_1072 : (.code yX10_has cX10_has 2 (some (.boolean)) : Cond) ∈ TW := tw_in (tb_3 (List.mem_of_getElem? (i := 117) rfl)) (by decide +kernel)
theorem tw_1073 : (.methodLink "PatternWorkshop$Reader" 288 yX10_close : Cond) ∈ TW := tw_in (tb_3 (List.mem_of_getElem? (i := 118) rfl)) (by decide +kernel)
theorem tw_1074 : (.instanceMethod yX10_close : Cond) ∈ TW := tw_in (tb_3 (List.mem_of_getElem? (i := 119) rfl)) (by decide +kernel)
theorem tw_1075 : (.selects "PatternWorkshop$Tree" yX10_close yX10_close : Cond) ∈ TW := tw_in (tb_3 (List.mem_of_getElem? (i := 120) rfl)) (by decide +kernel)
theorem tw_1076 : (.code yX10_close cX10_close 2 none : Cond) ∈ TW := tw_in (tb_3 (List.mem_of_getElem? (i := 121) rfl)) (by decide +kernel)
theorem tw_1080 : (.code yX10_measure cX10_measure 2 none : Cond) ∈ TW := tw_in (tb_3 (List.mem_of_getElem? (i := 125) rfl)) (by decide +kernel)
theorem tw_1081 : (.methodLink "PatternWorkshop$Tree" 98 yX10_isWithinCase : Cond) ∈ TW := tw_in (tb_3 (List.mem_of_getElem? (i := 126) rfl)) (by decide +kernel)
theorem tw_1082 : (.instanceMethod yX10_isWithinCase : Cond) ∈ TW := tw_in (tb_3 (List.mem_of_getElem? (i := 127) rfl)) (by decide +kernel)
theorem tw_1083 : (.selects "PatternWorkshop$Tree" yX10_isWithinCase yX10_isWithinCase : Cond) ∈ TW := tw_in (tb_3 (List.mem_of_getElem? (i := 128) rfl)) (by decide +kernel)
theorem tw_1084 : (.code yX10_isWithinCase cX10_isWithinCase 2 (some (.boolean)) : Cond) ∈ TW := tw_in (tb_3 (List.mem_of_getElem? (i := 129) rfl)) (by decide +kernel)
theorem tw_1085 : (.methodLink "PatternWorkshop$Tree" 101 yX10_measureNode : Cond) ∈ TW := tw_in (tb_3 (List.mem_of_getElem? (i := 130) rfl)) (by decide +kernel)
theorem tw_1087 : (.instanceMethod yX10_measureNode : Cond) ∈ TW := tw_in (tb_3 (List.mem_of_getElem? (i := 132) rfl)) (by decide +kernel)
theorem tw_1088 : (.code yX10_measureNode cX10_measureNode 7 none : Cond) ∈ TW := tw_in (tb_3 (List.mem_of_getElem? (i := 133) rfl)) (by decide +kernel)
theorem tw_1089 : (.methodLink "PatternWorkshop$Tree" 105 yX10_firstOf : Cond) ∈ TW := tw_in (tb_3 (List.mem_of_getElem? (i := 134) rfl)) (by decide +kernel)
theorem tw_1090 : (.instanceMethod yX10_firstOf : Cond) ∈ TW := tw_in (tb_3 (List.mem_of_getElem? (i := 135) rfl)) (by decide +kernel)
theorem tw_1091 : (.selects "PatternWorkshop$Tree" yX10_firstOf yX10_firstOf : Cond) ∈ TW := tw_in (tb_3 (List.mem_of_getElem? (i := 136) rfl)) (by decide +kernel)
theorem tw_1092 : (.code yX10_firstOf cX10_firstOf 2 (some (.int)) : Cond) ∈ TW := tw_in (tb_3 (List.mem_of_getElem? (i := 137) rfl)) (by decide +kernel)
theorem tw_1093 : (.methodLink "PatternWorkshop$Tree" 108 yX10_nextOf : Cond) ∈ TW := tw_in (tb_3 (List.mem_of_getElem? (i := 138) rfl)) (by decide +kernel)
theorem tw_1094 : (.instanceMethod yX10_nextOf : Cond) ∈ TW := tw_in (tb_3 (List.mem_of_getElem? (i := 139) rfl)) (by decide +kernel)
theorem tw_1095 : (.selects "PatternWorkshop$Tree" yX10_nextOf yX10_nextOf : Cond) ∈ TW := tw_in (tb_3 (List.mem_of_getElem? (i := 140) rfl)) (by decide +kernel)
theorem tw_1096 : (.code yX10_nextOf cX10_nextOf 3 (some (.int)) : Cond) ∈ TW := tw_in (tb_3 (List.mem_of_getElem? (i := 141) rfl)) (by decide +kernel)
theorem tw_1097 : (.methodLink "PatternWorkshop$Tree" 111 yX10_copies : Cond) ∈ TW := tw_in (tb_3 (List.mem_of_getElem? (i := 142) rfl)) (by decide +kernel)
theorem tw_1099 : (.instanceMethod yX10_copies : Cond) ∈ TW := tw_in (tb_3 (List.mem_of_getElem? (i := 144) rfl)) (by decide +kernel)
theorem tw_1100 : (.code yX10_copies cX10_copies 2 (some (.int)) : Cond) ∈ TW := tw_in (tb_3 (List.mem_of_getElem? (i := 145) rfl)) (by decide +kernel)
theorem tw_1101 : (.methodLink "PatternWorkshop$Tree" 81 yX10_sortOf : Cond) ∈ TW := tw_in (tb_3 (List.mem_of_getElem? (i := 146) rfl)) (by decide +kernel)
theorem tw_1102 : (.instanceMethod yX10_sortOf : Cond) ∈ TW := tw_in (tb_3 (List.mem_of_getElem? (i := 147) rfl)) (by decide +kernel)
theorem tw_1103 : (.selects "PatternWorkshop$Tree" yX10_sortOf yX10_sortOf : Cond) ∈ TW := tw_in (tb_3 (List.mem_of_getElem? (i := 148) rfl)) (by decide +kernel)
theorem tw_1104 : (.code yX10_sortOf cX10_sortOf 2 (some (.int)) : Cond) ∈ TW := tw_in (tb_3 (List.mem_of_getElem? (i := 149) rfl)) (by decide +kernel)
theorem tw_1105 : (.methodLink "PatternWorkshop$Tree" 85 yX10_highOf : Cond) ∈ TW := tw_in (tb_3 (List.mem_of_getElem? (i := 150) rfl)) (by decide +kernel)
theorem tw_1106 : (.instanceMethod yX10_highOf : Cond) ∈ TW := tw_in (tb_3 (List.mem_of_getElem? (i := 151) rfl)) (by decide +kernel)
theorem tw_1107 : (.selects "PatternWorkshop$Tree" yX10_highOf yX10_highOf : Cond) ∈ TW := tw_in (tb_3 (List.mem_of_getElem? (i := 152) rfl)) (by decide +kernel)
theorem tw_1108 : (.code yX10_highOf cX10_highOf 2 (some (.int)) : Cond) ∈ TW := tw_in (tb_3 (List.mem_of_getElem? (i := 153) rfl)) (by decide +kernel)
theorem tw_1109 : (.methodLink "PatternWorkshop$Tree" 95 yX10_lowOf : Cond) ∈ TW := tw_in (tb_3 (List.mem_of_getElem? (i := 154) rfl)) (by decide +kernel)
theorem tw_1110 : (.instanceMethod yX10_lowOf : Cond) ∈ TW := tw_in (tb_3 (List.mem_of_getElem? (i := 155) rfl)) (by decide +kernel)
theorem tw_1111 : (.selects "PatternWorkshop$Tree" yX10_lowOf yX10_lowOf : Cond) ∈ TW := tw_in (tb_3 (List.mem_of_getElem? (i := 156) rfl)) (by decide +kernel)
theorem tw_1112 : (.code yX10_lowOf cX10_lowOf 2 (some (.int)) : Cond) ∈ TW := tw_in (tb_3 (List.mem_of_getElem? (i := 157) rfl)) (by decide +kernel)
theorem tw_1113 : (.methodLink "PatternWorkshop$Tree" 114 ⟨"java/lang/Math", "min", "(II)I"⟩ : Cond) ∈ TW := tw_in (tb_3 (List.mem_of_getElem? (i := 158) rfl)) (by decide +kernel)
theorem tw_1114 : (.static ⟨"java/lang/Math", "min", "(II)I"⟩ : Cond) ∈ TW := tw_in (tb_3 (List.mem_of_getElem? (i := 159) rfl)) (by decide +kernel)
theorem tw_1115 : (.code ⟨"java/lang/Math", "min", "(II)I"⟩ prog_19_method_69_code 2 (some (.int)) : Cond) ∈ TW := tw_in (tb_3 (List.mem_of_getElem? (i := 160) rfl)) (by decide +kernel)
theorem tw_1116 : (.methodLink "PatternWorkshop$Tree" 117 yX10_takesOneSign : Cond) ∈ TW := tw_in (tb_3 (List.mem_of_getElem? (i := 161) rfl)) (by decide +kernel)
theorem tw_1118 : (.instanceMethod yX10_takesOneSign : Cond) ∈ TW := tw_in (tb_3 (List.mem_of_getElem? (i := 163) rfl)) (by decide +kernel)
theorem tw_1119 : (.code yX10_takesOneSign cX10_takesOneSign 2 (some (.boolean)) : Cond) ∈ TW := tw_in (tb_3 (List.mem_of_getElem? (i := 164) rfl)) (by decide +kernel)
theorem tw_1120 : (.methodLink "PatternWorkshop$Tree" 120 yX10_maybeEmpty : Cond) ∈ TW := tw_in (tb_3 (List.mem_of_getElem? (i := 165) rfl)) (by decide +kernel)
theorem tw_1122 : (.instanceMethod yX10_maybeEmpty : Cond) ∈ TW := tw_in (tb_3 (List.mem_of_getElem? (i := 167) rfl)) (by decide +kernel)
theorem tw_1123 : (.code yX10_maybeEmpty cX10_maybeEmpty 4 (some (.boolean)) : Cond) ∈ TW := tw_in (tb_3 (List.mem_of_getElem? (i := 168) rfl)) (by decide +kernel)
theorem tw_1125 : (.instanceMethod yX7_empty : Cond) ∈ TW := tw_in (tb_3 (List.mem_of_getElem? (i := 170) rfl)) (by decide +kernel)
theorem tw_1126 : (.selects "PatternWorkshop$Row" yX7_empty yX7_empty : Cond) ∈ TW := tw_in (tb_3 (List.mem_of_getElem? (i := 171) rfl)) (by decide +kernel)
theorem tw_1127 : (.code yX7_empty cX7_empty 1 none : Cond) ∈ TW := tw_in (tb_3 (List.mem_of_getElem? (i := 172) rfl)) (by decide +kernel)
theorem tw_1160 : (.code yX10_tellOfAll cX10_tellOfAll 3 (some (.int)) : Cond) ∈ TW := tw_in (tb_3 (List.mem_of_getElem? (i := 205) rfl)) (by decide +kernel)
theorem tw_1161 : (.methodLink "PatternWorkshop$Tree" 124 yX10_partsOf : Cond) ∈ TW := tw_in (tb_3 (List.mem_of_getElem? (i := 206) rfl)) (by decide +kernel)
theorem tw_1162 : (.instanceMethod yX10_partsOf : Cond) ∈ TW := tw_in (tb_3 (List.mem_of_getElem? (i := 207) rfl)) (by decide +kernel)
theorem tw_1163 : (.selects "PatternWorkshop$Tree" yX10_partsOf yX10_partsOf : Cond) ∈ TW := tw_in (tb_3 (List.mem_of_getElem? (i := 208) rfl)) (by decide +kernel)
theorem tw_1164 : (.code yX10_partsOf cX10_partsOf 2 (some (.int)) : Cond) ∈ TW := tw_in (tb_3 (List.mem_of_getElem? (i := 209) rfl)) (by decide +kernel)
theorem tw_1172 : (.instanceMethod yX10_valueOf : Cond) ∈ TW := tw_in (tb_3 (List.mem_of_getElem? (i := 217) rfl)) (by decide +kernel)
theorem tw_1173 : (.selects "PatternWorkshop$Tree" yX10_valueOf yX10_valueOf : Cond) ∈ TW := tw_in (tb_3 (List.mem_of_getElem? (i := 218) rfl)) (by decide +kernel)
theorem tw_1174 : (.code yX10_valueOf cX10_valueOf 2 (some (.int)) : Cond) ∈ TW := tw_in (tb_3 (List.mem_of_getElem? (i := 219) rfl)) (by decide +kernel)
theorem tw_1181 : (.instanceMethod yX10_partEnd : Cond) ∈ TW := tw_in (tb_3 (List.mem_of_getElem? (i := 226) rfl)) (by decide +kernel)
theorem tw_1182 : (.selects "PatternWorkshop$Tree" yX10_partEnd yX10_partEnd : Cond) ∈ TW := tw_in (tb_3 (List.mem_of_getElem? (i := 227) rfl)) (by decide +kernel)
theorem tw_1183 : (.code yX10_partEnd cX10_partEnd 4 (some (.int)) : Cond) ∈ TW := tw_in (tb_3 (List.mem_of_getElem? (i := 228) rfl)) (by decide +kernel)
theorem tw_1185 : (.instanceMethod yX10_partBegin : Cond) ∈ TW := tw_in (tb_3 (List.mem_of_getElem? (i := 230) rfl)) (by decide +kernel)
theorem tw_1186 : (.selects "PatternWorkshop$Tree" yX10_partBegin yX10_partBegin : Cond) ∈ TW := tw_in (tb_3 (List.mem_of_getElem? (i := 231) rfl)) (by decide +kernel)
theorem tw_1187 : (.code yX10_partBegin cX10_partBegin 4 (some (.int)) : Cond) ∈ TW := tw_in (tb_3 (List.mem_of_getElem? (i := 232) rfl)) (by decide +kernel)
theorem tw_1195 : (.code yX4_write cX4_write 3 none : Cond) ∈ TW := tw_in (tb_4 (List.mem_of_getElem? (i := 0) rfl)) (by decide +kernel)
theorem tw_1196 : (.methodLink "PatternWorkshop$Printer" 20 yX7_empty : Cond) ∈ TW := tw_in (tb_4 (List.mem_of_getElem? (i := 1) rfl)) (by decide +kernel)
theorem tw_1197 : (.methodLink "PatternWorkshop$Printer" 27 yX4_writeNode : Cond) ∈ TW := tw_in (tb_4 (List.mem_of_getElem? (i := 2) rfl)) (by decide +kernel)
theorem tw_1199 : (.instanceMethod yX4_writeNode : Cond) ∈ TW := tw_in (tb_4 (List.mem_of_getElem? (i := 4) rfl)) (by decide +kernel)
theorem tw_1200 : (.code yX4_writeNode cX4_writeNode 6 none : Cond) ∈ TW := tw_in (tb_4 (List.mem_of_getElem? (i := 5) rfl)) (by decide +kernel)
theorem tw_1201 : (.methodLink "PatternWorkshop$Printer" 31 yX10_sortOf : Cond) ∈ TW := tw_in (tb_4 (List.mem_of_getElem? (i := 6) rfl)) (by decide +kernel)
theorem tw_1202 : (.methodLink "PatternWorkshop$Printer" 37 yX10_holderOf : Cond) ∈ TW := tw_in (tb_4 (List.mem_of_getElem? (i := 7) rfl)) (by decide +kernel)
theorem tw_1203 : (.instanceMethod yX10_holderOf : Cond) ∈ TW := tw_in (tb_4 (List.mem_of_getElem? (i := 8) rfl)) (by decide +kernel)
theorem tw_1204 : (.selects "PatternWorkshop$Tree" yX10_holderOf yX10_holderOf : Cond) ∈ TW := tw_in (tb_4 (List.mem_of_getElem? (i := 9) rfl)) (by decide +kernel)
theorem tw_1205 : (.code yX10_holderOf cX10_holderOf 2 (some (.int)) : Cond) ∈ TW := tw_in (tb_4 (List.mem_of_getElem? (i := 10) rfl)) (by decide +kernel)
theorem tw_1206 : (.methodLink "PatternWorkshop$Printer" 40 yX4_isGrouped : Cond) ∈ TW := tw_in (tb_4 (List.mem_of_getElem? (i := 11) rfl)) (by decide +kernel)
theorem tw_1207 : (.static yX4_isGrouped : Cond) ∈ TW := tw_in (tb_4 (List.mem_of_getElem? (i := 12) rfl)) (by decide +kernel)
theorem tw_1208 : (.code yX4_isGrouped cX4_isGrouped 3 (some (.boolean)) : Cond) ∈ TW := tw_in (tb_4 (List.mem_of_getElem? (i := 13) rfl)) (by decide +kernel)
theorem tw_1209 : (.methodLink "PatternWorkshop$Printer" 44 yX7_add : Cond) ∈ TW := tw_in (tb_4 (List.mem_of_getElem? (i := 14) rfl)) (by decide +kernel)
theorem tw_1210 : (.methodLink "PatternWorkshop$Printer" 47 yX4_writeLeaf : Cond) ∈ TW := tw_in (tb_4 (List.mem_of_getElem? (i := 15) rfl)) (by decide +kernel)
theorem tw_1212 : (.instanceMethod yX4_writeLeaf : Cond) ∈ TW := tw_in (tb_4 (List.mem_of_getElem? (i := 17) rfl)) (by decide +kernel)
theorem tw_1213 : (.code yX4_writeLeaf cX4_writeLeaf 4 none : Cond) ∈ TW := tw_in (tb_4 (List.mem_of_getElem? (i := 18) rfl)) (by decide +kernel)
theorem tw_1214 : (.methodLink "PatternWorkshop$Printer" 63 yX10_valueOf : Cond) ∈ TW := tw_in (tb_4 (List.mem_of_getElem? (i := 19) rfl)) (by decide +kernel)
theorem tw_1215 : (.methodLink "PatternWorkshop$Printer" 66 yX4_writeSign : Cond) ∈ TW := tw_in (tb_4 (List.mem_of_getElem? (i := 20) rfl)) (by decide +kernel)
theorem tw_1217 : (.instanceMethod yX4_writeSign : Cond) ∈ TW := tw_in (tb_4 (List.mem_of_getElem? (i := 22) rfl)) (by decide +kernel)
theorem tw_1218 : (.code yX4_writeSign cX4_writeSign 2 none : Cond) ∈ TW := tw_in (tb_4 (List.mem_of_getElem? (i := 23) rfl)) (by decide +kernel)
theorem tw_1220 : (.methodLink "PatternWorkshop$Printer" 82 yX4_isMark : Cond) ∈ TW := tw_in (tb_4 (List.mem_of_getElem? (i := 25) rfl)) (by decide +kernel)
theorem tw_1221 : (.static yX4_isMark : Cond) ∈ TW := tw_in (tb_4 (List.mem_of_getElem? (i := 26) rfl)) (by decide +kernel)
theorem tw_1222 : (.code yX4_isMark cX4_isMark 1 (some (.boolean)) : Cond) ∈ TW := tw_in (tb_4 (List.mem_of_getElem? (i := 27) rfl)) (by decide +kernel)
theorem tw_1223 : (.methodLink "PatternWorkshop$Printer" 85 yX4_writeCode : Cond) ∈ TW := tw_in (tb_4 (List.mem_of_getElem? (i := 28) rfl)) (by decide +kernel)
theorem tw_1225 : (.instanceMethod yX4_writeCode : Cond) ∈ TW := tw_in (tb_4 (List.mem_of_getElem? (i := 30) rfl)) (by decide +kernel)
theorem tw_1226 : (.code yX4_writeCode cX4_writeCode 4 none : Cond) ∈ TW := tw_in (tb_4 (List.mem_of_getElem? (i := 31) rfl)) (by decide +kernel)
theorem tw_1228 : (.static yX11_isPlain : Cond) ∈ TW := tw_in (tb_4 (List.mem_of_getElem? (i := 33) rfl)) (by decide +kernel)
theorem tw_1229 : (.code yX11_isPlain cX11_isPlain 1 (some (.boolean)) : Cond) ∈ TW := tw_in (tb_4 (List.mem_of_getElem? (i := 34) rfl)) (by decide +kernel)
theorem tw_1230 : (.methodLink "PatternWorkshop$Printer" 69 yX4_writeSet : Cond) ∈ TW := tw_in (tb_4 (List.mem_of_getElem? (i := 35) rfl)) (by decide +kernel)
theorem tw_1232 : (.instanceMethod yX4_writeSet : Cond) ∈ TW := tw_in (tb_4 (List.mem_of_getElem? (i := 37) rfl)) (by decide +kernel)
theorem tw_1233 : (.code yX4_writeSet cX4_writeSet 4 none : Cond) ∈ TW := tw_in (tb_4 (List.mem_of_getElem? (i := 38) rfl)) (by decide +kernel)
theorem tw_1234 : (.methodLink "PatternWorkshop$Printer" 91 yX10_partsOf : Cond) ∈ TW := tw_in (tb_4 (List.mem_of_getElem? (i := 39) rfl)) (by decide +kernel)
theorem tw_1235 : (.methodLink "PatternWorkshop$Printer" 94 yX10_partBegin : Cond) ∈ TW := tw_in (tb_4 (List.mem_of_getElem? (i := 40) rfl)) (by decide +kernel)
theorem tw_1236 : (.methodLink "PatternWorkshop$Printer" 98 yX4_writeMember : Cond) ∈ TW := tw_in (tb_4 (List.mem_of_getElem? (i := 41) rfl)) (by decide +kernel)
theorem tw_1238 : (.instanceMethod yX4_writeMember : Cond) ∈ TW := tw_in (tb_4 (List.mem_of_getElem? (i := 43) rfl)) (by decide +kernel)
theorem tw_1239 : (.code yX4_writeMember cX4_writeMember 2 none : Cond) ∈ TW := tw_in (tb_4 (List.mem_of_getElem? (i := 44) rfl)) (by decide +kernel)
theorem tw_1240 : (.methodLink "PatternWorkshop$Printer" 101 yX10_partEnd : Cond) ∈ TW := tw_in (tb_4 (List.mem_of_getElem? (i := 45) rfl)) (by decide +kernel)
theorem tw_1241 : (.methodLink "PatternWorkshop$Printer" 72 yX4_writeEdge : Cond) ∈ TW := tw_in (tb_4 (List.mem_of_getElem? (i := 46) rfl)) (by decide +kernel)
theorem tw_1243 : (.instanceMethod yX4_writeEdge : Cond) ∈ TW := tw_in (tb_4 (List.mem_of_getElem? (i := 48) rfl)) (by decide +kernel)
theorem tw_1244 : (.code yX4_writeEdge cX4_writeEdge 2 none : Cond) ∈ TW := tw_in (tb_4 (List.mem_of_getElem? (i := 49) rfl)) (by decide +kernel)
theorem tw_1245 : (.methodLink "PatternWorkshop$Printer" 51 yX4_writeOpening : Cond) ∈ TW := tw_in (tb_4 (List.mem_of_getElem? (i := 50) rfl)) (by decide +kernel)
theorem tw_1247 : (.instanceMethod yX4_writeOpening : Cond) ∈ TW := tw_in (tb_4 (List.mem_of_getElem? (i := 52) rfl)) (by decide +kernel)
theorem tw_1248 : (.code yX4_writeOpening cX4_writeOpening 3 none : Cond) ∈ TW := tw_in (tb_4 (List.mem_of_getElem? (i := 53) rfl)) (by decide +kernel)
theorem tw_1249 : (.methodLink "PatternWorkshop$Printer" 104 yX10_lowOf : Cond) ∈ TW := tw_in (tb_4 (List.mem_of_getElem? (i := 54) rfl)) (by decide +kernel)
theorem tw_1250 : (.methodLink "PatternWorkshop$Printer" 107 yX4_markOfLook : Cond) ∈ TW := tw_in (tb_4 (List.mem_of_getElem? (i := 55) rfl)) (by decide +kernel)
theorem tw_1251 : (.static yX4_markOfLook : Cond) ∈ TW := tw_in (tb_4 (List.mem_of_getElem? (i := 56) rfl)) (by decide +kernel)
theorem tw_1252 : (.code yX4_markOfLook cX4_markOfLook 1 (some (.int)) : Cond) ∈ TW := tw_in (tb_4 (List.mem_of_getElem? (i := 57) rfl)) (by decide +kernel)
theorem tw_1253 : (.methodLink "PatternWorkshop$Printer" 54 yX10_firstOf : Cond) ∈ TW := tw_in (tb_4 (List.mem_of_getElem? (i := 58) rfl)) (by decide +kernel)
theorem tw_1254 : (.methodLink "PatternWorkshop$Printer" 57 yX10_nextOf : Cond) ∈ TW := tw_in (tb_4 (List.mem_of_getElem? (i := 59) rfl)) (by decide +kernel)
theorem tw_1255 : (.methodLink "PatternWorkshop$Printer" 60 yX4_writeClosing : Cond) ∈ TW := tw_in (tb_4 (List.mem_of_getElem? (i := 60) rfl)) (by decide +kernel)
theorem tw_1257 : (.instanceMethod yX4_writeClosing : Cond) ∈ TW := tw_in (tb_4 (List.mem_of_getElem? (i := 62) rfl)) (by decide +kernel)
theorem tw_1258 : (.code yX4_writeClosing cX4_writeClosing 3 none : Cond) ∈ TW := tw_in (tb_4 (List.mem_of_getElem? (i := 63) rfl)) (by decide +kernel)
theorem tw_1259 : (.methodLink "PatternWorkshop$Printer" 110 yX10_highOf : Cond) ∈ TW := tw_in (tb_4 (List.mem_of_getElem? (i := 64) rfl)) (by decide +kernel)
theorem tw_1260 : (.methodLink "PatternWorkshop$Printer" 113 yX4_writeLoop : Cond) ∈ TW := tw_in (tb_4 (List.mem_of_getElem? (i := 65) rfl)) (by decide +kernel)
theorem tw_1262 : (.instanceMethod yX4_writeLoop : Cond) ∈ TW := tw_in (tb_4 (List.mem_of_getElem? (i := 67) rfl)) (by decide +kernel)
theorem tw_1263 : (.code yX4_writeLoop cX4_writeLoop 3 none : Cond) ∈ TW := tw_in (tb_4 (List.mem_of_getElem? (i := 68) rfl)) (by decide +kernel)
theorem tw_1264 : (.methodLink "PatternWorkshop$Printer" 117 yX4_writeNumber : Cond) ∈ TW := tw_in (tb_4 (List.mem_of_getElem? (i := 69) rfl)) (by decide +kernel)
theorem tw_1266 : (.instanceMethod yX4_writeNumber : Cond) ∈ TW := tw_in (tb_4 (List.mem_of_getElem? (i := 71) rfl)) (by decide +kernel)
theorem tw_1267 : (.code yX4_writeNumber cX4_writeNumber 2 none : Cond) ∈ TW := tw_in (tb_4 (List.mem_of_getElem? (i := 72) rfl)) (by decide +kernel)
theorem tw_1275 : (.code yX7_take cX7_take 2 none : Cond) ∈ TW := tw_in (tb_4 (List.mem_of_getElem? (i := 80) rfl)) (by decide +kernel)
theorem tw_1276 : (.methodLink "PatternWorkshop$Row" 37 yX7_empty : Cond) ∈ TW := tw_in (tb_4 (List.mem_of_getElem? (i := 81) rfl)) (by decide +kernel)
theorem tw_1277 : (.methodLink "PatternWorkshop$Row" 40 yX7_addFrom : Cond) ∈ TW := tw_in (tb_4 (List.mem_of_getElem? (i := 82) rfl)) (by decide +kernel)
theorem tw_1278 : (.instanceMethod yX7_addFrom : Cond) ∈ TW := tw_in (tb_4 (List.mem_of_getElem? (i := 83) rfl)) (by decide +kernel)
theorem tw_1279 : (.selects "PatternWorkshop$Row" yX7_addFrom yX7_addFrom : Cond) ∈ TW := tw_in (tb_4 (List.mem_of_getElem? (i := 84) rfl)) (by decide +kernel)
theorem tw_1280 : (.code yX7_addFrom cX7_addFrom 5 none : Cond) ∈ TW := tw_in (tb_4 (List.mem_of_getElem? (i := 85) rfl)) (by decide +kernel)
theorem tw_1281 : (.methodLink "PatternWorkshop$Row" 29 yX7_at : Cond) ∈ TW := tw_in (tb_4 (List.mem_of_getElem? (i := 86) rfl)) (by decide +kernel)
theorem tw_1282 : (.methodLink "PatternWorkshop$Row" 33 yX7_add : Cond) ∈ TW := tw_in (tb_4 (List.mem_of_getElem? (i := 87) rfl)) (by decide +kernel)
theorem tw_1289 : (.instanceMethod yX10_markBeginning : Cond) ∈ TW := tw_in (tb_4 (List.mem_of_getElem? (i := 94) rfl)) (by decide +kernel)
theorem tw_1290 : (.selects "PatternWorkshop$Tree" yX10_markBeginning yX10_markBeginning : Cond) ∈ TW := tw_in (tb_4 (List.mem_of_getElem? (i := 95) rfl)) (by decide +kernel)
theorem tw_1291 : (.code yX10_markBeginning cX10_markBeginning 3 none : Cond) ∈ TW := tw_in (tb_4 (List.mem_of_getElem? (i := 96) rfl)) (by decide +kernel)
theorem tw_1292 : (.methodLink "PatternWorkshop$Tree" 140 yX10_beginsWith : Cond) ∈ TW := tw_in (tb_4 (List.mem_of_getElem? (i := 97) rfl)) (by decide +kernel)
theorem tw_1294 : (.instanceMethod yX10_beginsWith : Cond) ∈ TW := tw_in (tb_4 (List.mem_of_getElem? (i := 99) rfl)) (by decide +kernel)
theorem tw_1295 : (.code yX10_beginsWith cX10_beginsWith 3 (some (.boolean)) : Cond) ∈ TW := tw_in (tb_4 (List.mem_of_getElem? (i := 100) rfl)) (by decide +kernel)
theorem tw_1296 : (.methodLink "PatternWorkshop$Tree" 143 yX10_takes : Cond) ∈ TW := tw_in (tb_4 (List.mem_of_getElem? (i := 101) rfl)) (by decide +kernel)
theorem tw_1297 : (.instanceMethod yX10_takes : Cond) ∈ TW := tw_in (tb_4 (List.mem_of_getElem? (i := 102) rfl)) (by decide +kernel)
theorem tw_1298 : (.selects "PatternWorkshop$Tree" yX10_takes yX10_takes : Cond) ∈ TW := tw_in (tb_4 (List.mem_of_getElem? (i := 103) rfl)) (by decide +kernel)
theorem tw_1299 : (.code yX10_takes cX10_takes 4 (some (.boolean)) : Cond) ∈ TW := tw_in (tb_4 (List.mem_of_getElem? (i := 104) rfl)) (by decide +kernel)
theorem tw_1300 : (.methodLink "PatternWorkshop$Tree" 130 yX10_valueOf : Cond) ∈ TW := tw_in (tb_4 (List.mem_of_getElem? (i := 105) rfl)) (by decide +kernel)
theorem tw_1302 : (.static yX11_otherCase : Cond) ∈ TW := tw_in (tb_4 (List.mem_of_getElem? (i := 107) rfl)) (by decide +kernel)
theorem tw_1303 : (.code yX11_otherCase cX11_otherCase 2 (some (.int)) : Cond) ∈ TW := tw_in (tb_4 (List.mem_of_getElem? (i := 108) rfl)) (by decide +kernel)
theorem tw_1304 : (.methodLink "PatternWorkshop$Tree" 136 yX10_hasInParts : Cond) ∈ TW := tw_in (tb_4 (List.mem_of_getElem? (i := 109) rfl)) (by decide +kernel)
theorem tw_1306 : (.instanceMethod yX10_hasInParts : Cond) ∈ TW := tw_in (tb_4 (List.mem_of_getElem? (i := 111) rfl)) (by decide +kernel)
theorem tw_1307 : (.code yX10_hasInParts cX10_hasInParts 4 (some (.boolean)) : Cond) ∈ TW := tw_in (tb_4 (List.mem_of_getElem? (i := 112) rfl)) (by decide +kernel)
theorem tw_1308 : (.methodLink "PatternWorkshop$Tree" 146 yX10_rowBegins : Cond) ∈ TW := tw_in (tb_4 (List.mem_of_getElem? (i := 113) rfl)) (by decide +kernel)
theorem tw_1310 : (.instanceMethod yX10_rowBegins : Cond) ∈ TW := tw_in (tb_4 (List.mem_of_getElem? (i := 115) rfl)) (by decide +kernel)
theorem tw_1311 : (.code yX10_rowBegins cX10_rowBegins 3 (some (.boolean)) : Cond) ∈ TW := tw_in (tb_4 (List.mem_of_getElem? (i := 116) rfl)) (by decide +kernel)
theorem tw_1312 : (.methodLink "PatternWorkshop$Tree" 149 yX10_isMarked : Cond) ∈ TW := tw_in (tb_4 (List.mem_of_getElem? (i := 117) rfl)) (by decide +kernel)
theorem tw_1313 : (.instanceMethod yX10_isMarked : Cond) ∈ TW := tw_in (tb_4 (List.mem_of_getElem? (i := 118) rfl)) (by decide +kernel)
theorem tw_1314 : (.selects "PatternWorkshop$Tree" yX10_isMarked yX10_isMarked : Cond) ∈ TW := tw_in (tb_4 (List.mem_of_getElem? (i := 119) rfl)) (by decide +kernel)
theorem tw_1315 : (.code yX10_isMarked cX10_isMarked 2 (some (.boolean)) : Cond) ∈ TW := tw_in (tb_4 (List.mem_of_getElem? (i := 120) rfl)) (by decide +kernel)
theorem tw_1316 : (.methodLink "PatternWorkshop$Tree" 152 yX10_somePartIsMarked : Cond) ∈ TW := tw_in (tb_4 (List.mem_of_getElem? (i := 121) rfl)) (by decide +kernel)
theorem tw_1318 : (.instanceMethod yX10_somePartIsMarked : Cond) ∈ TW := tw_in (tb_4 (List.mem_of_getElem? (i := 123) rfl)) (by decide +kernel)
theorem tw_1319 : (.code yX10_somePartIsMarked cX10_somePartIsMarked 3 (some (.boolean)) : Cond) ∈ TW := tw_in (tb_4 (List.mem_of_getElem? (i := 124) rfl)) (by decide +kernel)
theorem tw_1326 : (.instanceMethod yX0_gather : Cond) ∈ TW := tw_in (tb_4 (List.mem_of_getElem? (i := 131) rfl)) (by decide +kernel)
theorem tw_1327 : (.selects "PatternWorkshop$Alphabet" yX0_gather yX0_gather : Cond) ∈ TW := tw_in (tb_4 (List.mem_of_getElem? (i := 132) rfl)) (by decide +kernel)
theorem tw_1328 : (.code yX0_gather cX0_gather 3 none : Cond) ∈ TW := tw_in (tb_4 (List.mem_of_getElem? (i := 133) rfl)) (by decide +kernel)
theorem tw_1329 : (.methodLink "PatternWorkshop$Alphabet" 19 yX0_addTree : Cond) ∈ TW := tw_in (tb_4 (List.mem_of_getElem? (i := 134) rfl)) (by decide +kernel)
theorem tw_1331 : (.instanceMethod yX0_addTree : Cond) ∈ TW := tw_in (tb_4 (List.mem_of_getElem? (i := 136) rfl)) (by decide +kernel)
theorem tw_1332 : (.code yX0_addTree cX0_addTree 3 none : Cond) ∈ TW := tw_in (tb_4 (List.mem_of_getElem? (i := 137) rfl)) (by decide +kernel)
theorem tw_1333 : (.methodLink "PatternWorkshop$Alphabet" 23 yX10_has : Cond) ∈ TW := tw_in (tb_4 (List.mem_of_getElem? (i := 138) rfl)) (by decide +kernel)
theorem tw_1334 : (.methodLink "PatternWorkshop$Alphabet" 29 yX10_sortOf : Cond) ∈ TW := tw_in (tb_4 (List.mem_of_getElem? (i := 139) rfl)) (by decide +kernel)
theorem tw_1335 : (.methodLink "PatternWorkshop$Alphabet" 33 yX10_valueOf : Cond) ∈ TW := tw_in (tb_4 (List.mem_of_getElem? (i := 140) rfl)) (by decide +kernel)
theorem tw_1336 : (.methodLink "PatternWorkshop$Alphabet" 36 yX10_isWithinCase : Cond) ∈ TW := tw_in (tb_4 (List.mem_of_getElem? (i := 141) rfl)) (by decide +kernel)
theorem tw_1337 : (.methodLink "PatternWorkshop$Alphabet" 39 yX0_addRange : Cond) ∈ TW := tw_in (tb_4 (List.mem_of_getElem? (i := 142) rfl)) (by decide +kernel)
theorem tw_1339 : (.instanceMethod yX0_addRange : Cond) ∈ TW := tw_in (tb_4 (List.mem_of_getElem? (i := 144) rfl)) (by decide +kernel)
theorem tw_1340 : (.code yX0_addRange cX0_addRange 4 none : Cond) ∈ TW := tw_in (tb_4 (List.mem_of_getElem? (i := 145) rfl)) (by decide +kernel)
theorem tw_1341 : (.methodLink "PatternWorkshop$Alphabet" 57 yX0_addBegin : Cond) ∈ TW := tw_in (tb_4 (List.mem_of_getElem? (i := 146) rfl)) (by decide +kernel)
theorem tw_1343 : (.instanceMethod yX0_addBegin : Cond) ∈ TW := tw_in (tb_4 (List.mem_of_getElem? (i := 148) rfl)) (by decide +kernel)
theorem tw_1344 : (.code yX0_addBegin cX0_addBegin 5 none : Cond) ∈ TW := tw_in (tb_4 (List.mem_of_getElem? (i := 149) rfl)) (by decide +kernel)
theorem tw_1345 : (.constant "PatternWorkshop$Alphabet" 69 65535 : Cond) ∈ TW := tw_in (tb_4 (List.mem_of_getElem? (i := 150) rfl)) (by decide +kernel)
theorem tw_1346 : (.methodLink "PatternWorkshop$Alphabet" 61 ⟨"java/lang/Math", "max", "(II)I"⟩ : Cond) ∈ TW := tw_in (tb_4 (List.mem_of_getElem? (i := 151) rfl)) (by decide +kernel)
theorem tw_1347 : (.methodLink "PatternWorkshop$Alphabet" 66 ⟨"java/lang/Math", "min", "(II)I"⟩ : Cond) ∈ TW := tw_in (tb_4 (List.mem_of_getElem? (i := 152) rfl)) (by decide +kernel)
theorem tw_1348 : (.methodLink "PatternWorkshop$Alphabet" 43 yX0_addParts : Cond) ∈ TW := tw_in (tb_4 (List.mem_of_getElem? (i := 153) rfl)) (by decide +kernel)
theorem tw_1350 : (.instanceMethod yX0_addParts : Cond) ∈ TW := tw_in (tb_4 (List.mem_of_getElem? (i := 155) rfl)) (by decide +kernel)
theorem tw_1351 : (.code yX0_addParts cX0_addParts 4 none : Cond) ∈ TW := tw_in (tb_4 (List.mem_of_getElem? (i := 156) rfl)) (by decide +kernel)
theorem tw_1352 : (.methodLink "PatternWorkshop$Alphabet" 47 yX10_partsOf : Cond) ∈ TW := tw_in (tb_4 (List.mem_of_getElem? (i := 157) rfl)) (by decide +kernel)
theorem tw_1353 : (.methodLink "PatternWorkshop$Alphabet" 50 yX10_partBegin : Cond) ∈ TW := tw_in (tb_4 (List.mem_of_getElem? (i := 158) rfl)) (by decide +kernel)
theorem tw_1354 : (.methodLink "PatternWorkshop$Alphabet" 54 yX10_partEnd : Cond) ∈ TW := tw_in (tb_4 (List.mem_of_getElem? (i := 159) rfl)) (by decide +kernel)
theorem tw_1358 : (.code yX10_firstRisky cX10_firstRisky 6 (some (.int)) : Cond) ∈ TW := tw_in (tb_4 (List.mem_of_getElem? (i := 163) rfl)) (by decide +kernel)
theorem tw_1359 : (.methodLink "PatternWorkshop$Tree" 158 yX0_leastOf : Cond) ∈ TW := tw_in (tb_4 (List.mem_of_getElem? (i := 164) rfl)) (by decide +kernel)
theorem tw_1360 : (.instanceMethod yX0_leastOf : Cond) ∈ TW := tw_in (tb_4 (List.mem_of_getElem? (i := 165) rfl)) (by decide +kernel)
theorem tw_1361 : (.selects "PatternWorkshop$Alphabet" yX0_leastOf yX0_leastOf : Cond) ∈ TW := tw_in (tb_4 (List.mem_of_getElem? (i := 166) rfl)) (by decide +kernel)
theorem tw_1362 : (.code yX0_leastOf cX0_leastOf 2 (some (.int)) : Cond) ∈ TW := tw_in (tb_4 (List.mem_of_getElem? (i := 167) rfl)) (by decide +kernel)
theorem tw_1363 : (.methodLink "PatternWorkshop$Tree" 161 yX10_markBeginning : Cond) ∈ TW := tw_in (tb_4 (List.mem_of_getElem? (i := 168) rfl)) (by decide +kernel)
theorem tw_1364 : (.methodLink "PatternWorkshop$Tree" 164 yX10_isEndless : Cond) ∈ TW := tw_in (tb_4 (List.mem_of_getElem? (i := 169) rfl)) (by decide +kernel)
theorem tw_1365 : (.instanceMethod yX10_isEndless : Cond) ∈ TW := tw_in (tb_4 (List.mem_of_getElem? (i := 170) rfl)) (by decide +kernel)
theorem tw_1366 : (.selects "PatternWorkshop$Tree" yX10_isEndless yX10_isEndless : Cond) ∈ TW := tw_in (tb_4 (List.mem_of_getElem? (i := 171) rfl)) (by decide +kernel)
theorem tw_1367 : (.code yX10_isEndless cX10_isEndless 2 (some (.boolean)) : Cond) ∈ TW := tw_in (tb_4 (List.mem_of_getElem? (i := 172) rfl)) (by decide +kernel)
theorem tw_1368 : (.methodLink "PatternWorkshop$Tree" 167 yX10_outermostEndless : Cond) ∈ TW := tw_in (tb_4 (List.mem_of_getElem? (i := 173) rfl)) (by decide +kernel)
theorem tw_1370 : (.instanceMethod yX10_outermostEndless : Cond) ∈ TW := tw_in (tb_4 (List.mem_of_getElem? (i := 175) rfl)) (by decide +kernel)
theorem tw_1371 : (.code yX10_outermostEndless cX10_outermostEndless 4 (some (.int)) : Cond) ∈ TW := tw_in (tb_4 (List.mem_of_getElem? (i := 176) rfl)) (by decide +kernel)
theorem tw_1372 : (.methodLink "PatternWorkshop$Tree" 170 yX10_holderOf : Cond) ∈ TW := tw_in (tb_4 (List.mem_of_getElem? (i := 177) rfl)) (by decide +kernel)
theorem tw_1380 : (.code yX10_deadRow cX10_deadRow 4 (some (.int)) : Cond) ∈ TW := tw_in (tb_4 (List.mem_of_getElem? (i := 185) rfl)) (by decide +kernel)
theorem tw_1381 : (.methodLink "PatternWorkshop$Tree" 173 yX10_isSaidAhead : Cond) ∈ TW := tw_in (tb_4 (List.mem_of_getElem? (i := 186) rfl)) (by decide +kernel)
theorem tw_1383 : (.instanceMethod yX10_isSaidAhead : Cond) ∈ TW := tw_in (tb_4 (List.mem_of_getElem? (i := 188) rfl)) (by decide +kernel)
theorem tw_1384 : (.code yX10_isSaidAhead cX10_isSaidAhead 3 (some (.boolean)) : Cond) ∈ TW := tw_in (tb_4 (List.mem_of_getElem? (i := 189) rfl)) (by decide +kernel)
theorem tw_1385 : (.methodLink "PatternWorkshop$Tree" 176 yX10_beforeOf : Cond) ∈ TW := tw_in (tb_4 (List.mem_of_getElem? (i := 190) rfl)) (by decide +kernel)
theorem tw_1386 : (.instanceMethod yX10_beforeOf : Cond) ∈ TW := tw_in (tb_4 (List.mem_of_getElem? (i := 191) rfl)) (by decide +kernel)
theorem tw_1387 : (.selects "PatternWorkshop$Tree" yX10_beforeOf yX10_beforeOf : Cond) ∈ TW := tw_in (tb_4 (List.mem_of_getElem? (i := 192) rfl)) (by decide +kernel)
theorem tw_1388 : (.code yX10_beforeOf cX10_beforeOf 2 (some (.int)) : Cond) ∈ TW := tw_in (tb_4 (List.mem_of_getElem? (i := 193) rfl)) (by decide +kernel)
theorem tw_1389 : (.methodLink "PatternWorkshop$Tree" 179 yX10_printAlike : Cond) ∈ TW := tw_in (tb_4 (List.mem_of_getElem? (i := 194) rfl)) (by decide +kernel)
theorem tw_1391 : (.instanceMethod yX10_printAlike : Cond) ∈ TW := tw_in (tb_4 (List.mem_of_getElem? (i := 196) rfl)) (by decide +kernel)
theorem tw_1392 : (.code yX10_printAlike cX10_printAlike 5 (some (.boolean)) : Cond) ∈ TW := tw_in (tb_4 (List.mem_of_getElem? (i := 197) rfl)) (by decide +kernel)
theorem tw_1393 : (.methodLink "PatternWorkshop$Tree" 182 yX10_endOf : Cond) ∈ TW := tw_in (tb_4 (List.mem_of_getElem? (i := 198) rfl)) (by decide +kernel)
theorem tw_1394 : (.instanceMethod yX10_endOf : Cond) ∈ TW := tw_in (tb_4 (List.mem_of_getElem? (i := 199) rfl)) (by decide +kernel)
theorem tw_1395 : (.selects "PatternWorkshop$Tree" yX10_endOf yX10_endOf : Cond) ∈ TW := tw_in (tb_4 (List.mem_of_getElem? (i := 200) rfl)) (by decide +kernel)
theorem tw_1396 : (.code yX10_endOf cX10_endOf 2 (some (.int)) : Cond) ∈ TW := tw_in (tb_4 (List.mem_of_getElem? (i := 201) rfl)) (by decide +kernel)
theorem tw_1397 : (.methodLink "PatternWorkshop$Tree" 185 yX10_nodeAlike : Cond) ∈ TW := tw_in (tb_4 (List.mem_of_getElem? (i := 202) rfl)) (by decide +kernel)
theorem tw_1399 : (.instanceMethod yX10_nodeAlike : Cond) ∈ TW := tw_in (tb_4 (List.mem_of_getElem? (i := 204) rfl)) (by decide +kernel)
theorem tw_1400 : (.code yX10_nodeAlike cX10_nodeAlike 3 (some (.boolean)) : Cond) ∈ TW := tw_in (tb_4 (List.mem_of_getElem? (i := 205) rfl)) (by decide +kernel)
theorem tw_1401 : (.methodLink "PatternWorkshop$Tree" 188 yX10_sameParts : Cond) ∈ TW := tw_in (tb_4 (List.mem_of_getElem? (i := 206) rfl)) (by decide +kernel)
theorem tw_1403 : (.instanceMethod yX10_sameParts : Cond) ∈ TW := tw_in (tb_4 (List.mem_of_getElem? (i := 208) rfl)) (by decide +kernel)
theorem tw_1404 : (.code yX10_sameParts cX10_sameParts 4 (some (.boolean)) : Cond) ∈ TW := tw_in (tb_4 (List.mem_of_getElem? (i := 209) rfl)) (by decide +kernel)
theorem tw_1405 : (.methodLink "PatternWorkshop$Tree" 191 yX10_partBegin : Cond) ∈ TW := tw_in (tb_4 (List.mem_of_getElem? (i := 210) rfl)) (by decide +kernel)
theorem tw_1406 : (.methodLink "PatternWorkshop$Tree" 194 yX10_partEnd : Cond) ∈ TW := tw_in (tb_4 (List.mem_of_getElem? (i := 211) rfl)) (by decide +kernel)
theorem tw_1446 : (.code yX10_isTakenBy cX10_isTakenBy 4 (some (.boolean)) : Cond) ∈ TW := tw_in (tb_5 (List.mem_of_getElem? (i := 11) rfl)) (by decide +kernel)
theorem tw_1447 : (.methodLink "PatternWorkshop$Tree" 127 yX10_isParallel : Cond) ∈ TW := tw_in (tb_5 (List.mem_of_getElem? (i := 12) rfl)) (by decide +kernel)
theorem tw_1449 : (.instanceMethod yX10_isParallel : Cond) ∈ TW := tw_in (tb_5 (List.mem_of_getElem? (i := 14) rfl)) (by decide +kernel)
theorem tw_1450 : (.code yX10_isParallel cX10_isParallel 3 (some (.boolean)) : Cond) ∈ TW := tw_in (tb_5 (List.mem_of_getElem? (i := 15) rfl)) (by decide +kernel)
theorem tw_1454 : (.code yX10_isTooLargeFor cX10_isTooLargeFor 2 (some (.boolean)) : Cond) ∈ TW := tw_in (tb_5 (List.mem_of_getElem? (i := 19) rfl)) (by decide +kernel)
theorem tw_1462 : (.code yX3_run cX3_run 8 (some (.boolean)) : Cond) ∈ TW := tw_in (tb_5 (List.mem_of_getElem? (i := 27) rfl)) (by decide +kernel)
theorem tw_1463 : (.methodLink "PatternWorkshop$Parallel" 59 yX5_write : Cond) ∈ TW := tw_in (tb_5 (List.mem_of_getElem? (i := 28) rfl)) (by decide +kernel)
theorem tw_1464 : (.instanceMethod yX5_write : Cond) ∈ TW := tw_in (tb_5 (List.mem_of_getElem? (i := 29) rfl)) (by decide +kernel)
theorem tw_1465 : (.selects "PatternWorkshop$Program" yX5_write yX5_write : Cond) ∈ TW := tw_in (tb_5 (List.mem_of_getElem? (i := 30) rfl)) (by decide +kernel)
theorem tw_1466 : (.code yX5_write cX5_write 2 none : Cond) ∈ TW := tw_in (tb_5 (List.mem_of_getElem? (i := 31) rfl)) (by decide +kernel)
theorem tw_1467 : (.methodLink "PatternWorkshop$Program" 37 yX5_add : Cond) ∈ TW := tw_in (tb_5 (List.mem_of_getElem? (i := 32) rfl)) (by decide +kernel)
theorem tw_1469 : (.instanceMethod yX5_add : Cond) ∈ TW := tw_in (tb_5 (List.mem_of_getElem? (i := 34) rfl)) (by decide +kernel)
theorem tw_1470 : (.code yX5_add cX5_add 6 (some (.int)) : Cond) ∈ TW := tw_in (tb_5 (List.mem_of_getElem? (i := 35) rfl)) (by decide +kernel)
theorem tw_1471 : (.methodLink "PatternWorkshop$Program" 41 yX5_build : Cond) ∈ TW := tw_in (tb_5 (List.mem_of_getElem? (i := 36) rfl)) (by decide +kernel)
theorem tw_1473 : (.instanceMethod yX5_build : Cond) ∈ TW := tw_in (tb_5 (List.mem_of_getElem? (i := 38) rfl)) (by decide +kernel)
theorem tw_1474 : (.code yX5_build cX5_build 6 (some (.int)) : Cond) ∈ TW := tw_in (tb_5 (List.mem_of_getElem? (i := 39) rfl)) (by decide +kernel)
theorem tw_1475 : (.methodLink "PatternWorkshop$Program" 55 yX10_sortOf : Cond) ∈ TW := tw_in (tb_5 (List.mem_of_getElem? (i := 40) rfl)) (by decide +kernel)
theorem tw_1476 : (.methodLink "PatternWorkshop$Program" 58 yX10_valueOf : Cond) ∈ TW := tw_in (tb_5 (List.mem_of_getElem? (i := 41) rfl)) (by decide +kernel)
theorem tw_1477 : (.methodLink "PatternWorkshop$Program" 61 yX5_buildRow : Cond) ∈ TW := tw_in (tb_5 (List.mem_of_getElem? (i := 42) rfl)) (by decide +kernel)
theorem tw_1479 : (.instanceMethod yX5_buildRow : Cond) ∈ TW := tw_in (tb_5 (List.mem_of_getElem? (i := 44) rfl)) (by decide +kernel)
theorem tw_1480 : (.code yX5_buildRow cX5_buildRow 7 (some (.int)) : Cond) ∈ TW := tw_in (tb_5 (List.mem_of_getElem? (i := 45) rfl)) (by decide +kernel)
theorem tw_1481 : (.methodLink "PatternWorkshop$Program" 73 yX10_lastOf : Cond) ∈ TW := tw_in (tb_5 (List.mem_of_getElem? (i := 46) rfl)) (by decide +kernel)
theorem tw_1482 : (.methodLink "PatternWorkshop$Program" 76 yX10_beforeOf : Cond) ∈ TW := tw_in (tb_5 (List.mem_of_getElem? (i := 47) rfl)) (by decide +kernel)
theorem tw_1483 : (.methodLink "PatternWorkshop$Program" 64 yX5_buildChoice : Cond) ∈ TW := tw_in (tb_5 (List.mem_of_getElem? (i := 48) rfl)) (by decide +kernel)
theorem tw_1485 : (.instanceMethod yX5_buildChoice : Cond) ∈ TW := tw_in (tb_5 (List.mem_of_getElem? (i := 50) rfl)) (by decide +kernel)
theorem tw_1486 : (.code yX5_buildChoice cX5_buildChoice 8 (some (.int)) : Cond) ∈ TW := tw_in (tb_5 (List.mem_of_getElem? (i := 51) rfl)) (by decide +kernel)
theorem tw_1487 : (.methodLink "PatternWorkshop$Program" 67 yX5_buildLoop : Cond) ∈ TW := tw_in (tb_5 (List.mem_of_getElem? (i := 52) rfl)) (by decide +kernel)
theorem tw_1489 : (.instanceMethod yX5_buildLoop : Cond) ∈ TW := tw_in (tb_5 (List.mem_of_getElem? (i := 54) rfl)) (by decide +kernel)
theorem tw_1490 : (.code yX5_buildLoop cX5_buildLoop 10 (some (.int)) : Cond) ∈ TW := tw_in (tb_5 (List.mem_of_getElem? (i := 55) rfl)) (by decide +kernel)
theorem tw_1491 : (.methodLink "PatternWorkshop$Program" 70 yX10_firstOf : Cond) ∈ TW := tw_in (tb_5 (List.mem_of_getElem? (i := 56) rfl)) (by decide +kernel)
theorem tw_1492 : (.methodLink "PatternWorkshop$Program" 79 yX10_isEndless : Cond) ∈ TW := tw_in (tb_5 (List.mem_of_getElem? (i := 57) rfl)) (by decide +kernel)
theorem tw_1493 : (.methodLink "PatternWorkshop$Program" 83 yX5_aim : Cond) ∈ TW := tw_in (tb_5 (List.mem_of_getElem? (i := 58) rfl)) (by decide +kernel)
theorem tw_1495 : (.instanceMethod yX5_aim : Cond) ∈ TW := tw_in (tb_5 (List.mem_of_getElem? (i := 60) rfl)) (by decide +kernel)
theorem tw_1496 : (.code yX5_aim cX5_aim 5 none : Cond) ∈ TW := tw_in (tb_5 (List.mem_of_getElem? (i := 61) rfl)) (by decide +kernel)
theorem tw_1497 : (.methodLink "PatternWorkshop$Program" 87 yX10_highOf : Cond) ∈ TW := tw_in (tb_5 (List.mem_of_getElem? (i := 62) rfl)) (by decide +kernel)
theorem tw_1498 : (.methodLink "PatternWorkshop$Program" 90 yX10_lowOf : Cond) ∈ TW := tw_in (tb_5 (List.mem_of_getElem? (i := 63) rfl)) (by decide +kernel)
theorem tw_1499 : (.methodLink "PatternWorkshop$Parallel" 69 ⟨"java/lang/Math", "min", "(II)I"⟩ : Cond) ∈ TW := tw_in (tb_5 (List.mem_of_getElem? (i := 64) rfl)) (by decide +kernel)
theorem tw_1500 : (.methodLink "PatternWorkshop$Parallel" 87 yJ7_fill_53178 : Cond) ∈ TW := tw_in (tb_5 (List.mem_of_getElem? (i := 65) rfl)) (by decide +kernel)
theorem tw_1501 : (.methodLink "PatternWorkshop$Parallel" 93 yX3_markEdges : Cond) ∈ TW := tw_in (tb_5 (List.mem_of_getElem? (i := 66) rfl)) (by decide +kernel)
theorem tw_1503 : (.instanceMethod yX3_markEdges : Cond) ∈ TW := tw_in (tb_5 (List.mem_of_getElem? (i := 68) rfl)) (by decide +kernel)
theorem tw_1504 : (.code yX3_markEdges cX3_markEdges 3 none : Cond) ∈ TW := tw_in (tb_5 (List.mem_of_getElem? (i := 69) rfl)) (by decide +kernel)
theorem tw_1506 : (.static yX11_edgeHolds : Cond) ∈ TW := tw_in (tb_5 (List.mem_of_getElem? (i := 71) rfl)) (by decide +kernel)
theorem tw_1507 : (.code yX11_edgeHolds cX11_edgeHolds 4 (some (.boolean)) : Cond) ∈ TW := tw_in (tb_5 (List.mem_of_getElem? (i := 72) rfl)) (by decide +kernel)
theorem tw_1508 : (.methodLink "PatternWorkshop" 222 yX7_at : Cond) ∈ TW := tw_in (tb_5 (List.mem_of_getElem? (i := 73) rfl)) (by decide +kernel)
theorem tw_1509 : (.methodLink "PatternWorkshop" 323 yX11_isWordSign : Cond) ∈ TW := tw_in (tb_5 (List.mem_of_getElem? (i := 74) rfl)) (by decide +kernel)
theorem tw_1510 : (.static yX11_isWordSign : Cond) ∈ TW := tw_in (tb_5 (List.mem_of_getElem? (i := 75) rfl)) (by decide +kernel)
theorem tw_1511 : (.code yX11_isWordSign cX11_isWordSign 2 (some (.boolean)) : Cond) ∈ TW := tw_in (tb_5 (List.mem_of_getElem? (i := 76) rfl)) (by decide +kernel)
theorem tw_1512 : (.methodLink "PatternWorkshop$Parallel" 99 yX3_spread : Cond) ∈ TW := tw_in (tb_5 (List.mem_of_getElem? (i := 77) rfl)) (by decide +kernel)
theorem tw_1514 : (.instanceMethod yX3_spread : Cond) ∈ TW := tw_in (tb_5 (List.mem_of_getElem? (i := 79) rfl)) (by decide +kernel)
theorem tw_1515 : (.code yX3_spread cX3_spread 7 none : Cond) ∈ TW := tw_in (tb_5 (List.mem_of_getElem? (i := 80) rfl)) (by decide +kernel)
theorem tw_1516 : (.methodLink "PatternWorkshop$Parallel" 153 yX3_push : Cond) ∈ TW := tw_in (tb_5 (List.mem_of_getElem? (i := 81) rfl)) (by decide +kernel)
theorem tw_1518 : (.instanceMethod yX3_push : Cond) ∈ TW := tw_in (tb_5 (List.mem_of_getElem? (i := 83) rfl)) (by decide +kernel)
theorem tw_1519 : (.code yX3_push cX3_push 3 none : Cond) ∈ TW := tw_in (tb_5 (List.mem_of_getElem? (i := 84) rfl)) (by decide +kernel)
theorem tw_1520 : (.methodLink "PatternWorkshop$Parallel" 157 yX3_setCell : Cond) ∈ TW := tw_in (tb_5 (List.mem_of_getElem? (i := 85) rfl)) (by decide +kernel)
theorem tw_1522 : (.instanceMethod yX3_setCell : Cond) ∈ TW := tw_in (tb_5 (List.mem_of_getElem? (i := 87) rfl)) (by decide +kernel)
theorem tw_1523 : (.code yX3_setCell cX3_setCell 3 none : Cond) ∈ TW := tw_in (tb_5 (List.mem_of_getElem? (i := 88) rfl)) (by decide +kernel)
theorem tw_1524 : (.methodLink "PatternWorkshop$Parallel" 160 yX3_isNew : Cond) ∈ TW := tw_in (tb_5 (List.mem_of_getElem? (i := 89) rfl)) (by decide +kernel)
theorem tw_1526 : (.instanceMethod yX3_isNew : Cond) ∈ TW := tw_in (tb_5 (List.mem_of_getElem? (i := 91) rfl)) (by decide +kernel)
theorem tw_1527 : (.code yX3_isNew cX3_isNew 2 (some (.boolean)) : Cond) ∈ TW := tw_in (tb_5 (List.mem_of_getElem? (i := 92) rfl)) (by decide +kernel)
theorem tw_1528 : (.methodLink "PatternWorkshop$Parallel" 164 yX3_spreadOne : Cond) ∈ TW := tw_in (tb_5 (List.mem_of_getElem? (i := 93) rfl)) (by decide +kernel)
theorem tw_1530 : (.instanceMethod yX3_spreadOne : Cond) ∈ TW := tw_in (tb_5 (List.mem_of_getElem? (i := 95) rfl)) (by decide +kernel)
theorem tw_1531 : (.code yX3_spreadOne cX3_spreadOne 7 none : Cond) ∈ TW := tw_in (tb_5 (List.mem_of_getElem? (i := 96) rfl)) (by decide +kernel)
theorem tw_1532 : (.methodLink "PatternWorkshop$Parallel" 134 yX5_nextOf : Cond) ∈ TW := tw_in (tb_5 (List.mem_of_getElem? (i := 97) rfl)) (by decide +kernel)
theorem tw_1533 : (.instanceMethod yX5_nextOf : Cond) ∈ TW := tw_in (tb_5 (List.mem_of_getElem? (i := 98) rfl)) (by decide +kernel)
theorem tw_1534 : (.selects "PatternWorkshop$Program" yX5_nextOf yX5_nextOf : Cond) ∈ TW := tw_in (tb_5 (List.mem_of_getElem? (i := 99) rfl)) (by decide +kernel)
theorem tw_1535 : (.code yX5_nextOf cX5_nextOf 2 (some (.int)) : Cond) ∈ TW := tw_in (tb_5 (List.mem_of_getElem? (i := 100) rfl)) (by decide +kernel)
theorem tw_1536 : (.methodLink "PatternWorkshop$Parallel" 123 yX5_kindOf : Cond) ∈ TW := tw_in (tb_5 (List.mem_of_getElem? (i := 101) rfl)) (by decide +kernel)
theorem tw_1537 : (.instanceMethod yX5_kindOf : Cond) ∈ TW := tw_in (tb_5 (List.mem_of_getElem? (i := 102) rfl)) (by decide +kernel)
theorem tw_1538 : (.selects "PatternWorkshop$Program" yX5_kindOf yX5_kindOf : Cond) ∈ TW := tw_in (tb_5 (List.mem_of_getElem? (i := 103) rfl)) (by decide +kernel)
theorem tw_1539 : (.code yX5_kindOf cX5_kindOf 2 (some (.int)) : Cond) ∈ TW := tw_in (tb_5 (List.mem_of_getElem? (i := 104) rfl)) (by decide +kernel)
theorem tw_1540 : (.methodLink "PatternWorkshop$Parallel" 167 yX5_subjectOf : Cond) ∈ TW := tw_in (tb_5 (List.mem_of_getElem? (i := 105) rfl)) (by decide +kernel)
theorem tw_1541 : (.instanceMethod yX5_subjectOf : Cond) ∈ TW := tw_in (tb_5 (List.mem_of_getElem? (i := 106) rfl)) (by decide +kernel)
theorem tw_1542 : (.selects "PatternWorkshop$Program" yX5_subjectOf yX5_subjectOf : Cond) ∈ TW := tw_in (tb_5 (List.mem_of_getElem? (i := 107) rfl)) (by decide +kernel)
theorem tw_1543 : (.code yX5_subjectOf cX5_subjectOf 2 (some (.int)) : Cond) ∈ TW := tw_in (tb_5 (List.mem_of_getElem? (i := 108) rfl)) (by decide +kernel)
theorem tw_1544 : (.methodLink "PatternWorkshop$Parallel" 137 yX5_otherOf : Cond) ∈ TW := tw_in (tb_5 (List.mem_of_getElem? (i := 109) rfl)) (by decide +kernel)
theorem tw_1545 : (.instanceMethod yX5_otherOf : Cond) ∈ TW := tw_in (tb_5 (List.mem_of_getElem? (i := 110) rfl)) (by decide +kernel)
theorem tw_1546 : (.selects "PatternWorkshop$Program" yX5_otherOf yX5_otherOf : Cond) ∈ TW := tw_in (tb_5 (List.mem_of_getElem? (i := 111) rfl)) (by decide +kernel)
theorem tw_1547 : (.code yX5_otherOf cX5_otherOf 2 (some (.int)) : Cond) ∈ TW := tw_in (tb_5 (List.mem_of_getElem? (i := 112) rfl)) (by decide +kernel)
theorem tw_1548 : (.methodLink "PatternWorkshop$Parallel" 170 yX3_cellAt : Cond) ∈ TW := tw_in (tb_5 (List.mem_of_getElem? (i := 113) rfl)) (by decide +kernel)
theorem tw_1550 : (.instanceMethod yX3_cellAt : Cond) ∈ TW := tw_in (tb_5 (List.mem_of_getElem? (i := 115) rfl)) (by decide +kernel)
theorem tw_1551 : (.code yX3_cellAt cX3_cellAt 2 (some (.int)) : Cond) ∈ TW := tw_in (tb_5 (List.mem_of_getElem? (i := 116) rfl)) (by decide +kernel)
theorem tw_1552 : (.methodLink "PatternWorkshop$Parallel" 173 yX3_stopAt : Cond) ∈ TW := tw_in (tb_5 (List.mem_of_getElem? (i := 117) rfl)) (by decide +kernel)
theorem tw_1554 : (.instanceMethod yX3_stopAt : Cond) ∈ TW := tw_in (tb_5 (List.mem_of_getElem? (i := 119) rfl)) (by decide +kernel)
theorem tw_1555 : (.code yX3_stopAt cX3_stopAt 3 none : Cond) ∈ TW := tw_in (tb_5 (List.mem_of_getElem? (i := 120) rfl)) (by decide +kernel)
theorem tw_1556 : (.methodLink "PatternWorkshop$Parallel" 117 ⟨"java/lang/System", "arraycopy", "(Ljava/lang/Object;ILjava/lang/Object;II)V"⟩ : Cond) ∈ TW := tw_in (tb_5 (List.mem_of_getElem? (i := 121) rfl)) (by decide +kernel)
theorem tw_1557 : (.static ⟨"java/lang/System", "arraycopy", "(Ljava/lang/Object;ILjava/lang/Object;II)V"⟩ : Cond) ∈ TW := tw_in (tb_5 (List.mem_of_getElem? (i := 122) rfl)) (by decide +kernel)
theorem tw_1558 : (.native ⟨"java/lang/System", "arraycopy", "(Ljava/lang/Object;ILjava/lang/Object;II)V"⟩ : Cond) ∈ TW := tw_in (tb_5 (List.mem_of_getElem? (i := 123) rfl)) (by decide +kernel)
theorem tw_1559 : (.methodLink "PatternWorkshop$Parallel" 103 yX3_exchangeLists : Cond) ∈ TW := tw_in (tb_5 (List.mem_of_getElem? (i := 124) rfl)) (by decide +kernel)
theorem tw_1561 : (.instanceMethod yX3_exchangeLists : Cond) ∈ TW := tw_in (tb_5 (List.mem_of_getElem? (i := 126) rfl)) (by decide +kernel)
theorem tw_1562 : (.code yX3_exchangeLists cX3_exchangeLists 3 none : Cond) ∈ TW := tw_in (tb_5 (List.mem_of_getElem? (i := 127) rfl)) (by decide +kernel)
theorem tw_1563 : (.methodLink "PatternWorkshop$Parallel" 109 yX3_goAlong : Cond) ∈ TW := tw_in (tb_5 (List.mem_of_getElem? (i := 128) rfl)) (by decide +kernel)
theorem tw_1565 : (.instanceMethod yX3_goAlong : Cond) ∈ TW := tw_in (tb_5 (List.mem_of_getElem? (i := 130) rfl)) (by decide +kernel)
theorem tw_1566 : (.code yX3_goAlong cX3_goAlong 6 (some (.boolean)) : Cond) ∈ TW := tw_in (tb_5 (List.mem_of_getElem? (i := 131) rfl)) (by decide +kernel)
theorem tw_1567 : (.methodLink "PatternWorkshop$Parallel" 127 yX7_at : Cond) ∈ TW := tw_in (tb_5 (List.mem_of_getElem? (i := 132) rfl)) (by decide +kernel)
theorem tw_1568 : (.methodLink "PatternWorkshop$Parallel" 130 yX5_takes : Cond) ∈ TW := tw_in (tb_5 (List.mem_of_getElem? (i := 133) rfl)) (by decide +kernel)
theorem tw_1569 : (.instanceMethod yX5_takes : Cond) ∈ TW := tw_in (tb_5 (List.mem_of_getElem? (i := 134) rfl)) (by decide +kernel)
theorem tw_1570 : (.selects "PatternWorkshop$Program" yX5_takes yX5_takes : Cond) ∈ TW := tw_in (tb_5 (List.mem_of_getElem? (i := 135) rfl)) (by decide +kernel)
theorem tw_1571 : (.code yX5_takes cX5_takes 3 (some (.boolean)) : Cond) ∈ TW := tw_in (tb_5 (List.mem_of_getElem? (i := 136) rfl)) (by decide +kernel)
theorem tw_1572 : (.methodLink "PatternWorkshop$Program" 47 yX5_subjectOf : Cond) ∈ TW := tw_in (tb_5 (List.mem_of_getElem? (i := 137) rfl)) (by decide +kernel)
theorem tw_1573 : (.methodLink "PatternWorkshop$Program" 51 yX10_takes : Cond) ∈ TW := tw_in (tb_5 (List.mem_of_getElem? (i := 138) rfl)) (by decide +kernel)
theorem tw_1574 : (.methodLink "PatternWorkshop$Parallel" 140 yX3_tell : Cond) ∈ TW := tw_in (tb_5 (List.mem_of_getElem? (i := 139) rfl)) (by decide +kernel)
theorem tw_1576 : (.instanceMethod yX3_tell : Cond) ∈ TW := tw_in (tb_5 (List.mem_of_getElem? (i := 141) rfl)) (by decide +kernel)
theorem tw_1577 : (.code yX3_tell cX3_tell 3 none : Cond) ∈ TW := tw_in (tb_5 (List.mem_of_getElem? (i := 142) rfl)) (by decide +kernel)
theorem tw_1578 : (.methodLink "PatternWorkshop$Parallel" 144 yX7_empty : Cond) ∈ TW := tw_in (tb_5 (List.mem_of_getElem? (i := 143) rfl)) (by decide +kernel)
theorem tw_1579 : (.methodLink "PatternWorkshop$Parallel" 147 yX7_add : Cond) ∈ TW := tw_in (tb_5 (List.mem_of_getElem? (i := 144) rfl)) (by decide +kernel)
theorem tw_1583 : (.code yX1_begin cX1_begin 5 none : Cond) ∈ TW := tw_in (tb_5 (List.mem_of_getElem? (i := 148) rfl)) (by decide +kernel)
theorem tw_1584 : (.methodLink "PatternWorkshop$GoingBack" 59 yX1_startAt : Cond) ∈ TW := tw_in (tb_5 (List.mem_of_getElem? (i := 149) rfl)) (by decide +kernel)
theorem tw_1586 : (.instanceMethod yX1_startAt : Cond) ∈ TW := tw_in (tb_5 (List.mem_of_getElem? (i := 151) rfl)) (by decide +kernel)
theorem tw_1587 : (.code yX1_startAt cX1_startAt 2 none : Cond) ∈ TW := tw_in (tb_5 (List.mem_of_getElem? (i := 152) rfl)) (by decide +kernel)
theorem tw_1588 : (.methodLink "PatternWorkshop$GoingBack" 80 yJ7_fill_53178 : Cond) ∈ TW := tw_in (tb_5 (List.mem_of_getElem? (i := 153) rfl)) (by decide +kernel)
theorem tw_1593 : (.methodLink "PatternWorkshop$GoingBack" 86 ⟨"java/lang/Math", "min", "(II)I"⟩ : Cond) ∈ TW := tw_in (tb_5 (List.mem_of_getElem? (i := 158) rfl)) (by decide +kernel)
theorem tw_1599 : (.methodLink "PatternWorkshop$GoingBack" 137 yX10_sortOf : Cond) ∈ TW := tw_in (tb_5 (List.mem_of_getElem? (i := 164) rfl)) (by decide +kernel)
theorem tw_1603 : (.code yX1_step cX1_step 1 (some (.boolean)) : Cond) ∈ TW := tw_in (tb_5 (List.mem_of_getElem? (i := 168) rfl)) (by decide +kernel)
theorem tw_1607 : (.code yX1_askSign cX1_askSign 2 none : Cond) ∈ TW := tw_in (tb_5 (List.mem_of_getElem? (i := 172) rfl)) (by decide +kernel)
theorem tw_1608 : (.methodLink "PatternWorkshop$GoingBack" 174 yX7_at : Cond) ∈ TW := tw_in (tb_5 (List.mem_of_getElem? (i := 173) rfl)) (by decide +kernel)
theorem tw_1609 : (.methodLink "PatternWorkshop$GoingBack" 177 yX10_takes : Cond) ∈ TW := tw_in (tb_5 (List.mem_of_getElem? (i := 174) rfl)) (by decide +kernel)
theorem tw_1613 : (.code yX1_askEdge cX1_askEdge 1 none : Cond) ∈ TW := tw_in (tb_5 (List.mem_of_getElem? (i := 178) rfl)) (by decide +kernel)
theorem tw_1614 : (.methodLink "PatternWorkshop$GoingBack" 181 yX10_valueOf : Cond) ∈ TW := tw_in (tb_5 (List.mem_of_getElem? (i := 179) rfl)) (by decide +kernel)
theorem tw_1619 : (.code yX1_askBack cX1_askBack 7 none : Cond) ∈ TW := tw_in (tb_5 (List.mem_of_getElem? (i := 184) rfl)) (by decide +kernel)
theorem tw_1620 : (.methodLink "PatternWorkshop$GoingBack" 130 yX1_captureBegin : Cond) ∈ TW := tw_in (tb_5 (List.mem_of_getElem? (i := 185) rfl)) (by decide +kernel)
theorem tw_1622 : (.instanceMethod yX1_captureBegin : Cond) ∈ TW := tw_in (tb_5 (List.mem_of_getElem? (i := 187) rfl)) (by decide +kernel)
theorem tw_1623 : (.code yX1_captureBegin cX1_captureBegin 3 (some (.int)) : Cond) ∈ TW := tw_in (tb_5 (List.mem_of_getElem? (i := 188) rfl)) (by decide +kernel)
theorem tw_1624 : (.methodLink "PatternWorkshop$GoingBack" 204 yX1_cell : Cond) ∈ TW := tw_in (tb_5 (List.mem_of_getElem? (i := 189) rfl)) (by decide +kernel)
theorem tw_1626 : (.instanceMethod yX1_cell : Cond) ∈ TW := tw_in (tb_5 (List.mem_of_getElem? (i := 191) rfl)) (by decide +kernel)
theorem tw_1627 : (.code yX1_cell cX1_cell 2 (some (.int)) : Cond) ∈ TW := tw_in (tb_5 (List.mem_of_getElem? (i := 192) rfl)) (by decide +kernel)
theorem tw_1628 : (.methodLink "PatternWorkshop$GoingBack" 134 yX1_captureEnd : Cond) ∈ TW := tw_in (tb_5 (List.mem_of_getElem? (i := 193) rfl)) (by decide +kernel)
theorem tw_1630 : (.instanceMethod yX1_captureEnd : Cond) ∈ TW := tw_in (tb_5 (List.mem_of_getElem? (i := 195) rfl)) (by decide +kernel)
theorem tw_1631 : (.code yX1_captureEnd cX1_captureEnd 3 (some (.int)) : Cond) ∈ TW := tw_in (tb_5 (List.mem_of_getElem? (i := 196) rfl)) (by decide +kernel)
theorem tw_1632 : (.methodLink "PatternWorkshop$GoingBack" 188 yX10_isWithinCase : Cond) ∈ TW := tw_in (tb_5 (List.mem_of_getElem? (i := 197) rfl)) (by decide +kernel)
theorem tw_1634 : (.methodLink "PatternWorkshop$GoingBack" 153 yX10_firstOf : Cond) ∈ TW := tw_in (tb_5 (List.mem_of_getElem? (i := 199) rfl)) (by decide +kernel)
theorem tw_1639 : (.methodLink "PatternWorkshop$GoingBack" 195 yX10_nextOf : Cond) ∈ TW := tw_in (tb_5 (List.mem_of_getElem? (i := 204) rfl)) (by decide +kernel)
theorem tw_1664 : (.code yX1_markBase cX1_markBase 1 none : Cond) ∈ TW := tw_in (tb_5 (List.mem_of_getElem? (i := 229) rfl)) (by decide +kernel)
theorem tw_1669 : (.constant "PatternWorkshop$GoingBack" 254 65536 : Cond) ∈ TW := tw_in (tb_5 (List.mem_of_getElem? (i := 234) rfl)) (by decide +kernel)
theorem tw_1674 : (.methodLink "PatternWorkshop$GoingBack" 219 yX1_looksBehind : Cond) ∈ TW := tw_in (tb_5 (List.mem_of_getElem? (i := 239) rfl)) (by decide +kernel)
theorem tw_1676 : (.instanceMethod yX1_looksBehind : Cond) ∈ TW := tw_in (tb_6 (List.mem_of_getElem? (i := 1) rfl)) (by decide +kernel)
theorem tw_1677 : (.code yX1_looksBehind cX1_looksBehind 1 (some (.boolean)) : Cond) ∈ TW := tw_in (tb_6 (List.mem_of_getElem? (i := 2) rfl)) (by decide +kernel)
theorem tw_1681 : (.code yX1_enterPart cX1_enterPart 2 none : Cond) ∈ TW := tw_in (tb_6 (List.mem_of_getElem? (i := 6) rfl)) (by decide +kernel)
theorem tw_1690 : (.code yX1_finish cX1_finish 1 none : Cond) ∈ TW := tw_in (tb_6 (List.mem_of_getElem? (i := 15) rfl)) (by decide +kernel)
theorem tw_1694 : (.code yX1_leavePartOfRow cX1_leavePartOfRow 3 none : Cond) ∈ TW := tw_in (tb_6 (List.mem_of_getElem? (i := 19) rfl)) (by decide +kernel)
theorem tw_1698 : (.code yX1_endTurn cX1_endTurn 3 none : Cond) ∈ TW := tw_in (tb_6 (List.mem_of_getElem? (i := 23) rfl)) (by decide +kernel)
theorem tw_1699 : (.methodLink "PatternWorkshop$GoingBack" 210 yX10_lowOf : Cond) ∈ TW := tw_in (tb_6 (List.mem_of_getElem? (i := 24) rfl)) (by decide +kernel)
theorem tw_1703 : (.code yX1_leaveLook cX1_leaveLook 2 none : Cond) ∈ TW := tw_in (tb_6 (List.mem_of_getElem? (i := 28) rfl)) (by decide +kernel)
theorem tw_1704 : (.methodLink "PatternWorkshop$GoingBack" 222 yX1_entryOf : Cond) ∈ TW := tw_in (tb_6 (List.mem_of_getElem? (i := 29) rfl)) (by decide +kernel)
theorem tw_1706 : (.instanceMethod yX1_entryOf : Cond) ∈ TW := tw_in (tb_6 (List.mem_of_getElem? (i := 31) rfl)) (by decide +kernel)
theorem tw_1707 : (.code yX1_entryOf cX1_entryOf 2 (some (.int)) : Cond) ∈ TW := tw_in (tb_6 (List.mem_of_getElem? (i := 32) rfl)) (by decide +kernel)
theorem tw_1708 : (.methodLink "PatternWorkshop$GoingBack" 216 yX1_cutToBase : Cond) ∈ TW := tw_in (tb_6 (List.mem_of_getElem? (i := 33) rfl)) (by decide +kernel)
theorem tw_1710 : (.instanceMethod yX1_cutToBase : Cond) ∈ TW := tw_in (tb_6 (List.mem_of_getElem? (i := 35) rfl)) (by decide +kernel)
theorem tw_1711 : (.code yX1_cutToBase cX1_cutToBase 1 none : Cond) ∈ TW := tw_in (tb_6 (List.mem_of_getElem? (i := 36) rfl)) (by decide +kernel)
theorem tw_1720 : (.code yX1_endLoop cX1_endLoop 1 none : Cond) ∈ TW := tw_in (tb_6 (List.mem_of_getElem? (i := 45) rfl)) (by decide +kernel)
theorem tw_1736 : (.code yX1_startFurther cX1_startFurther 1 none : Cond) ∈ TW := tw_in (tb_6 (List.mem_of_getElem? (i := 61) rfl)) (by decide +kernel)
theorem tw_1740 : (.code yX1_undo cX1_undo 3 none : Cond) ∈ TW := tw_in (tb_6 (List.mem_of_getElem? (i := 65) rfl)) (by decide +kernel)
theorem tw_1744 : (.code yX1_lookAgain cX1_lookAgain 1 none : Cond) ∈ TW := tw_in (tb_6 (List.mem_of_getElem? (i := 69) rfl)) (by decide +kernel)
theorem tw_1748 : (.code yX1_tell cX1_tell 3 none : Cond) ∈ TW := tw_in (tb_6 (List.mem_of_getElem? (i := 73) rfl)) (by decide +kernel)
theorem tw_1749 : (.methodLink "PatternWorkshop$GoingBack" 121 yX7_empty : Cond) ∈ TW := tw_in (tb_6 (List.mem_of_getElem? (i := 74) rfl)) (by decide +kernel)
theorem tw_1750 : (.methodLink "PatternWorkshop$GoingBack" 124 yX7_add : Cond) ∈ TW := tw_in (tb_6 (List.mem_of_getElem? (i := 75) rfl)) (by decide +kernel)
theorem tw_1775 : (.code yX10_captureNamed cX10_captureNamed 3 (some (.int)) : Cond) ∈ TW := tw_in (tb_6 (List.mem_of_getElem? (i := 100) rfl)) (by decide +kernel)
theorem tw_1833 : (.code yX8_make cX8_make 3 (some (.boolean)) : Cond) ∈ TW := tw_in (tb_6 (List.mem_of_getElem? (i := 158) rfl)) (by decide +kernel)
theorem tw_1834 : (.methodLink "PatternWorkshop$Sets" 41 yX0_gather : Cond) ∈ TW := tw_in (tb_6 (List.mem_of_getElem? (i := 159) rfl)) (by decide +kernel)
theorem tw_1835 : (.methodLink "PatternWorkshop$Sets" 45 yX9_make : Cond) ∈ TW := tw_in (tb_6 (List.mem_of_getElem? (i := 160) rfl)) (by decide +kernel)
theorem tw_1836 : (.instanceMethod yX9_make : Cond) ∈ TW := tw_in (tb_6 (List.mem_of_getElem? (i := 161) rfl)) (by decide +kernel)
theorem tw_1837 : (.selects "PatternWorkshop$Table" yX9_make yX9_make : Cond) ∈ TW := tw_in (tb_6 (List.mem_of_getElem? (i := 162) rfl)) (by decide +kernel)
theorem tw_1838 : (.code yX9_make cX9_make 5 (some (.boolean)) : Cond) ∈ TW := tw_in (tb_6 (List.mem_of_getElem? (i := 163) rfl)) (by decide +kernel)
theorem tw_1839 : (.methodLink "PatternWorkshop$Table" 57 yX5_write : Cond) ∈ TW := tw_in (tb_6 (List.mem_of_getElem? (i := 164) rfl)) (by decide +kernel)
theorem tw_1840 : (.methodLink "PatternWorkshop$Table" 67 ⟨"java/lang/Math", "min", "(II)I"⟩ : Cond) ∈ TW := tw_in (tb_6 (List.mem_of_getElem? (i := 165) rfl)) (by decide +kernel)
theorem tw_1841 : (.methodLink "PatternWorkshop$Table" 76 yX9_numberPositions : Cond) ∈ TW := tw_in (tb_6 (List.mem_of_getElem? (i := 166) rfl)) (by decide +kernel)
theorem tw_1843 : (.instanceMethod yX9_numberPositions : Cond) ∈ TW := tw_in (tb_6 (List.mem_of_getElem? (i := 168) rfl)) (by decide +kernel)
theorem tw_1844 : (.code yX9_numberPositions cX9_numberPositions 2 none : Cond) ∈ TW := tw_in (tb_6 (List.mem_of_getElem? (i := 169) rfl)) (by decide +kernel)
theorem tw_1845 : (.methodLink "PatternWorkshop$Table" 104 yX5_has : Cond) ∈ TW := tw_in (tb_6 (List.mem_of_getElem? (i := 170) rfl)) (by decide +kernel)
theorem tw_1846 : (.instanceMethod yX5_has : Cond) ∈ TW := tw_in (tb_6 (List.mem_of_getElem? (i := 171) rfl)) (by decide +kernel)
theorem tw_1847 : (.selects "PatternWorkshop$Program" yX5_has yX5_has : Cond) ∈ TW := tw_in (tb_6 (List.mem_of_getElem? (i := 172) rfl)) (by decide +kernel)
theorem tw_1848 : (.code yX5_has cX5_has 2 (some (.boolean)) : Cond) ∈ TW := tw_in (tb_6 (List.mem_of_getElem? (i := 173) rfl)) (by decide +kernel)
theorem tw_1849 : (.methodLink "PatternWorkshop$Table" 107 yX5_kindOf : Cond) ∈ TW := tw_in (tb_6 (List.mem_of_getElem? (i := 174) rfl)) (by decide +kernel)
theorem tw_1850 : (.methodLink "PatternWorkshop$Table" 82 yX5_nextOf : Cond) ∈ TW := tw_in (tb_6 (List.mem_of_getElem? (i := 175) rfl)) (by decide +kernel)
theorem tw_1851 : (.methodLink "PatternWorkshop$Table" 86 yX9_reach : Cond) ∈ TW := tw_in (tb_6 (List.mem_of_getElem? (i := 176) rfl)) (by decide +kernel)
theorem tw_1853 : (.instanceMethod yX9_reach : Cond) ∈ TW := tw_in (tb_6 (List.mem_of_getElem? (i := 178) rfl)) (by decide +kernel)
theorem tw_1854 : (.code yX9_reach cX9_reach 7 (some (.long)) : Cond) ∈ TW := tw_in (tb_6 (List.mem_of_getElem? (i := 179) rfl)) (by decide +kernel)
theorem tw_1855 : (.methodLink "PatternWorkshop$Table" 120 yX9_push : Cond) ∈ TW := tw_in (tb_6 (List.mem_of_getElem? (i := 180) rfl)) (by decide +kernel)
theorem tw_1857 : (.instanceMethod yX9_push : Cond) ∈ TW := tw_in (tb_6 (List.mem_of_getElem? (i := 182) rfl)) (by decide +kernel)
theorem tw_1858 : (.code yX9_push cX9_push 2 none : Cond) ∈ TW := tw_in (tb_6 (List.mem_of_getElem? (i := 183) rfl)) (by decide +kernel)
theorem tw_1859 : (.constantLong "PatternWorkshop$Table" 124 (-9223372036854775808) : Cond) ∈ TW := tw_in (tb_6 (List.mem_of_getElem? (i := 184) rfl)) (by decide +kernel)
theorem tw_1860 : (.methodLink "PatternWorkshop$Table" 126 yX5_otherOf : Cond) ∈ TW := tw_in (tb_6 (List.mem_of_getElem? (i := 185) rfl)) (by decide +kernel)
theorem tw_1861 : (.methodLink "PatternWorkshop$Table" 90 yX0_leastOf : Cond) ∈ TW := tw_in (tb_6 (List.mem_of_getElem? (i := 186) rfl)) (by decide +kernel)
theorem tw_1862 : (.methodLink "PatternWorkshop$Table" 93 yX9_takersOf : Cond) ∈ TW := tw_in (tb_6 (List.mem_of_getElem? (i := 187) rfl)) (by decide +kernel)
theorem tw_1864 : (.instanceMethod yX9_takersOf : Cond) ∈ TW := tw_in (tb_6 (List.mem_of_getElem? (i := 189) rfl)) (by decide +kernel)
theorem tw_1865 : (.code yX9_takersOf cX9_takersOf 5 (some (.long)) : Cond) ∈ TW := tw_in (tb_6 (List.mem_of_getElem? (i := 190) rfl)) (by decide +kernel)
theorem tw_1866 : (.methodLink "PatternWorkshop$Table" 110 yX5_takes : Cond) ∈ TW := tw_in (tb_6 (List.mem_of_getElem? (i := 191) rfl)) (by decide +kernel)
theorem tw_1867 : (.methodLink "PatternWorkshop$Table" 100 yX9_fillState : Cond) ∈ TW := tw_in (tb_6 (List.mem_of_getElem? (i := 192) rfl)) (by decide +kernel)
theorem tw_1869 : (.instanceMethod yX9_fillState : Cond) ∈ TW := tw_in (tb_6 (List.mem_of_getElem? (i := 194) rfl)) (by decide +kernel)
theorem tw_1870 : (.code yX9_fillState cX9_fillState 4 (some (.boolean)) : Cond) ∈ TW := tw_in (tb_6 (List.mem_of_getElem? (i := 195) rfl)) (by decide +kernel)
theorem tw_1871 : (.methodLink "PatternWorkshop$Table" 129 yX9_stateOf : Cond) ∈ TW := tw_in (tb_6 (List.mem_of_getElem? (i := 196) rfl)) (by decide +kernel)
theorem tw_1873 : (.instanceMethod yX9_stateOf : Cond) ∈ TW := tw_in (tb_6 (List.mem_of_getElem? (i := 198) rfl)) (by decide +kernel)
theorem tw_1874 : (.code yX9_stateOf cX9_stateOf 4 (some (.int)) : Cond) ∈ TW := tw_in (tb_6 (List.mem_of_getElem? (i := 199) rfl)) (by decide +kernel)
theorem tw_1875 : (.methodLink "PatternWorkshop$Table" 133 yX9_followOf : Cond) ∈ TW := tw_in (tb_6 (List.mem_of_getElem? (i := 200) rfl)) (by decide +kernel)
theorem tw_1877 : (.instanceMethod yX9_followOf : Cond) ∈ TW := tw_in (tb_6 (List.mem_of_getElem? (i := 202) rfl)) (by decide +kernel)
theorem tw_1878 : (.code yX9_followOf cX9_followOf 6 (some (.long)) : Cond) ∈ TW := tw_in (tb_6 (List.mem_of_getElem? (i := 203) rfl)) (by decide +kernel)
theorem tw_1882 : (.code yX8_longestBeginning cX8_longestBeginning 3 (some (.int)) : Cond) ∈ TW := tw_in (tb_6 (List.mem_of_getElem? (i := 207) rfl)) (by decide +kernel)
theorem tw_1883 : (.methodLink "PatternWorkshop$Sets" 49 yX9_longestBeginning : Cond) ∈ TW := tw_in (tb_6 (List.mem_of_getElem? (i := 208) rfl)) (by decide +kernel)
theorem tw_1884 : (.instanceMethod yX9_longestBeginning : Cond) ∈ TW := tw_in (tb_6 (List.mem_of_getElem? (i := 209) rfl)) (by decide +kernel)
theorem tw_1885 : (.selects "PatternWorkshop$Table" yX9_longestBeginning yX9_longestBeginning : Cond) ∈ TW := tw_in (tb_6 (List.mem_of_getElem? (i := 210) rfl)) (by decide +kernel)
theorem tw_1886 : (.code yX9_longestBeginning cX9_longestBeginning 7 (some (.int)) : Cond) ∈ TW := tw_in (tb_6 (List.mem_of_getElem? (i := 211) rfl)) (by decide +kernel)
theorem tw_1887 : (.methodLink "PatternWorkshop$Table" 137 yX9_markLive : Cond) ∈ TW := tw_in (tb_6 (List.mem_of_getElem? (i := 212) rfl)) (by decide +kernel)
theorem tw_1889 : (.instanceMethod yX9_markLive : Cond) ∈ TW := tw_in (tb_6 (List.mem_of_getElem? (i := 214) rfl)) (by decide +kernel)
theorem tw_1890 : (.code yX9_markLive cX9_markLive 4 none : Cond) ∈ TW := tw_in (tb_6 (List.mem_of_getElem? (i := 215) rfl)) (by decide +kernel)
theorem tw_1891 : (.methodLink "PatternWorkshop$Table" 152 yX9_ends : Cond) ∈ TW := tw_in (tb_6 (List.mem_of_getElem? (i := 216) rfl)) (by decide +kernel)
theorem tw_1892 : (.instanceMethod yX9_ends : Cond) ∈ TW := tw_in (tb_6 (List.mem_of_getElem? (i := 217) rfl)) (by decide +kernel)
theorem tw_1893 : (.selects "PatternWorkshop$Table" yX9_ends yX9_ends : Cond) ∈ TW := tw_in (tb_6 (List.mem_of_getElem? (i := 218) rfl)) (by decide +kernel)
theorem tw_1894 : (.code yX9_ends cX9_ends 2 (some (.boolean)) : Cond) ∈ TW := tw_in (tb_6 (List.mem_of_getElem? (i := 219) rfl)) (by decide +kernel)
theorem tw_1895 : (.methodLink "PatternWorkshop$Table" 155 yX9_leadsToLive : Cond) ∈ TW := tw_in (tb_6 (List.mem_of_getElem? (i := 220) rfl)) (by decide +kernel)
theorem tw_1897 : (.instanceMethod yX9_leadsToLive : Cond) ∈ TW := tw_in (tb_6 (List.mem_of_getElem? (i := 222) rfl)) (by decide +kernel)
theorem tw_1898 : (.code yX9_leadsToLive cX9_leadsToLive 4 (some (.boolean)) : Cond) ∈ TW := tw_in (tb_6 (List.mem_of_getElem? (i := 223) rfl)) (by decide +kernel)
theorem tw_1899 : (.methodLink "PatternWorkshop$Table" 149 yX9_next : Cond) ∈ TW := tw_in (tb_6 (List.mem_of_getElem? (i := 224) rfl)) (by decide +kernel)
theorem tw_1900 : (.instanceMethod yX9_next : Cond) ∈ TW := tw_in (tb_6 (List.mem_of_getElem? (i := 225) rfl)) (by decide +kernel)
theorem tw_1901 : (.selects "PatternWorkshop$Table" yX9_next yX9_next : Cond) ∈ TW := tw_in (tb_6 (List.mem_of_getElem? (i := 226) rfl)) (by decide +kernel)
theorem tw_1902 : (.code yX9_next cX9_next 4 (some (.int)) : Cond) ∈ TW := tw_in (tb_6 (List.mem_of_getElem? (i := 227) rfl)) (by decide +kernel)
theorem tw_1903 : (.methodLink "PatternWorkshop$Table" 143 yX7_at : Cond) ∈ TW := tw_in (tb_6 (List.mem_of_getElem? (i := 228) rfl)) (by decide +kernel)
theorem tw_1904 : (.methodLink "PatternWorkshop$Table" 146 yX0_classOf : Cond) ∈ TW := tw_in (tb_6 (List.mem_of_getElem? (i := 229) rfl)) (by decide +kernel)
theorem tw_1905 : (.instanceMethod yX0_classOf : Cond) ∈ TW := tw_in (tb_6 (List.mem_of_getElem? (i := 230) rfl)) (by decide +kernel)
theorem tw_1906 : (.selects "PatternWorkshop$Alphabet" yX0_classOf yX0_classOf : Cond) ∈ TW := tw_in (tb_6 (List.mem_of_getElem? (i := 231) rfl)) (by decide +kernel)
theorem tw_1907 : (.code yX0_classOf cX0_classOf 4 (some (.int)) : Cond) ∈ TW := tw_in (tb_6 (List.mem_of_getElem? (i := 232) rfl)) (by decide +kernel)
theorem tw_1923 : (.code yX9_fewestStates cX9_fewestStates 4 (some (.int)) : Cond) ∈ TW := tw_in (tb_7 (List.mem_of_getElem? (i := 8) rfl)) (by decide +kernel)
theorem tw_1924 : (.methodLink "PatternWorkshop$Table" 158 yX9_refine : Cond) ∈ TW := tw_in (tb_7 (List.mem_of_getElem? (i := 9) rfl)) (by decide +kernel)
theorem tw_1926 : (.instanceMethod yX9_refine : Cond) ∈ TW := tw_in (tb_7 (List.mem_of_getElem? (i := 11) rfl)) (by decide +kernel)
theorem tw_1927 : (.code yX9_refine cX9_refine 4 (some (.int)) : Cond) ∈ TW := tw_in (tb_7 (List.mem_of_getElem? (i := 12) rfl)) (by decide +kernel)
theorem tw_1928 : (.methodLink "PatternWorkshop$Table" 168 yX9_staysTogether : Cond) ∈ TW := tw_in (tb_7 (List.mem_of_getElem? (i := 13) rfl)) (by decide +kernel)
theorem tw_1930 : (.instanceMethod yX9_staysTogether : Cond) ∈ TW := tw_in (tb_7 (List.mem_of_getElem? (i := 15) rfl)) (by decide +kernel)
theorem tw_1931 : (.code yX9_staysTogether cX9_staysTogether 4 (some (.boolean)) : Cond) ∈ TW := tw_in (tb_7 (List.mem_of_getElem? (i := 16) rfl)) (by decide +kernel)
theorem tw_1932 : (.methodLink "PatternWorkshop$Table" 171 yX9_groupOf : Cond) ∈ TW := tw_in (tb_7 (List.mem_of_getElem? (i := 17) rfl)) (by decide +kernel)
theorem tw_1934 : (.instanceMethod yX9_groupOf : Cond) ∈ TW := tw_in (tb_7 (List.mem_of_getElem? (i := 19) rfl)) (by decide +kernel)
theorem tw_1935 : (.code yX9_groupOf cX9_groupOf 2 (some (.int)) : Cond) ∈ TW := tw_in (tb_7 (List.mem_of_getElem? (i := 20) rfl)) (by decide +kernel)
theorem tw_1936 : (.methodLink "PatternWorkshop$Table" 162 ⟨"java/lang/System", "arraycopy", "(Ljava/lang/Object;ILjava/lang/Object;II)V"⟩ : Cond) ∈ TW := tw_in (tb_7 (List.mem_of_getElem? (i := 21) rfl)) (by decide +kernel)
theorem tw_1944 : (.code yX8_walkBoth cX8_walkBoth 5 none : Cond) ∈ TW := tw_in (tb_7 (List.mem_of_getElem? (i := 29) rfl)) (by decide +kernel)
theorem tw_1945 : (.methodLink "PatternWorkshop$Sets" 70 yX8_meet : Cond) ∈ TW := tw_in (tb_7 (List.mem_of_getElem? (i := 30) rfl)) (by decide +kernel)
theorem tw_1947 : (.instanceMethod yX8_meet : Cond) ∈ TW := tw_in (tb_7 (List.mem_of_getElem? (i := 32) rfl)) (by decide +kernel)
theorem tw_1948 : (.code yX8_meet cX8_meet 4 none : Cond) ∈ TW := tw_in (tb_7 (List.mem_of_getElem? (i := 33) rfl)) (by decide +kernel)
theorem tw_1949 : (.methodLink "PatternWorkshop$Sets" 74 yX9_ends : Cond) ∈ TW := tw_in (tb_7 (List.mem_of_getElem? (i := 34) rfl)) (by decide +kernel)
theorem tw_1950 : (.methodLink "PatternWorkshop$Sets" 78 yX8_look : Cond) ∈ TW := tw_in (tb_7 (List.mem_of_getElem? (i := 35) rfl)) (by decide +kernel)
theorem tw_1952 : (.instanceMethod yX8_look : Cond) ∈ TW := tw_in (tb_7 (List.mem_of_getElem? (i := 37) rfl)) (by decide +kernel)
theorem tw_1953 : (.code yX8_look cX8_look 4 none : Cond) ∈ TW := tw_in (tb_7 (List.mem_of_getElem? (i := 38) rfl)) (by decide +kernel)
theorem tw_1954 : (.methodLink "PatternWorkshop$Sets" 85 yX9_next : Cond) ∈ TW := tw_in (tb_7 (List.mem_of_getElem? (i := 39) rfl)) (by decide +kernel)
theorem tw_1955 : (.methodLink "PatternWorkshop$Sets" 89 yX0_leastOf : Cond) ∈ TW := tw_in (tb_7 (List.mem_of_getElem? (i := 40) rfl)) (by decide +kernel)
theorem tw_1963 : (.code yX8_writeParting cX8_writeParting 3 none : Cond) ∈ TW := tw_in (tb_7 (List.mem_of_getElem? (i := 48) rfl)) (by decide +kernel)
theorem tw_1964 : (.methodLink "PatternWorkshop$Sets" 93 yX7_empty : Cond) ∈ TW := tw_in (tb_7 (List.mem_of_getElem? (i := 49) rfl)) (by decide +kernel)
theorem tw_1965 : (.methodLink "PatternWorkshop$Sets" 98 yX7_add : Cond) ∈ TW := tw_in (tb_7 (List.mem_of_getElem? (i := 50) rfl)) (by decide +kernel)
theorem tw_1966 : (.methodLink "PatternWorkshop$Sets" 102 yX7_turnRound : Cond) ∈ TW := tw_in (tb_7 (List.mem_of_getElem? (i := 51) rfl)) (by decide +kernel)
theorem tw_1967 : (.instanceMethod yX7_turnRound : Cond) ∈ TW := tw_in (tb_7 (List.mem_of_getElem? (i := 52) rfl)) (by decide +kernel)
theorem tw_1968 : (.selects "PatternWorkshop$Row" yX7_turnRound yX7_turnRound : Cond) ∈ TW := tw_in (tb_7 (List.mem_of_getElem? (i := 53) rfl)) (by decide +kernel)
theorem tw_1969 : (.code yX7_turnRound cX7_turnRound 4 none : Cond) ∈ TW := tw_in (tb_7 (List.mem_of_getElem? (i := 54) rfl)) (by decide +kernel)
theorem gw_J7_fill_53178 : GoodIn TW (WS yJ7_fill_53178 cJ7_fill_53178 4 none) := goodC tw_890
theorem gw_X0_addBegin : GoodIn TW (WS yX0_addBegin cX0_addBegin 5 none) := goodC tw_1344
theorem gw_X0_addParts : GoodIn TW (WS yX0_addParts cX0_addParts 4 none) := goodC tw_1351
theorem gw_X0_addRange : GoodIn TW (WS yX0_addRange cX0_addRange 4 none) := goodC tw_1340
theorem gw_X0_addTree : GoodIn TW (WS yX0_addTree cX0_addTree 3 none) := goodC tw_1332
theorem gw_X0_classOf : GoodIn TW (WS yX0_classOf cX0_classOf 4 (some (.int))) := goodC tw_1907
theorem gw_X0_gather : GoodIn TW (WS yX0_gather cX0_gather 3 none) := goodC tw_1328
theorem gw_X0_leastOf : GoodIn TW (WS yX0_leastOf cX0_leastOf 2 (some (.int))) := goodC tw_1362
theorem gw_X10_add : GoodIn TW (WS yX10_add cX10_add 7 (some (.int))) := goodC tw_1064
theorem gw_X10_addRange : GoodIn TW (WS yX10_addRange cX10_addRange 3 none) := goodC tw_1011
theorem gw_X10_beforeOf : GoodIn TW (WS yX10_beforeOf cX10_beforeOf 2 (some (.int))) := goodC tw_1388
theorem gw_X10_beginsWith : GoodIn TW (WS yX10_beginsWith cX10_beginsWith 3 (some (.boolean))) := goodC tw_1295
theorem gw_X10_captureNamed : GoodIn TW (WS yX10_captureNamed cX10_captureNamed 3 (some (.int))) := goodC tw_1775
theorem gw_X10_close : GoodIn TW (WS yX10_close cX10_close 2 none) := goodC tw_1076
theorem gw_X10_copies : GoodIn TW (WS yX10_copies cX10_copies 2 (some (.int))) := goodC tw_1100
theorem gw_X10_deadRow : GoodIn TW (WS yX10_deadRow cX10_deadRow 4 (some (.int))) := goodC tw_1380
theorem gw_X10_endOf : GoodIn TW (WS yX10_endOf cX10_endOf 2 (some (.int))) := goodC tw_1396
theorem gw_X10_firstOf : GoodIn TW (WS yX10_firstOf cX10_firstOf 2 (some (.int))) := goodC tw_1092
theorem gw_X10_firstRisky : GoodIn TW (WS yX10_firstRisky cX10_firstRisky 6 (some (.int))) := goodC tw_1358
theorem gw_X10_has : GoodIn TW (WS yX10_has cX10_has 2 (some (.boolean))) := goodC tw_1072
theorem gw_X10_hasInParts : GoodIn TW (WS yX10_hasInParts cX10_hasInParts 4 (some (.boolean))) := goodC tw_1307
theorem gw_X10_highOf : GoodIn TW (WS yX10_highOf cX10_highOf 2 (some (.int))) := goodC tw_1108
theorem gw_X10_holderOf : GoodIn TW (WS yX10_holderOf cX10_holderOf 2 (some (.int))) := goodC tw_1205
theorem gw_X10_isEndless : GoodIn TW (WS yX10_isEndless cX10_isEndless 2 (some (.boolean))) := goodC tw_1367
theorem gw_X10_isMarked : GoodIn TW (WS yX10_isMarked cX10_isMarked 2 (some (.boolean))) := goodC tw_1315
theorem gw_X10_isParallel : GoodIn TW (WS yX10_isParallel cX10_isParallel 3 (some (.boolean))) := goodC tw_1450
theorem gw_X10_isSaidAhead : GoodIn TW (WS yX10_isSaidAhead cX10_isSaidAhead 3 (some (.boolean))) := goodC tw_1384
theorem gw_X10_isTakenBy : GoodIn TW (WS yX10_isTakenBy cX10_isTakenBy 4 (some (.boolean))) := goodC tw_1446
theorem gw_X10_isTooLargeFor : GoodIn TW (WS yX10_isTooLargeFor cX10_isTooLargeFor 2 (some (.boolean))) := goodC tw_1454
theorem gw_X10_isWithinCase : GoodIn TW (WS yX10_isWithinCase cX10_isWithinCase 2 (some (.boolean))) := goodC tw_1084
theorem gw_X10_lastOf : GoodIn TW (WS yX10_lastOf cX10_lastOf 2 (some (.int))) := goodC tw_1068
theorem gw_X10_lowOf : GoodIn TW (WS yX10_lowOf cX10_lowOf 2 (some (.int))) := goodC tw_1112
theorem gw_X10_markBeginning : GoodIn TW (WS yX10_markBeginning cX10_markBeginning 3 none) := goodC tw_1291
theorem gw_X10_maybeEmpty : GoodIn TW (WS yX10_maybeEmpty cX10_maybeEmpty 4 (some (.boolean))) := goodC tw_1123
theorem gw_X10_measure : GoodIn TW (WS yX10_measure cX10_measure 2 none) := goodC tw_1080
theorem gw_X10_measureNode : GoodIn TW (WS yX10_measureNode cX10_measureNode 7 none) := goodC tw_1088
theorem gw_X10_nextOf : GoodIn TW (WS yX10_nextOf cX10_nextOf 3 (some (.int))) := goodC tw_1096
theorem gw_X10_nodeAlike : GoodIn TW (WS yX10_nodeAlike cX10_nodeAlike 3 (some (.boolean))) := goodC tw_1400
theorem gw_X10_outermostEndless : GoodIn TW (WS yX10_outermostEndless cX10_outermostEndless 4 (some (.int))) := goodC tw_1371
theorem gw_X10_partBegin : GoodIn TW (WS yX10_partBegin cX10_partBegin 4 (some (.int))) := goodC tw_1187
theorem gw_X10_partEnd : GoodIn TW (WS yX10_partEnd cX10_partEnd 4 (some (.int))) := goodC tw_1183
theorem gw_X10_partsOf : GoodIn TW (WS yX10_partsOf cX10_partsOf 2 (some (.int))) := goodC tw_1164
theorem gw_X10_printAlike : GoodIn TW (WS yX10_printAlike cX10_printAlike 5 (some (.boolean))) := goodC tw_1392
theorem gw_X10_rangeCount : GoodIn TW (WS yX10_rangeCount cX10_rangeCount 1 (some (.int))) := goodC tw_1007
theorem gw_X10_reset : GoodIn TW (WS yX10_reset cX10_reset 1 none) := goodC tw_887
theorem gw_X10_rowBegins : GoodIn TW (WS yX10_rowBegins cX10_rowBegins 3 (some (.boolean))) := goodC tw_1311
theorem gw_X10_sameParts : GoodIn TW (WS yX10_sameParts cX10_sameParts 4 (some (.boolean))) := goodC tw_1404
theorem gw_X10_somePartIsMarked : GoodIn TW (WS yX10_somePartIsMarked cX10_somePartIsMarked 3 (some (.boolean))) := goodC tw_1319
theorem gw_X10_sortOf : GoodIn TW (WS yX10_sortOf cX10_sortOf 2 (some (.int))) := goodC tw_1104
theorem gw_X10_takes : GoodIn TW (WS yX10_takes cX10_takes 4 (some (.boolean))) := goodC tw_1299
theorem gw_X10_takesOneSign : GoodIn TW (WS yX10_takesOneSign cX10_takesOneSign 2 (some (.boolean))) := goodC tw_1119
theorem gw_X10_tellOfAll : GoodIn TW (WS yX10_tellOfAll cX10_tellOfAll 3 (some (.int))) := goodC tw_1160
theorem gw_X10_valueOf : GoodIn TW (WS yX10_valueOf cX10_valueOf 2 (some (.int))) := goodC tw_1174
theorem gw_X11_edgeHolds : GoodIn TW (WS yX11_edgeHolds cX11_edgeHolds 4 (some (.boolean))) := goodC tw_1507
theorem gw_X11_isDigit : GoodIn TW (WS yX11_isDigit cX11_isDigit 1 (some (.boolean))) := goodC tw_991
theorem gw_X11_isLetter : GoodIn TW (WS yX11_isLetter cX11_isLetter 2 (some (.boolean))) := goodC tw_995
theorem gw_X11_isPlain : GoodIn TW (WS yX11_isPlain cX11_isPlain 1 (some (.boolean))) := goodC tw_1229
theorem gw_X11_isSmall : GoodIn TW (WS yX11_isSmall cX11_isSmall 1 (some (.boolean))) := goodC tw_957
theorem gw_X11_isTapeSign : GoodIn TW (WS yX11_isTapeSign cX11_isTapeSign 1 (some (.boolean))) := goodC tw_864
theorem gw_X11_isWordSign : GoodIn TW (WS yX11_isWordSign cX11_isWordSign 2 (some (.boolean))) := goodC tw_1511
theorem gw_X11_otherCase : GoodIn TW (WS yX11_otherCase cX11_otherCase 2 (some (.int))) := goodC tw_1303
theorem gw_X1_askBack : GoodIn TW (WS yX1_askBack cX1_askBack 7 none) := goodC tw_1619
theorem gw_X1_askEdge : GoodIn TW (WS yX1_askEdge cX1_askEdge 1 none) := goodC tw_1613
theorem gw_X1_askSign : GoodIn TW (WS yX1_askSign cX1_askSign 2 none) := goodC tw_1607
theorem gw_X1_begin : GoodIn TW (WS yX1_begin cX1_begin 5 none) := goodC tw_1583
theorem gw_X1_captureBegin : GoodIn TW (WS yX1_captureBegin cX1_captureBegin 3 (some (.int))) := goodC tw_1623
theorem gw_X1_captureEnd : GoodIn TW (WS yX1_captureEnd cX1_captureEnd 3 (some (.int))) := goodC tw_1631
theorem gw_X1_cell : GoodIn TW (WS yX1_cell cX1_cell 2 (some (.int))) := goodC tw_1627
theorem gw_X1_cutToBase : GoodIn TW (WS yX1_cutToBase cX1_cutToBase 1 none) := goodC tw_1711
theorem gw_X1_endLoop : GoodIn TW (WS yX1_endLoop cX1_endLoop 1 none) := goodC tw_1720
theorem gw_X1_endTurn : GoodIn TW (WS yX1_endTurn cX1_endTurn 3 none) := goodC tw_1698
theorem gw_X1_enterPart : GoodIn TW (WS yX1_enterPart cX1_enterPart 2 none) := goodC tw_1681
theorem gw_X1_entryOf : GoodIn TW (WS yX1_entryOf cX1_entryOf 2 (some (.int))) := goodC tw_1707
theorem gw_X1_finish : GoodIn TW (WS yX1_finish cX1_finish 1 none) := goodC tw_1690
theorem gw_X1_leaveLook : GoodIn TW (WS yX1_leaveLook cX1_leaveLook 2 none) := goodC tw_1703
theorem gw_X1_leavePartOfRow : GoodIn TW (WS yX1_leavePartOfRow cX1_leavePartOfRow 3 none) := goodC tw_1694
theorem gw_X1_lookAgain : GoodIn TW (WS yX1_lookAgain cX1_lookAgain 1 none) := goodC tw_1744
theorem gw_X1_looksBehind : GoodIn TW (WS yX1_looksBehind cX1_looksBehind 1 (some (.boolean))) := goodC tw_1677
theorem gw_X1_markBase : GoodIn TW (WS yX1_markBase cX1_markBase 1 none) := goodC tw_1664
theorem gw_X1_startAt : GoodIn TW (WS yX1_startAt cX1_startAt 2 none) := goodC tw_1587
theorem gw_X1_startFurther : GoodIn TW (WS yX1_startFurther cX1_startFurther 1 none) := goodC tw_1736
theorem gw_X1_step : GoodIn TW (WS yX1_step cX1_step 1 (some (.boolean))) := goodC tw_1603
theorem gw_X1_tell : GoodIn TW (WS yX1_tell cX1_tell 3 none) := goodC tw_1748
theorem gw_X1_undo : GoodIn TW (WS yX1_undo cX1_undo 3 none) := goodC tw_1740
theorem gw_X2_begin : GoodIn TW (WS yX2_begin cX2_begin 4 none) := goodC tw_898
theorem gw_X2_beginRow : GoodIn TW (WS yX2_beginRow cX2_beginRow 1 none) := goodC tw_902
theorem gw_X3_cellAt : GoodIn TW (WS yX3_cellAt cX3_cellAt 2 (some (.int))) := goodC tw_1551
theorem gw_X3_exchangeLists : GoodIn TW (WS yX3_exchangeLists cX3_exchangeLists 3 none) := goodC tw_1562
theorem gw_X3_goAlong : GoodIn TW (WS yX3_goAlong cX3_goAlong 6 (some (.boolean))) := goodC tw_1566
theorem gw_X3_isNew : GoodIn TW (WS yX3_isNew cX3_isNew 2 (some (.boolean))) := goodC tw_1527
theorem gw_X3_markEdges : GoodIn TW (WS yX3_markEdges cX3_markEdges 3 none) := goodC tw_1504
theorem gw_X3_push : GoodIn TW (WS yX3_push cX3_push 3 none) := goodC tw_1519
theorem gw_X3_run : GoodIn TW (WS yX3_run cX3_run 8 (some (.boolean))) := goodC tw_1462
theorem gw_X3_setCell : GoodIn TW (WS yX3_setCell cX3_setCell 3 none) := goodC tw_1523
theorem gw_X3_spread : GoodIn TW (WS yX3_spread cX3_spread 7 none) := goodC tw_1515
theorem gw_X3_spreadOne : GoodIn TW (WS yX3_spreadOne cX3_spreadOne 7 none) := goodC tw_1531
theorem gw_X3_stopAt : GoodIn TW (WS yX3_stopAt cX3_stopAt 3 none) := goodC tw_1555
theorem gw_X3_tell : GoodIn TW (WS yX3_tell cX3_tell 3 none) := goodC tw_1577
theorem gw_X4_isGrouped : GoodIn TW (WS yX4_isGrouped cX4_isGrouped 3 (some (.boolean))) := goodC tw_1208
theorem gw_X4_isMark : GoodIn TW (WS yX4_isMark cX4_isMark 1 (some (.boolean))) := goodC tw_1222
theorem gw_X4_markOfLook : GoodIn TW (WS yX4_markOfLook cX4_markOfLook 1 (some (.int))) := goodC tw_1252
theorem gw_X4_write : GoodIn TW (WS yX4_write cX4_write 3 none) := goodC tw_1195
theorem gw_X4_writeClosing : GoodIn TW (WS yX4_writeClosing cX4_writeClosing 3 none) := goodC tw_1258
theorem gw_X4_writeCode : GoodIn TW (WS yX4_writeCode cX4_writeCode 4 none) := goodC tw_1226
theorem gw_X4_writeEdge : GoodIn TW (WS yX4_writeEdge cX4_writeEdge 2 none) := goodC tw_1244
theorem gw_X4_writeLeaf : GoodIn TW (WS yX4_writeLeaf cX4_writeLeaf 4 none) := goodC tw_1213
theorem gw_X4_writeLoop : GoodIn TW (WS yX4_writeLoop cX4_writeLoop 3 none) := goodC tw_1263
theorem gw_X4_writeMember : GoodIn TW (WS yX4_writeMember cX4_writeMember 2 none) := goodC tw_1239
theorem gw_X4_writeNode : GoodIn TW (WS yX4_writeNode cX4_writeNode 6 none) := goodC tw_1200
theorem gw_X4_writeNumber : GoodIn TW (WS yX4_writeNumber cX4_writeNumber 2 none) := goodC tw_1267
theorem gw_X4_writeOpening : GoodIn TW (WS yX4_writeOpening cX4_writeOpening 3 none) := goodC tw_1248
theorem gw_X4_writeSet : GoodIn TW (WS yX4_writeSet cX4_writeSet 4 none) := goodC tw_1233
theorem gw_X4_writeSign : GoodIn TW (WS yX4_writeSign cX4_writeSign 2 none) := goodC tw_1218
theorem gw_X5_add : GoodIn TW (WS yX5_add cX5_add 6 (some (.int))) := goodC tw_1470
theorem gw_X5_aim : GoodIn TW (WS yX5_aim cX5_aim 5 none) := goodC tw_1496
theorem gw_X5_build : GoodIn TW (WS yX5_build cX5_build 6 (some (.int))) := goodC tw_1474
theorem gw_X5_buildChoice : GoodIn TW (WS yX5_buildChoice cX5_buildChoice 8 (some (.int))) := goodC tw_1486
theorem gw_X5_buildLoop : GoodIn TW (WS yX5_buildLoop cX5_buildLoop 10 (some (.int))) := goodC tw_1490
theorem gw_X5_buildRow : GoodIn TW (WS yX5_buildRow cX5_buildRow 7 (some (.int))) := goodC tw_1480
theorem gw_X5_has : GoodIn TW (WS yX5_has cX5_has 2 (some (.boolean))) := goodC tw_1848
theorem gw_X5_kindOf : GoodIn TW (WS yX5_kindOf cX5_kindOf 2 (some (.int))) := goodC tw_1539
theorem gw_X5_nextOf : GoodIn TW (WS yX5_nextOf cX5_nextOf 2 (some (.int))) := goodC tw_1535
theorem gw_X5_otherOf : GoodIn TW (WS yX5_otherOf cX5_otherOf 2 (some (.int))) := goodC tw_1547
theorem gw_X5_subjectOf : GoodIn TW (WS yX5_subjectOf cX5_subjectOf 2 (some (.int))) := goodC tw_1543
theorem gw_X5_takes : GoodIn TW (WS yX5_takes cX5_takes 3 (some (.boolean))) := goodC tw_1571
theorem gw_X5_write : GoodIn TW (WS yX5_write cX5_write 2 none) := goodC tw_1466
theorem gw_X6_addPart : GoodIn TW (WS yX6_addPart cX6_addPart 4 none) := goodC tw_999
theorem gw_X6_addPending : GoodIn TW (WS yX6_addPending cX6_addPending 2 none) := goodC tw_922
theorem gw_X6_blame : GoodIn TW (WS yX6_blame cX6_blame 3 none) := goodC tw_934
theorem gw_X6_choiceOf : GoodIn TW (WS yX6_choiceOf cX6_choiceOf 2 (some (.int))) := goodC tw_968
theorem gw_X6_closeRow : GoodIn TW (WS yX6_closeRow cX6_closeRow 3 none) := goodC tw_918
theorem gw_X6_countItem : GoodIn TW (WS yX6_countItem cX6_countItem 1 (some (.boolean))) := goodC tw_950
theorem gw_X6_here : GoodIn TW (WS yX6_here cX6_here 1 (some (.int))) := goodC tw_906
theorem gw_X6_lay : GoodIn TW (WS yX6_lay cX6_lay 6 none) := goodC tw_1060
theorem gw_X6_lookOfMark : GoodIn TW (WS yX6_lookOfMark cX6_lookOfMark 1 (some (.int))) := goodC tw_960
theorem gw_X6_make : GoodIn TW (WS yX6_make cX6_make 6 (some (.int))) := goodC tw_930
theorem gw_X6_makeRound : GoodIn TW (WS yX6_makeRound cX6_makeRound 7 (some (.int))) := goodC tw_926
theorem gw_X6_makeSet : GoodIn TW (WS yX6_makeSet cX6_makeSet 6 (some (.int))) := goodC tw_1003
theorem gw_X6_readHex : GoodIn TW (WS yX6_readHex cX6_readHex 4 (some (.int))) := goodC tw_988
theorem gw_X6_readMember : GoodIn TW (WS yX6_readMember cX6_readMember 2 (some (.int))) := goodC tw_984
theorem gw_X6_readMost : GoodIn TW (WS yX6_readMost cX6_readMost 3 (some (.int))) := goodC tw_1052
theorem gw_X6_readName : GoodIn TW (WS yX6_readName cX6_readName 2 (some (.int))) := goodC tw_954
theorem gw_X6_readNumber : GoodIn TW (WS yX6_readNumber cX6_readNumber 4 (some (.int))) := goodC tw_1048
theorem gw_X6_readPart : GoodIn TW (WS yX6_readPart cX6_readPart 4 none) := goodC tw_980
theorem gw_X6_sortOfMark : GoodIn TW (WS yX6_sortOfMark cX6_sortOfMark 1 (some (.int))) := goodC tw_946
theorem gw_X7_add : GoodIn TW (WS yX7_add cX7_add 2 none) := goodC tw_868
theorem gw_X7_addFrom : GoodIn TW (WS yX7_addFrom cX7_addFrom 5 none) := goodC tw_1280
theorem gw_X7_at : GoodIn TW (WS yX7_at cX7_at 2 (some (.int))) := goodC tw_910
theorem gw_X7_empty : GoodIn TW (WS yX7_empty cX7_empty 1 none) := goodC tw_1127
theorem gw_X7_take : GoodIn TW (WS yX7_take cX7_take 2 none) := goodC tw_1275
theorem gw_X7_turnRound : GoodIn TW (WS yX7_turnRound cX7_turnRound 4 none) := goodC tw_1969
theorem gw_X8_longestBeginning : GoodIn TW (WS yX8_longestBeginning cX8_longestBeginning 3 (some (.int))) := goodC tw_1882
theorem gw_X8_look : GoodIn TW (WS yX8_look cX8_look 4 none) := goodC tw_1953
theorem gw_X8_make : GoodIn TW (WS yX8_make cX8_make 3 (some (.boolean))) := goodC tw_1833
theorem gw_X8_meet : GoodIn TW (WS yX8_meet cX8_meet 4 none) := goodC tw_1948
theorem gw_X8_walkBoth : GoodIn TW (WS yX8_walkBoth cX8_walkBoth 5 none) := goodC tw_1944
theorem gw_X8_writeParting : GoodIn TW (WS yX8_writeParting cX8_writeParting 3 none) := goodC tw_1963
theorem gw_X9_ends : GoodIn TW (WS yX9_ends cX9_ends 2 (some (.boolean))) := goodC tw_1894
theorem gw_X9_fewestStates : GoodIn TW (WS yX9_fewestStates cX9_fewestStates 4 (some (.int))) := goodC tw_1923
theorem gw_X9_fillState : GoodIn TW (WS yX9_fillState cX9_fillState 4 (some (.boolean))) := goodC tw_1870
theorem gw_X9_followOf : GoodIn TW (WS yX9_followOf cX9_followOf 6 (some (.long))) := goodC tw_1878
theorem gw_X9_groupOf : GoodIn TW (WS yX9_groupOf cX9_groupOf 2 (some (.int))) := goodC tw_1935
theorem gw_X9_leadsToLive : GoodIn TW (WS yX9_leadsToLive cX9_leadsToLive 4 (some (.boolean))) := goodC tw_1898
theorem gw_X9_longestBeginning : GoodIn TW (WS yX9_longestBeginning cX9_longestBeginning 7 (some (.int))) := goodC tw_1886
theorem gw_X9_make : GoodIn TW (WS yX9_make cX9_make 5 (some (.boolean))) := goodC tw_1838
theorem gw_X9_markLive : GoodIn TW (WS yX9_markLive cX9_markLive 4 none) := goodC tw_1890
theorem gw_X9_next : GoodIn TW (WS yX9_next cX9_next 4 (some (.int))) := goodC tw_1902
theorem gw_X9_numberPositions : GoodIn TW (WS yX9_numberPositions cX9_numberPositions 2 none) := goodC tw_1844
theorem gw_X9_push : GoodIn TW (WS yX9_push cX9_push 2 none) := goodC tw_1858
theorem gw_X9_reach : GoodIn TW (WS yX9_reach cX9_reach 7 (some (.long))) := goodC tw_1854
theorem gw_X9_refine : GoodIn TW (WS yX9_refine cX9_refine 4 (some (.int))) := goodC tw_1927
theorem gw_X9_stateOf : GoodIn TW (WS yX9_stateOf cX9_stateOf 4 (some (.int))) := goodC tw_1874
theorem gw_X9_staysTogether : GoodIn TW (WS yX9_staysTogether cX9_staysTogether 4 (some (.boolean))) := goodC tw_1931
theorem gw_X9_takersOf : GoodIn TW (WS yX9_takersOf cX9_takersOf 5 (some (.long))) := goodC tw_1865
theorem dJ7_fill_53178_0 : decode cJ7_fill_53178 0 = .ok (.iconst 0, 1) := by decide +kernel
theorem dJ7_fill_53178_1 : decode cJ7_fill_53178 1 = .ok (.istore_n 2, 1) := by decide +kernel
theorem dJ7_fill_53178_2 : decode cJ7_fill_53178 2 = .ok (.aload_n 0, 1) := by decide +kernel
theorem dJ7_fill_53178_3 : decode cJ7_fill_53178 3 = .ok (.arraylength, 1) := by decide +kernel
theorem dJ7_fill_53178_4 : decode cJ7_fill_53178 4 = .ok (.istore_n 3, 1) := by decide +kernel
theorem dJ7_fill_53178_5 : decode cJ7_fill_53178 5 = .ok (.iload_n 2, 1) := by decide +kernel
theorem dJ7_fill_53178_6 : decode cJ7_fill_53178 6 = .ok (.iload_n 3, 1) := by decide +kernel
theorem dJ7_fill_53178_7 : decode cJ7_fill_53178 7 = .ok (.if_icmp .ge 13, 3) := by decide +kernel
theorem dJ7_fill_53178_10 : decode cJ7_fill_53178 10 = .ok (.aload_n 0, 1) := by decide +kernel
theorem dJ7_fill_53178_11 : decode cJ7_fill_53178 11 = .ok (.iload_n 2, 1) := by decide +kernel
theorem dJ7_fill_53178_12 : decode cJ7_fill_53178 12 = .ok (.iload_n 1, 1) := by decide +kernel
theorem dJ7_fill_53178_13 : decode cJ7_fill_53178 13 = .ok (.iastore, 1) := by decide +kernel
theorem dJ7_fill_53178_14 : decode cJ7_fill_53178 14 = .ok (.iinc 2 1, 3) := by decide +kernel
theorem dJ7_fill_53178_17 : decode cJ7_fill_53178 17 = .ok (.goto (-12), 3) := by decide +kernel
theorem dJ7_fill_53178_20 : decode cJ7_fill_53178 20 = .ok (.return_, 1) := by decide +kernel
theorem dX0_addBegin_0 : decode cX0_addBegin 0 = .ok (.iconst 0, 1) := by decide +kernel
theorem dX0_addBegin_1 : decode cX0_addBegin 1 = .ok (.istore_n 2, 1) := by decide +kernel
theorem dX0_addBegin_2 : decode cX0_addBegin 2 = .ok (.iload_n 2, 1) := by decide +kernel
theorem dX0_addBegin_3 : decode cX0_addBegin 3 = .ok (.aload_n 0, 1) := by decide +kernel
theorem dX0_addBegin_4 : decode cX0_addBegin 4 = .ok (.getfield 15, 3) := by decide +kernel
theorem dX0_addBegin_7 : decode cX0_addBegin 7 = .ok (.if_icmp .ge 19, 3) := by decide +kernel
theorem dX0_addBegin_10 : decode cX0_addBegin 10 = .ok (.aload_n 0, 1) := by decide +kernel
theorem dX0_addBegin_11 : decode cX0_addBegin 11 = .ok (.getfield 9, 3) := by decide +kernel
theorem dX0_addBegin_14 : decode cX0_addBegin 14 = .ok (.iload_n 2, 1) := by decide +kernel
theorem dX0_addBegin_15 : decode cX0_addBegin 15 = .ok (.iaload, 1) := by decide +kernel
theorem dX0_addBegin_16 : decode cX0_addBegin 16 = .ok (.iload_n 1, 1) := by decide +kernel
theorem dX0_addBegin_17 : decode cX0_addBegin 17 = .ok (.if_icmp .ge 9, 3) := by decide +kernel
theorem dX0_addBegin_20 : decode cX0_addBegin 20 = .ok (.iinc 2 1, 3) := by decide +kernel
theorem dX0_addBegin_23 : decode cX0_addBegin 23 = .ok (.goto (-21), 3) := by decide +kernel
theorem dX0_addBegin_26 : decode cX0_addBegin 26 = .ok (.iload_n 2, 1) := by decide +kernel
theorem dX0_addBegin_27 : decode cX0_addBegin 27 = .ok (.aload_n 0, 1) := by decide +kernel
theorem dX0_addBegin_28 : decode cX0_addBegin 28 = .ok (.getfield 15, 3) := by decide +kernel
theorem dX0_addBegin_31 : decode cX0_addBegin 31 = .ok (.if_icmp .ge 17, 3) := by decide +kernel
theorem dX0_addBegin_34 : decode cX0_addBegin 34 = .ok (.aload_n 0, 1) := by decide +kernel
theorem dX0_addBegin_35 : decode cX0_addBegin 35 = .ok (.getfield 9, 3) := by decide +kernel
theorem dX0_addBegin_38 : decode cX0_addBegin 38 = .ok (.iload_n 2, 1) := by decide +kernel
theorem dX0_addBegin_39 : decode cX0_addBegin 39 = .ok (.iaload, 1) := by decide +kernel
theorem dX0_addBegin_40 : decode cX0_addBegin 40 = .ok (.iload_n 1, 1) := by decide +kernel
theorem dX0_addBegin_41 : decode cX0_addBegin 41 = .ok (.if_icmp .ne 7, 3) := by decide +kernel
theorem dX0_addBegin_44 : decode cX0_addBegin 44 = .ok (.iconst 1, 1) := by decide +kernel
theorem dX0_addBegin_45 : decode cX0_addBegin 45 = .ok (.goto 4, 3) := by decide +kernel
theorem dX0_addBegin_48 : decode cX0_addBegin 48 = .ok (.iconst 0, 1) := by decide +kernel
theorem dX0_addBegin_49 : decode cX0_addBegin 49 = .ok (.istore_n 3, 1) := by decide +kernel
theorem dX0_addBegin_50 : decode cX0_addBegin 50 = .ok (.iload_n 3, 1) := by decide +kernel
theorem dX0_addBegin_51 : decode cX0_addBegin 51 = .ok (.ifCond .ne 19, 3) := by decide +kernel
theorem dX0_addBegin_54 : decode cX0_addBegin 54 = .ok (.iload_n 1, 1) := by decide +kernel
theorem dX0_addBegin_55 : decode cX0_addBegin 55 = .ok (.ldc 69, 2) := by decide +kernel
theorem dX0_addBegin_57 : decode cX0_addBegin 57 = .ok (.if_icmp .gt 13, 3) := by decide +kernel
theorem dX0_addBegin_60 : decode cX0_addBegin 60 = .ok (.aload_n 0, 1) := by decide +kernel
theorem dX0_addBegin_61 : decode cX0_addBegin 61 = .ok (.getfield 15, 3) := by decide +kernel
theorem dX0_addBegin_64 : decode cX0_addBegin 64 = .ok (.sipush 256, 3) := by decide +kernel
theorem dX0_addBegin_67 : decode cX0_addBegin 67 = .ok (.if_icmp .lt 4, 3) := by decide +kernel
theorem dX0_addBegin_70 : decode cX0_addBegin 70 = .ok (.return_, 1) := by decide +kernel
theorem dX0_addBegin_71 : decode cX0_addBegin 71 = .ok (.aload_n 0, 1) := by decide +kernel
theorem dX0_addBegin_72 : decode cX0_addBegin 72 = .ok (.getfield 15, 3) := by decide +kernel
theorem dX0_addBegin_75 : decode cX0_addBegin 75 = .ok (.istore 4, 2) := by decide +kernel
theorem dX0_addBegin_77 : decode cX0_addBegin 77 = .ok (.iload 4, 2) := by decide +kernel
theorem dX0_addBegin_79 : decode cX0_addBegin 79 = .ok (.iload_n 2, 1) := by decide +kernel
theorem dX0_addBegin_80 : decode cX0_addBegin 80 = .ok (.if_icmp .le 25, 3) := by decide +kernel
theorem dX0_addBegin_83 : decode cX0_addBegin 83 = .ok (.aload_n 0, 1) := by decide +kernel
theorem dX0_addBegin_84 : decode cX0_addBegin 84 = .ok (.getfield 9, 3) := by decide +kernel
theorem dX0_addBegin_87 : decode cX0_addBegin 87 = .ok (.iload 4, 2) := by decide +kernel
theorem dX0_addBegin_89 : decode cX0_addBegin 89 = .ok (.aload_n 0, 1) := by decide +kernel
theorem dX0_addBegin_90 : decode cX0_addBegin 90 = .ok (.getfield 9, 3) := by decide +kernel
theorem dX0_addBegin_93 : decode cX0_addBegin 93 = .ok (.iload 4, 2) := by decide +kernel
theorem dX0_addBegin_95 : decode cX0_addBegin 95 = .ok (.iconst 1, 1) := by decide +kernel
theorem dX0_addBegin_96 : decode cX0_addBegin 96 = .ok (.isub, 1) := by decide +kernel
theorem dX0_addBegin_97 : decode cX0_addBegin 97 = .ok (.iaload, 1) := by decide +kernel
theorem dX0_addBegin_98 : decode cX0_addBegin 98 = .ok (.iastore, 1) := by decide +kernel
theorem dX0_addBegin_99 : decode cX0_addBegin 99 = .ok (.iinc 4 (-1), 3) := by decide +kernel
theorem dX0_addBegin_102 : decode cX0_addBegin 102 = .ok (.goto (-25), 3) := by decide +kernel
theorem dX0_addBegin_105 : decode cX0_addBegin 105 = .ok (.aload_n 0, 1) := by decide +kernel
theorem dX0_addBegin_106 : decode cX0_addBegin 106 = .ok (.getfield 9, 3) := by decide +kernel
theorem dX0_addBegin_109 : decode cX0_addBegin 109 = .ok (.iload_n 2, 1) := by decide +kernel
theorem dX0_addBegin_110 : decode cX0_addBegin 110 = .ok (.iload_n 1, 1) := by decide +kernel
theorem dX0_addBegin_111 : decode cX0_addBegin 111 = .ok (.iastore, 1) := by decide +kernel
theorem dX0_addBegin_112 : decode cX0_addBegin 112 = .ok (.aload_n 0, 1) := by decide +kernel
theorem dX0_addBegin_113 : decode cX0_addBegin 113 = .ok (.dup, 1) := by decide +kernel
theorem dX0_addBegin_114 : decode cX0_addBegin 114 = .ok (.getfield 15, 3) := by decide +kernel
theorem dX0_addBegin_117 : decode cX0_addBegin 117 = .ok (.iconst 1, 1) := by decide +kernel
theorem dX0_addBegin_118 : decode cX0_addBegin 118 = .ok (.iadd, 1) := by decide +kernel
theorem dX0_addBegin_119 : decode cX0_addBegin 119 = .ok (.putfield 15, 3) := by decide +kernel
theorem dX0_addBegin_122 : decode cX0_addBegin 122 = .ok (.return_, 1) := by decide +kernel
theorem dX0_addParts_0 : decode cX0_addParts 0 = .ok (.iconst 0, 1) := by decide +kernel
theorem dX0_addParts_1 : decode cX0_addParts 1 = .ok (.istore_n 3, 1) := by decide +kernel
theorem dX0_addParts_2 : decode cX0_addParts 2 = .ok (.iload_n 3, 1) := by decide +kernel
theorem dX0_addParts_3 : decode cX0_addParts 3 = .ok (.aload_n 1, 1) := by decide +kernel
theorem dX0_addParts_4 : decode cX0_addParts 4 = .ok (.iload_n 2, 1) := by decide +kernel
theorem dX0_addParts_5 : decode cX0_addParts 5 = .ok (.invokevirtual 47, 3) := by decide +kernel
theorem dX0_addParts_8 : decode cX0_addParts 8 = .ok (.if_icmp .ge 30, 3) := by decide +kernel
theorem dX0_addParts_11 : decode cX0_addParts 11 = .ok (.aload_n 0, 1) := by decide +kernel
theorem dX0_addParts_12 : decode cX0_addParts 12 = .ok (.aload_n 1, 1) := by decide +kernel
theorem dX0_addParts_13 : decode cX0_addParts 13 = .ok (.iload_n 2, 1) := by decide +kernel
theorem dX0_addParts_14 : decode cX0_addParts 14 = .ok (.iload_n 3, 1) := by decide +kernel
theorem dX0_addParts_15 : decode cX0_addParts 15 = .ok (.invokevirtual 50, 3) := by decide +kernel
theorem dX0_addParts_18 : decode cX0_addParts 18 = .ok (.aload_n 1, 1) := by decide +kernel
theorem dX0_addParts_19 : decode cX0_addParts 19 = .ok (.iload_n 2, 1) := by decide +kernel
theorem dX0_addParts_20 : decode cX0_addParts 20 = .ok (.iload_n 3, 1) := by decide +kernel
theorem dX0_addParts_21 : decode cX0_addParts 21 = .ok (.invokevirtual 54, 3) := by decide +kernel
theorem dX0_addParts_24 : decode cX0_addParts 24 = .ok (.aload_n 1, 1) := by decide +kernel
theorem dX0_addParts_25 : decode cX0_addParts 25 = .ok (.iload_n 2, 1) := by decide +kernel
theorem dX0_addParts_26 : decode cX0_addParts 26 = .ok (.invokevirtual 36, 3) := by decide +kernel
theorem dX0_addParts_29 : decode cX0_addParts 29 = .ok (.invokevirtual 39, 3) := by decide +kernel
theorem dX0_addParts_32 : decode cX0_addParts 32 = .ok (.iinc 3 1, 3) := by decide +kernel
theorem dX0_addParts_35 : decode cX0_addParts 35 = .ok (.goto (-33), 3) := by decide +kernel
theorem dX0_addParts_38 : decode cX0_addParts 38 = .ok (.return_, 1) := by decide +kernel
theorem dX0_addRange_0 : decode cX0_addRange 0 = .ok (.aload_n 0, 1) := by decide +kernel
theorem dX0_addRange_1 : decode cX0_addRange 1 = .ok (.iload_n 1, 1) := by decide +kernel
theorem dX0_addRange_2 : decode cX0_addRange 2 = .ok (.invokevirtual 57, 3) := by decide +kernel
theorem dX0_addRange_5 : decode cX0_addRange 5 = .ok (.aload_n 0, 1) := by decide +kernel
theorem dX0_addRange_6 : decode cX0_addRange 6 = .ok (.iload_n 2, 1) := by decide +kernel
theorem dX0_addRange_7 : decode cX0_addRange 7 = .ok (.iconst 1, 1) := by decide +kernel
theorem dX0_addRange_8 : decode cX0_addRange 8 = .ok (.iadd, 1) := by decide +kernel
theorem dX0_addRange_9 : decode cX0_addRange 9 = .ok (.invokevirtual 57, 3) := by decide +kernel
theorem dX0_addRange_12 : decode cX0_addRange 12 = .ok (.iload_n 3, 1) := by decide +kernel
theorem dX0_addRange_13 : decode cX0_addRange 13 = .ok (.ifCond .eq 41, 3) := by decide +kernel
theorem dX0_addRange_16 : decode cX0_addRange 16 = .ok (.iload_n 1, 1) := by decide +kernel
theorem dX0_addRange_17 : decode cX0_addRange 17 = .ok (.bipush 90, 2) := by decide +kernel
theorem dX0_addRange_19 : decode cX0_addRange 19 = .ok (.if_icmp .gt 35, 3) := by decide +kernel
theorem dX0_addRange_22 : decode cX0_addRange 22 = .ok (.iload_n 2, 1) := by decide +kernel
theorem dX0_addRange_23 : decode cX0_addRange 23 = .ok (.bipush 65, 2) := by decide +kernel
theorem dX0_addRange_25 : decode cX0_addRange 25 = .ok (.if_icmp .lt 29, 3) := by decide +kernel
theorem dX0_addRange_28 : decode cX0_addRange 28 = .ok (.aload_n 0, 1) := by decide +kernel
theorem dX0_addRange_29 : decode cX0_addRange 29 = .ok (.iload_n 1, 1) := by decide +kernel
theorem dX0_addRange_30 : decode cX0_addRange 30 = .ok (.bipush 65, 2) := by decide +kernel
theorem dX0_addRange_32 : decode cX0_addRange 32 = .ok (.invokestatic 61, 3) := by decide +kernel
theorem dX0_addRange_35 : decode cX0_addRange 35 = .ok (.bipush 32, 2) := by decide +kernel
theorem dX0_addRange_37 : decode cX0_addRange 37 = .ok (.iadd, 1) := by decide +kernel
theorem dX0_addRange_38 : decode cX0_addRange 38 = .ok (.invokevirtual 57, 3) := by decide +kernel
theorem dX0_addRange_41 : decode cX0_addRange 41 = .ok (.aload_n 0, 1) := by decide +kernel
theorem dX0_addRange_42 : decode cX0_addRange 42 = .ok (.iload_n 2, 1) := by decide +kernel
theorem dX0_addRange_43 : decode cX0_addRange 43 = .ok (.bipush 90, 2) := by decide +kernel
theorem dX0_addRange_45 : decode cX0_addRange 45 = .ok (.invokestatic 66, 3) := by decide +kernel
theorem dX0_addRange_48 : decode cX0_addRange 48 = .ok (.bipush 33, 2) := by decide +kernel
theorem dX0_addRange_50 : decode cX0_addRange 50 = .ok (.iadd, 1) := by decide +kernel
theorem dX0_addRange_51 : decode cX0_addRange 51 = .ok (.invokevirtual 57, 3) := by decide +kernel
theorem dX0_addRange_54 : decode cX0_addRange 54 = .ok (.iload_n 3, 1) := by decide +kernel
theorem dX0_addRange_55 : decode cX0_addRange 55 = .ok (.ifCond .eq 41, 3) := by decide +kernel
theorem dX0_addRange_58 : decode cX0_addRange 58 = .ok (.iload_n 1, 1) := by decide +kernel
theorem dX0_addRange_59 : decode cX0_addRange 59 = .ok (.bipush 122, 2) := by decide +kernel
theorem dX0_addRange_61 : decode cX0_addRange 61 = .ok (.if_icmp .gt 35, 3) := by decide +kernel
theorem dX0_addRange_64 : decode cX0_addRange 64 = .ok (.iload_n 2, 1) := by decide +kernel
theorem dX0_addRange_65 : decode cX0_addRange 65 = .ok (.bipush 97, 2) := by decide +kernel
theorem dX0_addRange_67 : decode cX0_addRange 67 = .ok (.if_icmp .lt 29, 3) := by decide +kernel
theorem dX0_addRange_70 : decode cX0_addRange 70 = .ok (.aload_n 0, 1) := by decide +kernel
theorem dX0_addRange_71 : decode cX0_addRange 71 = .ok (.iload_n 1, 1) := by decide +kernel
theorem dX0_addRange_72 : decode cX0_addRange 72 = .ok (.bipush 97, 2) := by decide +kernel
theorem dX0_addRange_74 : decode cX0_addRange 74 = .ok (.invokestatic 61, 3) := by decide +kernel
theorem dX0_addRange_77 : decode cX0_addRange 77 = .ok (.bipush 32, 2) := by decide +kernel
theorem dX0_addRange_79 : decode cX0_addRange 79 = .ok (.isub, 1) := by decide +kernel
theorem dX0_addRange_80 : decode cX0_addRange 80 = .ok (.invokevirtual 57, 3) := by decide +kernel
theorem dX0_addRange_83 : decode cX0_addRange 83 = .ok (.aload_n 0, 1) := by decide +kernel
theorem dX0_addRange_84 : decode cX0_addRange 84 = .ok (.iload_n 2, 1) := by decide +kernel
theorem dX0_addRange_85 : decode cX0_addRange 85 = .ok (.bipush 122, 2) := by decide +kernel
theorem dX0_addRange_87 : decode cX0_addRange 87 = .ok (.invokestatic 66, 3) := by decide +kernel
theorem dX0_addRange_90 : decode cX0_addRange 90 = .ok (.bipush 31, 2) := by decide +kernel
theorem dX0_addRange_92 : decode cX0_addRange 92 = .ok (.isub, 1) := by decide +kernel
theorem dX0_addRange_93 : decode cX0_addRange 93 = .ok (.invokevirtual 57, 3) := by decide +kernel
theorem dX0_addRange_96 : decode cX0_addRange 96 = .ok (.return_, 1) := by decide +kernel
theorem dX0_addTree_0 : decode cX0_addTree 0 = .ok (.iconst 0, 1) := by decide +kernel
theorem dX0_addTree_1 : decode cX0_addTree 1 = .ok (.istore_n 2, 1) := by decide +kernel
theorem dX0_addTree_2 : decode cX0_addTree 2 = .ok (.aload_n 1, 1) := by decide +kernel
theorem dX0_addTree_3 : decode cX0_addTree 3 = .ok (.iload_n 2, 1) := by decide +kernel
theorem dX0_addTree_4 : decode cX0_addTree 4 = .ok (.invokevirtual 23, 3) := by decide +kernel
theorem dX0_addTree_7 : decode cX0_addTree 7 = .ok (.ifCond .eq 82, 3) := by decide +kernel
theorem dX0_addTree_10 : decode cX0_addTree 10 = .ok (.aload_n 1, 1) := by decide +kernel
theorem dX0_addTree_11 : decode cX0_addTree 11 = .ok (.iload_n 2, 1) := by decide +kernel
theorem dX0_addTree_12 : decode cX0_addTree 12 = .ok (.invokevirtual 29, 3) := by decide +kernel
theorem dX0_addTree_15 : decode cX0_addTree 15 = .ok (.tableswitch 68 0 2 #[25, 47, 59], 25) := by decide +kernel
theorem dX0_addTree_40 : decode cX0_addTree 40 = .ok (.aload_n 0, 1) := by decide +kernel
theorem dX0_addTree_41 : decode cX0_addTree 41 = .ok (.aload_n 1, 1) := by decide +kernel
theorem dX0_addTree_42 : decode cX0_addTree 42 = .ok (.iload_n 2, 1) := by decide +kernel
theorem dX0_addTree_43 : decode cX0_addTree 43 = .ok (.invokevirtual 33, 3) := by decide +kernel
theorem dX0_addTree_46 : decode cX0_addTree 46 = .ok (.aload_n 1, 1) := by decide +kernel
theorem dX0_addTree_47 : decode cX0_addTree 47 = .ok (.iload_n 2, 1) := by decide +kernel
theorem dX0_addTree_48 : decode cX0_addTree 48 = .ok (.invokevirtual 33, 3) := by decide +kernel
theorem dX0_addTree_51 : decode cX0_addTree 51 = .ok (.aload_n 1, 1) := by decide +kernel
theorem dX0_addTree_52 : decode cX0_addTree 52 = .ok (.iload_n 2, 1) := by decide +kernel
theorem dX0_addTree_53 : decode cX0_addTree 53 = .ok (.invokevirtual 36, 3) := by decide +kernel
theorem dX0_addTree_56 : decode cX0_addTree 56 = .ok (.invokevirtual 39, 3) := by decide +kernel
theorem dX0_addTree_59 : decode cX0_addTree 59 = .ok (.goto 24, 3) := by decide +kernel
theorem dX0_addTree_62 : decode cX0_addTree 62 = .ok (.aload_n 0, 1) := by decide +kernel
theorem dX0_addTree_63 : decode cX0_addTree 63 = .ok (.bipush 10, 2) := by decide +kernel
theorem dX0_addTree_65 : decode cX0_addTree 65 = .ok (.bipush 10, 2) := by decide +kernel
theorem dX0_addTree_67 : decode cX0_addTree 67 = .ok (.iconst 0, 1) := by decide +kernel
theorem dX0_addTree_68 : decode cX0_addTree 68 = .ok (.invokevirtual 39, 3) := by decide +kernel
theorem dX0_addTree_71 : decode cX0_addTree 71 = .ok (.goto 12, 3) := by decide +kernel
theorem dX0_addTree_74 : decode cX0_addTree 74 = .ok (.aload_n 0, 1) := by decide +kernel
theorem dX0_addTree_75 : decode cX0_addTree 75 = .ok (.aload_n 1, 1) := by decide +kernel
theorem dX0_addTree_76 : decode cX0_addTree 76 = .ok (.iload_n 2, 1) := by decide +kernel
theorem dX0_addTree_77 : decode cX0_addTree 77 = .ok (.invokevirtual 43, 3) := by decide +kernel
theorem dX0_addTree_80 : decode cX0_addTree 80 = .ok (.goto 3, 3) := by decide +kernel
theorem dX0_addTree_83 : decode cX0_addTree 83 = .ok (.iinc 2 1, 3) := by decide +kernel
theorem dX0_addTree_86 : decode cX0_addTree 86 = .ok (.goto (-84), 3) := by decide +kernel
theorem dX0_addTree_89 : decode cX0_addTree 89 = .ok (.return_, 1) := by decide +kernel
theorem dX0_classOf_0 : decode cX0_classOf 0 = .ok (.iconst 0, 1) := by decide +kernel
theorem dX0_classOf_1 : decode cX0_classOf 1 = .ok (.istore_n 2, 1) := by decide +kernel
theorem dX0_classOf_2 : decode cX0_classOf 2 = .ok (.iconst 1, 1) := by decide +kernel
theorem dX0_classOf_3 : decode cX0_classOf 3 = .ok (.istore_n 3, 1) := by decide +kernel
theorem dX0_classOf_4 : decode cX0_classOf 4 = .ok (.iload_n 3, 1) := by decide +kernel
theorem dX0_classOf_5 : decode cX0_classOf 5 = .ok (.aload_n 0, 1) := by decide +kernel
theorem dX0_classOf_6 : decode cX0_classOf 6 = .ok (.getfield 15, 3) := by decide +kernel
theorem dX0_classOf_9 : decode cX0_classOf 9 = .ok (.if_icmp .ge 21, 3) := by decide +kernel
theorem dX0_classOf_12 : decode cX0_classOf 12 = .ok (.aload_n 0, 1) := by decide +kernel
theorem dX0_classOf_13 : decode cX0_classOf 13 = .ok (.getfield 9, 3) := by decide +kernel
theorem dX0_classOf_16 : decode cX0_classOf 16 = .ok (.iload_n 3, 1) := by decide +kernel
theorem dX0_classOf_17 : decode cX0_classOf 17 = .ok (.iaload, 1) := by decide +kernel
theorem dX0_classOf_18 : decode cX0_classOf 18 = .ok (.iload_n 1, 1) := by decide +kernel
theorem dX0_classOf_19 : decode cX0_classOf 19 = .ok (.if_icmp .gt 11, 3) := by decide +kernel
theorem dX0_classOf_22 : decode cX0_classOf 22 = .ok (.iload_n 3, 1) := by decide +kernel
theorem dX0_classOf_23 : decode cX0_classOf 23 = .ok (.istore_n 2, 1) := by decide +kernel
theorem dX0_classOf_24 : decode cX0_classOf 24 = .ok (.iinc 3 1, 3) := by decide +kernel
theorem dX0_classOf_27 : decode cX0_classOf 27 = .ok (.goto (-23), 3) := by decide +kernel
theorem dX0_classOf_30 : decode cX0_classOf 30 = .ok (.iload_n 2, 1) := by decide +kernel
theorem dX0_classOf_31 : decode cX0_classOf 31 = .ok (.ireturn, 1) := by decide +kernel
theorem dX0_gather_0 : decode cX0_gather 0 = .ok (.aload_n 0, 1) := by decide +kernel
theorem dX0_gather_1 : decode cX0_gather 1 = .ok (.iconst 1, 1) := by decide +kernel
theorem dX0_gather_2 : decode cX0_gather 2 = .ok (.putfield 15, 3) := by decide +kernel
theorem dX0_gather_5 : decode cX0_gather 5 = .ok (.aload_n 0, 1) := by decide +kernel
theorem dX0_gather_6 : decode cX0_gather 6 = .ok (.getfield 9, 3) := by decide +kernel
theorem dX0_gather_9 : decode cX0_gather 9 = .ok (.iconst 0, 1) := by decide +kernel
theorem dX0_gather_10 : decode cX0_gather 10 = .ok (.iconst 0, 1) := by decide +kernel
theorem dX0_gather_11 : decode cX0_gather 11 = .ok (.iastore, 1) := by decide +kernel
theorem dX0_gather_12 : decode cX0_gather 12 = .ok (.aload_n 0, 1) := by decide +kernel
theorem dX0_gather_13 : decode cX0_gather 13 = .ok (.aload_n 1, 1) := by decide +kernel
theorem dX0_gather_14 : decode cX0_gather 14 = .ok (.invokevirtual 19, 3) := by decide +kernel
theorem dX0_gather_17 : decode cX0_gather 17 = .ok (.aload_n 2, 1) := by decide +kernel
theorem dX0_gather_18 : decode cX0_gather 18 = .ok (.ifnull 8, 3) := by decide +kernel
theorem dX0_gather_21 : decode cX0_gather 21 = .ok (.aload_n 0, 1) := by decide +kernel
theorem dX0_gather_22 : decode cX0_gather 22 = .ok (.aload_n 2, 1) := by decide +kernel
theorem dX0_gather_23 : decode cX0_gather 23 = .ok (.invokevirtual 19, 3) := by decide +kernel
theorem dX0_gather_26 : decode cX0_gather 26 = .ok (.return_, 1) := by decide +kernel
theorem dX0_leastOf_0 : decode cX0_leastOf 0 = .ok (.iload_n 1, 1) := by decide +kernel
theorem dX0_leastOf_1 : decode cX0_leastOf 1 = .ok (.ifCond .lt 20, 3) := by decide +kernel
theorem dX0_leastOf_4 : decode cX0_leastOf 4 = .ok (.iload_n 1, 1) := by decide +kernel
theorem dX0_leastOf_5 : decode cX0_leastOf 5 = .ok (.aload_n 0, 1) := by decide +kernel
theorem dX0_leastOf_6 : decode cX0_leastOf 6 = .ok (.getfield 15, 3) := by decide +kernel
theorem dX0_leastOf_9 : decode cX0_leastOf 9 = .ok (.if_icmp .ge 12, 3) := by decide +kernel
theorem dX0_leastOf_12 : decode cX0_leastOf 12 = .ok (.aload_n 0, 1) := by decide +kernel
theorem dX0_leastOf_13 : decode cX0_leastOf 13 = .ok (.getfield 9, 3) := by decide +kernel
theorem dX0_leastOf_16 : decode cX0_leastOf 16 = .ok (.iload_n 1, 1) := by decide +kernel
theorem dX0_leastOf_17 : decode cX0_leastOf 17 = .ok (.iaload, 1) := by decide +kernel
theorem dX0_leastOf_18 : decode cX0_leastOf 18 = .ok (.goto 4, 3) := by decide +kernel
theorem dX0_leastOf_21 : decode cX0_leastOf 21 = .ok (.iconst 0, 1) := by decide +kernel
theorem dX0_leastOf_22 : decode cX0_leastOf 22 = .ok (.ireturn, 1) := by decide +kernel
theorem dX10_add_0 : decode cX10_add 0 = .ok (.aload_n 0, 1) := by decide +kernel
theorem dX10_add_1 : decode cX10_add 1 = .ok (.getfield 71, 3) := by decide +kernel
theorem dX10_add_4 : decode cX10_add 4 = .ok (.aload_n 0, 1) := by decide +kernel
theorem dX10_add_5 : decode cX10_add 5 = .ok (.getfield 15, 3) := by decide +kernel
theorem dX10_add_8 : decode cX10_add 8 = .ok (.arraylength, 1) := by decide +kernel
theorem dX10_add_9 : decode cX10_add 9 = .ok (.if_icmp .lt 5, 3) := by decide +kernel
theorem dX10_add_12 : decode cX10_add 12 = .ok (.iconst (-1), 1) := by decide +kernel
theorem dX10_add_13 : decode cX10_add 13 = .ok (.ireturn, 1) := by decide +kernel
theorem dX10_add_14 : decode cX10_add 14 = .ok (.aload_n 0, 1) := by decide +kernel
theorem dX10_add_15 : decode cX10_add 15 = .ok (.getfield 71, 3) := by decide +kernel
theorem dX10_add_18 : decode cX10_add 18 = .ok (.istore 6, 2) := by decide +kernel
theorem dX10_add_20 : decode cX10_add 20 = .ok (.aload_n 0, 1) := by decide +kernel
theorem dX10_add_21 : decode cX10_add 21 = .ok (.dup, 1) := by decide +kernel
theorem dX10_add_22 : decode cX10_add 22 = .ok (.getfield 71, 3) := by decide +kernel
theorem dX10_add_25 : decode cX10_add 25 = .ok (.iconst 1, 1) := by decide +kernel
theorem dX10_add_26 : decode cX10_add 26 = .ok (.iadd, 1) := by decide +kernel
theorem dX10_add_27 : decode cX10_add 27 = .ok (.putfield 71, 3) := by decide +kernel
theorem dX10_add_30 : decode cX10_add 30 = .ok (.aload_n 0, 1) := by decide +kernel
theorem dX10_add_31 : decode cX10_add 31 = .ok (.getfield 15, 3) := by decide +kernel
theorem dX10_add_34 : decode cX10_add 34 = .ok (.iload 6, 2) := by decide +kernel
theorem dX10_add_36 : decode cX10_add 36 = .ok (.iload_n 1, 1) := by decide +kernel
theorem dX10_add_37 : decode cX10_add 37 = .ok (.iastore, 1) := by decide +kernel
theorem dX10_add_38 : decode cX10_add 38 = .ok (.aload_n 0, 1) := by decide +kernel
theorem dX10_add_39 : decode cX10_add 39 = .ok (.getfield 36, 3) := by decide +kernel
theorem dX10_add_42 : decode cX10_add 42 = .ok (.iload 6, 2) := by decide +kernel
theorem dX10_add_44 : decode cX10_add 44 = .ok (.iload_n 2, 1) := by decide +kernel
theorem dX10_add_45 : decode cX10_add 45 = .ok (.iastore, 1) := by decide +kernel
theorem dX10_add_46 : decode cX10_add 46 = .ok (.aload_n 0, 1) := by decide +kernel
theorem dX10_add_47 : decode cX10_add 47 = .ok (.getfield 39, 3) := by decide +kernel
theorem dX10_add_50 : decode cX10_add 50 = .ok (.iload 6, 2) := by decide +kernel
theorem dX10_add_52 : decode cX10_add 52 = .ok (.iload_n 3, 1) := by decide +kernel
theorem dX10_add_53 : decode cX10_add 53 = .ok (.iastore, 1) := by decide +kernel
theorem dX10_add_54 : decode cX10_add 54 = .ok (.aload_n 0, 1) := by decide +kernel
theorem dX10_add_55 : decode cX10_add 55 = .ok (.getfield 42, 3) := by decide +kernel
theorem dX10_add_58 : decode cX10_add 58 = .ok (.iload 6, 2) := by decide +kernel
theorem dX10_add_60 : decode cX10_add 60 = .ok (.iload 4, 2) := by decide +kernel
theorem dX10_add_62 : decode cX10_add 62 = .ok (.iastore, 1) := by decide +kernel
theorem dX10_add_63 : decode cX10_add 63 = .ok (.aload_n 0, 1) := by decide +kernel
theorem dX10_add_64 : decode cX10_add 64 = .ok (.getfield 21, 3) := by decide +kernel
theorem dX10_add_67 : decode cX10_add 67 = .ok (.iload 6, 2) := by decide +kernel
theorem dX10_add_69 : decode cX10_add 69 = .ok (.iload 5, 2) := by decide +kernel
theorem dX10_add_71 : decode cX10_add 71 = .ok (.iastore, 1) := by decide +kernel
theorem dX10_add_72 : decode cX10_add 72 = .ok (.aload_n 0, 1) := by decide +kernel
theorem dX10_add_73 : decode cX10_add 73 = .ok (.getfield 33, 3) := by decide +kernel
theorem dX10_add_76 : decode cX10_add 76 = .ok (.iload 6, 2) := by decide +kernel
theorem dX10_add_78 : decode cX10_add 78 = .ok (.iconst 0, 1) := by decide +kernel
theorem dX10_add_79 : decode cX10_add 79 = .ok (.iastore, 1) := by decide +kernel
theorem dX10_add_80 : decode cX10_add 80 = .ok (.aload_n 0, 1) := by decide +kernel
theorem dX10_add_81 : decode cX10_add 81 = .ok (.getfield 30, 3) := by decide +kernel
theorem dX10_add_84 : decode cX10_add 84 = .ok (.iload 6, 2) := by decide +kernel
theorem dX10_add_86 : decode cX10_add 86 = .ok (.iconst (-1), 1) := by decide +kernel
theorem dX10_add_87 : decode cX10_add 87 = .ok (.iastore, 1) := by decide +kernel
theorem dX10_add_88 : decode cX10_add 88 = .ok (.aload_n 0, 1) := by decide +kernel
theorem dX10_add_89 : decode cX10_add 89 = .ok (.getfield 27, 3) := by decide +kernel
theorem dX10_add_92 : decode cX10_add 92 = .ok (.iload 6, 2) := by decide +kernel
theorem dX10_add_94 : decode cX10_add 94 = .ok (.aload_n 0, 1) := by decide +kernel
theorem dX10_add_95 : decode cX10_add 95 = .ok (.iload 5, 2) := by decide +kernel
theorem dX10_add_97 : decode cX10_add 97 = .ok (.invokevirtual 88, 3) := by decide +kernel
theorem dX10_add_100 : decode cX10_add 100 = .ok (.iastore, 1) := by decide +kernel
theorem dX10_add_101 : decode cX10_add 101 = .ok (.aload_n 0, 1) := by decide +kernel
theorem dX10_add_102 : decode cX10_add 102 = .ok (.iload 5, 2) := by decide +kernel
theorem dX10_add_104 : decode cX10_add 104 = .ok (.invokevirtual 91, 3) := by decide +kernel
theorem dX10_add_107 : decode cX10_add 107 = .ok (.ifCond .eq 23, 3) := by decide +kernel
theorem dX10_add_110 : decode cX10_add 110 = .ok (.aload_n 0, 1) := by decide +kernel
theorem dX10_add_111 : decode cX10_add 111 = .ok (.getfield 30, 3) := by decide +kernel
theorem dX10_add_114 : decode cX10_add 114 = .ok (.iload 5, 2) := by decide +kernel
theorem dX10_add_116 : decode cX10_add 116 = .ok (.iload 6, 2) := by decide +kernel
theorem dX10_add_118 : decode cX10_add 118 = .ok (.iastore, 1) := by decide +kernel
theorem dX10_add_119 : decode cX10_add 119 = .ok (.aload_n 0, 1) := by decide +kernel
theorem dX10_add_120 : decode cX10_add 120 = .ok (.getfield 33, 3) := by decide +kernel
theorem dX10_add_123 : decode cX10_add 123 = .ok (.iload 5, 2) := by decide +kernel
theorem dX10_add_125 : decode cX10_add 125 = .ok (.dup2, 1) := by decide +kernel
theorem dX10_add_126 : decode cX10_add 126 = .ok (.iaload, 1) := by decide +kernel
theorem dX10_add_127 : decode cX10_add 127 = .ok (.iconst 1, 1) := by decide +kernel
theorem dX10_add_128 : decode cX10_add 128 = .ok (.iadd, 1) := by decide +kernel
theorem dX10_add_129 : decode cX10_add 129 = .ok (.iastore, 1) := by decide +kernel
theorem dX10_add_130 : decode cX10_add 130 = .ok (.iload 6, 2) := by decide +kernel
theorem dX10_add_132 : decode cX10_add 132 = .ok (.ireturn, 1) := by decide +kernel
theorem dX10_addRange_0 : decode cX10_addRange 0 = .ok (.aload_n 0, 1) := by decide +kernel
theorem dX10_addRange_1 : decode cX10_addRange 1 = .ok (.getfield 78, 3) := by decide +kernel
theorem dX10_addRange_4 : decode cX10_addRange 4 = .ok (.aload_n 0, 1) := by decide +kernel
theorem dX10_addRange_5 : decode cX10_addRange 5 = .ok (.getfield 61, 3) := by decide +kernel
theorem dX10_addRange_8 : decode cX10_addRange 8 = .ok (.arraylength, 1) := by decide +kernel
theorem dX10_addRange_9 : decode cX10_addRange 9 = .ok (.if_icmp .ge 45, 3) := by decide +kernel
theorem dX10_addRange_12 : decode cX10_addRange 12 = .ok (.aload_n 0, 1) := by decide +kernel
theorem dX10_addRange_13 : decode cX10_addRange 13 = .ok (.getfield 78, 3) := by decide +kernel
theorem dX10_addRange_16 : decode cX10_addRange 16 = .ok (.aload_n 0, 1) := by decide +kernel
theorem dX10_addRange_17 : decode cX10_addRange 17 = .ok (.getfield 64, 3) := by decide +kernel
theorem dX10_addRange_20 : decode cX10_addRange 20 = .ok (.arraylength, 1) := by decide +kernel
theorem dX10_addRange_21 : decode cX10_addRange 21 = .ok (.if_icmp .ge 33, 3) := by decide +kernel
theorem dX10_addRange_24 : decode cX10_addRange 24 = .ok (.aload_n 0, 1) := by decide +kernel
theorem dX10_addRange_25 : decode cX10_addRange 25 = .ok (.getfield 61, 3) := by decide +kernel
theorem dX10_addRange_28 : decode cX10_addRange 28 = .ok (.aload_n 0, 1) := by decide +kernel
theorem dX10_addRange_29 : decode cX10_addRange 29 = .ok (.getfield 78, 3) := by decide +kernel
theorem dX10_addRange_32 : decode cX10_addRange 32 = .ok (.iload_n 1, 1) := by decide +kernel
theorem dX10_addRange_33 : decode cX10_addRange 33 = .ok (.iastore, 1) := by decide +kernel
theorem dX10_addRange_34 : decode cX10_addRange 34 = .ok (.aload_n 0, 1) := by decide +kernel
theorem dX10_addRange_35 : decode cX10_addRange 35 = .ok (.getfield 64, 3) := by decide +kernel
theorem dX10_addRange_38 : decode cX10_addRange 38 = .ok (.aload_n 0, 1) := by decide +kernel
theorem dX10_addRange_39 : decode cX10_addRange 39 = .ok (.getfield 78, 3) := by decide +kernel
theorem dX10_addRange_42 : decode cX10_addRange 42 = .ok (.iload_n 2, 1) := by decide +kernel
theorem dX10_addRange_43 : decode cX10_addRange 43 = .ok (.iastore, 1) := by decide +kernel
theorem dX10_addRange_44 : decode cX10_addRange 44 = .ok (.aload_n 0, 1) := by decide +kernel
theorem dX10_addRange_45 : decode cX10_addRange 45 = .ok (.dup, 1) := by decide +kernel
theorem dX10_addRange_46 : decode cX10_addRange 46 = .ok (.getfield 78, 3) := by decide +kernel
theorem dX10_addRange_49 : decode cX10_addRange 49 = .ok (.iconst 1, 1) := by decide +kernel
theorem dX10_addRange_50 : decode cX10_addRange 50 = .ok (.iadd, 1) := by decide +kernel
theorem dX10_addRange_51 : decode cX10_addRange 51 = .ok (.putfield 78, 3) := by decide +kernel
theorem dX10_addRange_54 : decode cX10_addRange 54 = .ok (.return_, 1) := by decide +kernel
theorem dX10_beforeOf_0 : decode cX10_beforeOf 0 = .ok (.iload_n 1, 1) := by decide +kernel
theorem dX10_beforeOf_1 : decode cX10_beforeOf 1 = .ok (.ifCond .lt 20, 3) := by decide +kernel
theorem dX10_beforeOf_4 : decode cX10_beforeOf 4 = .ok (.iload_n 1, 1) := by decide +kernel
theorem dX10_beforeOf_5 : decode cX10_beforeOf 5 = .ok (.aload_n 0, 1) := by decide +kernel
theorem dX10_beforeOf_6 : decode cX10_beforeOf 6 = .ok (.getfield 71, 3) := by decide +kernel
theorem dX10_beforeOf_9 : decode cX10_beforeOf 9 = .ok (.if_icmp .ge 12, 3) := by decide +kernel
theorem dX10_beforeOf_12 : decode cX10_beforeOf 12 = .ok (.aload_n 0, 1) := by decide +kernel
theorem dX10_beforeOf_13 : decode cX10_beforeOf 13 = .ok (.getfield 27, 3) := by decide +kernel
theorem dX10_beforeOf_16 : decode cX10_beforeOf 16 = .ok (.iload_n 1, 1) := by decide +kernel
theorem dX10_beforeOf_17 : decode cX10_beforeOf 17 = .ok (.iaload, 1) := by decide +kernel
theorem dX10_beforeOf_18 : decode cX10_beforeOf 18 = .ok (.goto 4, 3) := by decide +kernel
theorem dX10_beforeOf_21 : decode cX10_beforeOf 21 = .ok (.iconst (-1), 1) := by decide +kernel
theorem dX10_beforeOf_22 : decode cX10_beforeOf 22 = .ok (.ireturn, 1) := by decide +kernel
theorem dX10_beginsWith_0 : decode cX10_beginsWith 0 = .ok (.aload_n 0, 1) := by decide +kernel
theorem dX10_beginsWith_1 : decode cX10_beginsWith 1 = .ok (.iload_n 1, 1) := by decide +kernel
theorem dX10_beginsWith_2 : decode cX10_beginsWith 2 = .ok (.invokevirtual 81, 3) := by decide +kernel
theorem dX10_beginsWith_5 : decode cX10_beginsWith 5 = .ok (.tableswitch 98 0 9 #[55, 55, 55, 64, 62, 66, 98, 72, 98, 64], 55) := by decide +kernel
theorem dX10_beginsWith_60 : decode cX10_beginsWith 60 = .ok (.aload_n 0, 1) := by decide +kernel
theorem dX10_beginsWith_61 : decode cX10_beginsWith 61 = .ok (.iload_n 1, 1) := by decide +kernel
theorem dX10_beginsWith_62 : decode cX10_beginsWith 62 = .ok (.iload_n 2, 1) := by decide +kernel
theorem dX10_beginsWith_63 : decode cX10_beginsWith 63 = .ok (.invokevirtual 143, 3) := by decide +kernel
theorem dX10_beginsWith_66 : decode cX10_beginsWith 66 = .ok (.ireturn, 1) := by decide +kernel
theorem dX10_beginsWith_67 : decode cX10_beginsWith 67 = .ok (.iconst 1, 1) := by decide +kernel
theorem dX10_beginsWith_68 : decode cX10_beginsWith 68 = .ok (.ireturn, 1) := by decide +kernel
theorem dX10_beginsWith_69 : decode cX10_beginsWith 69 = .ok (.iconst 0, 1) := by decide +kernel
theorem dX10_beginsWith_70 : decode cX10_beginsWith 70 = .ok (.ireturn, 1) := by decide +kernel
theorem dX10_beginsWith_71 : decode cX10_beginsWith 71 = .ok (.aload_n 0, 1) := by decide +kernel
theorem dX10_beginsWith_72 : decode cX10_beginsWith 72 = .ok (.iload_n 1, 1) := by decide +kernel
theorem dX10_beginsWith_73 : decode cX10_beginsWith 73 = .ok (.invokevirtual 146, 3) := by decide +kernel
theorem dX10_beginsWith_76 : decode cX10_beginsWith 76 = .ok (.ireturn, 1) := by decide +kernel
theorem dX10_beginsWith_77 : decode cX10_beginsWith 77 = .ok (.aload_n 0, 1) := by decide +kernel
theorem dX10_beginsWith_78 : decode cX10_beginsWith 78 = .ok (.iload_n 1, 1) := by decide +kernel
theorem dX10_beginsWith_79 : decode cX10_beginsWith 79 = .ok (.invokevirtual 85, 3) := by decide +kernel
theorem dX10_beginsWith_82 : decode cX10_beginsWith 82 = .ok (.ifCond .eq 19, 3) := by decide +kernel
theorem dX10_beginsWith_85 : decode cX10_beginsWith 85 = .ok (.aload_n 0, 1) := by decide +kernel
theorem dX10_beginsWith_86 : decode cX10_beginsWith 86 = .ok (.aload_n 0, 1) := by decide +kernel
theorem dX10_beginsWith_87 : decode cX10_beginsWith 87 = .ok (.iload_n 1, 1) := by decide +kernel
theorem dX10_beginsWith_88 : decode cX10_beginsWith 88 = .ok (.invokevirtual 105, 3) := by decide +kernel
theorem dX10_beginsWith_91 : decode cX10_beginsWith 91 = .ok (.invokevirtual 149, 3) := by decide +kernel
theorem dX10_beginsWith_94 : decode cX10_beginsWith 94 = .ok (.ifCond .eq 7, 3) := by decide +kernel
theorem dX10_beginsWith_97 : decode cX10_beginsWith 97 = .ok (.iconst 1, 1) := by decide +kernel
theorem dX10_beginsWith_98 : decode cX10_beginsWith 98 = .ok (.goto 4, 3) := by decide +kernel
theorem dX10_beginsWith_101 : decode cX10_beginsWith 101 = .ok (.iconst 0, 1) := by decide +kernel
theorem dX10_beginsWith_102 : decode cX10_beginsWith 102 = .ok (.ireturn, 1) := by decide +kernel
theorem dX10_beginsWith_103 : decode cX10_beginsWith 103 = .ok (.aload_n 0, 1) := by decide +kernel
theorem dX10_beginsWith_104 : decode cX10_beginsWith 104 = .ok (.iload_n 1, 1) := by decide +kernel
theorem dX10_beginsWith_105 : decode cX10_beginsWith 105 = .ok (.invokevirtual 152, 3) := by decide +kernel
theorem dX10_beginsWith_108 : decode cX10_beginsWith 108 = .ok (.ireturn, 1) := by decide +kernel
theorem dX10_captureNamed_0 : decode cX10_captureNamed 0 = .ok (.iconst 0, 1) := by decide +kernel
theorem dX10_captureNamed_1 : decode cX10_captureNamed 1 = .ok (.istore_n 2, 1) := by decide +kernel
theorem dX10_captureNamed_2 : decode cX10_captureNamed 2 = .ok (.aload_n 0, 1) := by decide +kernel
theorem dX10_captureNamed_3 : decode cX10_captureNamed 3 = .ok (.iload_n 2, 1) := by decide +kernel
theorem dX10_captureNamed_4 : decode cX10_captureNamed 4 = .ok (.invokevirtual 91, 3) := by decide +kernel
theorem dX10_captureNamed_7 : decode cX10_captureNamed 7 = .ok (.ifCond .eq 37, 3) := by decide +kernel
theorem dX10_captureNamed_10 : decode cX10_captureNamed 10 = .ok (.aload_n 0, 1) := by decide +kernel
theorem dX10_captureNamed_11 : decode cX10_captureNamed 11 = .ok (.getfield 15, 3) := by decide +kernel
theorem dX10_captureNamed_14 : decode cX10_captureNamed 14 = .ok (.iload_n 2, 1) := by decide +kernel
theorem dX10_captureNamed_15 : decode cX10_captureNamed 15 = .ok (.iaload, 1) := by decide +kernel
theorem dX10_captureNamed_16 : decode cX10_captureNamed 16 = .ok (.bipush 8, 2) := by decide +kernel
theorem dX10_captureNamed_18 : decode cX10_captureNamed 18 = .ok (.if_icmp .ne 20, 3) := by decide +kernel
theorem dX10_captureNamed_21 : decode cX10_captureNamed 21 = .ok (.aload_n 0, 1) := by decide +kernel
theorem dX10_captureNamed_22 : decode cX10_captureNamed 22 = .ok (.getfield 39, 3) := by decide +kernel
theorem dX10_captureNamed_25 : decode cX10_captureNamed 25 = .ok (.iload_n 2, 1) := by decide +kernel
theorem dX10_captureNamed_26 : decode cX10_captureNamed 26 = .ok (.iaload, 1) := by decide +kernel
theorem dX10_captureNamed_27 : decode cX10_captureNamed 27 = .ok (.iload_n 1, 1) := by decide +kernel
theorem dX10_captureNamed_28 : decode cX10_captureNamed 28 = .ok (.if_icmp .ne 10, 3) := by decide +kernel
theorem dX10_captureNamed_31 : decode cX10_captureNamed 31 = .ok (.aload_n 0, 1) := by decide +kernel
theorem dX10_captureNamed_32 : decode cX10_captureNamed 32 = .ok (.getfield 36, 3) := by decide +kernel
theorem dX10_captureNamed_35 : decode cX10_captureNamed 35 = .ok (.iload_n 2, 1) := by decide +kernel
theorem dX10_captureNamed_36 : decode cX10_captureNamed 36 = .ok (.iaload, 1) := by decide +kernel
theorem dX10_captureNamed_37 : decode cX10_captureNamed 37 = .ok (.ireturn, 1) := by decide +kernel
theorem dX10_captureNamed_38 : decode cX10_captureNamed 38 = .ok (.iinc 2 1, 3) := by decide +kernel
theorem dX10_captureNamed_41 : decode cX10_captureNamed 41 = .ok (.goto (-39), 3) := by decide +kernel
theorem dX10_captureNamed_44 : decode cX10_captureNamed 44 = .ok (.iconst (-1), 1) := by decide +kernel
theorem dX10_captureNamed_45 : decode cX10_captureNamed 45 = .ok (.ireturn, 1) := by decide +kernel
theorem dX10_close_0 : decode cX10_close 0 = .ok (.aload_n 0, 1) := by decide +kernel
theorem dX10_close_1 : decode cX10_close 1 = .ok (.iload_n 1, 1) := by decide +kernel
theorem dX10_close_2 : decode cX10_close 2 = .ok (.invokevirtual 91, 3) := by decide +kernel
theorem dX10_close_5 : decode cX10_close 5 = .ok (.ifCond .eq 13, 3) := by decide +kernel
theorem dX10_close_8 : decode cX10_close 8 = .ok (.aload_n 0, 1) := by decide +kernel
theorem dX10_close_9 : decode cX10_close 9 = .ok (.getfield 24, 3) := by decide +kernel
theorem dX10_close_12 : decode cX10_close 12 = .ok (.iload_n 1, 1) := by decide +kernel
theorem dX10_close_13 : decode cX10_close 13 = .ok (.aload_n 0, 1) := by decide +kernel
theorem dX10_close_14 : decode cX10_close 14 = .ok (.getfield 71, 3) := by decide +kernel
theorem dX10_close_17 : decode cX10_close 17 = .ok (.iastore, 1) := by decide +kernel
theorem dX10_close_18 : decode cX10_close 18 = .ok (.return_, 1) := by decide +kernel
theorem dX10_copies_0 : decode cX10_copies 0 = .ok (.aload_n 0, 1) := by decide +kernel
theorem dX10_copies_1 : decode cX10_copies 1 = .ok (.iload_n 1, 1) := by decide +kernel
theorem dX10_copies_2 : decode cX10_copies 2 = .ok (.invokevirtual 81, 3) := by decide +kernel
theorem dX10_copies_5 : decode cX10_copies 5 = .ok (.bipush 7, 2) := by decide +kernel
theorem dX10_copies_7 : decode cX10_copies 7 = .ok (.if_icmp .eq 5, 3) := by decide +kernel
theorem dX10_copies_10 : decode cX10_copies 10 = .ok (.iconst 1, 1) := by decide +kernel
theorem dX10_copies_11 : decode cX10_copies 11 = .ok (.ireturn, 1) := by decide +kernel
theorem dX10_copies_12 : decode cX10_copies 12 = .ok (.iconst 1, 1) := by decide +kernel
theorem dX10_copies_13 : decode cX10_copies 13 = .ok (.aload_n 0, 1) := by decide +kernel
theorem dX10_copies_14 : decode cX10_copies 14 = .ok (.iload_n 1, 1) := by decide +kernel
theorem dX10_copies_15 : decode cX10_copies 15 = .ok (.invokevirtual 85, 3) := by decide +kernel
theorem dX10_copies_18 : decode cX10_copies 18 = .ok (.iconst (-1), 1) := by decide +kernel
theorem dX10_copies_19 : decode cX10_copies 19 = .ok (.if_icmp .ne 13, 3) := by decide +kernel
theorem dX10_copies_22 : decode cX10_copies 22 = .ok (.aload_n 0, 1) := by decide +kernel
theorem dX10_copies_23 : decode cX10_copies 23 = .ok (.iload_n 1, 1) := by decide +kernel
theorem dX10_copies_24 : decode cX10_copies 24 = .ok (.invokevirtual 95, 3) := by decide +kernel
theorem dX10_copies_27 : decode cX10_copies 27 = .ok (.iconst 1, 1) := by decide +kernel
theorem dX10_copies_28 : decode cX10_copies 28 = .ok (.iadd, 1) := by decide +kernel
theorem dX10_copies_29 : decode cX10_copies 29 = .ok (.goto 8, 3) := by decide +kernel
theorem dX10_copies_32 : decode cX10_copies 32 = .ok (.aload_n 0, 1) := by decide +kernel
theorem dX10_copies_33 : decode cX10_copies 33 = .ok (.iload_n 1, 1) := by decide +kernel
theorem dX10_copies_34 : decode cX10_copies 34 = .ok (.invokevirtual 85, 3) := by decide +kernel
theorem dX10_copies_37 : decode cX10_copies 37 = .ok (.invokestatic 9, 3) := by decide +kernel
theorem dX10_copies_40 : decode cX10_copies 40 = .ok (.ireturn, 1) := by decide +kernel
theorem dX10_deadRow_0 : decode cX10_deadRow 0 = .ok (.iconst 0, 1) := by decide +kernel
theorem dX10_deadRow_1 : decode cX10_deadRow 1 = .ok (.istore_n 2, 1) := by decide +kernel
theorem dX10_deadRow_2 : decode cX10_deadRow 2 = .ok (.iconst 0, 1) := by decide +kernel
theorem dX10_deadRow_3 : decode cX10_deadRow 3 = .ok (.istore_n 3, 1) := by decide +kernel
theorem dX10_deadRow_4 : decode cX10_deadRow 4 = .ok (.aload_n 0, 1) := by decide +kernel
theorem dX10_deadRow_5 : decode cX10_deadRow 5 = .ok (.iload_n 3, 1) := by decide +kernel
theorem dX10_deadRow_6 : decode cX10_deadRow 6 = .ok (.invokevirtual 91, 3) := by decide +kernel
theorem dX10_deadRow_9 : decode cX10_deadRow 9 = .ok (.ifCond .eq 55, 3) := by decide +kernel
theorem dX10_deadRow_12 : decode cX10_deadRow 12 = .ok (.aload_n 0, 1) := by decide +kernel
theorem dX10_deadRow_13 : decode cX10_deadRow 13 = .ok (.aload_n 0, 1) := by decide +kernel
theorem dX10_deadRow_14 : decode cX10_deadRow 14 = .ok (.getfield 21, 3) := by decide +kernel
theorem dX10_deadRow_17 : decode cX10_deadRow 17 = .ok (.iload_n 3, 1) := by decide +kernel
theorem dX10_deadRow_18 : decode cX10_deadRow 18 = .ok (.iaload, 1) := by decide +kernel
theorem dX10_deadRow_19 : decode cX10_deadRow 19 = .ok (.invokevirtual 81, 3) := by decide +kernel
theorem dX10_deadRow_22 : decode cX10_deadRow 22 = .ok (.bipush 6, 2) := by decide +kernel
theorem dX10_deadRow_24 : decode cX10_deadRow 24 = .ok (.if_icmp .ne 34, 3) := by decide +kernel
theorem dX10_deadRow_27 : decode cX10_deadRow 27 = .ok (.aload_n 0, 1) := by decide +kernel
theorem dX10_deadRow_28 : decode cX10_deadRow 28 = .ok (.getfield 21, 3) := by decide +kernel
theorem dX10_deadRow_31 : decode cX10_deadRow 31 = .ok (.iload_n 3, 1) := by decide +kernel
theorem dX10_deadRow_32 : decode cX10_deadRow 32 = .ok (.iaload, 1) := by decide +kernel
theorem dX10_deadRow_33 : decode cX10_deadRow 33 = .ok (.iconst (-1), 1) := by decide +kernel
theorem dX10_deadRow_34 : decode cX10_deadRow 34 = .ok (.if_icmp .eq 24, 3) := by decide +kernel
theorem dX10_deadRow_37 : decode cX10_deadRow 37 = .ok (.aload_n 0, 1) := by decide +kernel
theorem dX10_deadRow_38 : decode cX10_deadRow 38 = .ok (.iload_n 3, 1) := by decide +kernel
theorem dX10_deadRow_39 : decode cX10_deadRow 39 = .ok (.invokevirtual 173, 3) := by decide +kernel
theorem dX10_deadRow_42 : decode cX10_deadRow 42 = .ok (.ifCond .ne 6, 3) := by decide +kernel
theorem dX10_deadRow_45 : decode cX10_deadRow 45 = .ok (.goto 13, 3) := by decide +kernel
theorem dX10_deadRow_48 : decode cX10_deadRow 48 = .ok (.iload_n 2, 1) := by decide +kernel
theorem dX10_deadRow_49 : decode cX10_deadRow 49 = .ok (.iload_n 1, 1) := by decide +kernel
theorem dX10_deadRow_50 : decode cX10_deadRow 50 = .ok (.if_icmp .ne 5, 3) := by decide +kernel
theorem dX10_deadRow_53 : decode cX10_deadRow 53 = .ok (.iload_n 3, 1) := by decide +kernel
theorem dX10_deadRow_54 : decode cX10_deadRow 54 = .ok (.ireturn, 1) := by decide +kernel
theorem dX10_deadRow_55 : decode cX10_deadRow 55 = .ok (.iinc 2 1, 3) := by decide +kernel
theorem dX10_deadRow_58 : decode cX10_deadRow 58 = .ok (.iinc 3 1, 3) := by decide +kernel
theorem dX10_deadRow_61 : decode cX10_deadRow 61 = .ok (.goto (-57), 3) := by decide +kernel
theorem dX10_deadRow_64 : decode cX10_deadRow 64 = .ok (.iconst (-1), 1) := by decide +kernel
theorem dX10_deadRow_65 : decode cX10_deadRow 65 = .ok (.ireturn, 1) := by decide +kernel
theorem dX10_endOf_0 : decode cX10_endOf 0 = .ok (.iload_n 1, 1) := by decide +kernel
theorem dX10_endOf_1 : decode cX10_endOf 1 = .ok (.ifCond .lt 20, 3) := by decide +kernel
theorem dX10_endOf_4 : decode cX10_endOf 4 = .ok (.iload_n 1, 1) := by decide +kernel
theorem dX10_endOf_5 : decode cX10_endOf 5 = .ok (.aload_n 0, 1) := by decide +kernel
theorem dX10_endOf_6 : decode cX10_endOf 6 = .ok (.getfield 71, 3) := by decide +kernel
theorem dX10_endOf_9 : decode cX10_endOf 9 = .ok (.if_icmp .ge 12, 3) := by decide +kernel
theorem dX10_endOf_12 : decode cX10_endOf 12 = .ok (.aload_n 0, 1) := by decide +kernel
theorem dX10_endOf_13 : decode cX10_endOf 13 = .ok (.getfield 24, 3) := by decide +kernel
theorem dX10_endOf_16 : decode cX10_endOf 16 = .ok (.iload_n 1, 1) := by decide +kernel
theorem dX10_endOf_17 : decode cX10_endOf 17 = .ok (.iaload, 1) := by decide +kernel
theorem dX10_endOf_18 : decode cX10_endOf 18 = .ok (.goto 7, 3) := by decide +kernel
theorem dX10_endOf_21 : decode cX10_endOf 21 = .ok (.aload_n 0, 1) := by decide +kernel
theorem dX10_endOf_22 : decode cX10_endOf 22 = .ok (.getfield 71, 3) := by decide +kernel
theorem dX10_endOf_25 : decode cX10_endOf 25 = .ok (.ireturn, 1) := by decide +kernel
theorem dX10_firstOf_0 : decode cX10_firstOf 0 = .ok (.iload_n 1, 1) := by decide +kernel
theorem dX10_firstOf_1 : decode cX10_firstOf 1 = .ok (.ifCond .lt 29, 3) := by decide +kernel
theorem dX10_firstOf_4 : decode cX10_firstOf 4 = .ok (.iload_n 1, 1) := by decide +kernel
theorem dX10_firstOf_5 : decode cX10_firstOf 5 = .ok (.aload_n 0, 1) := by decide +kernel
theorem dX10_firstOf_6 : decode cX10_firstOf 6 = .ok (.getfield 71, 3) := by decide +kernel
theorem dX10_firstOf_9 : decode cX10_firstOf 9 = .ok (.if_icmp .ge 21, 3) := by decide +kernel
theorem dX10_firstOf_12 : decode cX10_firstOf 12 = .ok (.aload_n 0, 1) := by decide +kernel
theorem dX10_firstOf_13 : decode cX10_firstOf 13 = .ok (.getfield 24, 3) := by decide +kernel
theorem dX10_firstOf_16 : decode cX10_firstOf 16 = .ok (.iload_n 1, 1) := by decide +kernel
theorem dX10_firstOf_17 : decode cX10_firstOf 17 = .ok (.iaload, 1) := by decide +kernel
theorem dX10_firstOf_18 : decode cX10_firstOf 18 = .ok (.iload_n 1, 1) := by decide +kernel
theorem dX10_firstOf_19 : decode cX10_firstOf 19 = .ok (.iconst 1, 1) := by decide +kernel
theorem dX10_firstOf_20 : decode cX10_firstOf 20 = .ok (.iadd, 1) := by decide +kernel
theorem dX10_firstOf_21 : decode cX10_firstOf 21 = .ok (.if_icmp .le 9, 3) := by decide +kernel
theorem dX10_firstOf_24 : decode cX10_firstOf 24 = .ok (.iload_n 1, 1) := by decide +kernel
theorem dX10_firstOf_25 : decode cX10_firstOf 25 = .ok (.iconst 1, 1) := by decide +kernel
theorem dX10_firstOf_26 : decode cX10_firstOf 26 = .ok (.iadd, 1) := by decide +kernel
theorem dX10_firstOf_27 : decode cX10_firstOf 27 = .ok (.goto 4, 3) := by decide +kernel
theorem dX10_firstOf_30 : decode cX10_firstOf 30 = .ok (.iconst (-1), 1) := by decide +kernel
theorem dX10_firstOf_31 : decode cX10_firstOf 31 = .ok (.ireturn, 1) := by decide +kernel
theorem dX10_firstRisky_0 : decode cX10_firstRisky 0 = .ok (.iconst (-1), 1) := by decide +kernel
theorem dX10_firstRisky_1 : decode cX10_firstRisky 1 = .ok (.istore_n 2, 1) := by decide +kernel
theorem dX10_firstRisky_2 : decode cX10_firstRisky 2 = .ok (.iconst 0, 1) := by decide +kernel
theorem dX10_firstRisky_3 : decode cX10_firstRisky 3 = .ok (.istore_n 3, 1) := by decide +kernel
theorem dX10_firstRisky_4 : decode cX10_firstRisky 4 = .ok (.iload_n 3, 1) := by decide +kernel
theorem dX10_firstRisky_5 : decode cX10_firstRisky 5 = .ok (.aload_n 1, 1) := by decide +kernel
theorem dX10_firstRisky_6 : decode cX10_firstRisky 6 = .ok (.getfield 155, 3) := by decide +kernel
theorem dX10_firstRisky_9 : decode cX10_firstRisky 9 = .ok (.if_icmp .ge 90, 3) := by decide +kernel
theorem dX10_firstRisky_12 : decode cX10_firstRisky 12 = .ok (.aload_n 0, 1) := by decide +kernel
theorem dX10_firstRisky_13 : decode cX10_firstRisky 13 = .ok (.aload_n 1, 1) := by decide +kernel
theorem dX10_firstRisky_14 : decode cX10_firstRisky 14 = .ok (.iload_n 3, 1) := by decide +kernel
theorem dX10_firstRisky_15 : decode cX10_firstRisky 15 = .ok (.invokevirtual 158, 3) := by decide +kernel
theorem dX10_firstRisky_18 : decode cX10_firstRisky 18 = .ok (.invokevirtual 161, 3) := by decide +kernel
theorem dX10_firstRisky_21 : decode cX10_firstRisky 21 = .ok (.iconst 0, 1) := by decide +kernel
theorem dX10_firstRisky_22 : decode cX10_firstRisky 22 = .ok (.istore 4, 2) := by decide +kernel
theorem dX10_firstRisky_24 : decode cX10_firstRisky 24 = .ok (.aload_n 0, 1) := by decide +kernel
theorem dX10_firstRisky_25 : decode cX10_firstRisky 25 = .ok (.iload 4, 2) := by decide +kernel
theorem dX10_firstRisky_27 : decode cX10_firstRisky 27 = .ok (.invokevirtual 91, 3) := by decide +kernel
theorem dX10_firstRisky_30 : decode cX10_firstRisky 30 = .ok (.ifCond .eq 63, 3) := by decide +kernel
theorem dX10_firstRisky_33 : decode cX10_firstRisky 33 = .ok (.aload_n 0, 1) := by decide +kernel
theorem dX10_firstRisky_34 : decode cX10_firstRisky 34 = .ok (.iload 4, 2) := by decide +kernel
theorem dX10_firstRisky_36 : decode cX10_firstRisky 36 = .ok (.invokevirtual 164, 3) := by decide +kernel
theorem dX10_firstRisky_39 : decode cX10_firstRisky 39 = .ok (.ifCond .eq 25, 3) := by decide +kernel
theorem dX10_firstRisky_42 : decode cX10_firstRisky 42 = .ok (.aload_n 0, 1) := by decide +kernel
theorem dX10_firstRisky_43 : decode cX10_firstRisky 43 = .ok (.aload_n 0, 1) := by decide +kernel
theorem dX10_firstRisky_44 : decode cX10_firstRisky 44 = .ok (.iload 4, 2) := by decide +kernel
theorem dX10_firstRisky_46 : decode cX10_firstRisky 46 = .ok (.invokevirtual 105, 3) := by decide +kernel
theorem dX10_firstRisky_49 : decode cX10_firstRisky 49 = .ok (.invokevirtual 149, 3) := by decide +kernel
theorem dX10_firstRisky_52 : decode cX10_firstRisky 52 = .ok (.ifCond .eq 12, 3) := by decide +kernel
theorem dX10_firstRisky_55 : decode cX10_firstRisky 55 = .ok (.aload_n 0, 1) := by decide +kernel
theorem dX10_firstRisky_56 : decode cX10_firstRisky 56 = .ok (.iload 4, 2) := by decide +kernel
theorem dX10_firstRisky_58 : decode cX10_firstRisky 58 = .ok (.invokevirtual 167, 3) := by decide +kernel
theorem dX10_firstRisky_61 : decode cX10_firstRisky 61 = .ok (.goto 4, 3) := by decide +kernel
theorem dX10_firstRisky_64 : decode cX10_firstRisky 64 = .ok (.iconst (-1), 1) := by decide +kernel
theorem dX10_firstRisky_65 : decode cX10_firstRisky 65 = .ok (.istore 5, 2) := by decide +kernel
theorem dX10_firstRisky_67 : decode cX10_firstRisky 67 = .ok (.iload 5, 2) := by decide +kernel
theorem dX10_firstRisky_69 : decode cX10_firstRisky 69 = .ok (.iconst (-1), 1) := by decide +kernel
theorem dX10_firstRisky_70 : decode cX10_firstRisky 70 = .ok (.if_icmp .eq 17, 3) := by decide +kernel
theorem dX10_firstRisky_73 : decode cX10_firstRisky 73 = .ok (.iload_n 2, 1) := by decide +kernel
theorem dX10_firstRisky_74 : decode cX10_firstRisky 74 = .ok (.iconst (-1), 1) := by decide +kernel
theorem dX10_firstRisky_75 : decode cX10_firstRisky 75 = .ok (.if_icmp .eq 9, 3) := by decide +kernel
theorem dX10_firstRisky_78 : decode cX10_firstRisky 78 = .ok (.iload 5, 2) := by decide +kernel
theorem dX10_firstRisky_80 : decode cX10_firstRisky 80 = .ok (.iload_n 2, 1) := by decide +kernel
theorem dX10_firstRisky_81 : decode cX10_firstRisky 81 = .ok (.if_icmp .ge 6, 3) := by decide +kernel
theorem dX10_firstRisky_84 : decode cX10_firstRisky 84 = .ok (.iload 5, 2) := by decide +kernel
theorem dX10_firstRisky_86 : decode cX10_firstRisky 86 = .ok (.istore_n 2, 1) := by decide +kernel
theorem dX10_firstRisky_87 : decode cX10_firstRisky 87 = .ok (.iinc 4 1, 3) := by decide +kernel
theorem dX10_firstRisky_90 : decode cX10_firstRisky 90 = .ok (.goto (-66), 3) := by decide +kernel
theorem dX10_firstRisky_93 : decode cX10_firstRisky 93 = .ok (.iinc 3 1, 3) := by decide +kernel
theorem dX10_firstRisky_96 : decode cX10_firstRisky 96 = .ok (.goto (-92), 3) := by decide +kernel
theorem dX10_firstRisky_99 : decode cX10_firstRisky 99 = .ok (.iload_n 2, 1) := by decide +kernel
theorem dX10_firstRisky_100 : decode cX10_firstRisky 100 = .ok (.ireturn, 1) := by decide +kernel
theorem dX10_has_0 : decode cX10_has 0 = .ok (.iload_n 1, 1) := by decide +kernel
theorem dX10_has_1 : decode cX10_has 1 = .ok (.ifCond .lt 15, 3) := by decide +kernel
theorem dX10_has_4 : decode cX10_has 4 = .ok (.iload_n 1, 1) := by decide +kernel
theorem dX10_has_5 : decode cX10_has 5 = .ok (.aload_n 0, 1) := by decide +kernel
theorem dX10_has_6 : decode cX10_has 6 = .ok (.getfield 71, 3) := by decide +kernel
theorem dX10_has_9 : decode cX10_has 9 = .ok (.if_icmp .ge 7, 3) := by decide +kernel
theorem dX10_has_12 : decode cX10_has 12 = .ok (.iconst 1, 1) := by decide +kernel
theorem dX10_has_13 : decode cX10_has 13 = .ok (.goto 4, 3) := by decide +kernel
theorem dX10_has_16 : decode cX10_has 16 = .ok (.iconst 0, 1) := by decide +kernel
theorem dX10_has_17 : decode cX10_has 17 = .ok (.ireturn, 1) := by decide +kernel
theorem dX10_hasInParts_0 : decode cX10_hasInParts 0 = .ok (.iload_n 1, 1) := by decide +kernel
theorem dX10_hasInParts_1 : decode cX10_hasInParts 1 = .ok (.ifCond .lt 11, 3) := by decide +kernel
theorem dX10_hasInParts_4 : decode cX10_hasInParts 4 = .ok (.iload_n 1, 1) := by decide +kernel
theorem dX10_hasInParts_5 : decode cX10_hasInParts 5 = .ok (.aload_n 0, 1) := by decide +kernel
theorem dX10_hasInParts_6 : decode cX10_hasInParts 6 = .ok (.getfield 71, 3) := by decide +kernel
theorem dX10_hasInParts_9 : decode cX10_hasInParts 9 = .ok (.if_icmp .lt 5, 3) := by decide +kernel
theorem dX10_hasInParts_12 : decode cX10_hasInParts 12 = .ok (.iconst 0, 1) := by decide +kernel
theorem dX10_hasInParts_13 : decode cX10_hasInParts 13 = .ok (.ireturn, 1) := by decide +kernel
theorem dX10_hasInParts_14 : decode cX10_hasInParts 14 = .ok (.aload_n 0, 1) := by decide +kernel
theorem dX10_hasInParts_15 : decode cX10_hasInParts 15 = .ok (.getfield 39, 3) := by decide +kernel
theorem dX10_hasInParts_18 : decode cX10_hasInParts 18 = .ok (.iload_n 1, 1) := by decide +kernel
theorem dX10_hasInParts_19 : decode cX10_hasInParts 19 = .ok (.iaload, 1) := by decide +kernel
theorem dX10_hasInParts_20 : decode cX10_hasInParts 20 = .ok (.istore_n 3, 1) := by decide +kernel
theorem dX10_hasInParts_21 : decode cX10_hasInParts 21 = .ok (.iload_n 3, 1) := by decide +kernel
theorem dX10_hasInParts_22 : decode cX10_hasInParts 22 = .ok (.ifCond .lt 56, 3) := by decide +kernel
theorem dX10_hasInParts_25 : decode cX10_hasInParts 25 = .ok (.iload_n 3, 1) := by decide +kernel
theorem dX10_hasInParts_26 : decode cX10_hasInParts 26 = .ok (.aload_n 0, 1) := by decide +kernel
theorem dX10_hasInParts_27 : decode cX10_hasInParts 27 = .ok (.getfield 39, 3) := by decide +kernel
theorem dX10_hasInParts_30 : decode cX10_hasInParts 30 = .ok (.iload_n 1, 1) := by decide +kernel
theorem dX10_hasInParts_31 : decode cX10_hasInParts 31 = .ok (.iaload, 1) := by decide +kernel
theorem dX10_hasInParts_32 : decode cX10_hasInParts 32 = .ok (.aload_n 0, 1) := by decide +kernel
theorem dX10_hasInParts_33 : decode cX10_hasInParts 33 = .ok (.getfield 42, 3) := by decide +kernel
theorem dX10_hasInParts_36 : decode cX10_hasInParts 36 = .ok (.iload_n 1, 1) := by decide +kernel
theorem dX10_hasInParts_37 : decode cX10_hasInParts 37 = .ok (.iaload, 1) := by decide +kernel
theorem dX10_hasInParts_38 : decode cX10_hasInParts 38 = .ok (.iadd, 1) := by decide +kernel
theorem dX10_hasInParts_39 : decode cX10_hasInParts 39 = .ok (.if_icmp .ge 39, 3) := by decide +kernel
theorem dX10_hasInParts_42 : decode cX10_hasInParts 42 = .ok (.iload_n 3, 1) := by decide +kernel
theorem dX10_hasInParts_43 : decode cX10_hasInParts 43 = .ok (.aload_n 0, 1) := by decide +kernel
theorem dX10_hasInParts_44 : decode cX10_hasInParts 44 = .ok (.getfield 78, 3) := by decide +kernel
theorem dX10_hasInParts_47 : decode cX10_hasInParts 47 = .ok (.if_icmp .ge 31, 3) := by decide +kernel
theorem dX10_hasInParts_50 : decode cX10_hasInParts 50 = .ok (.aload_n 0, 1) := by decide +kernel
theorem dX10_hasInParts_51 : decode cX10_hasInParts 51 = .ok (.getfield 61, 3) := by decide +kernel
theorem dX10_hasInParts_54 : decode cX10_hasInParts 54 = .ok (.iload_n 3, 1) := by decide +kernel
theorem dX10_hasInParts_55 : decode cX10_hasInParts 55 = .ok (.iaload, 1) := by decide +kernel
theorem dX10_hasInParts_56 : decode cX10_hasInParts 56 = .ok (.iload_n 2, 1) := by decide +kernel
theorem dX10_hasInParts_57 : decode cX10_hasInParts 57 = .ok (.if_icmp .gt 15, 3) := by decide +kernel
theorem dX10_hasInParts_60 : decode cX10_hasInParts 60 = .ok (.iload_n 2, 1) := by decide +kernel
theorem dX10_hasInParts_61 : decode cX10_hasInParts 61 = .ok (.aload_n 0, 1) := by decide +kernel
theorem dX10_hasInParts_62 : decode cX10_hasInParts 62 = .ok (.getfield 64, 3) := by decide +kernel
theorem dX10_hasInParts_65 : decode cX10_hasInParts 65 = .ok (.iload_n 3, 1) := by decide +kernel
theorem dX10_hasInParts_66 : decode cX10_hasInParts 66 = .ok (.iaload, 1) := by decide +kernel
theorem dX10_hasInParts_67 : decode cX10_hasInParts 67 = .ok (.if_icmp .gt 5, 3) := by decide +kernel
theorem dX10_hasInParts_70 : decode cX10_hasInParts 70 = .ok (.iconst 1, 1) := by decide +kernel
theorem dX10_hasInParts_71 : decode cX10_hasInParts 71 = .ok (.ireturn, 1) := by decide +kernel
theorem dX10_hasInParts_72 : decode cX10_hasInParts 72 = .ok (.iinc 3 1, 3) := by decide +kernel
theorem dX10_hasInParts_75 : decode cX10_hasInParts 75 = .ok (.goto (-54), 3) := by decide +kernel
theorem dX10_hasInParts_78 : decode cX10_hasInParts 78 = .ok (.iconst 0, 1) := by decide +kernel
theorem dX10_hasInParts_79 : decode cX10_hasInParts 79 = .ok (.ireturn, 1) := by decide +kernel
theorem dX10_highOf_0 : decode cX10_highOf 0 = .ok (.iload_n 1, 1) := by decide +kernel
theorem dX10_highOf_1 : decode cX10_highOf 1 = .ok (.ifCond .lt 20, 3) := by decide +kernel
theorem dX10_highOf_4 : decode cX10_highOf 4 = .ok (.iload_n 1, 1) := by decide +kernel
theorem dX10_highOf_5 : decode cX10_highOf 5 = .ok (.aload_n 0, 1) := by decide +kernel
theorem dX10_highOf_6 : decode cX10_highOf 6 = .ok (.getfield 71, 3) := by decide +kernel
theorem dX10_highOf_9 : decode cX10_highOf 9 = .ok (.if_icmp .ge 12, 3) := by decide +kernel
theorem dX10_highOf_12 : decode cX10_highOf 12 = .ok (.aload_n 0, 1) := by decide +kernel
theorem dX10_highOf_13 : decode cX10_highOf 13 = .ok (.getfield 42, 3) := by decide +kernel
theorem dX10_highOf_16 : decode cX10_highOf 16 = .ok (.iload_n 1, 1) := by decide +kernel
theorem dX10_highOf_17 : decode cX10_highOf 17 = .ok (.iaload, 1) := by decide +kernel
theorem dX10_highOf_18 : decode cX10_highOf 18 = .ok (.goto 4, 3) := by decide +kernel
theorem dX10_highOf_21 : decode cX10_highOf 21 = .ok (.iconst 0, 1) := by decide +kernel
theorem dX10_highOf_22 : decode cX10_highOf 22 = .ok (.ireturn, 1) := by decide +kernel
theorem dX10_holderOf_0 : decode cX10_holderOf 0 = .ok (.iload_n 1, 1) := by decide +kernel
theorem dX10_holderOf_1 : decode cX10_holderOf 1 = .ok (.ifCond .lt 20, 3) := by decide +kernel
theorem dX10_holderOf_4 : decode cX10_holderOf 4 = .ok (.iload_n 1, 1) := by decide +kernel
theorem dX10_holderOf_5 : decode cX10_holderOf 5 = .ok (.aload_n 0, 1) := by decide +kernel
theorem dX10_holderOf_6 : decode cX10_holderOf 6 = .ok (.getfield 71, 3) := by decide +kernel
theorem dX10_holderOf_9 : decode cX10_holderOf 9 = .ok (.if_icmp .ge 12, 3) := by decide +kernel
theorem dX10_holderOf_12 : decode cX10_holderOf 12 = .ok (.aload_n 0, 1) := by decide +kernel
theorem dX10_holderOf_13 : decode cX10_holderOf 13 = .ok (.getfield 21, 3) := by decide +kernel
theorem dX10_holderOf_16 : decode cX10_holderOf 16 = .ok (.iload_n 1, 1) := by decide +kernel
theorem dX10_holderOf_17 : decode cX10_holderOf 17 = .ok (.iaload, 1) := by decide +kernel
theorem dX10_holderOf_18 : decode cX10_holderOf 18 = .ok (.goto 4, 3) := by decide +kernel
theorem dX10_holderOf_21 : decode cX10_holderOf 21 = .ok (.iconst (-1), 1) := by decide +kernel
theorem dX10_holderOf_22 : decode cX10_holderOf 22 = .ok (.ireturn, 1) := by decide +kernel
theorem dX10_isEndless_0 : decode cX10_isEndless 0 = .ok (.aload_n 0, 1) := by decide +kernel
theorem dX10_isEndless_1 : decode cX10_isEndless 1 = .ok (.iload_n 1, 1) := by decide +kernel
theorem dX10_isEndless_2 : decode cX10_isEndless 2 = .ok (.invokevirtual 81, 3) := by decide +kernel
theorem dX10_isEndless_5 : decode cX10_isEndless 5 = .ok (.bipush 7, 2) := by decide +kernel
theorem dX10_isEndless_7 : decode cX10_isEndless 7 = .ok (.if_icmp .ne 16, 3) := by decide +kernel
theorem dX10_isEndless_10 : decode cX10_isEndless 10 = .ok (.aload_n 0, 1) := by decide +kernel
theorem dX10_isEndless_11 : decode cX10_isEndless 11 = .ok (.iload_n 1, 1) := by decide +kernel
theorem dX10_isEndless_12 : decode cX10_isEndless 12 = .ok (.invokevirtual 85, 3) := by decide +kernel
theorem dX10_isEndless_15 : decode cX10_isEndless 15 = .ok (.iconst (-1), 1) := by decide +kernel
theorem dX10_isEndless_16 : decode cX10_isEndless 16 = .ok (.if_icmp .ne 7, 3) := by decide +kernel
theorem dX10_isEndless_19 : decode cX10_isEndless 19 = .ok (.iconst 1, 1) := by decide +kernel
theorem dX10_isEndless_20 : decode cX10_isEndless 20 = .ok (.goto 4, 3) := by decide +kernel
theorem dX10_isEndless_23 : decode cX10_isEndless 23 = .ok (.iconst 0, 1) := by decide +kernel
theorem dX10_isEndless_24 : decode cX10_isEndless 24 = .ok (.ireturn, 1) := by decide +kernel
theorem dX10_isMarked_0 : decode cX10_isMarked 0 = .ok (.iload_n 1, 1) := by decide +kernel
theorem dX10_isMarked_1 : decode cX10_isMarked 1 = .ok (.ifCond .lt 24, 3) := by decide +kernel
theorem dX10_isMarked_4 : decode cX10_isMarked 4 = .ok (.iload_n 1, 1) := by decide +kernel
theorem dX10_isMarked_5 : decode cX10_isMarked 5 = .ok (.aload_n 0, 1) := by decide +kernel
theorem dX10_isMarked_6 : decode cX10_isMarked 6 = .ok (.getfield 71, 3) := by decide +kernel
theorem dX10_isMarked_9 : decode cX10_isMarked 9 = .ok (.if_icmp .ge 16, 3) := by decide +kernel
theorem dX10_isMarked_12 : decode cX10_isMarked 12 = .ok (.aload_n 0, 1) := by decide +kernel
theorem dX10_isMarked_13 : decode cX10_isMarked 13 = .ok (.getfield 58, 3) := by decide +kernel
theorem dX10_isMarked_16 : decode cX10_isMarked 16 = .ok (.iload_n 1, 1) := by decide +kernel
theorem dX10_isMarked_17 : decode cX10_isMarked 17 = .ok (.baload, 1) := by decide +kernel
theorem dX10_isMarked_18 : decode cX10_isMarked 18 = .ok (.ifCond .eq 7, 3) := by decide +kernel
theorem dX10_isMarked_21 : decode cX10_isMarked 21 = .ok (.iconst 1, 1) := by decide +kernel
theorem dX10_isMarked_22 : decode cX10_isMarked 22 = .ok (.goto 4, 3) := by decide +kernel
theorem dX10_isMarked_25 : decode cX10_isMarked 25 = .ok (.iconst 0, 1) := by decide +kernel
theorem dX10_isMarked_26 : decode cX10_isMarked 26 = .ok (.ireturn, 1) := by decide +kernel
theorem dX10_isParallel_0 : decode cX10_isParallel 0 = .ok (.aload_n 0, 1) := by decide +kernel
theorem dX10_isParallel_1 : decode cX10_isParallel 1 = .ok (.iload_n 1, 1) := by decide +kernel
theorem dX10_isParallel_2 : decode cX10_isParallel 2 = .ok (.invokevirtual 81, 3) := by decide +kernel
theorem dX10_isParallel_5 : decode cX10_isParallel 5 = .ok (.tableswitch 96 4 10 #[43, 96, 96, 45, 96, 43, 43], 43) := by decide +kernel
theorem dX10_isParallel_48 : decode cX10_isParallel 48 = .ok (.iconst 0, 1) := by decide +kernel
theorem dX10_isParallel_49 : decode cX10_isParallel 49 = .ok (.ireturn, 1) := by decide +kernel
theorem dX10_isParallel_50 : decode cX10_isParallel 50 = .ok (.aload_n 0, 1) := by decide +kernel
theorem dX10_isParallel_51 : decode cX10_isParallel 51 = .ok (.iload_n 1, 1) := by decide +kernel
theorem dX10_isParallel_52 : decode cX10_isParallel 52 = .ok (.invokevirtual 105, 3) := by decide +kernel
theorem dX10_isParallel_55 : decode cX10_isParallel 55 = .ok (.istore_n 2, 1) := by decide +kernel
theorem dX10_isParallel_56 : decode cX10_isParallel 56 = .ok (.aload_n 0, 1) := by decide +kernel
theorem dX10_isParallel_57 : decode cX10_isParallel 57 = .ok (.iload_n 1, 1) := by decide +kernel
theorem dX10_isParallel_58 : decode cX10_isParallel 58 = .ok (.invokevirtual 130, 3) := by decide +kernel
theorem dX10_isParallel_61 : decode cX10_isParallel 61 = .ok (.iconst 2, 1) := by decide +kernel
theorem dX10_isParallel_62 : decode cX10_isParallel 62 = .ok (.if_icmp .eq 37, 3) := by decide +kernel
theorem dX10_isParallel_65 : decode cX10_isParallel 65 = .ok (.aload_n 0, 1) := by decide +kernel
theorem dX10_isParallel_66 : decode cX10_isParallel 66 = .ok (.iload_n 1, 1) := by decide +kernel
theorem dX10_isParallel_67 : decode cX10_isParallel 67 = .ok (.invokevirtual 85, 3) := by decide +kernel
theorem dX10_isParallel_70 : decode cX10_isParallel 70 = .ok (.aload_n 0, 1) := by decide +kernel
theorem dX10_isParallel_71 : decode cX10_isParallel 71 = .ok (.iload_n 1, 1) := by decide +kernel
theorem dX10_isParallel_72 : decode cX10_isParallel 72 = .ok (.invokevirtual 95, 3) := by decide +kernel
theorem dX10_isParallel_75 : decode cX10_isParallel 75 = .ok (.if_icmp .le 20, 3) := by decide +kernel
theorem dX10_isParallel_78 : decode cX10_isParallel 78 = .ok (.aload_n 0, 1) := by decide +kernel
theorem dX10_isParallel_79 : decode cX10_isParallel 79 = .ok (.iload_n 2, 1) := by decide +kernel
theorem dX10_isParallel_80 : decode cX10_isParallel 80 = .ok (.invokevirtual 91, 3) := by decide +kernel
theorem dX10_isParallel_83 : decode cX10_isParallel 83 = .ok (.ifCond .eq 12, 3) := by decide +kernel
theorem dX10_isParallel_86 : decode cX10_isParallel 86 = .ok (.aload_n 0, 1) := by decide +kernel
theorem dX10_isParallel_87 : decode cX10_isParallel 87 = .ok (.getfield 51, 3) := by decide +kernel
theorem dX10_isParallel_90 : decode cX10_isParallel 90 = .ok (.iload_n 2, 1) := by decide +kernel
theorem dX10_isParallel_91 : decode cX10_isParallel 91 = .ok (.baload, 1) := by decide +kernel
theorem dX10_isParallel_92 : decode cX10_isParallel 92 = .ok (.ifCond .ne 7, 3) := by decide +kernel
theorem dX10_isParallel_95 : decode cX10_isParallel 95 = .ok (.iconst 1, 1) := by decide +kernel
theorem dX10_isParallel_96 : decode cX10_isParallel 96 = .ok (.goto 4, 3) := by decide +kernel
theorem dX10_isParallel_99 : decode cX10_isParallel 99 = .ok (.iconst 0, 1) := by decide +kernel
theorem dX10_isParallel_100 : decode cX10_isParallel 100 = .ok (.ireturn, 1) := by decide +kernel
theorem dX10_isParallel_101 : decode cX10_isParallel 101 = .ok (.iconst 1, 1) := by decide +kernel
theorem dX10_isParallel_102 : decode cX10_isParallel 102 = .ok (.ireturn, 1) := by decide +kernel
theorem dX10_isSaidAhead_0 : decode cX10_isSaidAhead 0 = .ok (.aload_n 0, 1) := by decide +kernel
theorem dX10_isSaidAhead_1 : decode cX10_isSaidAhead 1 = .ok (.iload_n 1, 1) := by decide +kernel
theorem dX10_isSaidAhead_2 : decode cX10_isSaidAhead 2 = .ok (.invokevirtual 176, 3) := by decide +kernel
theorem dX10_isSaidAhead_5 : decode cX10_isSaidAhead 5 = .ok (.istore_n 2, 1) := by decide +kernel
theorem dX10_isSaidAhead_6 : decode cX10_isSaidAhead 6 = .ok (.aload_n 0, 1) := by decide +kernel
theorem dX10_isSaidAhead_7 : decode cX10_isSaidAhead 7 = .ok (.iload_n 2, 1) := by decide +kernel
theorem dX10_isSaidAhead_8 : decode cX10_isSaidAhead 8 = .ok (.invokevirtual 91, 3) := by decide +kernel
theorem dX10_isSaidAhead_11 : decode cX10_isSaidAhead 11 = .ok (.ifCond .eq 24, 3) := by decide +kernel
theorem dX10_isSaidAhead_14 : decode cX10_isSaidAhead 14 = .ok (.aload_n 0, 1) := by decide +kernel
theorem dX10_isSaidAhead_15 : decode cX10_isSaidAhead 15 = .ok (.iload_n 1, 1) := by decide +kernel
theorem dX10_isSaidAhead_16 : decode cX10_isSaidAhead 16 = .ok (.iload_n 2, 1) := by decide +kernel
theorem dX10_isSaidAhead_17 : decode cX10_isSaidAhead 17 = .ok (.invokevirtual 179, 3) := by decide +kernel
theorem dX10_isSaidAhead_20 : decode cX10_isSaidAhead 20 = .ok (.ifCond .eq 5, 3) := by decide +kernel
theorem dX10_isSaidAhead_23 : decode cX10_isSaidAhead 23 = .ok (.iconst 1, 1) := by decide +kernel
theorem dX10_isSaidAhead_24 : decode cX10_isSaidAhead 24 = .ok (.ireturn, 1) := by decide +kernel
theorem dX10_isSaidAhead_25 : decode cX10_isSaidAhead 25 = .ok (.aload_n 0, 1) := by decide +kernel
theorem dX10_isSaidAhead_26 : decode cX10_isSaidAhead 26 = .ok (.getfield 27, 3) := by decide +kernel
theorem dX10_isSaidAhead_29 : decode cX10_isSaidAhead 29 = .ok (.iload_n 2, 1) := by decide +kernel
theorem dX10_isSaidAhead_30 : decode cX10_isSaidAhead 30 = .ok (.iaload, 1) := by decide +kernel
theorem dX10_isSaidAhead_31 : decode cX10_isSaidAhead 31 = .ok (.istore_n 2, 1) := by decide +kernel
theorem dX10_isSaidAhead_32 : decode cX10_isSaidAhead 32 = .ok (.goto (-26), 3) := by decide +kernel
theorem dX10_isSaidAhead_35 : decode cX10_isSaidAhead 35 = .ok (.iconst 0, 1) := by decide +kernel
theorem dX10_isSaidAhead_36 : decode cX10_isSaidAhead 36 = .ok (.ireturn, 1) := by decide +kernel
theorem dX10_isTakenBy_0 : decode cX10_isTakenBy 0 = .ok (.iconst 0, 1) := by decide +kernel
theorem dX10_isTakenBy_1 : decode cX10_isTakenBy 1 = .ok (.istore_n 2, 1) := by decide +kernel
theorem dX10_isTakenBy_2 : decode cX10_isTakenBy 2 = .ok (.iload_n 1, 1) := by decide +kernel
theorem dX10_isTakenBy_3 : decode cX10_isTakenBy 3 = .ok (.ifCond .eq 60, 3) := by decide +kernel
theorem dX10_isTakenBy_6 : decode cX10_isTakenBy 6 = .ok (.aload_n 0, 1) := by decide +kernel
theorem dX10_isTakenBy_7 : decode cX10_isTakenBy 7 = .ok (.iload_n 2, 1) := by decide +kernel
theorem dX10_isTakenBy_8 : decode cX10_isTakenBy 8 = .ok (.invokevirtual 91, 3) := by decide +kernel
theorem dX10_isTakenBy_11 : decode cX10_isTakenBy 11 = .ok (.ifCond .eq 52, 3) := by decide +kernel
theorem dX10_isTakenBy_14 : decode cX10_isTakenBy 14 = .ok (.iload_n 1, 1) := by decide +kernel
theorem dX10_isTakenBy_15 : decode cX10_isTakenBy 15 = .ok (.iconst 1, 1) := by decide +kernel
theorem dX10_isTakenBy_16 : decode cX10_isTakenBy 16 = .ok (.if_icmp .ne 11, 3) := by decide +kernel
theorem dX10_isTakenBy_19 : decode cX10_isTakenBy 19 = .ok (.aload_n 0, 1) := by decide +kernel
theorem dX10_isTakenBy_20 : decode cX10_isTakenBy 20 = .ok (.iload_n 2, 1) := by decide +kernel
theorem dX10_isTakenBy_21 : decode cX10_isTakenBy 21 = .ok (.invokevirtual 127, 3) := by decide +kernel
theorem dX10_isTakenBy_24 : decode cX10_isTakenBy 24 = .ok (.goto 26, 3) := by decide +kernel
theorem dX10_isTakenBy_27 : decode cX10_isTakenBy 27 = .ok (.aload_n 0, 1) := by decide +kernel
theorem dX10_isTakenBy_28 : decode cX10_isTakenBy 28 = .ok (.iload_n 2, 1) := by decide +kernel
theorem dX10_isTakenBy_29 : decode cX10_isTakenBy 29 = .ok (.invokevirtual 127, 3) := by decide +kernel
theorem dX10_isTakenBy_32 : decode cX10_isTakenBy 32 = .ok (.ifCond .eq 17, 3) := by decide +kernel
theorem dX10_isTakenBy_35 : decode cX10_isTakenBy 35 = .ok (.aload_n 0, 1) := by decide +kernel
theorem dX10_isTakenBy_36 : decode cX10_isTakenBy 36 = .ok (.getfield 15, 3) := by decide +kernel
theorem dX10_isTakenBy_39 : decode cX10_isTakenBy 39 = .ok (.iload_n 2, 1) := by decide +kernel
theorem dX10_isTakenBy_40 : decode cX10_isTakenBy 40 = .ok (.iaload, 1) := by decide +kernel
theorem dX10_isTakenBy_41 : decode cX10_isTakenBy 41 = .ok (.iconst 3, 1) := by decide +kernel
theorem dX10_isTakenBy_42 : decode cX10_isTakenBy 42 = .ok (.if_icmp .eq 7, 3) := by decide +kernel
theorem dX10_isTakenBy_45 : decode cX10_isTakenBy 45 = .ok (.iconst 1, 1) := by decide +kernel
theorem dX10_isTakenBy_46 : decode cX10_isTakenBy 46 = .ok (.goto 4, 3) := by decide +kernel
theorem dX10_isTakenBy_49 : decode cX10_isTakenBy 49 = .ok (.iconst 0, 1) := by decide +kernel
theorem dX10_isTakenBy_50 : decode cX10_isTakenBy 50 = .ok (.istore_n 3, 1) := by decide +kernel
theorem dX10_isTakenBy_51 : decode cX10_isTakenBy 51 = .ok (.iload_n 3, 1) := by decide +kernel
theorem dX10_isTakenBy_52 : decode cX10_isTakenBy 52 = .ok (.ifCond .ne 5, 3) := by decide +kernel
theorem dX10_isTakenBy_55 : decode cX10_isTakenBy 55 = .ok (.iconst 0, 1) := by decide +kernel
theorem dX10_isTakenBy_56 : decode cX10_isTakenBy 56 = .ok (.ireturn, 1) := by decide +kernel
theorem dX10_isTakenBy_57 : decode cX10_isTakenBy 57 = .ok (.iinc 2 1, 3) := by decide +kernel
theorem dX10_isTakenBy_60 : decode cX10_isTakenBy 60 = .ok (.goto (-58), 3) := by decide +kernel
theorem dX10_isTakenBy_63 : decode cX10_isTakenBy 63 = .ok (.iconst 1, 1) := by decide +kernel
theorem dX10_isTakenBy_64 : decode cX10_isTakenBy 64 = .ok (.ireturn, 1) := by decide +kernel
theorem dX10_isTooLargeFor_0 : decode cX10_isTooLargeFor 0 = .ok (.iload_n 1, 1) := by decide +kernel
theorem dX10_isTooLargeFor_1 : decode cX10_isTooLargeFor 1 = .ok (.ifCond .eq 11, 3) := by decide +kernel
theorem dX10_isTooLargeFor_4 : decode cX10_isTooLargeFor 4 = .ok (.aload_n 0, 1) := by decide +kernel
theorem dX10_isTooLargeFor_5 : decode cX10_isTooLargeFor 5 = .ok (.getfield 71, 3) := by decide +kernel
theorem dX10_isTooLargeFor_8 : decode cX10_isTooLargeFor 8 = .ok (.iconst 1, 1) := by decide +kernel
theorem dX10_isTooLargeFor_9 : decode cX10_isTooLargeFor 9 = .ok (.if_icmp .ge 5, 3) := by decide +kernel
theorem dX10_isTooLargeFor_12 : decode cX10_isTooLargeFor 12 = .ok (.iconst 0, 1) := by decide +kernel
theorem dX10_isTooLargeFor_13 : decode cX10_isTooLargeFor 13 = .ok (.ireturn, 1) := by decide +kernel
theorem dX10_isTooLargeFor_14 : decode cX10_isTooLargeFor 14 = .ok (.aload_n 0, 1) := by decide +kernel
theorem dX10_isTooLargeFor_15 : decode cX10_isTooLargeFor 15 = .ok (.getfield 45, 3) := by decide +kernel
theorem dX10_isTooLargeFor_18 : decode cX10_isTooLargeFor 18 = .ok (.iconst 0, 1) := by decide +kernel
theorem dX10_isTooLargeFor_19 : decode cX10_isTooLargeFor 19 = .ok (.iaload, 1) := by decide +kernel
theorem dX10_isTooLargeFor_20 : decode cX10_isTooLargeFor 20 = .ok (.sipush 200, 3) := by decide +kernel
theorem dX10_isTooLargeFor_23 : decode cX10_isTooLargeFor 23 = .ok (.if_icmp .gt 19, 3) := by decide +kernel
theorem dX10_isTooLargeFor_26 : decode cX10_isTooLargeFor 26 = .ok (.iload_n 1, 1) := by decide +kernel
theorem dX10_isTooLargeFor_27 : decode cX10_isTooLargeFor 27 = .ok (.iconst 2, 1) := by decide +kernel
theorem dX10_isTooLargeFor_28 : decode cX10_isTooLargeFor 28 = .ok (.if_icmp .ne 18, 3) := by decide +kernel
theorem dX10_isTooLargeFor_31 : decode cX10_isTooLargeFor 31 = .ok (.aload_n 0, 1) := by decide +kernel
theorem dX10_isTooLargeFor_32 : decode cX10_isTooLargeFor 32 = .ok (.getfield 48, 3) := by decide +kernel
theorem dX10_isTooLargeFor_35 : decode cX10_isTooLargeFor 35 = .ok (.iconst 0, 1) := by decide +kernel
theorem dX10_isTooLargeFor_36 : decode cX10_isTooLargeFor 36 = .ok (.iaload, 1) := by decide +kernel
theorem dX10_isTooLargeFor_37 : decode cX10_isTooLargeFor 37 = .ok (.bipush 60, 2) := by decide +kernel
theorem dX10_isTooLargeFor_39 : decode cX10_isTooLargeFor 39 = .ok (.if_icmp .le 7, 3) := by decide +kernel
theorem dX10_isTooLargeFor_42 : decode cX10_isTooLargeFor 42 = .ok (.iconst 1, 1) := by decide +kernel
theorem dX10_isTooLargeFor_43 : decode cX10_isTooLargeFor 43 = .ok (.goto 4, 3) := by decide +kernel
theorem dX10_isTooLargeFor_46 : decode cX10_isTooLargeFor 46 = .ok (.iconst 0, 1) := by decide +kernel
theorem dX10_isTooLargeFor_47 : decode cX10_isTooLargeFor 47 = .ok (.ireturn, 1) := by decide +kernel
theorem dX10_isWithinCase_0 : decode cX10_isWithinCase 0 = .ok (.iload_n 1, 1) := by decide +kernel
theorem dX10_isWithinCase_1 : decode cX10_isWithinCase 1 = .ok (.ifCond .lt 24, 3) := by decide +kernel
theorem dX10_isWithinCase_4 : decode cX10_isWithinCase 4 = .ok (.iload_n 1, 1) := by decide +kernel
theorem dX10_isWithinCase_5 : decode cX10_isWithinCase 5 = .ok (.aload_n 0, 1) := by decide +kernel
theorem dX10_isWithinCase_6 : decode cX10_isWithinCase 6 = .ok (.getfield 71, 3) := by decide +kernel
theorem dX10_isWithinCase_9 : decode cX10_isWithinCase 9 = .ok (.if_icmp .ge 16, 3) := by decide +kernel
theorem dX10_isWithinCase_12 : decode cX10_isWithinCase 12 = .ok (.aload_n 0, 1) := by decide +kernel
theorem dX10_isWithinCase_13 : decode cX10_isWithinCase 13 = .ok (.getfield 55, 3) := by decide +kernel
theorem dX10_isWithinCase_16 : decode cX10_isWithinCase 16 = .ok (.iload_n 1, 1) := by decide +kernel
theorem dX10_isWithinCase_17 : decode cX10_isWithinCase 17 = .ok (.baload, 1) := by decide +kernel
theorem dX10_isWithinCase_18 : decode cX10_isWithinCase 18 = .ok (.ifCond .eq 7, 3) := by decide +kernel
theorem dX10_isWithinCase_21 : decode cX10_isWithinCase 21 = .ok (.iconst 1, 1) := by decide +kernel
theorem dX10_isWithinCase_22 : decode cX10_isWithinCase 22 = .ok (.goto 4, 3) := by decide +kernel
theorem dX10_isWithinCase_25 : decode cX10_isWithinCase 25 = .ok (.iconst 0, 1) := by decide +kernel
theorem dX10_isWithinCase_26 : decode cX10_isWithinCase 26 = .ok (.ireturn, 1) := by decide +kernel
theorem dX10_lastOf_0 : decode cX10_lastOf 0 = .ok (.iload_n 1, 1) := by decide +kernel
theorem dX10_lastOf_1 : decode cX10_lastOf 1 = .ok (.ifCond .lt 20, 3) := by decide +kernel
theorem dX10_lastOf_4 : decode cX10_lastOf 4 = .ok (.iload_n 1, 1) := by decide +kernel
theorem dX10_lastOf_5 : decode cX10_lastOf 5 = .ok (.aload_n 0, 1) := by decide +kernel
theorem dX10_lastOf_6 : decode cX10_lastOf 6 = .ok (.getfield 71, 3) := by decide +kernel
theorem dX10_lastOf_9 : decode cX10_lastOf 9 = .ok (.if_icmp .ge 12, 3) := by decide +kernel
theorem dX10_lastOf_12 : decode cX10_lastOf 12 = .ok (.aload_n 0, 1) := by decide +kernel
theorem dX10_lastOf_13 : decode cX10_lastOf 13 = .ok (.getfield 30, 3) := by decide +kernel
theorem dX10_lastOf_16 : decode cX10_lastOf 16 = .ok (.iload_n 1, 1) := by decide +kernel
theorem dX10_lastOf_17 : decode cX10_lastOf 17 = .ok (.iaload, 1) := by decide +kernel
theorem dX10_lastOf_18 : decode cX10_lastOf 18 = .ok (.goto 4, 3) := by decide +kernel
theorem dX10_lastOf_21 : decode cX10_lastOf 21 = .ok (.iconst (-1), 1) := by decide +kernel
theorem dX10_lastOf_22 : decode cX10_lastOf 22 = .ok (.ireturn, 1) := by decide +kernel
theorem dX10_lowOf_0 : decode cX10_lowOf 0 = .ok (.iload_n 1, 1) := by decide +kernel
theorem dX10_lowOf_1 : decode cX10_lowOf 1 = .ok (.ifCond .lt 20, 3) := by decide +kernel
theorem dX10_lowOf_4 : decode cX10_lowOf 4 = .ok (.iload_n 1, 1) := by decide +kernel
theorem dX10_lowOf_5 : decode cX10_lowOf 5 = .ok (.aload_n 0, 1) := by decide +kernel
theorem dX10_lowOf_6 : decode cX10_lowOf 6 = .ok (.getfield 71, 3) := by decide +kernel
theorem dX10_lowOf_9 : decode cX10_lowOf 9 = .ok (.if_icmp .ge 12, 3) := by decide +kernel
theorem dX10_lowOf_12 : decode cX10_lowOf 12 = .ok (.aload_n 0, 1) := by decide +kernel
theorem dX10_lowOf_13 : decode cX10_lowOf 13 = .ok (.getfield 39, 3) := by decide +kernel
theorem dX10_lowOf_16 : decode cX10_lowOf 16 = .ok (.iload_n 1, 1) := by decide +kernel
theorem dX10_lowOf_17 : decode cX10_lowOf 17 = .ok (.iaload, 1) := by decide +kernel
theorem dX10_lowOf_18 : decode cX10_lowOf 18 = .ok (.goto 4, 3) := by decide +kernel
theorem dX10_lowOf_21 : decode cX10_lowOf 21 = .ok (.iconst 0, 1) := by decide +kernel
theorem dX10_lowOf_22 : decode cX10_lowOf 22 = .ok (.ireturn, 1) := by decide +kernel
theorem dX10_markBeginning_0 : decode cX10_markBeginning 0 = .ok (.aload_n 0, 1) := by decide +kernel
theorem dX10_markBeginning_1 : decode cX10_markBeginning 1 = .ok (.getfield 71, 3) := by decide +kernel
theorem dX10_markBeginning_4 : decode cX10_markBeginning 4 = .ok (.iconst 1, 1) := by decide +kernel
theorem dX10_markBeginning_5 : decode cX10_markBeginning 5 = .ok (.isub, 1) := by decide +kernel
theorem dX10_markBeginning_6 : decode cX10_markBeginning 6 = .ok (.istore_n 2, 1) := by decide +kernel
theorem dX10_markBeginning_7 : decode cX10_markBeginning 7 = .ok (.aload_n 0, 1) := by decide +kernel
theorem dX10_markBeginning_8 : decode cX10_markBeginning 8 = .ok (.iload_n 2, 1) := by decide +kernel
theorem dX10_markBeginning_9 : decode cX10_markBeginning 9 = .ok (.invokevirtual 91, 3) := by decide +kernel
theorem dX10_markBeginning_12 : decode cX10_markBeginning 12 = .ok (.ifCond .eq 21, 3) := by decide +kernel
theorem dX10_markBeginning_15 : decode cX10_markBeginning 15 = .ok (.aload_n 0, 1) := by decide +kernel
theorem dX10_markBeginning_16 : decode cX10_markBeginning 16 = .ok (.getfield 58, 3) := by decide +kernel
theorem dX10_markBeginning_19 : decode cX10_markBeginning 19 = .ok (.iload_n 2, 1) := by decide +kernel
theorem dX10_markBeginning_20 : decode cX10_markBeginning 20 = .ok (.aload_n 0, 1) := by decide +kernel
theorem dX10_markBeginning_21 : decode cX10_markBeginning 21 = .ok (.iload_n 2, 1) := by decide +kernel
theorem dX10_markBeginning_22 : decode cX10_markBeginning 22 = .ok (.iload_n 1, 1) := by decide +kernel
theorem dX10_markBeginning_23 : decode cX10_markBeginning 23 = .ok (.invokevirtual 140, 3) := by decide +kernel
theorem dX10_markBeginning_26 : decode cX10_markBeginning 26 = .ok (.bastore, 1) := by decide +kernel
theorem dX10_markBeginning_27 : decode cX10_markBeginning 27 = .ok (.iinc 2 (-1), 3) := by decide +kernel
theorem dX10_markBeginning_30 : decode cX10_markBeginning 30 = .ok (.goto (-23), 3) := by decide +kernel
theorem dX10_markBeginning_33 : decode cX10_markBeginning 33 = .ok (.return_, 1) := by decide +kernel
theorem dX10_maybeEmpty_0 : decode cX10_maybeEmpty 0 = .ok (.aload_n 0, 1) := by decide +kernel
theorem dX10_maybeEmpty_1 : decode cX10_maybeEmpty 1 = .ok (.iload_n 1, 1) := by decide +kernel
theorem dX10_maybeEmpty_2 : decode cX10_maybeEmpty 2 = .ok (.invokevirtual 81, 3) := by decide +kernel
theorem dX10_maybeEmpty_5 : decode cX10_maybeEmpty 5 = .ok (.tableswitch 79 0 9 #[55, 55, 55, 57, 57, 79, 59, 61, 79, 57], 55) := by decide +kernel
theorem dX10_maybeEmpty_60 : decode cX10_maybeEmpty 60 = .ok (.iconst 0, 1) := by decide +kernel
theorem dX10_maybeEmpty_61 : decode cX10_maybeEmpty 61 = .ok (.ireturn, 1) := by decide +kernel
theorem dX10_maybeEmpty_62 : decode cX10_maybeEmpty 62 = .ok (.iconst 1, 1) := by decide +kernel
theorem dX10_maybeEmpty_63 : decode cX10_maybeEmpty 63 = .ok (.ireturn, 1) := by decide +kernel
theorem dX10_maybeEmpty_64 : decode cX10_maybeEmpty 64 = .ok (.iload_n 3, 1) := by decide +kernel
theorem dX10_maybeEmpty_65 : decode cX10_maybeEmpty 65 = .ok (.ireturn, 1) := by decide +kernel
theorem dX10_maybeEmpty_66 : decode cX10_maybeEmpty 66 = .ok (.aload_n 0, 1) := by decide +kernel
theorem dX10_maybeEmpty_67 : decode cX10_maybeEmpty 67 = .ok (.iload_n 1, 1) := by decide +kernel
theorem dX10_maybeEmpty_68 : decode cX10_maybeEmpty 68 = .ok (.invokevirtual 95, 3) := by decide +kernel
theorem dX10_maybeEmpty_71 : decode cX10_maybeEmpty 71 = .ok (.ifCond .eq 7, 3) := by decide +kernel
theorem dX10_maybeEmpty_74 : decode cX10_maybeEmpty 74 = .ok (.iload_n 3, 1) := by decide +kernel
theorem dX10_maybeEmpty_75 : decode cX10_maybeEmpty 75 = .ok (.ifCond .eq 7, 3) := by decide +kernel
theorem dX10_maybeEmpty_78 : decode cX10_maybeEmpty 78 = .ok (.iconst 1, 1) := by decide +kernel
theorem dX10_maybeEmpty_79 : decode cX10_maybeEmpty 79 = .ok (.goto 4, 3) := by decide +kernel
theorem dX10_maybeEmpty_82 : decode cX10_maybeEmpty 82 = .ok (.iconst 0, 1) := by decide +kernel
theorem dX10_maybeEmpty_83 : decode cX10_maybeEmpty 83 = .ok (.ireturn, 1) := by decide +kernel
theorem dX10_maybeEmpty_84 : decode cX10_maybeEmpty 84 = .ok (.iload_n 2, 1) := by decide +kernel
theorem dX10_maybeEmpty_85 : decode cX10_maybeEmpty 85 = .ok (.ireturn, 1) := by decide +kernel
theorem dX10_measure_0 : decode cX10_measure 0 = .ok (.iconst 0, 1) := by decide +kernel
theorem dX10_measure_1 : decode cX10_measure 1 = .ok (.istore_n 1, 1) := by decide +kernel
theorem dX10_measure_2 : decode cX10_measure 2 = .ok (.aload_n 0, 1) := by decide +kernel
theorem dX10_measure_3 : decode cX10_measure 3 = .ok (.iload_n 1, 1) := by decide +kernel
theorem dX10_measure_4 : decode cX10_measure 4 = .ok (.invokevirtual 91, 3) := by decide +kernel
theorem dX10_measure_7 : decode cX10_measure 7 = .ok (.ifCond .eq 62, 3) := by decide +kernel
theorem dX10_measure_10 : decode cX10_measure 10 = .ok (.aload_n 0, 1) := by decide +kernel
theorem dX10_measure_11 : decode cX10_measure 11 = .ok (.getfield 55, 3) := by decide +kernel
theorem dX10_measure_14 : decode cX10_measure 14 = .ok (.iload_n 1, 1) := by decide +kernel
theorem dX10_measure_15 : decode cX10_measure 15 = .ok (.aload_n 0, 1) := by decide +kernel
theorem dX10_measure_16 : decode cX10_measure 16 = .ok (.aload_n 0, 1) := by decide +kernel
theorem dX10_measure_17 : decode cX10_measure 17 = .ok (.getfield 21, 3) := by decide +kernel
theorem dX10_measure_20 : decode cX10_measure 20 = .ok (.iload_n 1, 1) := by decide +kernel
theorem dX10_measure_21 : decode cX10_measure 21 = .ok (.iaload, 1) := by decide +kernel
theorem dX10_measure_22 : decode cX10_measure 22 = .ok (.invokevirtual 98, 3) := by decide +kernel
theorem dX10_measure_25 : decode cX10_measure 25 = .ok (.ifCond .ne 32, 3) := by decide +kernel
theorem dX10_measure_28 : decode cX10_measure 28 = .ok (.aload_n 0, 1) := by decide +kernel
theorem dX10_measure_29 : decode cX10_measure 29 = .ok (.aload_n 0, 1) := by decide +kernel
theorem dX10_measure_30 : decode cX10_measure 30 = .ok (.getfield 21, 3) := by decide +kernel
theorem dX10_measure_33 : decode cX10_measure 33 = .ok (.iload_n 1, 1) := by decide +kernel
theorem dX10_measure_34 : decode cX10_measure 34 = .ok (.iaload, 1) := by decide +kernel
theorem dX10_measure_35 : decode cX10_measure 35 = .ok (.invokevirtual 91, 3) := by decide +kernel
theorem dX10_measure_38 : decode cX10_measure 38 = .ok (.ifCond .eq 23, 3) := by decide +kernel
theorem dX10_measure_41 : decode cX10_measure 41 = .ok (.aload_n 0, 1) := by decide +kernel
theorem dX10_measure_42 : decode cX10_measure 42 = .ok (.getfield 15, 3) := by decide +kernel
theorem dX10_measure_45 : decode cX10_measure 45 = .ok (.aload_n 0, 1) := by decide +kernel
theorem dX10_measure_46 : decode cX10_measure 46 = .ok (.getfield 21, 3) := by decide +kernel
theorem dX10_measure_49 : decode cX10_measure 49 = .ok (.iload_n 1, 1) := by decide +kernel
theorem dX10_measure_50 : decode cX10_measure 50 = .ok (.iaload, 1) := by decide +kernel
theorem dX10_measure_51 : decode cX10_measure 51 = .ok (.iaload, 1) := by decide +kernel
theorem dX10_measure_52 : decode cX10_measure 52 = .ok (.bipush 11, 2) := by decide +kernel
theorem dX10_measure_54 : decode cX10_measure 54 = .ok (.if_icmp .ne 7, 3) := by decide +kernel
theorem dX10_measure_57 : decode cX10_measure 57 = .ok (.iconst 1, 1) := by decide +kernel
theorem dX10_measure_58 : decode cX10_measure 58 = .ok (.goto 4, 3) := by decide +kernel
theorem dX10_measure_61 : decode cX10_measure 61 = .ok (.iconst 0, 1) := by decide +kernel
theorem dX10_measure_62 : decode cX10_measure 62 = .ok (.bastore, 1) := by decide +kernel
theorem dX10_measure_63 : decode cX10_measure 63 = .ok (.iinc 1 1, 3) := by decide +kernel
theorem dX10_measure_66 : decode cX10_measure 66 = .ok (.goto (-64), 3) := by decide +kernel
theorem dX10_measure_69 : decode cX10_measure 69 = .ok (.aload_n 0, 1) := by decide +kernel
theorem dX10_measure_70 : decode cX10_measure 70 = .ok (.getfield 71, 3) := by decide +kernel
theorem dX10_measure_73 : decode cX10_measure 73 = .ok (.iconst 1, 1) := by decide +kernel
theorem dX10_measure_74 : decode cX10_measure 74 = .ok (.isub, 1) := by decide +kernel
theorem dX10_measure_75 : decode cX10_measure 75 = .ok (.istore_n 1, 1) := by decide +kernel
theorem dX10_measure_76 : decode cX10_measure 76 = .ok (.aload_n 0, 1) := by decide +kernel
theorem dX10_measure_77 : decode cX10_measure 77 = .ok (.iload_n 1, 1) := by decide +kernel
theorem dX10_measure_78 : decode cX10_measure 78 = .ok (.invokevirtual 91, 3) := by decide +kernel
theorem dX10_measure_81 : decode cX10_measure 81 = .ok (.ifCond .eq 14, 3) := by decide +kernel
theorem dX10_measure_84 : decode cX10_measure 84 = .ok (.aload_n 0, 1) := by decide +kernel
theorem dX10_measure_85 : decode cX10_measure 85 = .ok (.iload_n 1, 1) := by decide +kernel
theorem dX10_measure_86 : decode cX10_measure 86 = .ok (.invokevirtual 101, 3) := by decide +kernel
theorem dX10_measure_89 : decode cX10_measure 89 = .ok (.iinc 1 (-1), 3) := by decide +kernel
theorem dX10_measure_92 : decode cX10_measure 92 = .ok (.goto (-16), 3) := by decide +kernel
theorem dX10_measure_95 : decode cX10_measure 95 = .ok (.return_, 1) := by decide +kernel
theorem dX10_measureNode_0 : decode cX10_measureNode 0 = .ok (.aload_n 0, 1) := by decide +kernel
theorem dX10_measureNode_1 : decode cX10_measureNode 1 = .ok (.iload_n 1, 1) := by decide +kernel
theorem dX10_measureNode_2 : decode cX10_measureNode 2 = .ok (.invokevirtual 91, 3) := by decide +kernel
theorem dX10_measureNode_5 : decode cX10_measureNode 5 = .ok (.ifCond .ne 4, 3) := by decide +kernel
theorem dX10_measureNode_8 : decode cX10_measureNode 8 = .ok (.return_, 1) := by decide +kernel
theorem dX10_measureNode_9 : decode cX10_measureNode 9 = .ok (.iconst 0, 1) := by decide +kernel
theorem dX10_measureNode_10 : decode cX10_measureNode 10 = .ok (.istore_n 2, 1) := by decide +kernel
theorem dX10_measureNode_11 : decode cX10_measureNode 11 = .ok (.iconst 0, 1) := by decide +kernel
theorem dX10_measureNode_12 : decode cX10_measureNode 12 = .ok (.istore_n 3, 1) := by decide +kernel
theorem dX10_measureNode_13 : decode cX10_measureNode 13 = .ok (.iconst 1, 1) := by decide +kernel
theorem dX10_measureNode_14 : decode cX10_measureNode 14 = .ok (.istore 4, 2) := by decide +kernel
theorem dX10_measureNode_16 : decode cX10_measureNode 16 = .ok (.iconst 0, 1) := by decide +kernel
theorem dX10_measureNode_17 : decode cX10_measureNode 17 = .ok (.istore 5, 2) := by decide +kernel
theorem dX10_measureNode_19 : decode cX10_measureNode 19 = .ok (.aload_n 0, 1) := by decide +kernel
theorem dX10_measureNode_20 : decode cX10_measureNode 20 = .ok (.iload_n 1, 1) := by decide +kernel
theorem dX10_measureNode_21 : decode cX10_measureNode 21 = .ok (.invokevirtual 105, 3) := by decide +kernel
theorem dX10_measureNode_24 : decode cX10_measureNode 24 = .ok (.istore 6, 2) := by decide +kernel
theorem dX10_measureNode_26 : decode cX10_measureNode 26 = .ok (.aload_n 0, 1) := by decide +kernel
theorem dX10_measureNode_27 : decode cX10_measureNode 27 = .ok (.iload 6, 2) := by decide +kernel
theorem dX10_measureNode_29 : decode cX10_measureNode 29 = .ok (.invokevirtual 91, 3) := by decide +kernel
theorem dX10_measureNode_32 : decode cX10_measureNode 32 = .ok (.ifCond .eq 58, 3) := by decide +kernel
theorem dX10_measureNode_35 : decode cX10_measureNode 35 = .ok (.iload_n 2, 1) := by decide +kernel
theorem dX10_measureNode_36 : decode cX10_measureNode 36 = .ok (.aload_n 0, 1) := by decide +kernel
theorem dX10_measureNode_37 : decode cX10_measureNode 37 = .ok (.getfield 45, 3) := by decide +kernel
theorem dX10_measureNode_40 : decode cX10_measureNode 40 = .ok (.iload 6, 2) := by decide +kernel
theorem dX10_measureNode_42 : decode cX10_measureNode 42 = .ok (.iaload, 1) := by decide +kernel
theorem dX10_measureNode_43 : decode cX10_measureNode 43 = .ok (.iadd, 1) := by decide +kernel
theorem dX10_measureNode_44 : decode cX10_measureNode 44 = .ok (.istore_n 2, 1) := by decide +kernel
theorem dX10_measureNode_45 : decode cX10_measureNode 45 = .ok (.iload_n 3, 1) := by decide +kernel
theorem dX10_measureNode_46 : decode cX10_measureNode 46 = .ok (.aload_n 0, 1) := by decide +kernel
theorem dX10_measureNode_47 : decode cX10_measureNode 47 = .ok (.getfield 48, 3) := by decide +kernel
theorem dX10_measureNode_50 : decode cX10_measureNode 50 = .ok (.iload 6, 2) := by decide +kernel
theorem dX10_measureNode_52 : decode cX10_measureNode 52 = .ok (.iaload, 1) := by decide +kernel
theorem dX10_measureNode_53 : decode cX10_measureNode 53 = .ok (.iadd, 1) := by decide +kernel
theorem dX10_measureNode_54 : decode cX10_measureNode 54 = .ok (.istore_n 3, 1) := by decide +kernel
theorem dX10_measureNode_55 : decode cX10_measureNode 55 = .ok (.iload 4, 2) := by decide +kernel
theorem dX10_measureNode_57 : decode cX10_measureNode 57 = .ok (.aload_n 0, 1) := by decide +kernel
theorem dX10_measureNode_58 : decode cX10_measureNode 58 = .ok (.getfield 51, 3) := by decide +kernel
theorem dX10_measureNode_61 : decode cX10_measureNode 61 = .ok (.iload 6, 2) := by decide +kernel
theorem dX10_measureNode_63 : decode cX10_measureNode 63 = .ok (.baload, 1) := by decide +kernel
theorem dX10_measureNode_64 : decode cX10_measureNode 64 = .ok (.iand, 1) := by decide +kernel
theorem dX10_measureNode_65 : decode cX10_measureNode 65 = .ok (.istore 4, 2) := by decide +kernel
theorem dX10_measureNode_67 : decode cX10_measureNode 67 = .ok (.iload 5, 2) := by decide +kernel
theorem dX10_measureNode_69 : decode cX10_measureNode 69 = .ok (.aload_n 0, 1) := by decide +kernel
theorem dX10_measureNode_70 : decode cX10_measureNode 70 = .ok (.getfield 51, 3) := by decide +kernel
theorem dX10_measureNode_73 : decode cX10_measureNode 73 = .ok (.iload 6, 2) := by decide +kernel
theorem dX10_measureNode_75 : decode cX10_measureNode 75 = .ok (.baload, 1) := by decide +kernel
theorem dX10_measureNode_76 : decode cX10_measureNode 76 = .ok (.ior, 1) := by decide +kernel
theorem dX10_measureNode_77 : decode cX10_measureNode 77 = .ok (.istore 5, 2) := by decide +kernel
theorem dX10_measureNode_79 : decode cX10_measureNode 79 = .ok (.aload_n 0, 1) := by decide +kernel
theorem dX10_measureNode_80 : decode cX10_measureNode 80 = .ok (.iload 6, 2) := by decide +kernel
theorem dX10_measureNode_82 : decode cX10_measureNode 82 = .ok (.invokevirtual 108, 3) := by decide +kernel
theorem dX10_measureNode_85 : decode cX10_measureNode 85 = .ok (.istore 6, 2) := by decide +kernel
theorem dX10_measureNode_87 : decode cX10_measureNode 87 = .ok (.goto (-61), 3) := by decide +kernel
theorem dX10_measureNode_90 : decode cX10_measureNode 90 = .ok (.aload_n 0, 1) := by decide +kernel
theorem dX10_measureNode_91 : decode cX10_measureNode 91 = .ok (.iload_n 1, 1) := by decide +kernel
theorem dX10_measureNode_92 : decode cX10_measureNode 92 = .ok (.invokevirtual 111, 3) := by decide +kernel
theorem dX10_measureNode_95 : decode cX10_measureNode 95 = .ok (.istore 6, 2) := by decide +kernel
theorem dX10_measureNode_97 : decode cX10_measureNode 97 = .ok (.aload_n 0, 1) := by decide +kernel
theorem dX10_measureNode_98 : decode cX10_measureNode 98 = .ok (.getfield 45, 3) := by decide +kernel
theorem dX10_measureNode_101 : decode cX10_measureNode 101 = .ok (.iload_n 1, 1) := by decide +kernel
theorem dX10_measureNode_102 : decode cX10_measureNode 102 = .ok (.sipush 20000, 3) := by decide +kernel
theorem dX10_measureNode_105 : decode cX10_measureNode 105 = .ok (.iconst 1, 1) := by decide +kernel
theorem dX10_measureNode_106 : decode cX10_measureNode 106 = .ok (.iload 6, 2) := by decide +kernel
theorem dX10_measureNode_108 : decode cX10_measureNode 108 = .ok (.iload_n 2, 1) := by decide +kernel
theorem dX10_measureNode_109 : decode cX10_measureNode 109 = .ok (.imul, 1) := by decide +kernel
theorem dX10_measureNode_110 : decode cX10_measureNode 110 = .ok (.iadd, 1) := by decide +kernel
theorem dX10_measureNode_111 : decode cX10_measureNode 111 = .ok (.invokestatic 114, 3) := by decide +kernel
theorem dX10_measureNode_114 : decode cX10_measureNode 114 = .ok (.iastore, 1) := by decide +kernel
theorem dX10_measureNode_115 : decode cX10_measureNode 115 = .ok (.aload_n 0, 1) := by decide +kernel
theorem dX10_measureNode_116 : decode cX10_measureNode 116 = .ok (.getfield 48, 3) := by decide +kernel
theorem dX10_measureNode_119 : decode cX10_measureNode 119 = .ok (.iload_n 1, 1) := by decide +kernel
theorem dX10_measureNode_120 : decode cX10_measureNode 120 = .ok (.aload_n 0, 1) := by decide +kernel
theorem dX10_measureNode_121 : decode cX10_measureNode 121 = .ok (.iload_n 1, 1) := by decide +kernel
theorem dX10_measureNode_122 : decode cX10_measureNode 122 = .ok (.invokevirtual 117, 3) := by decide +kernel
theorem dX10_measureNode_125 : decode cX10_measureNode 125 = .ok (.ifCond .eq 7, 3) := by decide +kernel
theorem dX10_measureNode_128 : decode cX10_measureNode 128 = .ok (.iconst 1, 1) := by decide +kernel
theorem dX10_measureNode_129 : decode cX10_measureNode 129 = .ok (.goto 13, 3) := by decide +kernel
theorem dX10_measureNode_132 : decode cX10_measureNode 132 = .ok (.sipush 20000, 3) := by decide +kernel
theorem dX10_measureNode_135 : decode cX10_measureNode 135 = .ok (.iload 6, 2) := by decide +kernel
theorem dX10_measureNode_137 : decode cX10_measureNode 137 = .ok (.iload_n 3, 1) := by decide +kernel
theorem dX10_measureNode_138 : decode cX10_measureNode 138 = .ok (.imul, 1) := by decide +kernel
theorem dX10_measureNode_139 : decode cX10_measureNode 139 = .ok (.invokestatic 114, 3) := by decide +kernel
theorem dX10_measureNode_142 : decode cX10_measureNode 142 = .ok (.iastore, 1) := by decide +kernel
theorem dX10_measureNode_143 : decode cX10_measureNode 143 = .ok (.aload_n 0, 1) := by decide +kernel
theorem dX10_measureNode_144 : decode cX10_measureNode 144 = .ok (.getfield 51, 3) := by decide +kernel
theorem dX10_measureNode_147 : decode cX10_measureNode 147 = .ok (.iload_n 1, 1) := by decide +kernel
theorem dX10_measureNode_148 : decode cX10_measureNode 148 = .ok (.aload_n 0, 1) := by decide +kernel
theorem dX10_measureNode_149 : decode cX10_measureNode 149 = .ok (.iload_n 1, 1) := by decide +kernel
theorem dX10_measureNode_150 : decode cX10_measureNode 150 = .ok (.iload 4, 2) := by decide +kernel
theorem dX10_measureNode_152 : decode cX10_measureNode 152 = .ok (.iload 5, 2) := by decide +kernel
theorem dX10_measureNode_154 : decode cX10_measureNode 154 = .ok (.invokevirtual 120, 3) := by decide +kernel
theorem dX10_measureNode_157 : decode cX10_measureNode 157 = .ok (.bastore, 1) := by decide +kernel
theorem dX10_measureNode_158 : decode cX10_measureNode 158 = .ok (.return_, 1) := by decide +kernel
theorem dX10_nextOf_0 : decode cX10_nextOf 0 = .ok (.iload_n 1, 1) := by decide +kernel
theorem dX10_nextOf_1 : decode cX10_nextOf 1 = .ok (.ifCond .lt 20, 3) := by decide +kernel
theorem dX10_nextOf_4 : decode cX10_nextOf 4 = .ok (.iload_n 1, 1) := by decide +kernel
theorem dX10_nextOf_5 : decode cX10_nextOf 5 = .ok (.aload_n 0, 1) := by decide +kernel
theorem dX10_nextOf_6 : decode cX10_nextOf 6 = .ok (.getfield 71, 3) := by decide +kernel
theorem dX10_nextOf_9 : decode cX10_nextOf 9 = .ok (.if_icmp .ge 12, 3) := by decide +kernel
theorem dX10_nextOf_12 : decode cX10_nextOf 12 = .ok (.aload_n 0, 1) := by decide +kernel
theorem dX10_nextOf_13 : decode cX10_nextOf 13 = .ok (.getfield 21, 3) := by decide +kernel
theorem dX10_nextOf_16 : decode cX10_nextOf 16 = .ok (.iload_n 1, 1) := by decide +kernel
theorem dX10_nextOf_17 : decode cX10_nextOf 17 = .ok (.iaload, 1) := by decide +kernel
theorem dX10_nextOf_18 : decode cX10_nextOf 18 = .ok (.goto 4, 3) := by decide +kernel
theorem dX10_nextOf_21 : decode cX10_nextOf 21 = .ok (.iconst (-1), 1) := by decide +kernel
theorem dX10_nextOf_22 : decode cX10_nextOf 22 = .ok (.istore_n 2, 1) := by decide +kernel
theorem dX10_nextOf_23 : decode cX10_nextOf 23 = .ok (.iload_n 2, 1) := by decide +kernel
theorem dX10_nextOf_24 : decode cX10_nextOf 24 = .ok (.ifCond .lt 35, 3) := by decide +kernel
theorem dX10_nextOf_27 : decode cX10_nextOf 27 = .ok (.iload_n 2, 1) := by decide +kernel
theorem dX10_nextOf_28 : decode cX10_nextOf 28 = .ok (.aload_n 0, 1) := by decide +kernel
theorem dX10_nextOf_29 : decode cX10_nextOf 29 = .ok (.getfield 71, 3) := by decide +kernel
theorem dX10_nextOf_32 : decode cX10_nextOf 32 = .ok (.if_icmp .ge 27, 3) := by decide +kernel
theorem dX10_nextOf_35 : decode cX10_nextOf 35 = .ok (.aload_n 0, 1) := by decide +kernel
theorem dX10_nextOf_36 : decode cX10_nextOf 36 = .ok (.getfield 24, 3) := by decide +kernel
theorem dX10_nextOf_39 : decode cX10_nextOf 39 = .ok (.iload_n 1, 1) := by decide +kernel
theorem dX10_nextOf_40 : decode cX10_nextOf 40 = .ok (.iaload, 1) := by decide +kernel
theorem dX10_nextOf_41 : decode cX10_nextOf 41 = .ok (.aload_n 0, 1) := by decide +kernel
theorem dX10_nextOf_42 : decode cX10_nextOf 42 = .ok (.getfield 24, 3) := by decide +kernel
theorem dX10_nextOf_45 : decode cX10_nextOf 45 = .ok (.iload_n 2, 1) := by decide +kernel
theorem dX10_nextOf_46 : decode cX10_nextOf 46 = .ok (.iaload, 1) := by decide +kernel
theorem dX10_nextOf_47 : decode cX10_nextOf 47 = .ok (.if_icmp .ge 12, 3) := by decide +kernel
theorem dX10_nextOf_50 : decode cX10_nextOf 50 = .ok (.aload_n 0, 1) := by decide +kernel
theorem dX10_nextOf_51 : decode cX10_nextOf 51 = .ok (.getfield 24, 3) := by decide +kernel
theorem dX10_nextOf_54 : decode cX10_nextOf 54 = .ok (.iload_n 1, 1) := by decide +kernel
theorem dX10_nextOf_55 : decode cX10_nextOf 55 = .ok (.iaload, 1) := by decide +kernel
theorem dX10_nextOf_56 : decode cX10_nextOf 56 = .ok (.goto 4, 3) := by decide +kernel
theorem dX10_nextOf_59 : decode cX10_nextOf 59 = .ok (.iconst (-1), 1) := by decide +kernel
theorem dX10_nextOf_60 : decode cX10_nextOf 60 = .ok (.ireturn, 1) := by decide +kernel
theorem dX10_nodeAlike_0 : decode cX10_nodeAlike 0 = .ok (.aload_n 0, 1) := by decide +kernel
theorem dX10_nodeAlike_1 : decode cX10_nodeAlike 1 = .ok (.iload_n 1, 1) := by decide +kernel
theorem dX10_nodeAlike_2 : decode cX10_nodeAlike 2 = .ok (.invokevirtual 81, 3) := by decide +kernel
theorem dX10_nodeAlike_5 : decode cX10_nodeAlike 5 = .ok (.aload_n 0, 1) := by decide +kernel
theorem dX10_nodeAlike_6 : decode cX10_nodeAlike 6 = .ok (.iload_n 2, 1) := by decide +kernel
theorem dX10_nodeAlike_7 : decode cX10_nodeAlike 7 = .ok (.invokevirtual 81, 3) := by decide +kernel
theorem dX10_nodeAlike_10 : decode cX10_nodeAlike 10 = .ok (.if_icmp .ne 16, 3) := by decide +kernel
theorem dX10_nodeAlike_13 : decode cX10_nodeAlike 13 = .ok (.aload_n 0, 1) := by decide +kernel
theorem dX10_nodeAlike_14 : decode cX10_nodeAlike 14 = .ok (.iload_n 1, 1) := by decide +kernel
theorem dX10_nodeAlike_15 : decode cX10_nodeAlike 15 = .ok (.invokevirtual 124, 3) := by decide +kernel
theorem dX10_nodeAlike_18 : decode cX10_nodeAlike 18 = .ok (.aload_n 0, 1) := by decide +kernel
theorem dX10_nodeAlike_19 : decode cX10_nodeAlike 19 = .ok (.iload_n 2, 1) := by decide +kernel
theorem dX10_nodeAlike_20 : decode cX10_nodeAlike 20 = .ok (.invokevirtual 124, 3) := by decide +kernel
theorem dX10_nodeAlike_23 : decode cX10_nodeAlike 23 = .ok (.if_icmp .eq 5, 3) := by decide +kernel
theorem dX10_nodeAlike_26 : decode cX10_nodeAlike 26 = .ok (.iconst 0, 1) := by decide +kernel
theorem dX10_nodeAlike_27 : decode cX10_nodeAlike 27 = .ok (.ireturn, 1) := by decide +kernel
theorem dX10_nodeAlike_28 : decode cX10_nodeAlike 28 = .ok (.aload_n 0, 1) := by decide +kernel
theorem dX10_nodeAlike_29 : decode cX10_nodeAlike 29 = .ok (.iload_n 1, 1) := by decide +kernel
theorem dX10_nodeAlike_30 : decode cX10_nodeAlike 30 = .ok (.invokevirtual 81, 3) := by decide +kernel
theorem dX10_nodeAlike_33 : decode cX10_nodeAlike 33 = .ok (.lookupswitch 127 #[(2, 35), (7, 63), (8, 108)], 35) := by decide +kernel
theorem dX10_nodeAlike_68 : decode cX10_nodeAlike 68 = .ok (.aload_n 0, 1) := by decide +kernel
theorem dX10_nodeAlike_69 : decode cX10_nodeAlike 69 = .ok (.iload_n 1, 1) := by decide +kernel
theorem dX10_nodeAlike_70 : decode cX10_nodeAlike 70 = .ok (.invokevirtual 130, 3) := by decide +kernel
theorem dX10_nodeAlike_73 : decode cX10_nodeAlike 73 = .ok (.aload_n 0, 1) := by decide +kernel
theorem dX10_nodeAlike_74 : decode cX10_nodeAlike 74 = .ok (.iload_n 2, 1) := by decide +kernel
theorem dX10_nodeAlike_75 : decode cX10_nodeAlike 75 = .ok (.invokevirtual 130, 3) := by decide +kernel
theorem dX10_nodeAlike_78 : decode cX10_nodeAlike 78 = .ok (.if_icmp .ne 16, 3) := by decide +kernel
theorem dX10_nodeAlike_81 : decode cX10_nodeAlike 81 = .ok (.aload_n 0, 1) := by decide +kernel
theorem dX10_nodeAlike_82 : decode cX10_nodeAlike 82 = .ok (.iload_n 1, 1) := by decide +kernel
theorem dX10_nodeAlike_83 : decode cX10_nodeAlike 83 = .ok (.iload_n 2, 1) := by decide +kernel
theorem dX10_nodeAlike_84 : decode cX10_nodeAlike 84 = .ok (.invokevirtual 188, 3) := by decide +kernel
theorem dX10_nodeAlike_87 : decode cX10_nodeAlike 87 = .ok (.ifCond .eq 7, 3) := by decide +kernel
theorem dX10_nodeAlike_90 : decode cX10_nodeAlike 90 = .ok (.iconst 1, 1) := by decide +kernel
theorem dX10_nodeAlike_91 : decode cX10_nodeAlike 91 = .ok (.goto 4, 3) := by decide +kernel
theorem dX10_nodeAlike_94 : decode cX10_nodeAlike 94 = .ok (.iconst 0, 1) := by decide +kernel
theorem dX10_nodeAlike_95 : decode cX10_nodeAlike 95 = .ok (.ireturn, 1) := by decide +kernel
theorem dX10_nodeAlike_96 : decode cX10_nodeAlike 96 = .ok (.aload_n 0, 1) := by decide +kernel
theorem dX10_nodeAlike_97 : decode cX10_nodeAlike 97 = .ok (.iload_n 1, 1) := by decide +kernel
theorem dX10_nodeAlike_98 : decode cX10_nodeAlike 98 = .ok (.invokevirtual 130, 3) := by decide +kernel
theorem dX10_nodeAlike_101 : decode cX10_nodeAlike 101 = .ok (.aload_n 0, 1) := by decide +kernel
theorem dX10_nodeAlike_102 : decode cX10_nodeAlike 102 = .ok (.iload_n 2, 1) := by decide +kernel
theorem dX10_nodeAlike_103 : decode cX10_nodeAlike 103 = .ok (.invokevirtual 130, 3) := by decide +kernel
theorem dX10_nodeAlike_106 : decode cX10_nodeAlike 106 = .ok (.if_icmp .ne 33, 3) := by decide +kernel
theorem dX10_nodeAlike_109 : decode cX10_nodeAlike 109 = .ok (.aload_n 0, 1) := by decide +kernel
theorem dX10_nodeAlike_110 : decode cX10_nodeAlike 110 = .ok (.iload_n 1, 1) := by decide +kernel
theorem dX10_nodeAlike_111 : decode cX10_nodeAlike 111 = .ok (.invokevirtual 95, 3) := by decide +kernel
theorem dX10_nodeAlike_114 : decode cX10_nodeAlike 114 = .ok (.aload_n 0, 1) := by decide +kernel
theorem dX10_nodeAlike_115 : decode cX10_nodeAlike 115 = .ok (.iload_n 2, 1) := by decide +kernel
theorem dX10_nodeAlike_116 : decode cX10_nodeAlike 116 = .ok (.invokevirtual 95, 3) := by decide +kernel
theorem dX10_nodeAlike_119 : decode cX10_nodeAlike 119 = .ok (.if_icmp .ne 20, 3) := by decide +kernel
theorem dX10_nodeAlike_122 : decode cX10_nodeAlike 122 = .ok (.aload_n 0, 1) := by decide +kernel
theorem dX10_nodeAlike_123 : decode cX10_nodeAlike 123 = .ok (.iload_n 1, 1) := by decide +kernel
theorem dX10_nodeAlike_124 : decode cX10_nodeAlike 124 = .ok (.invokevirtual 85, 3) := by decide +kernel
theorem dX10_nodeAlike_127 : decode cX10_nodeAlike 127 = .ok (.aload_n 0, 1) := by decide +kernel
theorem dX10_nodeAlike_128 : decode cX10_nodeAlike 128 = .ok (.iload_n 2, 1) := by decide +kernel
theorem dX10_nodeAlike_129 : decode cX10_nodeAlike 129 = .ok (.invokevirtual 85, 3) := by decide +kernel
theorem dX10_nodeAlike_132 : decode cX10_nodeAlike 132 = .ok (.if_icmp .ne 7, 3) := by decide +kernel
theorem dX10_nodeAlike_135 : decode cX10_nodeAlike 135 = .ok (.iconst 1, 1) := by decide +kernel
theorem dX10_nodeAlike_136 : decode cX10_nodeAlike 136 = .ok (.goto 4, 3) := by decide +kernel
theorem dX10_nodeAlike_139 : decode cX10_nodeAlike 139 = .ok (.iconst 0, 1) := by decide +kernel
theorem dX10_nodeAlike_140 : decode cX10_nodeAlike 140 = .ok (.ireturn, 1) := by decide +kernel
theorem dX10_nodeAlike_141 : decode cX10_nodeAlike 141 = .ok (.aload_n 0, 1) := by decide +kernel
theorem dX10_nodeAlike_142 : decode cX10_nodeAlike 142 = .ok (.iload_n 1, 1) := by decide +kernel
theorem dX10_nodeAlike_143 : decode cX10_nodeAlike 143 = .ok (.invokevirtual 95, 3) := by decide +kernel
theorem dX10_nodeAlike_146 : decode cX10_nodeAlike 146 = .ok (.aload_n 0, 1) := by decide +kernel
theorem dX10_nodeAlike_147 : decode cX10_nodeAlike 147 = .ok (.iload_n 2, 1) := by decide +kernel
theorem dX10_nodeAlike_148 : decode cX10_nodeAlike 148 = .ok (.invokevirtual 95, 3) := by decide +kernel
theorem dX10_nodeAlike_151 : decode cX10_nodeAlike 151 = .ok (.if_icmp .ne 7, 3) := by decide +kernel
theorem dX10_nodeAlike_154 : decode cX10_nodeAlike 154 = .ok (.iconst 1, 1) := by decide +kernel
theorem dX10_nodeAlike_155 : decode cX10_nodeAlike 155 = .ok (.goto 4, 3) := by decide +kernel
theorem dX10_nodeAlike_158 : decode cX10_nodeAlike 158 = .ok (.iconst 0, 1) := by decide +kernel
theorem dX10_nodeAlike_159 : decode cX10_nodeAlike 159 = .ok (.ireturn, 1) := by decide +kernel
theorem dX10_nodeAlike_160 : decode cX10_nodeAlike 160 = .ok (.aload_n 0, 1) := by decide +kernel
theorem dX10_nodeAlike_161 : decode cX10_nodeAlike 161 = .ok (.iload_n 1, 1) := by decide +kernel
theorem dX10_nodeAlike_162 : decode cX10_nodeAlike 162 = .ok (.invokevirtual 130, 3) := by decide +kernel
theorem dX10_nodeAlike_165 : decode cX10_nodeAlike 165 = .ok (.aload_n 0, 1) := by decide +kernel
theorem dX10_nodeAlike_166 : decode cX10_nodeAlike 166 = .ok (.iload_n 2, 1) := by decide +kernel
theorem dX10_nodeAlike_167 : decode cX10_nodeAlike 167 = .ok (.invokevirtual 130, 3) := by decide +kernel
theorem dX10_nodeAlike_170 : decode cX10_nodeAlike 170 = .ok (.if_icmp .ne 7, 3) := by decide +kernel
theorem dX10_nodeAlike_173 : decode cX10_nodeAlike 173 = .ok (.iconst 1, 1) := by decide +kernel
theorem dX10_nodeAlike_174 : decode cX10_nodeAlike 174 = .ok (.goto 4, 3) := by decide +kernel
theorem dX10_nodeAlike_177 : decode cX10_nodeAlike 177 = .ok (.iconst 0, 1) := by decide +kernel
theorem dX10_nodeAlike_178 : decode cX10_nodeAlike 178 = .ok (.ireturn, 1) := by decide +kernel
theorem dX10_outermostEndless_0 : decode cX10_outermostEndless 0 = .ok (.iconst (-1), 1) := by decide +kernel
theorem dX10_outermostEndless_1 : decode cX10_outermostEndless 1 = .ok (.istore_n 2, 1) := by decide +kernel
theorem dX10_outermostEndless_2 : decode cX10_outermostEndless 2 = .ok (.aload_n 0, 1) := by decide +kernel
theorem dX10_outermostEndless_3 : decode cX10_outermostEndless 3 = .ok (.iload_n 1, 1) := by decide +kernel
theorem dX10_outermostEndless_4 : decode cX10_outermostEndless 4 = .ok (.invokevirtual 170, 3) := by decide +kernel
theorem dX10_outermostEndless_7 : decode cX10_outermostEndless 7 = .ok (.istore_n 3, 1) := by decide +kernel
theorem dX10_outermostEndless_8 : decode cX10_outermostEndless 8 = .ok (.aload_n 0, 1) := by decide +kernel
theorem dX10_outermostEndless_9 : decode cX10_outermostEndless 9 = .ok (.iload_n 3, 1) := by decide +kernel
theorem dX10_outermostEndless_10 : decode cX10_outermostEndless 10 = .ok (.invokevirtual 91, 3) := by decide +kernel
theorem dX10_outermostEndless_13 : decode cX10_outermostEndless 13 = .ok (.ifCond .eq 35, 3) := by decide +kernel
theorem dX10_outermostEndless_16 : decode cX10_outermostEndless 16 = .ok (.aload_n 0, 1) := by decide +kernel
theorem dX10_outermostEndless_17 : decode cX10_outermostEndless 17 = .ok (.iload_n 3, 1) := by decide +kernel
theorem dX10_outermostEndless_18 : decode cX10_outermostEndless 18 = .ok (.invokevirtual 164, 3) := by decide +kernel
theorem dX10_outermostEndless_21 : decode cX10_outermostEndless 21 = .ok (.ifCond .eq 17, 3) := by decide +kernel
theorem dX10_outermostEndless_24 : decode cX10_outermostEndless 24 = .ok (.aload_n 0, 1) := by decide +kernel
theorem dX10_outermostEndless_25 : decode cX10_outermostEndless 25 = .ok (.aload_n 0, 1) := by decide +kernel
theorem dX10_outermostEndless_26 : decode cX10_outermostEndless 26 = .ok (.iload_n 3, 1) := by decide +kernel
theorem dX10_outermostEndless_27 : decode cX10_outermostEndless 27 = .ok (.invokevirtual 105, 3) := by decide +kernel
theorem dX10_outermostEndless_30 : decode cX10_outermostEndless 30 = .ok (.invokevirtual 149, 3) := by decide +kernel
theorem dX10_outermostEndless_33 : decode cX10_outermostEndless 33 = .ok (.ifCond .eq 5, 3) := by decide +kernel
theorem dX10_outermostEndless_36 : decode cX10_outermostEndless 36 = .ok (.iload_n 3, 1) := by decide +kernel
theorem dX10_outermostEndless_37 : decode cX10_outermostEndless 37 = .ok (.istore_n 2, 1) := by decide +kernel
theorem dX10_outermostEndless_38 : decode cX10_outermostEndless 38 = .ok (.aload_n 0, 1) := by decide +kernel
theorem dX10_outermostEndless_39 : decode cX10_outermostEndless 39 = .ok (.getfield 21, 3) := by decide +kernel
theorem dX10_outermostEndless_42 : decode cX10_outermostEndless 42 = .ok (.iload_n 3, 1) := by decide +kernel
theorem dX10_outermostEndless_43 : decode cX10_outermostEndless 43 = .ok (.iaload, 1) := by decide +kernel
theorem dX10_outermostEndless_44 : decode cX10_outermostEndless 44 = .ok (.istore_n 3, 1) := by decide +kernel
theorem dX10_outermostEndless_45 : decode cX10_outermostEndless 45 = .ok (.goto (-37), 3) := by decide +kernel
theorem dX10_outermostEndless_48 : decode cX10_outermostEndless 48 = .ok (.iload_n 2, 1) := by decide +kernel
theorem dX10_outermostEndless_49 : decode cX10_outermostEndless 49 = .ok (.ireturn, 1) := by decide +kernel
theorem dX10_partBegin_0 : decode cX10_partBegin 0 = .ok (.aload_n 0, 1) := by decide +kernel
theorem dX10_partBegin_1 : decode cX10_partBegin 1 = .ok (.iload_n 1, 1) := by decide +kernel
theorem dX10_partBegin_2 : decode cX10_partBegin 2 = .ok (.invokevirtual 95, 3) := by decide +kernel
theorem dX10_partBegin_5 : decode cX10_partBegin 5 = .ok (.iload_n 2, 1) := by decide +kernel
theorem dX10_partBegin_6 : decode cX10_partBegin 6 = .ok (.iadd, 1) := by decide +kernel
theorem dX10_partBegin_7 : decode cX10_partBegin 7 = .ok (.istore_n 3, 1) := by decide +kernel
theorem dX10_partBegin_8 : decode cX10_partBegin 8 = .ok (.iload_n 3, 1) := by decide +kernel
theorem dX10_partBegin_9 : decode cX10_partBegin 9 = .ok (.ifCond .lt 20, 3) := by decide +kernel
theorem dX10_partBegin_12 : decode cX10_partBegin 12 = .ok (.iload_n 3, 1) := by decide +kernel
theorem dX10_partBegin_13 : decode cX10_partBegin 13 = .ok (.aload_n 0, 1) := by decide +kernel
theorem dX10_partBegin_14 : decode cX10_partBegin 14 = .ok (.getfield 78, 3) := by decide +kernel
theorem dX10_partBegin_17 : decode cX10_partBegin 17 = .ok (.if_icmp .ge 12, 3) := by decide +kernel
theorem dX10_partBegin_20 : decode cX10_partBegin 20 = .ok (.aload_n 0, 1) := by decide +kernel
theorem dX10_partBegin_21 : decode cX10_partBegin 21 = .ok (.getfield 61, 3) := by decide +kernel
theorem dX10_partBegin_24 : decode cX10_partBegin 24 = .ok (.iload_n 3, 1) := by decide +kernel
theorem dX10_partBegin_25 : decode cX10_partBegin 25 = .ok (.iaload, 1) := by decide +kernel
theorem dX10_partBegin_26 : decode cX10_partBegin 26 = .ok (.goto 4, 3) := by decide +kernel
theorem dX10_partBegin_29 : decode cX10_partBegin 29 = .ok (.iconst 0, 1) := by decide +kernel
theorem dX10_partBegin_30 : decode cX10_partBegin 30 = .ok (.ireturn, 1) := by decide +kernel
theorem dX10_partEnd_0 : decode cX10_partEnd 0 = .ok (.aload_n 0, 1) := by decide +kernel
theorem dX10_partEnd_1 : decode cX10_partEnd 1 = .ok (.iload_n 1, 1) := by decide +kernel
theorem dX10_partEnd_2 : decode cX10_partEnd 2 = .ok (.invokevirtual 95, 3) := by decide +kernel
theorem dX10_partEnd_5 : decode cX10_partEnd 5 = .ok (.iload_n 2, 1) := by decide +kernel
theorem dX10_partEnd_6 : decode cX10_partEnd 6 = .ok (.iadd, 1) := by decide +kernel
theorem dX10_partEnd_7 : decode cX10_partEnd 7 = .ok (.istore_n 3, 1) := by decide +kernel
theorem dX10_partEnd_8 : decode cX10_partEnd 8 = .ok (.iload_n 3, 1) := by decide +kernel
theorem dX10_partEnd_9 : decode cX10_partEnd 9 = .ok (.ifCond .lt 20, 3) := by decide +kernel
theorem dX10_partEnd_12 : decode cX10_partEnd 12 = .ok (.iload_n 3, 1) := by decide +kernel
theorem dX10_partEnd_13 : decode cX10_partEnd 13 = .ok (.aload_n 0, 1) := by decide +kernel
theorem dX10_partEnd_14 : decode cX10_partEnd 14 = .ok (.getfield 78, 3) := by decide +kernel
theorem dX10_partEnd_17 : decode cX10_partEnd 17 = .ok (.if_icmp .ge 12, 3) := by decide +kernel
theorem dX10_partEnd_20 : decode cX10_partEnd 20 = .ok (.aload_n 0, 1) := by decide +kernel
theorem dX10_partEnd_21 : decode cX10_partEnd 21 = .ok (.getfield 64, 3) := by decide +kernel
theorem dX10_partEnd_24 : decode cX10_partEnd 24 = .ok (.iload_n 3, 1) := by decide +kernel
theorem dX10_partEnd_25 : decode cX10_partEnd 25 = .ok (.iaload, 1) := by decide +kernel
theorem dX10_partEnd_26 : decode cX10_partEnd 26 = .ok (.goto 4, 3) := by decide +kernel
theorem dX10_partEnd_29 : decode cX10_partEnd 29 = .ok (.iconst 0, 1) := by decide +kernel
theorem dX10_partEnd_30 : decode cX10_partEnd 30 = .ok (.ireturn, 1) := by decide +kernel
theorem dX10_partsOf_0 : decode cX10_partsOf 0 = .ok (.iload_n 1, 1) := by decide +kernel
theorem dX10_partsOf_1 : decode cX10_partsOf 1 = .ok (.ifCond .lt 11, 3) := by decide +kernel
theorem dX10_partsOf_4 : decode cX10_partsOf 4 = .ok (.iload_n 1, 1) := by decide +kernel
theorem dX10_partsOf_5 : decode cX10_partsOf 5 = .ok (.aload_n 0, 1) := by decide +kernel
theorem dX10_partsOf_6 : decode cX10_partsOf 6 = .ok (.getfield 71, 3) := by decide +kernel
theorem dX10_partsOf_9 : decode cX10_partsOf 9 = .ok (.if_icmp .lt 5, 3) := by decide +kernel
theorem dX10_partsOf_12 : decode cX10_partsOf 12 = .ok (.iconst 0, 1) := by decide +kernel
theorem dX10_partsOf_13 : decode cX10_partsOf 13 = .ok (.ireturn, 1) := by decide +kernel
theorem dX10_partsOf_14 : decode cX10_partsOf 14 = .ok (.aload_n 0, 1) := by decide +kernel
theorem dX10_partsOf_15 : decode cX10_partsOf 15 = .ok (.getfield 15, 3) := by decide +kernel
theorem dX10_partsOf_18 : decode cX10_partsOf 18 = .ok (.iload_n 1, 1) := by decide +kernel
theorem dX10_partsOf_19 : decode cX10_partsOf 19 = .ok (.iaload, 1) := by decide +kernel
theorem dX10_partsOf_20 : decode cX10_partsOf 20 = .ok (.iconst 2, 1) := by decide +kernel
theorem dX10_partsOf_21 : decode cX10_partsOf 21 = .ok (.if_icmp .ne 12, 3) := by decide +kernel
theorem dX10_partsOf_24 : decode cX10_partsOf 24 = .ok (.aload_n 0, 1) := by decide +kernel
theorem dX10_partsOf_25 : decode cX10_partsOf 25 = .ok (.getfield 42, 3) := by decide +kernel
theorem dX10_partsOf_28 : decode cX10_partsOf 28 = .ok (.iload_n 1, 1) := by decide +kernel
theorem dX10_partsOf_29 : decode cX10_partsOf 29 = .ok (.iaload, 1) := by decide +kernel
theorem dX10_partsOf_30 : decode cX10_partsOf 30 = .ok (.goto 9, 3) := by decide +kernel
theorem dX10_partsOf_33 : decode cX10_partsOf 33 = .ok (.aload_n 0, 1) := by decide +kernel
theorem dX10_partsOf_34 : decode cX10_partsOf 34 = .ok (.getfield 33, 3) := by decide +kernel
theorem dX10_partsOf_37 : decode cX10_partsOf 37 = .ok (.iload_n 1, 1) := by decide +kernel
theorem dX10_partsOf_38 : decode cX10_partsOf 38 = .ok (.iaload, 1) := by decide +kernel
theorem dX10_partsOf_39 : decode cX10_partsOf 39 = .ok (.ireturn, 1) := by decide +kernel
theorem dX10_printAlike_0 : decode cX10_printAlike 0 = .ok (.aload_n 0, 1) := by decide +kernel
theorem dX10_printAlike_1 : decode cX10_printAlike 1 = .ok (.iload_n 1, 1) := by decide +kernel
theorem dX10_printAlike_2 : decode cX10_printAlike 2 = .ok (.invokevirtual 182, 3) := by decide +kernel
theorem dX10_printAlike_5 : decode cX10_printAlike 5 = .ok (.iload_n 1, 1) := by decide +kernel
theorem dX10_printAlike_6 : decode cX10_printAlike 6 = .ok (.isub, 1) := by decide +kernel
theorem dX10_printAlike_7 : decode cX10_printAlike 7 = .ok (.istore_n 3, 1) := by decide +kernel
theorem dX10_printAlike_8 : decode cX10_printAlike 8 = .ok (.iload_n 3, 1) := by decide +kernel
theorem dX10_printAlike_9 : decode cX10_printAlike 9 = .ok (.aload_n 0, 1) := by decide +kernel
theorem dX10_printAlike_10 : decode cX10_printAlike 10 = .ok (.iload_n 2, 1) := by decide +kernel
theorem dX10_printAlike_11 : decode cX10_printAlike 11 = .ok (.invokevirtual 182, 3) := by decide +kernel
theorem dX10_printAlike_14 : decode cX10_printAlike 14 = .ok (.iload_n 2, 1) := by decide +kernel
theorem dX10_printAlike_15 : decode cX10_printAlike 15 = .ok (.isub, 1) := by decide +kernel
theorem dX10_printAlike_16 : decode cX10_printAlike 16 = .ok (.if_icmp .eq 5, 3) := by decide +kernel
theorem dX10_printAlike_19 : decode cX10_printAlike 19 = .ok (.iconst 0, 1) := by decide +kernel
theorem dX10_printAlike_20 : decode cX10_printAlike 20 = .ok (.ireturn, 1) := by decide +kernel
theorem dX10_printAlike_21 : decode cX10_printAlike 21 = .ok (.iconst 0, 1) := by decide +kernel
theorem dX10_printAlike_22 : decode cX10_printAlike 22 = .ok (.istore 4, 2) := by decide +kernel
theorem dX10_printAlike_24 : decode cX10_printAlike 24 = .ok (.iload 4, 2) := by decide +kernel
theorem dX10_printAlike_26 : decode cX10_printAlike 26 = .ok (.iload_n 3, 1) := by decide +kernel
theorem dX10_printAlike_27 : decode cX10_printAlike 27 = .ok (.if_icmp .ge 26, 3) := by decide +kernel
theorem dX10_printAlike_30 : decode cX10_printAlike 30 = .ok (.aload_n 0, 1) := by decide +kernel
theorem dX10_printAlike_31 : decode cX10_printAlike 31 = .ok (.iload_n 1, 1) := by decide +kernel
theorem dX10_printAlike_32 : decode cX10_printAlike 32 = .ok (.iload 4, 2) := by decide +kernel
theorem dX10_printAlike_34 : decode cX10_printAlike 34 = .ok (.iadd, 1) := by decide +kernel
theorem dX10_printAlike_35 : decode cX10_printAlike 35 = .ok (.iload_n 2, 1) := by decide +kernel
theorem dX10_printAlike_36 : decode cX10_printAlike 36 = .ok (.iload 4, 2) := by decide +kernel
theorem dX10_printAlike_38 : decode cX10_printAlike 38 = .ok (.iadd, 1) := by decide +kernel
theorem dX10_printAlike_39 : decode cX10_printAlike 39 = .ok (.invokevirtual 185, 3) := by decide +kernel
theorem dX10_printAlike_42 : decode cX10_printAlike 42 = .ok (.ifCond .ne 5, 3) := by decide +kernel
theorem dX10_printAlike_45 : decode cX10_printAlike 45 = .ok (.iconst 0, 1) := by decide +kernel
theorem dX10_printAlike_46 : decode cX10_printAlike 46 = .ok (.ireturn, 1) := by decide +kernel
theorem dX10_printAlike_47 : decode cX10_printAlike 47 = .ok (.iinc 4 1, 3) := by decide +kernel
theorem dX10_printAlike_50 : decode cX10_printAlike 50 = .ok (.goto (-26), 3) := by decide +kernel
theorem dX10_printAlike_53 : decode cX10_printAlike 53 = .ok (.iconst 1, 1) := by decide +kernel
theorem dX10_printAlike_54 : decode cX10_printAlike 54 = .ok (.ireturn, 1) := by decide +kernel
theorem dX10_rangeCount_0 : decode cX10_rangeCount 0 = .ok (.aload_n 0, 1) := by decide +kernel
theorem dX10_rangeCount_1 : decode cX10_rangeCount 1 = .ok (.getfield 78, 3) := by decide +kernel
theorem dX10_rangeCount_4 : decode cX10_rangeCount 4 = .ok (.ireturn, 1) := by decide +kernel
theorem dX10_reset_0 : decode cX10_reset 0 = .ok (.aload_n 0, 1) := by decide +kernel
theorem dX10_reset_1 : decode cX10_reset 1 = .ok (.iconst 0, 1) := by decide +kernel
theorem dX10_reset_2 : decode cX10_reset 2 = .ok (.putfield 67, 3) := by decide +kernel
theorem dX10_reset_5 : decode cX10_reset 5 = .ok (.aload_n 0, 1) := by decide +kernel
theorem dX10_reset_6 : decode cX10_reset 6 = .ok (.iconst 0, 1) := by decide +kernel
theorem dX10_reset_7 : decode cX10_reset 7 = .ok (.putfield 71, 3) := by decide +kernel
theorem dX10_reset_10 : decode cX10_reset 10 = .ok (.aload_n 0, 1) := by decide +kernel
theorem dX10_reset_11 : decode cX10_reset 11 = .ok (.iconst 0, 1) := by decide +kernel
theorem dX10_reset_12 : decode cX10_reset 12 = .ok (.putfield 75, 3) := by decide +kernel
theorem dX10_reset_15 : decode cX10_reset 15 = .ok (.aload_n 0, 1) := by decide +kernel
theorem dX10_reset_16 : decode cX10_reset 16 = .ok (.iconst 0, 1) := by decide +kernel
theorem dX10_reset_17 : decode cX10_reset 17 = .ok (.putfield 78, 3) := by decide +kernel
theorem dX10_reset_20 : decode cX10_reset 20 = .ok (.return_, 1) := by decide +kernel
theorem dX10_rowBegins_0 : decode cX10_rowBegins 0 = .ok (.aload_n 0, 1) := by decide +kernel
theorem dX10_rowBegins_1 : decode cX10_rowBegins 1 = .ok (.iload_n 1, 1) := by decide +kernel
theorem dX10_rowBegins_2 : decode cX10_rowBegins 2 = .ok (.invokevirtual 105, 3) := by decide +kernel
theorem dX10_rowBegins_5 : decode cX10_rowBegins 5 = .ok (.istore_n 2, 1) := by decide +kernel
theorem dX10_rowBegins_6 : decode cX10_rowBegins 6 = .ok (.aload_n 0, 1) := by decide +kernel
theorem dX10_rowBegins_7 : decode cX10_rowBegins 7 = .ok (.iload_n 2, 1) := by decide +kernel
theorem dX10_rowBegins_8 : decode cX10_rowBegins 8 = .ok (.invokevirtual 91, 3) := by decide +kernel
theorem dX10_rowBegins_11 : decode cX10_rowBegins 11 = .ok (.ifCond .eq 37, 3) := by decide +kernel
theorem dX10_rowBegins_14 : decode cX10_rowBegins 14 = .ok (.aload_n 0, 1) := by decide +kernel
theorem dX10_rowBegins_15 : decode cX10_rowBegins 15 = .ok (.getfield 58, 3) := by decide +kernel
theorem dX10_rowBegins_18 : decode cX10_rowBegins 18 = .ok (.iload_n 2, 1) := by decide +kernel
theorem dX10_rowBegins_19 : decode cX10_rowBegins 19 = .ok (.baload, 1) := by decide +kernel
theorem dX10_rowBegins_20 : decode cX10_rowBegins 20 = .ok (.ifCond .ne 12, 3) := by decide +kernel
theorem dX10_rowBegins_23 : decode cX10_rowBegins 23 = .ok (.aload_n 0, 1) := by decide +kernel
theorem dX10_rowBegins_24 : decode cX10_rowBegins 24 = .ok (.getfield 51, 3) := by decide +kernel
theorem dX10_rowBegins_27 : decode cX10_rowBegins 27 = .ok (.iload_n 2, 1) := by decide +kernel
theorem dX10_rowBegins_28 : decode cX10_rowBegins 28 = .ok (.baload, 1) := by decide +kernel
theorem dX10_rowBegins_29 : decode cX10_rowBegins 29 = .ok (.ifCond .ne 10, 3) := by decide +kernel
theorem dX10_rowBegins_32 : decode cX10_rowBegins 32 = .ok (.aload_n 0, 1) := by decide +kernel
theorem dX10_rowBegins_33 : decode cX10_rowBegins 33 = .ok (.getfield 58, 3) := by decide +kernel
theorem dX10_rowBegins_36 : decode cX10_rowBegins 36 = .ok (.iload_n 2, 1) := by decide +kernel
theorem dX10_rowBegins_37 : decode cX10_rowBegins 37 = .ok (.baload, 1) := by decide +kernel
theorem dX10_rowBegins_38 : decode cX10_rowBegins 38 = .ok (.ireturn, 1) := by decide +kernel
theorem dX10_rowBegins_39 : decode cX10_rowBegins 39 = .ok (.aload_n 0, 1) := by decide +kernel
theorem dX10_rowBegins_40 : decode cX10_rowBegins 40 = .ok (.iload_n 2, 1) := by decide +kernel
theorem dX10_rowBegins_41 : decode cX10_rowBegins 41 = .ok (.invokevirtual 108, 3) := by decide +kernel
theorem dX10_rowBegins_44 : decode cX10_rowBegins 44 = .ok (.istore_n 2, 1) := by decide +kernel
theorem dX10_rowBegins_45 : decode cX10_rowBegins 45 = .ok (.goto (-39), 3) := by decide +kernel
theorem dX10_rowBegins_48 : decode cX10_rowBegins 48 = .ok (.iconst 0, 1) := by decide +kernel
theorem dX10_rowBegins_49 : decode cX10_rowBegins 49 = .ok (.ireturn, 1) := by decide +kernel
theorem dX10_sameParts_0 : decode cX10_sameParts 0 = .ok (.iconst 0, 1) := by decide +kernel
theorem dX10_sameParts_1 : decode cX10_sameParts 1 = .ok (.istore_n 3, 1) := by decide +kernel
theorem dX10_sameParts_2 : decode cX10_sameParts 2 = .ok (.iload_n 3, 1) := by decide +kernel
theorem dX10_sameParts_3 : decode cX10_sameParts 3 = .ok (.aload_n 0, 1) := by decide +kernel
theorem dX10_sameParts_4 : decode cX10_sameParts 4 = .ok (.iload_n 1, 1) := by decide +kernel
theorem dX10_sameParts_5 : decode cX10_sameParts 5 = .ok (.invokevirtual 124, 3) := by decide +kernel
theorem dX10_sameParts_8 : decode cX10_sameParts 8 = .ok (.if_icmp .ge 41, 3) := by decide +kernel
theorem dX10_sameParts_11 : decode cX10_sameParts 11 = .ok (.aload_n 0, 1) := by decide +kernel
theorem dX10_sameParts_12 : decode cX10_sameParts 12 = .ok (.iload_n 1, 1) := by decide +kernel
theorem dX10_sameParts_13 : decode cX10_sameParts 13 = .ok (.iload_n 3, 1) := by decide +kernel
theorem dX10_sameParts_14 : decode cX10_sameParts 14 = .ok (.invokevirtual 191, 3) := by decide +kernel
theorem dX10_sameParts_17 : decode cX10_sameParts 17 = .ok (.aload_n 0, 1) := by decide +kernel
theorem dX10_sameParts_18 : decode cX10_sameParts 18 = .ok (.iload_n 2, 1) := by decide +kernel
theorem dX10_sameParts_19 : decode cX10_sameParts 19 = .ok (.iload_n 3, 1) := by decide +kernel
theorem dX10_sameParts_20 : decode cX10_sameParts 20 = .ok (.invokevirtual 191, 3) := by decide +kernel
theorem dX10_sameParts_23 : decode cX10_sameParts 23 = .ok (.if_icmp .ne 18, 3) := by decide +kernel
theorem dX10_sameParts_26 : decode cX10_sameParts 26 = .ok (.aload_n 0, 1) := by decide +kernel
theorem dX10_sameParts_27 : decode cX10_sameParts 27 = .ok (.iload_n 1, 1) := by decide +kernel
theorem dX10_sameParts_28 : decode cX10_sameParts 28 = .ok (.iload_n 3, 1) := by decide +kernel
theorem dX10_sameParts_29 : decode cX10_sameParts 29 = .ok (.invokevirtual 194, 3) := by decide +kernel
theorem dX10_sameParts_32 : decode cX10_sameParts 32 = .ok (.aload_n 0, 1) := by decide +kernel
theorem dX10_sameParts_33 : decode cX10_sameParts 33 = .ok (.iload_n 2, 1) := by decide +kernel
theorem dX10_sameParts_34 : decode cX10_sameParts 34 = .ok (.iload_n 3, 1) := by decide +kernel
theorem dX10_sameParts_35 : decode cX10_sameParts 35 = .ok (.invokevirtual 194, 3) := by decide +kernel
theorem dX10_sameParts_38 : decode cX10_sameParts 38 = .ok (.if_icmp .eq 5, 3) := by decide +kernel
theorem dX10_sameParts_41 : decode cX10_sameParts 41 = .ok (.iconst 0, 1) := by decide +kernel
theorem dX10_sameParts_42 : decode cX10_sameParts 42 = .ok (.ireturn, 1) := by decide +kernel
theorem dX10_sameParts_43 : decode cX10_sameParts 43 = .ok (.iinc 3 1, 3) := by decide +kernel
theorem dX10_sameParts_46 : decode cX10_sameParts 46 = .ok (.goto (-44), 3) := by decide +kernel
theorem dX10_sameParts_49 : decode cX10_sameParts 49 = .ok (.iconst 1, 1) := by decide +kernel
theorem dX10_sameParts_50 : decode cX10_sameParts 50 = .ok (.ireturn, 1) := by decide +kernel
theorem dX10_somePartIsMarked_0 : decode cX10_somePartIsMarked 0 = .ok (.aload_n 0, 1) := by decide +kernel
theorem dX10_somePartIsMarked_1 : decode cX10_somePartIsMarked 1 = .ok (.iload_n 1, 1) := by decide +kernel
theorem dX10_somePartIsMarked_2 : decode cX10_somePartIsMarked 2 = .ok (.invokevirtual 105, 3) := by decide +kernel
theorem dX10_somePartIsMarked_5 : decode cX10_somePartIsMarked 5 = .ok (.istore_n 2, 1) := by decide +kernel
theorem dX10_somePartIsMarked_6 : decode cX10_somePartIsMarked 6 = .ok (.aload_n 0, 1) := by decide +kernel
theorem dX10_somePartIsMarked_7 : decode cX10_somePartIsMarked 7 = .ok (.iload_n 2, 1) := by decide +kernel
theorem dX10_somePartIsMarked_8 : decode cX10_somePartIsMarked 8 = .ok (.invokevirtual 91, 3) := by decide +kernel
theorem dX10_somePartIsMarked_11 : decode cX10_somePartIsMarked 11 = .ok (.ifCond .eq 23, 3) := by decide +kernel
theorem dX10_somePartIsMarked_14 : decode cX10_somePartIsMarked 14 = .ok (.aload_n 0, 1) := by decide +kernel
theorem dX10_somePartIsMarked_15 : decode cX10_somePartIsMarked 15 = .ok (.getfield 58, 3) := by decide +kernel
theorem dX10_somePartIsMarked_18 : decode cX10_somePartIsMarked 18 = .ok (.iload_n 2, 1) := by decide +kernel
theorem dX10_somePartIsMarked_19 : decode cX10_somePartIsMarked 19 = .ok (.baload, 1) := by decide +kernel
theorem dX10_somePartIsMarked_20 : decode cX10_somePartIsMarked 20 = .ok (.ifCond .eq 5, 3) := by decide +kernel
theorem dX10_somePartIsMarked_23 : decode cX10_somePartIsMarked 23 = .ok (.iconst 1, 1) := by decide +kernel
theorem dX10_somePartIsMarked_24 : decode cX10_somePartIsMarked 24 = .ok (.ireturn, 1) := by decide +kernel
theorem dX10_somePartIsMarked_25 : decode cX10_somePartIsMarked 25 = .ok (.aload_n 0, 1) := by decide +kernel
theorem dX10_somePartIsMarked_26 : decode cX10_somePartIsMarked 26 = .ok (.iload_n 2, 1) := by decide +kernel
theorem dX10_somePartIsMarked_27 : decode cX10_somePartIsMarked 27 = .ok (.invokevirtual 108, 3) := by decide +kernel
theorem dX10_somePartIsMarked_30 : decode cX10_somePartIsMarked 30 = .ok (.istore_n 2, 1) := by decide +kernel
theorem dX10_somePartIsMarked_31 : decode cX10_somePartIsMarked 31 = .ok (.goto (-25), 3) := by decide +kernel
theorem dX10_somePartIsMarked_34 : decode cX10_somePartIsMarked 34 = .ok (.iconst 0, 1) := by decide +kernel
theorem dX10_somePartIsMarked_35 : decode cX10_somePartIsMarked 35 = .ok (.ireturn, 1) := by decide +kernel
theorem dX10_sortOf_0 : decode cX10_sortOf 0 = .ok (.iload_n 1, 1) := by decide +kernel
theorem dX10_sortOf_1 : decode cX10_sortOf 1 = .ok (.ifCond .lt 20, 3) := by decide +kernel
theorem dX10_sortOf_4 : decode cX10_sortOf 4 = .ok (.iload_n 1, 1) := by decide +kernel
theorem dX10_sortOf_5 : decode cX10_sortOf 5 = .ok (.aload_n 0, 1) := by decide +kernel
theorem dX10_sortOf_6 : decode cX10_sortOf 6 = .ok (.getfield 71, 3) := by decide +kernel
theorem dX10_sortOf_9 : decode cX10_sortOf 9 = .ok (.if_icmp .ge 12, 3) := by decide +kernel
theorem dX10_sortOf_12 : decode cX10_sortOf 12 = .ok (.aload_n 0, 1) := by decide +kernel
theorem dX10_sortOf_13 : decode cX10_sortOf 13 = .ok (.getfield 15, 3) := by decide +kernel
theorem dX10_sortOf_16 : decode cX10_sortOf 16 = .ok (.iload_n 1, 1) := by decide +kernel
theorem dX10_sortOf_17 : decode cX10_sortOf 17 = .ok (.iaload, 1) := by decide +kernel
theorem dX10_sortOf_18 : decode cX10_sortOf 18 = .ok (.goto 4, 3) := by decide +kernel
theorem dX10_sortOf_21 : decode cX10_sortOf 21 = .ok (.iconst 5, 1) := by decide +kernel
theorem dX10_sortOf_22 : decode cX10_sortOf 22 = .ok (.ireturn, 1) := by decide +kernel
theorem dX10_takes_0 : decode cX10_takes 0 = .ok (.aload_n 0, 1) := by decide +kernel
theorem dX10_takes_1 : decode cX10_takes 1 = .ok (.iload_n 1, 1) := by decide +kernel
theorem dX10_takes_2 : decode cX10_takes 2 = .ok (.invokevirtual 81, 3) := by decide +kernel
theorem dX10_takes_5 : decode cX10_takes 5 = .ok (.tableswitch 132 0 2 #[27, 62, 74], 27) := by decide +kernel
theorem dX10_takes_32 : decode cX10_takes 32 = .ok (.iload_n 2, 1) := by decide +kernel
theorem dX10_takes_33 : decode cX10_takes 33 = .ok (.aload_n 0, 1) := by decide +kernel
theorem dX10_takes_34 : decode cX10_takes 34 = .ok (.iload_n 1, 1) := by decide +kernel
theorem dX10_takes_35 : decode cX10_takes 35 = .ok (.invokevirtual 130, 3) := by decide +kernel
theorem dX10_takes_38 : decode cX10_takes 38 = .ok (.if_icmp .eq 23, 3) := by decide +kernel
theorem dX10_takes_41 : decode cX10_takes 41 = .ok (.aload_n 0, 1) := by decide +kernel
theorem dX10_takes_42 : decode cX10_takes 42 = .ok (.iload_n 1, 1) := by decide +kernel
theorem dX10_takes_43 : decode cX10_takes 43 = .ok (.invokevirtual 98, 3) := by decide +kernel
theorem dX10_takes_46 : decode cX10_takes 46 = .ok (.ifCond .eq 19, 3) := by decide +kernel
theorem dX10_takes_49 : decode cX10_takes 49 = .ok (.iload_n 2, 1) := by decide +kernel
theorem dX10_takes_50 : decode cX10_takes 50 = .ok (.invokestatic 133, 3) := by decide +kernel
theorem dX10_takes_53 : decode cX10_takes 53 = .ok (.aload_n 0, 1) := by decide +kernel
theorem dX10_takes_54 : decode cX10_takes 54 = .ok (.iload_n 1, 1) := by decide +kernel
theorem dX10_takes_55 : decode cX10_takes 55 = .ok (.invokevirtual 130, 3) := by decide +kernel
theorem dX10_takes_58 : decode cX10_takes 58 = .ok (.if_icmp .ne 7, 3) := by decide +kernel
theorem dX10_takes_61 : decode cX10_takes 61 = .ok (.iconst 1, 1) := by decide +kernel
theorem dX10_takes_62 : decode cX10_takes 62 = .ok (.goto 4, 3) := by decide +kernel
theorem dX10_takes_65 : decode cX10_takes 65 = .ok (.iconst 0, 1) := by decide +kernel
theorem dX10_takes_66 : decode cX10_takes 66 = .ok (.ireturn, 1) := by decide +kernel
theorem dX10_takes_67 : decode cX10_takes 67 = .ok (.iload_n 2, 1) := by decide +kernel
theorem dX10_takes_68 : decode cX10_takes 68 = .ok (.bipush 10, 2) := by decide +kernel
theorem dX10_takes_70 : decode cX10_takes 70 = .ok (.if_icmp .eq 7, 3) := by decide +kernel
theorem dX10_takes_73 : decode cX10_takes 73 = .ok (.iconst 1, 1) := by decide +kernel
theorem dX10_takes_74 : decode cX10_takes 74 = .ok (.goto 4, 3) := by decide +kernel
theorem dX10_takes_77 : decode cX10_takes 77 = .ok (.iconst 0, 1) := by decide +kernel
theorem dX10_takes_78 : decode cX10_takes 78 = .ok (.ireturn, 1) := by decide +kernel
theorem dX10_takes_79 : decode cX10_takes 79 = .ok (.aload_n 0, 1) := by decide +kernel
theorem dX10_takes_80 : decode cX10_takes 80 = .ok (.iload_n 1, 1) := by decide +kernel
theorem dX10_takes_81 : decode cX10_takes 81 = .ok (.iload_n 2, 1) := by decide +kernel
theorem dX10_takes_82 : decode cX10_takes 82 = .ok (.invokevirtual 136, 3) := by decide +kernel
theorem dX10_takes_85 : decode cX10_takes 85 = .ok (.ifCond .ne 23, 3) := by decide +kernel
theorem dX10_takes_88 : decode cX10_takes 88 = .ok (.aload_n 0, 1) := by decide +kernel
theorem dX10_takes_89 : decode cX10_takes 89 = .ok (.iload_n 1, 1) := by decide +kernel
theorem dX10_takes_90 : decode cX10_takes 90 = .ok (.invokevirtual 98, 3) := by decide +kernel
theorem dX10_takes_93 : decode cX10_takes 93 = .ok (.ifCond .eq 19, 3) := by decide +kernel
theorem dX10_takes_96 : decode cX10_takes 96 = .ok (.aload_n 0, 1) := by decide +kernel
theorem dX10_takes_97 : decode cX10_takes 97 = .ok (.iload_n 1, 1) := by decide +kernel
theorem dX10_takes_98 : decode cX10_takes 98 = .ok (.iload_n 2, 1) := by decide +kernel
theorem dX10_takes_99 : decode cX10_takes 99 = .ok (.invokestatic 133, 3) := by decide +kernel
theorem dX10_takes_102 : decode cX10_takes 102 = .ok (.invokevirtual 136, 3) := by decide +kernel
theorem dX10_takes_105 : decode cX10_takes 105 = .ok (.ifCond .eq 7, 3) := by decide +kernel
theorem dX10_takes_108 : decode cX10_takes 108 = .ok (.iconst 1, 1) := by decide +kernel
theorem dX10_takes_109 : decode cX10_takes 109 = .ok (.goto 4, 3) := by decide +kernel
theorem dX10_takes_112 : decode cX10_takes 112 = .ok (.iconst 0, 1) := by decide +kernel
theorem dX10_takes_113 : decode cX10_takes 113 = .ok (.istore_n 3, 1) := by decide +kernel
theorem dX10_takes_114 : decode cX10_takes 114 = .ok (.iload_n 3, 1) := by decide +kernel
theorem dX10_takes_115 : decode cX10_takes 115 = .ok (.aload_n 0, 1) := by decide +kernel
theorem dX10_takes_116 : decode cX10_takes 116 = .ok (.iload_n 1, 1) := by decide +kernel
theorem dX10_takes_117 : decode cX10_takes 117 = .ok (.invokevirtual 130, 3) := by decide +kernel
theorem dX10_takes_120 : decode cX10_takes 120 = .ok (.ifCond .ne 7, 3) := by decide +kernel
theorem dX10_takes_123 : decode cX10_takes 123 = .ok (.iconst 1, 1) := by decide +kernel
theorem dX10_takes_124 : decode cX10_takes 124 = .ok (.goto 4, 3) := by decide +kernel
theorem dX10_takes_127 : decode cX10_takes 127 = .ok (.iconst 0, 1) := by decide +kernel
theorem dX10_takes_128 : decode cX10_takes 128 = .ok (.if_icmp .ne 7, 3) := by decide +kernel
theorem dX10_takes_131 : decode cX10_takes 131 = .ok (.iconst 1, 1) := by decide +kernel
theorem dX10_takes_132 : decode cX10_takes 132 = .ok (.goto 4, 3) := by decide +kernel
theorem dX10_takes_135 : decode cX10_takes 135 = .ok (.iconst 0, 1) := by decide +kernel
theorem dX10_takes_136 : decode cX10_takes 136 = .ok (.ireturn, 1) := by decide +kernel
theorem dX10_takes_137 : decode cX10_takes 137 = .ok (.iconst 0, 1) := by decide +kernel
theorem dX10_takes_138 : decode cX10_takes 138 = .ok (.ireturn, 1) := by decide +kernel
theorem dX10_takesOneSign_0 : decode cX10_takesOneSign 0 = .ok (.aload_n 0, 1) := by decide +kernel
theorem dX10_takesOneSign_1 : decode cX10_takesOneSign 1 = .ok (.iload_n 1, 1) := by decide +kernel
theorem dX10_takesOneSign_2 : decode cX10_takesOneSign 2 = .ok (.invokevirtual 81, 3) := by decide +kernel
theorem dX10_takesOneSign_5 : decode cX10_takesOneSign 5 = .ok (.iconst 2, 1) := by decide +kernel
theorem dX10_takesOneSign_6 : decode cX10_takesOneSign 6 = .ok (.if_icmp .gt 7, 3) := by decide +kernel
theorem dX10_takesOneSign_9 : decode cX10_takesOneSign 9 = .ok (.iconst 1, 1) := by decide +kernel
theorem dX10_takesOneSign_10 : decode cX10_takesOneSign 10 = .ok (.goto 4, 3) := by decide +kernel
theorem dX10_takesOneSign_13 : decode cX10_takesOneSign 13 = .ok (.iconst 0, 1) := by decide +kernel
theorem dX10_takesOneSign_14 : decode cX10_takesOneSign 14 = .ok (.ireturn, 1) := by decide +kernel
theorem dX10_tellOfAll_0 : decode cX10_tellOfAll 0 = .ok (.aload_n 0, 1) := by decide +kernel
theorem dX10_tellOfAll_1 : decode cX10_tellOfAll 1 = .ok (.iload_n 1, 1) := by decide +kernel
theorem dX10_tellOfAll_2 : decode cX10_tellOfAll 2 = .ok (.invokevirtual 91, 3) := by decide +kernel
theorem dX10_tellOfAll_5 : decode cX10_tellOfAll 5 = .ok (.ifCond .ne 6, 3) := by decide +kernel
theorem dX10_tellOfAll_8 : decode cX10_tellOfAll 8 = .ok (.bipush (-4), 2) := by decide +kernel
theorem dX10_tellOfAll_10 : decode cX10_tellOfAll 10 = .ok (.ireturn, 1) := by decide +kernel
theorem dX10_tellOfAll_11 : decode cX10_tellOfAll 11 = .ok (.iload_n 2, 1) := by decide +kernel
theorem dX10_tellOfAll_12 : decode cX10_tellOfAll 12 = .ok (.tableswitch 89 0 5 #[40, 47, 53, 60, 67, 74], 40) := by decide +kernel
theorem dX10_tellOfAll_52 : decode cX10_tellOfAll 52 = .ok (.aload_n 0, 1) := by decide +kernel
theorem dX10_tellOfAll_53 : decode cX10_tellOfAll 53 = .ok (.getfield 15, 3) := by decide +kernel
theorem dX10_tellOfAll_56 : decode cX10_tellOfAll 56 = .ok (.iload_n 1, 1) := by decide +kernel
theorem dX10_tellOfAll_57 : decode cX10_tellOfAll 57 = .ok (.iaload, 1) := by decide +kernel
theorem dX10_tellOfAll_58 : decode cX10_tellOfAll 58 = .ok (.ireturn, 1) := by decide +kernel
theorem dX10_tellOfAll_59 : decode cX10_tellOfAll 59 = .ok (.aload_n 0, 1) := by decide +kernel
theorem dX10_tellOfAll_60 : decode cX10_tellOfAll 60 = .ok (.iload_n 1, 1) := by decide +kernel
theorem dX10_tellOfAll_61 : decode cX10_tellOfAll 61 = .ok (.invokevirtual 124, 3) := by decide +kernel
theorem dX10_tellOfAll_64 : decode cX10_tellOfAll 64 = .ok (.ireturn, 1) := by decide +kernel
theorem dX10_tellOfAll_65 : decode cX10_tellOfAll 65 = .ok (.aload_n 0, 1) := by decide +kernel
theorem dX10_tellOfAll_66 : decode cX10_tellOfAll 66 = .ok (.getfield 21, 3) := by decide +kernel
theorem dX10_tellOfAll_69 : decode cX10_tellOfAll 69 = .ok (.iload_n 1, 1) := by decide +kernel
theorem dX10_tellOfAll_70 : decode cX10_tellOfAll 70 = .ok (.iaload, 1) := by decide +kernel
theorem dX10_tellOfAll_71 : decode cX10_tellOfAll 71 = .ok (.ireturn, 1) := by decide +kernel
theorem dX10_tellOfAll_72 : decode cX10_tellOfAll 72 = .ok (.aload_n 0, 1) := by decide +kernel
theorem dX10_tellOfAll_73 : decode cX10_tellOfAll 73 = .ok (.getfield 45, 3) := by decide +kernel
theorem dX10_tellOfAll_76 : decode cX10_tellOfAll 76 = .ok (.iload_n 1, 1) := by decide +kernel
theorem dX10_tellOfAll_77 : decode cX10_tellOfAll 77 = .ok (.iaload, 1) := by decide +kernel
theorem dX10_tellOfAll_78 : decode cX10_tellOfAll 78 = .ok (.ireturn, 1) := by decide +kernel
theorem dX10_tellOfAll_79 : decode cX10_tellOfAll 79 = .ok (.aload_n 0, 1) := by decide +kernel
theorem dX10_tellOfAll_80 : decode cX10_tellOfAll 80 = .ok (.getfield 48, 3) := by decide +kernel
theorem dX10_tellOfAll_83 : decode cX10_tellOfAll 83 = .ok (.iload_n 1, 1) := by decide +kernel
theorem dX10_tellOfAll_84 : decode cX10_tellOfAll 84 = .ok (.iaload, 1) := by decide +kernel
theorem dX10_tellOfAll_85 : decode cX10_tellOfAll 85 = .ok (.ireturn, 1) := by decide +kernel
theorem dX10_tellOfAll_86 : decode cX10_tellOfAll 86 = .ok (.aload_n 0, 1) := by decide +kernel
theorem dX10_tellOfAll_87 : decode cX10_tellOfAll 87 = .ok (.getfield 51, 3) := by decide +kernel
theorem dX10_tellOfAll_90 : decode cX10_tellOfAll 90 = .ok (.iload_n 1, 1) := by decide +kernel
theorem dX10_tellOfAll_91 : decode cX10_tellOfAll 91 = .ok (.baload, 1) := by decide +kernel
theorem dX10_tellOfAll_92 : decode cX10_tellOfAll 92 = .ok (.ifCond .eq 7, 3) := by decide +kernel
theorem dX10_tellOfAll_95 : decode cX10_tellOfAll 95 = .ok (.iconst 1, 1) := by decide +kernel
theorem dX10_tellOfAll_96 : decode cX10_tellOfAll 96 = .ok (.goto 4, 3) := by decide +kernel
theorem dX10_tellOfAll_99 : decode cX10_tellOfAll 99 = .ok (.iconst 0, 1) := by decide +kernel
theorem dX10_tellOfAll_100 : decode cX10_tellOfAll 100 = .ok (.ireturn, 1) := by decide +kernel
theorem dX10_tellOfAll_101 : decode cX10_tellOfAll 101 = .ok (.aload_n 0, 1) := by decide +kernel
theorem dX10_tellOfAll_102 : decode cX10_tellOfAll 102 = .ok (.getfield 55, 3) := by decide +kernel
theorem dX10_tellOfAll_105 : decode cX10_tellOfAll 105 = .ok (.iload_n 1, 1) := by decide +kernel
theorem dX10_tellOfAll_106 : decode cX10_tellOfAll 106 = .ok (.baload, 1) := by decide +kernel
theorem dX10_tellOfAll_107 : decode cX10_tellOfAll 107 = .ok (.ifCond .eq 7, 3) := by decide +kernel
theorem dX10_tellOfAll_110 : decode cX10_tellOfAll 110 = .ok (.iconst 1, 1) := by decide +kernel
theorem dX10_tellOfAll_111 : decode cX10_tellOfAll 111 = .ok (.goto 4, 3) := by decide +kernel
theorem dX10_tellOfAll_114 : decode cX10_tellOfAll 114 = .ok (.iconst 0, 1) := by decide +kernel
theorem dX10_tellOfAll_115 : decode cX10_tellOfAll 115 = .ok (.ireturn, 1) := by decide +kernel
theorem dX10_valueOf_0 : decode cX10_valueOf 0 = .ok (.iload_n 1, 1) := by decide +kernel
theorem dX10_valueOf_1 : decode cX10_valueOf 1 = .ok (.ifCond .lt 20, 3) := by decide +kernel
theorem dX10_valueOf_4 : decode cX10_valueOf 4 = .ok (.iload_n 1, 1) := by decide +kernel
theorem dX10_valueOf_5 : decode cX10_valueOf 5 = .ok (.aload_n 0, 1) := by decide +kernel
theorem dX10_valueOf_6 : decode cX10_valueOf 6 = .ok (.getfield 71, 3) := by decide +kernel
theorem dX10_valueOf_9 : decode cX10_valueOf 9 = .ok (.if_icmp .ge 12, 3) := by decide +kernel
theorem dX10_valueOf_12 : decode cX10_valueOf 12 = .ok (.aload_n 0, 1) := by decide +kernel
theorem dX10_valueOf_13 : decode cX10_valueOf 13 = .ok (.getfield 36, 3) := by decide +kernel
theorem dX10_valueOf_16 : decode cX10_valueOf 16 = .ok (.iload_n 1, 1) := by decide +kernel
theorem dX10_valueOf_17 : decode cX10_valueOf 17 = .ok (.iaload, 1) := by decide +kernel
theorem dX10_valueOf_18 : decode cX10_valueOf 18 = .ok (.goto 4, 3) := by decide +kernel
theorem dX10_valueOf_21 : decode cX10_valueOf 21 = .ok (.iconst 0, 1) := by decide +kernel
theorem dX10_valueOf_22 : decode cX10_valueOf 22 = .ok (.ireturn, 1) := by decide +kernel
theorem dX11_edgeHolds_0 : decode cX11_edgeHolds 0 = .ok (.iload_n 0, 1) := by decide +kernel
theorem dX11_edgeHolds_1 : decode cX11_edgeHolds 1 = .ok (.ifCond .ne 13, 3) := by decide +kernel
theorem dX11_edgeHolds_4 : decode cX11_edgeHolds 4 = .ok (.iload_n 2, 1) := by decide +kernel
theorem dX11_edgeHolds_5 : decode cX11_edgeHolds 5 = .ok (.ifCond .ne 7, 3) := by decide +kernel
theorem dX11_edgeHolds_8 : decode cX11_edgeHolds 8 = .ok (.iconst 1, 1) := by decide +kernel
theorem dX11_edgeHolds_9 : decode cX11_edgeHolds 9 = .ok (.goto 4, 3) := by decide +kernel
theorem dX11_edgeHolds_12 : decode cX11_edgeHolds 12 = .ok (.iconst 0, 1) := by decide +kernel
theorem dX11_edgeHolds_13 : decode cX11_edgeHolds 13 = .ok (.ireturn, 1) := by decide +kernel
theorem dX11_edgeHolds_14 : decode cX11_edgeHolds 14 = .ok (.iload_n 0, 1) := by decide +kernel
theorem dX11_edgeHolds_15 : decode cX11_edgeHolds 15 = .ok (.iconst 1, 1) := by decide +kernel
theorem dX11_edgeHolds_16 : decode cX11_edgeHolds 16 = .ok (.if_icmp .ne 17, 3) := by decide +kernel
theorem dX11_edgeHolds_19 : decode cX11_edgeHolds 19 = .ok (.iload_n 2, 1) := by decide +kernel
theorem dX11_edgeHolds_20 : decode cX11_edgeHolds 20 = .ok (.aload_n 1, 1) := by decide +kernel
theorem dX11_edgeHolds_21 : decode cX11_edgeHolds 21 = .ok (.getfield 96, 3) := by decide +kernel
theorem dX11_edgeHolds_24 : decode cX11_edgeHolds 24 = .ok (.if_icmp .ne 7, 3) := by decide +kernel
theorem dX11_edgeHolds_27 : decode cX11_edgeHolds 27 = .ok (.iconst 1, 1) := by decide +kernel
theorem dX11_edgeHolds_28 : decode cX11_edgeHolds 28 = .ok (.goto 4, 3) := by decide +kernel
theorem dX11_edgeHolds_31 : decode cX11_edgeHolds 31 = .ok (.iconst 0, 1) := by decide +kernel
theorem dX11_edgeHolds_32 : decode cX11_edgeHolds 32 = .ok (.ireturn, 1) := by decide +kernel
theorem dX11_edgeHolds_33 : decode cX11_edgeHolds 33 = .ok (.aload_n 1, 1) := by decide +kernel
theorem dX11_edgeHolds_34 : decode cX11_edgeHolds 34 = .ok (.iload_n 2, 1) := by decide +kernel
theorem dX11_edgeHolds_35 : decode cX11_edgeHolds 35 = .ok (.iconst 1, 1) := by decide +kernel
theorem dX11_edgeHolds_36 : decode cX11_edgeHolds 36 = .ok (.isub, 1) := by decide +kernel
theorem dX11_edgeHolds_37 : decode cX11_edgeHolds 37 = .ok (.invokevirtual 222, 3) := by decide +kernel
theorem dX11_edgeHolds_40 : decode cX11_edgeHolds 40 = .ok (.invokestatic 323, 3) := by decide +kernel
theorem dX11_edgeHolds_43 : decode cX11_edgeHolds 43 = .ok (.aload_n 1, 1) := by decide +kernel
theorem dX11_edgeHolds_44 : decode cX11_edgeHolds 44 = .ok (.iload_n 2, 1) := by decide +kernel
theorem dX11_edgeHolds_45 : decode cX11_edgeHolds 45 = .ok (.invokevirtual 222, 3) := by decide +kernel
theorem dX11_edgeHolds_48 : decode cX11_edgeHolds 48 = .ok (.invokestatic 323, 3) := by decide +kernel
theorem dX11_edgeHolds_51 : decode cX11_edgeHolds 51 = .ok (.if_icmp .eq 7, 3) := by decide +kernel
theorem dX11_edgeHolds_54 : decode cX11_edgeHolds 54 = .ok (.iconst 1, 1) := by decide +kernel
theorem dX11_edgeHolds_55 : decode cX11_edgeHolds 55 = .ok (.goto 4, 3) := by decide +kernel
theorem dX11_edgeHolds_58 : decode cX11_edgeHolds 58 = .ok (.iconst 0, 1) := by decide +kernel
theorem dX11_edgeHolds_59 : decode cX11_edgeHolds 59 = .ok (.istore_n 3, 1) := by decide +kernel
theorem dX11_edgeHolds_60 : decode cX11_edgeHolds 60 = .ok (.iload_n 3, 1) := by decide +kernel
theorem dX11_edgeHolds_61 : decode cX11_edgeHolds 61 = .ok (.iload_n 0, 1) := by decide +kernel
theorem dX11_edgeHolds_62 : decode cX11_edgeHolds 62 = .ok (.iconst 2, 1) := by decide +kernel
theorem dX11_edgeHolds_63 : decode cX11_edgeHolds 63 = .ok (.if_icmp .ne 7, 3) := by decide +kernel
theorem dX11_edgeHolds_66 : decode cX11_edgeHolds 66 = .ok (.iconst 1, 1) := by decide +kernel
theorem dX11_edgeHolds_67 : decode cX11_edgeHolds 67 = .ok (.goto 4, 3) := by decide +kernel
theorem dX11_edgeHolds_70 : decode cX11_edgeHolds 70 = .ok (.iconst 0, 1) := by decide +kernel
theorem dX11_edgeHolds_71 : decode cX11_edgeHolds 71 = .ok (.if_icmp .ne 7, 3) := by decide +kernel
theorem dX11_edgeHolds_74 : decode cX11_edgeHolds 74 = .ok (.iconst 1, 1) := by decide +kernel
theorem dX11_edgeHolds_75 : decode cX11_edgeHolds 75 = .ok (.goto 4, 3) := by decide +kernel
theorem dX11_edgeHolds_78 : decode cX11_edgeHolds 78 = .ok (.iconst 0, 1) := by decide +kernel
theorem dX11_edgeHolds_79 : decode cX11_edgeHolds 79 = .ok (.ireturn, 1) := by decide +kernel
theorem dX11_isDigit_0 : decode cX11_isDigit 0 = .ok (.iload_n 0, 1) := by decide +kernel
theorem dX11_isDigit_1 : decode cX11_isDigit 1 = .ok (.bipush 48, 2) := by decide +kernel
theorem dX11_isDigit_3 : decode cX11_isDigit 3 = .ok (.if_icmp .lt 13, 3) := by decide +kernel
theorem dX11_isDigit_6 : decode cX11_isDigit 6 = .ok (.iload_n 0, 1) := by decide +kernel
theorem dX11_isDigit_7 : decode cX11_isDigit 7 = .ok (.bipush 57, 2) := by decide +kernel
theorem dX11_isDigit_9 : decode cX11_isDigit 9 = .ok (.if_icmp .gt 7, 3) := by decide +kernel
theorem dX11_isDigit_12 : decode cX11_isDigit 12 = .ok (.iconst 1, 1) := by decide +kernel
theorem dX11_isDigit_13 : decode cX11_isDigit 13 = .ok (.goto 4, 3) := by decide +kernel
theorem dX11_isDigit_16 : decode cX11_isDigit 16 = .ok (.iconst 0, 1) := by decide +kernel
theorem dX11_isDigit_17 : decode cX11_isDigit 17 = .ok (.ireturn, 1) := by decide +kernel
theorem dX11_isLetter_0 : decode cX11_isLetter 0 = .ok (.iload_n 0, 1) := by decide +kernel
theorem dX11_isLetter_1 : decode cX11_isLetter 1 = .ok (.bipush 32, 2) := by decide +kernel
theorem dX11_isLetter_3 : decode cX11_isLetter 3 = .ok (.ior, 1) := by decide +kernel
theorem dX11_isLetter_4 : decode cX11_isLetter 4 = .ok (.istore_n 1, 1) := by decide +kernel
theorem dX11_isLetter_5 : decode cX11_isLetter 5 = .ok (.iload_n 1, 1) := by decide +kernel
theorem dX11_isLetter_6 : decode cX11_isLetter 6 = .ok (.bipush 97, 2) := by decide +kernel
theorem dX11_isLetter_8 : decode cX11_isLetter 8 = .ok (.if_icmp .lt 13, 3) := by decide +kernel
theorem dX11_isLetter_11 : decode cX11_isLetter 11 = .ok (.iload_n 1, 1) := by decide +kernel
theorem dX11_isLetter_12 : decode cX11_isLetter 12 = .ok (.bipush 122, 2) := by decide +kernel
theorem dX11_isLetter_14 : decode cX11_isLetter 14 = .ok (.if_icmp .gt 7, 3) := by decide +kernel
theorem dX11_isLetter_17 : decode cX11_isLetter 17 = .ok (.iconst 1, 1) := by decide +kernel
theorem dX11_isLetter_18 : decode cX11_isLetter 18 = .ok (.goto 4, 3) := by decide +kernel
theorem dX11_isLetter_21 : decode cX11_isLetter 21 = .ok (.iconst 0, 1) := by decide +kernel
theorem dX11_isLetter_22 : decode cX11_isLetter 22 = .ok (.ireturn, 1) := by decide +kernel
theorem dX11_isPlain_0 : decode cX11_isPlain 0 = .ok (.iload_n 0, 1) := by decide +kernel
theorem dX11_isPlain_1 : decode cX11_isPlain 1 = .ok (.lookupswitch 125 #[(36, 123), (40, 123), (41, 123), (42, 123), (43, 123), (46, 123), (63, 123), (91, 123), (92, 123), (93, 123), (94, 123), (123, 123), (124, 123), (125, 123)], 123) := by decide +kernel
theorem dX11_isPlain_124 : decode cX11_isPlain 124 = .ok (.iconst 0, 1) := by decide +kernel
theorem dX11_isPlain_125 : decode cX11_isPlain 125 = .ok (.ireturn, 1) := by decide +kernel
theorem dX11_isPlain_126 : decode cX11_isPlain 126 = .ok (.iload_n 0, 1) := by decide +kernel
theorem dX11_isPlain_127 : decode cX11_isPlain 127 = .ok (.invokestatic 92, 3) := by decide +kernel
theorem dX11_isPlain_130 : decode cX11_isPlain 130 = .ok (.ireturn, 1) := by decide +kernel
theorem dX11_isSmall_0 : decode cX11_isSmall 0 = .ok (.iload_n 0, 1) := by decide +kernel
theorem dX11_isSmall_1 : decode cX11_isSmall 1 = .ok (.bipush 97, 2) := by decide +kernel
theorem dX11_isSmall_3 : decode cX11_isSmall 3 = .ok (.if_icmp .lt 13, 3) := by decide +kernel
theorem dX11_isSmall_6 : decode cX11_isSmall 6 = .ok (.iload_n 0, 1) := by decide +kernel
theorem dX11_isSmall_7 : decode cX11_isSmall 7 = .ok (.bipush 122, 2) := by decide +kernel
theorem dX11_isSmall_9 : decode cX11_isSmall 9 = .ok (.if_icmp .gt 7, 3) := by decide +kernel
theorem dX11_isSmall_12 : decode cX11_isSmall 12 = .ok (.iconst 1, 1) := by decide +kernel
theorem dX11_isSmall_13 : decode cX11_isSmall 13 = .ok (.goto 4, 3) := by decide +kernel
theorem dX11_isSmall_16 : decode cX11_isSmall 16 = .ok (.iconst 0, 1) := by decide +kernel
theorem dX11_isSmall_17 : decode cX11_isSmall 17 = .ok (.ireturn, 1) := by decide +kernel
theorem dX11_isTapeSign_0 : decode cX11_isTapeSign 0 = .ok (.iload_n 0, 1) := by decide +kernel
theorem dX11_isTapeSign_1 : decode cX11_isTapeSign 1 = .ok (.bipush 32, 2) := by decide +kernel
theorem dX11_isTapeSign_3 : decode cX11_isTapeSign 3 = .ok (.if_icmp .lt 13, 3) := by decide +kernel
theorem dX11_isTapeSign_6 : decode cX11_isTapeSign 6 = .ok (.iload_n 0, 1) := by decide +kernel
theorem dX11_isTapeSign_7 : decode cX11_isTapeSign 7 = .ok (.bipush 126, 2) := by decide +kernel
theorem dX11_isTapeSign_9 : decode cX11_isTapeSign 9 = .ok (.if_icmp .gt 7, 3) := by decide +kernel
theorem dX11_isTapeSign_12 : decode cX11_isTapeSign 12 = .ok (.iconst 1, 1) := by decide +kernel
theorem dX11_isTapeSign_13 : decode cX11_isTapeSign 13 = .ok (.goto 4, 3) := by decide +kernel
theorem dX11_isTapeSign_16 : decode cX11_isTapeSign 16 = .ok (.iconst 0, 1) := by decide +kernel
theorem dX11_isTapeSign_17 : decode cX11_isTapeSign 17 = .ok (.ireturn, 1) := by decide +kernel
theorem dX11_isWordSign_0 : decode cX11_isWordSign 0 = .ok (.iload_n 0, 1) := by decide +kernel
theorem dX11_isWordSign_1 : decode cX11_isWordSign 1 = .ok (.bipush 32, 2) := by decide +kernel
theorem dX11_isWordSign_3 : decode cX11_isWordSign 3 = .ok (.ior, 1) := by decide +kernel
theorem dX11_isWordSign_4 : decode cX11_isWordSign 4 = .ok (.istore_n 1, 1) := by decide +kernel
theorem dX11_isWordSign_5 : decode cX11_isWordSign 5 = .ok (.iload_n 1, 1) := by decide +kernel
theorem dX11_isWordSign_6 : decode cX11_isWordSign 6 = .ok (.bipush 97, 2) := by decide +kernel
theorem dX11_isWordSign_8 : decode cX11_isWordSign 8 = .ok (.if_icmp .lt 9, 3) := by decide +kernel
theorem dX11_isWordSign_11 : decode cX11_isWordSign 11 = .ok (.iload_n 1, 1) := by decide +kernel
theorem dX11_isWordSign_12 : decode cX11_isWordSign 12 = .ok (.bipush 122, 2) := by decide +kernel
theorem dX11_isWordSign_14 : decode cX11_isWordSign 14 = .ok (.if_icmp .le 21, 3) := by decide +kernel
theorem dX11_isWordSign_17 : decode cX11_isWordSign 17 = .ok (.iload_n 0, 1) := by decide +kernel
theorem dX11_isWordSign_18 : decode cX11_isWordSign 18 = .ok (.bipush 48, 2) := by decide +kernel
theorem dX11_isWordSign_20 : decode cX11_isWordSign 20 = .ok (.if_icmp .lt 9, 3) := by decide +kernel
theorem dX11_isWordSign_23 : decode cX11_isWordSign 23 = .ok (.iload_n 0, 1) := by decide +kernel
theorem dX11_isWordSign_24 : decode cX11_isWordSign 24 = .ok (.bipush 57, 2) := by decide +kernel
theorem dX11_isWordSign_26 : decode cX11_isWordSign 26 = .ok (.if_icmp .le 9, 3) := by decide +kernel
theorem dX11_isWordSign_29 : decode cX11_isWordSign 29 = .ok (.iload_n 0, 1) := by decide +kernel
theorem dX11_isWordSign_30 : decode cX11_isWordSign 30 = .ok (.bipush 95, 2) := by decide +kernel
theorem dX11_isWordSign_32 : decode cX11_isWordSign 32 = .ok (.if_icmp .ne 7, 3) := by decide +kernel
theorem dX11_isWordSign_35 : decode cX11_isWordSign 35 = .ok (.iconst 1, 1) := by decide +kernel
theorem dX11_isWordSign_36 : decode cX11_isWordSign 36 = .ok (.goto 4, 3) := by decide +kernel
theorem dX11_isWordSign_39 : decode cX11_isWordSign 39 = .ok (.iconst 0, 1) := by decide +kernel
theorem dX11_isWordSign_40 : decode cX11_isWordSign 40 = .ok (.ireturn, 1) := by decide +kernel
theorem dX11_otherCase_0 : decode cX11_otherCase 0 = .ok (.iload_n 0, 1) := by decide +kernel
theorem dX11_otherCase_1 : decode cX11_otherCase 1 = .ok (.bipush 32, 2) := by decide +kernel
theorem dX11_otherCase_3 : decode cX11_otherCase 3 = .ok (.ior, 1) := by decide +kernel
theorem dX11_otherCase_4 : decode cX11_otherCase 4 = .ok (.istore_n 1, 1) := by decide +kernel
theorem dX11_otherCase_5 : decode cX11_otherCase 5 = .ok (.iload_n 1, 1) := by decide +kernel
theorem dX11_otherCase_6 : decode cX11_otherCase 6 = .ok (.bipush 97, 2) := by decide +kernel
theorem dX11_otherCase_8 : decode cX11_otherCase 8 = .ok (.if_icmp .lt 16, 3) := by decide +kernel
theorem dX11_otherCase_11 : decode cX11_otherCase 11 = .ok (.iload_n 1, 1) := by decide +kernel
theorem dX11_otherCase_12 : decode cX11_otherCase 12 = .ok (.bipush 122, 2) := by decide +kernel
theorem dX11_otherCase_14 : decode cX11_otherCase 14 = .ok (.if_icmp .gt 10, 3) := by decide +kernel
theorem dX11_otherCase_17 : decode cX11_otherCase 17 = .ok (.iload_n 0, 1) := by decide +kernel
theorem dX11_otherCase_18 : decode cX11_otherCase 18 = .ok (.bipush 32, 2) := by decide +kernel
theorem dX11_otherCase_20 : decode cX11_otherCase 20 = .ok (.ixor, 1) := by decide +kernel
theorem dX11_otherCase_21 : decode cX11_otherCase 21 = .ok (.goto 4, 3) := by decide +kernel
theorem dX11_otherCase_24 : decode cX11_otherCase 24 = .ok (.iload_n 0, 1) := by decide +kernel
theorem dX11_otherCase_25 : decode cX11_otherCase 25 = .ok (.ireturn, 1) := by decide +kernel
theorem dX1_askBack_0 : decode cX1_askBack 0 = .ok (.aload_n 0, 1) := by decide +kernel
theorem dX1_askBack_1 : decode cX1_askBack 1 = .ok (.getfield 14, 3) := by decide +kernel
theorem dX1_askBack_4 : decode cX1_askBack 4 = .ok (.aload_n 0, 1) := by decide +kernel
theorem dX1_askBack_5 : decode cX1_askBack 5 = .ok (.getfield 68, 3) := by decide +kernel
theorem dX1_askBack_8 : decode cX1_askBack 8 = .ok (.invokevirtual 181, 3) := by decide +kernel
theorem dX1_askBack_11 : decode cX1_askBack 11 = .ok (.istore_n 1, 1) := by decide +kernel
theorem dX1_askBack_12 : decode cX1_askBack 12 = .ok (.aload_n 0, 1) := by decide +kernel
theorem dX1_askBack_13 : decode cX1_askBack 13 = .ok (.iload_n 1, 1) := by decide +kernel
theorem dX1_askBack_14 : decode cX1_askBack 14 = .ok (.invokevirtual 130, 3) := by decide +kernel
theorem dX1_askBack_17 : decode cX1_askBack 17 = .ok (.istore_n 2, 1) := by decide +kernel
theorem dX1_askBack_18 : decode cX1_askBack 18 = .ok (.aload_n 0, 1) := by decide +kernel
theorem dX1_askBack_19 : decode cX1_askBack 19 = .ok (.iload_n 1, 1) := by decide +kernel
theorem dX1_askBack_20 : decode cX1_askBack 20 = .ok (.invokevirtual 134, 3) := by decide +kernel
theorem dX1_askBack_23 : decode cX1_askBack 23 = .ok (.iload_n 2, 1) := by decide +kernel
theorem dX1_askBack_24 : decode cX1_askBack 24 = .ok (.isub, 1) := by decide +kernel
theorem dX1_askBack_25 : decode cX1_askBack 25 = .ok (.istore_n 3, 1) := by decide +kernel
theorem dX1_askBack_26 : decode cX1_askBack 26 = .ok (.aload_n 0, 1) := by decide +kernel
theorem dX1_askBack_27 : decode cX1_askBack 27 = .ok (.iload_n 2, 1) := by decide +kernel
theorem dX1_askBack_28 : decode cX1_askBack 28 = .ok (.iconst (-1), 1) := by decide +kernel
theorem dX1_askBack_29 : decode cX1_askBack 29 = .ok (.if_icmp .eq 19, 3) := by decide +kernel
theorem dX1_askBack_32 : decode cX1_askBack 32 = .ok (.aload_n 0, 1) := by decide +kernel
theorem dX1_askBack_33 : decode cX1_askBack 33 = .ok (.getfield 65, 3) := by decide +kernel
theorem dX1_askBack_36 : decode cX1_askBack 36 = .ok (.iload_n 3, 1) := by decide +kernel
theorem dX1_askBack_37 : decode cX1_askBack 37 = .ok (.iadd, 1) := by decide +kernel
theorem dX1_askBack_38 : decode cX1_askBack 38 = .ok (.aload_n 0, 1) := by decide +kernel
theorem dX1_askBack_39 : decode cX1_askBack 39 = .ok (.getfield 25, 3) := by decide +kernel
theorem dX1_askBack_42 : decode cX1_askBack 42 = .ok (.getfield 171, 3) := by decide +kernel
theorem dX1_askBack_45 : decode cX1_askBack 45 = .ok (.if_icmp .le 7, 3) := by decide +kernel
theorem dX1_askBack_48 : decode cX1_askBack 48 = .ok (.iconst 2, 1) := by decide +kernel
theorem dX1_askBack_49 : decode cX1_askBack 49 = .ok (.goto 4, 3) := by decide +kernel
theorem dX1_askBack_52 : decode cX1_askBack 52 = .ok (.iconst 1, 1) := by decide +kernel
theorem dX1_askBack_53 : decode cX1_askBack 53 = .ok (.putfield 71, 3) := by decide +kernel
theorem dX1_askBack_56 : decode cX1_askBack 56 = .ok (.iconst 0, 1) := by decide +kernel
theorem dX1_askBack_57 : decode cX1_askBack 57 = .ok (.istore 4, 2) := by decide +kernel
theorem dX1_askBack_59 : decode cX1_askBack 59 = .ok (.iload 4, 2) := by decide +kernel
theorem dX1_askBack_61 : decode cX1_askBack 61 = .ok (.iload_n 3, 1) := by decide +kernel
theorem dX1_askBack_62 : decode cX1_askBack 62 = .ok (.if_icmp .ge 82, 3) := by decide +kernel
theorem dX1_askBack_65 : decode cX1_askBack 65 = .ok (.aload_n 0, 1) := by decide +kernel
theorem dX1_askBack_66 : decode cX1_askBack 66 = .ok (.getfield 71, 3) := by decide +kernel
theorem dX1_askBack_69 : decode cX1_askBack 69 = .ok (.iconst 1, 1) := by decide +kernel
theorem dX1_askBack_70 : decode cX1_askBack 70 = .ok (.if_icmp .ne 74, 3) := by decide +kernel
theorem dX1_askBack_73 : decode cX1_askBack 73 = .ok (.aload_n 0, 1) := by decide +kernel
theorem dX1_askBack_74 : decode cX1_askBack 74 = .ok (.getfield 25, 3) := by decide +kernel
theorem dX1_askBack_77 : decode cX1_askBack 77 = .ok (.aload_n 0, 1) := by decide +kernel
theorem dX1_askBack_78 : decode cX1_askBack 78 = .ok (.getfield 65, 3) := by decide +kernel
theorem dX1_askBack_81 : decode cX1_askBack 81 = .ok (.iload 4, 2) := by decide +kernel
theorem dX1_askBack_83 : decode cX1_askBack 83 = .ok (.iadd, 1) := by decide +kernel
theorem dX1_askBack_84 : decode cX1_askBack 84 = .ok (.invokevirtual 174, 3) := by decide +kernel
theorem dX1_askBack_87 : decode cX1_askBack 87 = .ok (.istore 5, 2) := by decide +kernel
theorem dX1_askBack_89 : decode cX1_askBack 89 = .ok (.aload_n 0, 1) := by decide +kernel
theorem dX1_askBack_90 : decode cX1_askBack 90 = .ok (.getfield 25, 3) := by decide +kernel
theorem dX1_askBack_93 : decode cX1_askBack 93 = .ok (.iload_n 2, 1) := by decide +kernel
theorem dX1_askBack_94 : decode cX1_askBack 94 = .ok (.iload 4, 2) := by decide +kernel
theorem dX1_askBack_96 : decode cX1_askBack 96 = .ok (.iadd, 1) := by decide +kernel
theorem dX1_askBack_97 : decode cX1_askBack 97 = .ok (.invokevirtual 174, 3) := by decide +kernel
theorem dX1_askBack_100 : decode cX1_askBack 100 = .ok (.istore 6, 2) := by decide +kernel
theorem dX1_askBack_102 : decode cX1_askBack 102 = .ok (.iload 5, 2) := by decide +kernel
theorem dX1_askBack_104 : decode cX1_askBack 104 = .ok (.iload 6, 2) := by decide +kernel
theorem dX1_askBack_106 : decode cX1_askBack 106 = .ok (.if_icmp .eq 32, 3) := by decide +kernel
theorem dX1_askBack_109 : decode cX1_askBack 109 = .ok (.aload_n 0, 1) := by decide +kernel
theorem dX1_askBack_110 : decode cX1_askBack 110 = .ok (.getfield 14, 3) := by decide +kernel
theorem dX1_askBack_113 : decode cX1_askBack 113 = .ok (.aload_n 0, 1) := by decide +kernel
theorem dX1_askBack_114 : decode cX1_askBack 114 = .ok (.getfield 68, 3) := by decide +kernel
theorem dX1_askBack_117 : decode cX1_askBack 117 = .ok (.invokevirtual 188, 3) := by decide +kernel
theorem dX1_askBack_120 : decode cX1_askBack 120 = .ok (.ifCond .eq 13, 3) := by decide +kernel
theorem dX1_askBack_123 : decode cX1_askBack 123 = .ok (.iload 5, 2) := by decide +kernel
theorem dX1_askBack_125 : decode cX1_askBack 125 = .ok (.invokestatic 192, 3) := by decide +kernel
theorem dX1_askBack_128 : decode cX1_askBack 128 = .ok (.iload 6, 2) := by decide +kernel
theorem dX1_askBack_130 : decode cX1_askBack 130 = .ok (.if_icmp .eq 8, 3) := by decide +kernel
theorem dX1_askBack_133 : decode cX1_askBack 133 = .ok (.aload_n 0, 1) := by decide +kernel
theorem dX1_askBack_134 : decode cX1_askBack 134 = .ok (.iconst 2, 1) := by decide +kernel
theorem dX1_askBack_135 : decode cX1_askBack 135 = .ok (.putfield 71, 3) := by decide +kernel
theorem dX1_askBack_138 : decode cX1_askBack 138 = .ok (.iinc 4 1, 3) := by decide +kernel
theorem dX1_askBack_141 : decode cX1_askBack 141 = .ok (.goto (-82), 3) := by decide +kernel
theorem dX1_askBack_144 : decode cX1_askBack 144 = .ok (.aload_n 0, 1) := by decide +kernel
theorem dX1_askBack_145 : decode cX1_askBack 145 = .ok (.dup, 1) := by decide +kernel
theorem dX1_askBack_146 : decode cX1_askBack 146 = .ok (.getfield 65, 3) := by decide +kernel
theorem dX1_askBack_149 : decode cX1_askBack 149 = .ok (.aload_n 0, 1) := by decide +kernel
theorem dX1_askBack_150 : decode cX1_askBack 150 = .ok (.getfield 71, 3) := by decide +kernel
theorem dX1_askBack_153 : decode cX1_askBack 153 = .ok (.iconst 1, 1) := by decide +kernel
theorem dX1_askBack_154 : decode cX1_askBack 154 = .ok (.if_icmp .ne 7, 3) := by decide +kernel
theorem dX1_askBack_157 : decode cX1_askBack 157 = .ok (.iload_n 3, 1) := by decide +kernel
theorem dX1_askBack_158 : decode cX1_askBack 158 = .ok (.goto 4, 3) := by decide +kernel
theorem dX1_askBack_161 : decode cX1_askBack 161 = .ok (.iconst 0, 1) := by decide +kernel
theorem dX1_askBack_162 : decode cX1_askBack 162 = .ok (.iadd, 1) := by decide +kernel
theorem dX1_askBack_163 : decode cX1_askBack 163 = .ok (.putfield 65, 3) := by decide +kernel
theorem dX1_askBack_166 : decode cX1_askBack 166 = .ok (.return_, 1) := by decide +kernel
theorem dX1_askEdge_0 : decode cX1_askEdge 0 = .ok (.aload_n 0, 1) := by decide +kernel
theorem dX1_askEdge_1 : decode cX1_askEdge 1 = .ok (.aload_n 0, 1) := by decide +kernel
theorem dX1_askEdge_2 : decode cX1_askEdge 2 = .ok (.getfield 14, 3) := by decide +kernel
theorem dX1_askEdge_5 : decode cX1_askEdge 5 = .ok (.aload_n 0, 1) := by decide +kernel
theorem dX1_askEdge_6 : decode cX1_askEdge 6 = .ok (.getfield 68, 3) := by decide +kernel
theorem dX1_askEdge_9 : decode cX1_askEdge 9 = .ok (.invokevirtual 181, 3) := by decide +kernel
theorem dX1_askEdge_12 : decode cX1_askEdge 12 = .ok (.aload_n 0, 1) := by decide +kernel
theorem dX1_askEdge_13 : decode cX1_askEdge 13 = .ok (.getfield 25, 3) := by decide +kernel
theorem dX1_askEdge_16 : decode cX1_askEdge 16 = .ok (.aload_n 0, 1) := by decide +kernel
theorem dX1_askEdge_17 : decode cX1_askEdge 17 = .ok (.getfield 65, 3) := by decide +kernel
theorem dX1_askEdge_20 : decode cX1_askEdge 20 = .ok (.invokestatic 184, 3) := by decide +kernel
theorem dX1_askEdge_23 : decode cX1_askEdge 23 = .ok (.ifCond .eq 7, 3) := by decide +kernel
theorem dX1_askEdge_26 : decode cX1_askEdge 26 = .ok (.iconst 1, 1) := by decide +kernel
theorem dX1_askEdge_27 : decode cX1_askEdge 27 = .ok (.goto 4, 3) := by decide +kernel
theorem dX1_askEdge_30 : decode cX1_askEdge 30 = .ok (.iconst 2, 1) := by decide +kernel
theorem dX1_askEdge_31 : decode cX1_askEdge 31 = .ok (.putfield 71, 3) := by decide +kernel
theorem dX1_askEdge_34 : decode cX1_askEdge 34 = .ok (.return_, 1) := by decide +kernel
theorem dX1_askSign_0 : decode cX1_askSign 0 = .ok (.aload_n 0, 1) := by decide +kernel
theorem dX1_askSign_1 : decode cX1_askSign 1 = .ok (.getfield 65, 3) := by decide +kernel
theorem dX1_askSign_4 : decode cX1_askSign 4 = .ok (.aload_n 0, 1) := by decide +kernel
theorem dX1_askSign_5 : decode cX1_askSign 5 = .ok (.getfield 25, 3) := by decide +kernel
theorem dX1_askSign_8 : decode cX1_askSign 8 = .ok (.getfield 171, 3) := by decide +kernel
theorem dX1_askSign_11 : decode cX1_askSign 11 = .ok (.if_icmp .ge 32, 3) := by decide +kernel
theorem dX1_askSign_14 : decode cX1_askSign 14 = .ok (.aload_n 0, 1) := by decide +kernel
theorem dX1_askSign_15 : decode cX1_askSign 15 = .ok (.getfield 14, 3) := by decide +kernel
theorem dX1_askSign_18 : decode cX1_askSign 18 = .ok (.aload_n 0, 1) := by decide +kernel
theorem dX1_askSign_19 : decode cX1_askSign 19 = .ok (.getfield 68, 3) := by decide +kernel
theorem dX1_askSign_22 : decode cX1_askSign 22 = .ok (.aload_n 0, 1) := by decide +kernel
theorem dX1_askSign_23 : decode cX1_askSign 23 = .ok (.getfield 25, 3) := by decide +kernel
theorem dX1_askSign_26 : decode cX1_askSign 26 = .ok (.aload_n 0, 1) := by decide +kernel
