abbrev cL_out : ByteArray := method_4_code
def yL_out : MethodName := ⟨RL, "out", "(LPatternWorkshop;I[J)I"⟩
abbrev cL_sign : ByteArray := method_3_code
def yL_sign : MethodName := ⟨RL, "sign", "(LPatternWorkshop;II[J)I"⟩
abbrev cX11_out : ByteArray := prog_1_method_29_code
def yX11_out : MethodName := ⟨RX11, "out", "(I)I"⟩
abbrev cX11_sign : ByteArray := prog_1_method_14_code
def yX11_sign : MethodName := ⟨RX11, "sign", "(II)C"⟩
theorem tw_254 : (.initialized "java/lang/NullPointerException" : Cond) ∈ TW := tw_in (tb_0 (List.mem_of_getElem? (i := 19) rfl)) (by decide +kernel)
theorem tw_256 : (.initialized "java/lang/ArrayIndexOutOfBoundsException" : Cond) ∈ TW := tw_in (tb_0 (List.mem_of_getElem? (i := 21) rfl)) (by decide +kernel)
theorem tw_1993 : (.classLink "PatternWorkshopLaw" 13 "java/lang/NullPointerException" : Cond) ∈ TW := tw_in (tb_7 (List.mem_of_getElem? (i := 78) rfl)) (by decide +kernel)
theorem tw_2071 : (.classLink "PatternWorkshopLaw" 15 "java/lang/ArrayIndexOutOfBoundsException" : Cond) ∈ TW := tw_in (tb_7 (List.mem_of_getElem? (i := 156) rfl)) (by decide +kernel)
theorem tw_2104 : (.methodLink "PatternWorkshopLaw" 7 yX11_sign : Cond) ∈ TW := tw_in (tb_7 (List.mem_of_getElem? (i := 189) rfl)) (by decide +kernel)
theorem tw_2105 : (.instanceMethod yX11_sign : Cond) ∈ TW := tw_in (tb_7 (List.mem_of_getElem? (i := 190) rfl)) (by decide +kernel)
theorem tw_2106 : (.selects "PatternWorkshop" yX11_sign yX11_sign : Cond) ∈ TW := tw_in (tb_7 (List.mem_of_getElem? (i := 191) rfl)) (by decide +kernel)
theorem tw_2107 : (.code yX11_sign cX11_sign 4 (some (.char)) : Cond) ∈ TW := tw_in (tb_7 (List.mem_of_getElem? (i := 192) rfl)) (by decide +kernel)
theorem tw_2108 : (.classLink "PatternWorkshop" 216 "java/lang/ArrayIndexOutOfBoundsException" : Cond) ∈ TW := tw_in (tb_7 (List.mem_of_getElem? (i := 193) rfl)) (by decide +kernel)
theorem tw_2116 : (.classLink "PatternWorkshop" 219 "java/lang/NullPointerException" : Cond) ∈ TW := tw_in (tb_7 (List.mem_of_getElem? (i := 201) rfl)) (by decide +kernel)
theorem tw_2117 : (.methodLink "PatternWorkshop" 221 ⟨"java/lang/NullPointerException", "<init>", "()V"⟩ : Cond) ∈ TW := tw_in (tb_7 (List.mem_of_getElem? (i := 202) rfl)) (by decide +kernel)
theorem tw_2121 : (.methodLink "PatternWorkshopLaw" 17 yX11_out : Cond) ∈ TW := tw_in (tb_7 (List.mem_of_getElem? (i := 206) rfl)) (by decide +kernel)
theorem tw_2122 : (.instanceMethod yX11_out : Cond) ∈ TW := tw_in (tb_7 (List.mem_of_getElem? (i := 207) rfl)) (by decide +kernel)
theorem tw_2123 : (.selects "PatternWorkshop" yX11_out yX11_out : Cond) ∈ TW := tw_in (tb_7 (List.mem_of_getElem? (i := 208) rfl)) (by decide +kernel)
theorem tw_2124 : (.code yX11_out cX11_out 2 (some (.int)) : Cond) ∈ TW := tw_in (tb_7 (List.mem_of_getElem? (i := 209) rfl)) (by decide +kernel)
theorem gw_X11_out : GoodIn TW (WS yX11_out cX11_out 2 (some (.int))) := goodC tw_2124
theorem gw_X11_sign : GoodIn TW (WS yX11_sign cX11_sign 4 (some (.char))) := goodC tw_2107
theorem dL_out_0 : decode cL_out 0 = .ok (.aload_n 2, 1) := by decide +kernel
theorem dL_out_1 : decode cL_out 1 = .ok (.iconst 0, 1) := by decide +kernel
theorem dL_out_2 : decode cL_out 2 = .ok (.aload_n 0, 1) := by decide +kernel
theorem dL_out_3 : decode cL_out 3 = .ok (.iload_n 1, 1) := by decide +kernel
theorem dL_out_4 : decode cL_out 4 = .ok (.invokevirtual 17, 3) := by decide +kernel
theorem dL_out_7 : decode cL_out 7 = .ok (.i2l, 1) := by decide +kernel
theorem dL_out_8 : decode cL_out 8 = .ok (.lastore, 1) := by decide +kernel
theorem dL_out_9 : decode cL_out 9 = .ok (.goto 6, 3) := by decide +kernel
theorem dL_out_12 : decode cL_out 12 = .ok (.astore_n 3, 1) := by decide +kernel
theorem dL_out_13 : decode cL_out 13 = .ok (.iconst 1, 1) := by decide +kernel
theorem dL_out_14 : decode cL_out 14 = .ok (.ireturn, 1) := by decide +kernel
theorem dL_out_15 : decode cL_out 15 = .ok (.iconst 0, 1) := by decide +kernel
theorem dL_out_16 : decode cL_out 16 = .ok (.ireturn, 1) := by decide +kernel
theorem dL_sign_0 : decode cL_sign 0 = .ok (.aload_n 3, 1) := by decide +kernel
theorem dL_sign_1 : decode cL_sign 1 = .ok (.iconst 0, 1) := by decide +kernel
theorem dL_sign_2 : decode cL_sign 2 = .ok (.aload_n 0, 1) := by decide +kernel
theorem dL_sign_3 : decode cL_sign 3 = .ok (.iload_n 1, 1) := by decide +kernel
theorem dL_sign_4 : decode cL_sign 4 = .ok (.iload_n 2, 1) := by decide +kernel
theorem dL_sign_5 : decode cL_sign 5 = .ok (.invokevirtual 7, 3) := by decide +kernel
theorem dL_sign_8 : decode cL_sign 8 = .ok (.i2l, 1) := by decide +kernel
theorem dL_sign_9 : decode cL_sign 9 = .ok (.lastore, 1) := by decide +kernel
theorem dL_sign_10 : decode cL_sign 10 = .ok (.goto 11, 3) := by decide +kernel
theorem dL_sign_13 : decode cL_sign 13 = .ok (.astore 4, 2) := by decide +kernel
theorem dL_sign_15 : decode cL_sign 15 = .ok (.iconst 1, 1) := by decide +kernel
theorem dL_sign_16 : decode cL_sign 16 = .ok (.ireturn, 1) := by decide +kernel
theorem dL_sign_17 : decode cL_sign 17 = .ok (.astore 4, 2) := by decide +kernel
theorem dL_sign_19 : decode cL_sign 19 = .ok (.iconst 2, 1) := by decide +kernel
theorem dL_sign_20 : decode cL_sign 20 = .ok (.ireturn, 1) := by decide +kernel
theorem dL_sign_21 : decode cL_sign 21 = .ok (.iconst 0, 1) := by decide +kernel
theorem dL_sign_22 : decode cL_sign 22 = .ok (.ireturn, 1) := by decide +kernel
theorem dX11_out_0 : decode cX11_out 0 = .ok (.iload_n 1, 1) := by decide +kernel
theorem dX11_out_1 : decode cX11_out 1 = .ok (.ifCond .lt 14, 3) := by decide +kernel
theorem dX11_out_4 : decode cX11_out 4 = .ok (.iload_n 1, 1) := by decide +kernel
theorem dX11_out_5 : decode cX11_out 5 = .ok (.aload_n 0, 1) := by decide +kernel
theorem dX11_out_6 : decode cX11_out 6 = .ok (.getfield 28, 3) := by decide +kernel
theorem dX11_out_9 : decode cX11_out 9 = .ok (.getfield 96, 3) := by decide +kernel
theorem dX11_out_12 : decode cX11_out 12 = .ok (.if_icmp .lt 11, 3) := by decide +kernel
theorem dX11_out_15 : decode cX11_out 15 = .ok (.new 216, 3) := by decide +kernel
theorem dX11_out_18 : decode cX11_out 18 = .ok (.dup, 1) := by decide +kernel
theorem dX11_out_19 : decode cX11_out 19 = .ok (.invokespecial 218, 3) := by decide +kernel
theorem dX11_out_22 : decode cX11_out 22 = .ok (.athrow, 1) := by decide +kernel
theorem dX11_out_23 : decode cX11_out 23 = .ok (.aload_n 0, 1) := by decide +kernel
theorem dX11_out_24 : decode cX11_out 24 = .ok (.getfield 28, 3) := by decide +kernel
theorem dX11_out_27 : decode cX11_out 27 = .ok (.iload_n 1, 1) := by decide +kernel
theorem dX11_out_28 : decode cX11_out 28 = .ok (.invokevirtual 222, 3) := by decide +kernel
theorem dX11_out_31 : decode cX11_out 31 = .ok (.ireturn, 1) := by decide +kernel
theorem dX11_sign_0 : decode cX11_sign 0 = .ok (.iload_n 1, 1) := by decide +kernel
theorem dX11_sign_1 : decode cX11_sign 1 = .ok (.invokestatic 202, 3) := by decide +kernel
theorem dX11_sign_4 : decode cX11_sign 4 = .ok (.ifCond .ne 11, 3) := by decide +kernel
theorem dX11_sign_7 : decode cX11_sign 7 = .ok (.new 216, 3) := by decide +kernel
theorem dX11_sign_10 : decode cX11_sign 10 = .ok (.dup, 1) := by decide +kernel
theorem dX11_sign_11 : decode cX11_sign 11 = .ok (.invokespecial 218, 3) := by decide +kernel
theorem dX11_sign_14 : decode cX11_sign 14 = .ok (.athrow, 1) := by decide +kernel
theorem dX11_sign_15 : decode cX11_sign 15 = .ok (.aload_n 0, 1) := by decide +kernel
theorem dX11_sign_16 : decode cX11_sign 16 = .ok (.getfield 24, 3) := by decide +kernel
theorem dX11_sign_19 : decode cX11_sign 19 = .ok (.iload_n 1, 1) := by decide +kernel
theorem dX11_sign_20 : decode cX11_sign 20 = .ok (.aaload, 1) := by decide +kernel
theorem dX11_sign_21 : decode cX11_sign 21 = .ok (.astore_n 3, 1) := by decide +kernel
theorem dX11_sign_22 : decode cX11_sign 22 = .ok (.aload_n 3, 1) := by decide +kernel
theorem dX11_sign_23 : decode cX11_sign 23 = .ok (.getfield 205, 3) := by decide +kernel
theorem dX11_sign_26 : decode cX11_sign 26 = .ok (.ifCond .ne 11, 3) := by decide +kernel
theorem dX11_sign_29 : decode cX11_sign 29 = .ok (.new 219, 3) := by decide +kernel
theorem dX11_sign_32 : decode cX11_sign 32 = .ok (.dup, 1) := by decide +kernel
theorem dX11_sign_33 : decode cX11_sign 33 = .ok (.invokespecial 221, 3) := by decide +kernel
theorem dX11_sign_36 : decode cX11_sign 36 = .ok (.athrow, 1) := by decide +kernel
theorem dX11_sign_37 : decode cX11_sign 37 = .ok (.iload_n 2, 1) := by decide +kernel
theorem dX11_sign_38 : decode cX11_sign 38 = .ok (.ifCond .lt 11, 3) := by decide +kernel
theorem dX11_sign_41 : decode cX11_sign 41 = .ok (.iload_n 2, 1) := by decide +kernel
theorem dX11_sign_42 : decode cX11_sign 42 = .ok (.aload_n 3, 1) := by decide +kernel
theorem dX11_sign_43 : decode cX11_sign 43 = .ok (.getfield 96, 3) := by decide +kernel
theorem dX11_sign_46 : decode cX11_sign 46 = .ok (.if_icmp .lt 11, 3) := by decide +kernel
theorem dX11_sign_49 : decode cX11_sign 49 = .ok (.new 216, 3) := by decide +kernel
theorem dX11_sign_52 : decode cX11_sign 52 = .ok (.dup, 1) := by decide +kernel
theorem dX11_sign_53 : decode cX11_sign 53 = .ok (.invokespecial 218, 3) := by decide +kernel
theorem dX11_sign_56 : decode cX11_sign 56 = .ok (.athrow, 1) := by decide +kernel
theorem dX11_sign_57 : decode cX11_sign 57 = .ok (.aload_n 3, 1) := by decide +kernel
theorem dX11_sign_58 : decode cX11_sign 58 = .ok (.iload_n 2, 1) := by decide +kernel
theorem dX11_sign_59 : decode cX11_sign 59 = .ok (.invokevirtual 222, 3) := by decide +kernel
theorem dX11_sign_62 : decode cX11_sign 62 = .ok (.i2c, 1) := by decide +kernel
theorem dX11_sign_63 : decode cX11_sign 63 = .ok (.ireturn, 1) := by decide +kernel
