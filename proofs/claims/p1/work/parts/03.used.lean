abbrev cX11_isSlot : ByteArray := prog_1_method_33_code
def yX11_isSlot : MethodName := ⟨RX11, "isSlot", "(I)Z"⟩
abbrev cX7_init : ByteArray := prog_9_method_1_code
def yX7_init : MethodName := ⟨RX7, "<init>", "(I)V"⟩
theorem tw_238 : (.initialized "java/lang/Math" : Cond) ∈ TW := tw_of 238 (by decide +kernel) (by decide +kernel)
theorem tw_265 : (.instanceMethod ⟨"java/lang/Object", "<init>", "()V"⟩ : Cond) ∈ TW := tw_of 265 (by decide +kernel) (by decide +kernel)
theorem tw_266 : (.code ⟨"java/lang/Object", "<init>", "()V"⟩ object_method_1_code 1 none : Cond) ∈ TW := tw_of 266 (by decide +kernel) (by decide +kernel)
theorem tw_271 : (.code yX7_init cX7_init 2 none : Cond) ∈ TW := tw_of 271 (by decide +kernel) (by decide +kernel)
theorem tw_272 : (.methodLink "PatternWorkshop$Row" 3 ⟨"java/lang/Object", "<init>", "()V"⟩ : Cond) ∈ TW := tw_of 272 (by decide +kernel) (by decide +kernel)
theorem tw_273 : (.methodLink "PatternWorkshop$Row" 9 ⟨"java/lang/Math", "max", "(II)I"⟩ : Cond) ∈ TW := tw_of 273 (by decide +kernel) (by decide +kernel)
theorem tw_274 : (.static ⟨"java/lang/Math", "max", "(II)I"⟩ : Cond) ∈ TW := tw_of 274 (by decide +kernel) (by decide +kernel)
theorem tw_275 : (.code ⟨"java/lang/Math", "max", "(II)I"⟩ prog_19_method_65_code 2 (some (.int)) : Cond) ∈ TW := tw_of 275 (by decide +kernel) (by decide +kernel)
theorem tw_276 : (.fieldLink "PatternWorkshop$Row" 15 "PatternWorkshop$Row" "items" "[I" : Cond) ∈ TW := tw_of 276 (by decide +kernel) (by decide +kernel)
theorem tw_296 : (.arrayClass .int : Cond) ∈ TW := tw_of 296 (by decide +kernel) (by decide +kernel)
theorem tw_875 : (.code yX11_isSlot cX11_isSlot 1 (some (.boolean)) : Cond) ∈ TW := tw_of 875 (by decide +kernel) (by decide +kernel)
theorem gw_X11_isSlot : GoodIn TW (WS yX11_isSlot cX11_isSlot 1 (some (.boolean))) := goodC tw_875
theorem gw_X7_init : GoodIn TW (WS yX7_init cX7_init 2 none) := goodC tw_271
theorem dX11_isSlot_0 : decode cX11_isSlot 0 = .ok (.iload_n 0, 1) := by decide +kernel
theorem dX11_isSlot_1 : decode cX11_isSlot 1 = .ok (.ifCond .lt 13, 3) := by decide +kernel
theorem dX11_isSlot_4 : decode cX11_isSlot 4 = .ok (.iload_n 0, 1) := by decide +kernel
theorem dX11_isSlot_5 : decode cX11_isSlot 5 = .ok (.bipush 6, 2) := by decide +kernel
theorem dX11_isSlot_7 : decode cX11_isSlot 7 = .ok (.if_icmp .ge 7, 3) := by decide +kernel
theorem dX11_isSlot_10 : decode cX11_isSlot 10 = .ok (.iconst 1, 1) := by decide +kernel
theorem dX11_isSlot_11 : decode cX11_isSlot 11 = .ok (.goto 4, 3) := by decide +kernel
theorem dX11_isSlot_14 : decode cX11_isSlot 14 = .ok (.iconst 0, 1) := by decide +kernel
theorem dX11_isSlot_15 : decode cX11_isSlot 15 = .ok (.ireturn, 1) := by decide +kernel
theorem dX7_init_0 : decode cX7_init 0 = .ok (.aload_n 0, 1) := by decide +kernel
theorem dX7_init_1 : decode cX7_init 1 = .ok (.invokespecial 3, 3) := by decide +kernel
theorem dX7_init_4 : decode cX7_init 4 = .ok (.aload_n 0, 1) := by decide +kernel
theorem dX7_init_5 : decode cX7_init 5 = .ok (.iload_n 1, 1) := by decide +kernel
theorem dX7_init_6 : decode cX7_init 6 = .ok (.iconst 0, 1) := by decide +kernel
theorem dX7_init_7 : decode cX7_init 7 = .ok (.invokestatic 9, 3) := by decide +kernel
theorem dX7_init_10 : decode cX7_init 10 = .ok (.newarray .int, 2) := by decide +kernel
theorem dX7_init_12 : decode cX7_init 12 = .ok (.putfield 15, 3) := by decide +kernel
theorem dX7_init_15 : decode cX7_init 15 = .ok (.return_, 1) := by decide +kernel
