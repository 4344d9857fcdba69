abbrev cX11_areThere : ByteArray := prog_1_method_64_code
def yX11_areThere : MethodName := ⟨RX11, "areThere", "(I)Z"⟩
abbrev cX11_byteOf : ByteArray := prog_1_method_44_code
def yX11_byteOf : MethodName := ⟨RX11, "byteOf", "(JI)I"⟩
abbrev cX11_endSearchOver : ByteArray := prog_1_method_56_code
def yX11_endSearchOver : MethodName := ⟨RX11, "endSearchOver", "(I)V"⟩
abbrev cX11_feed : ByteArray := prog_1_method_2_code
def yX11_feed : MethodName := ⟨RX11, "feed", "(IJ)I"⟩
abbrev cX11_first : ByteArray := prog_1_method_22_code
def yX11_first : MethodName := ⟨RX11, "first", "(IIII)I"⟩
abbrev cX11_isTapeSign : ByteArray := prog_1_method_37_code
def yX11_isTapeSign : MethodName := ⟨RX11, "isTapeSign", "(I)Z"⟩
abbrev cX11_isTold : ByteArray := prog_1_method_63_code
def yX11_isTold : MethodName := ⟨RX11, "isTold", "(II)Z"⟩
abbrev cX11_put : ByteArray := prog_1_method_12_code
def yX11_put : MethodName := ⟨RX11, "put", "(IIJ)I"⟩
abbrev cX12_feed : ByteArray := prog_14_method_36_code
def yX12_feed : MethodName := ⟨RX12, "feed", "(IJ)I"⟩
abbrev cX12_first : ByteArray := prog_14_method_109_code
def yX12_first : MethodName := ⟨RX12, "first", "(IIII)I"⟩
abbrev cX12_put_ : ByteArray := prog_14_method_65_code
def yX12_put_ : MethodName := ⟨RX12, "put", "(IIJ)I"⟩
abbrev cX7_add : ByteArray := prog_9_method_3_code
def yX7_add : MethodName := ⟨RX7, "add", "(I)V"⟩
theorem tw_66 : (.selects "PatternWorkshop" yX11_endSearchOver yX11_endSearchOver : Cond) ∈ TW := tw_of 66 (by decide +kernel) (by decide +kernel)
theorem tw_855 : (.methodLink "PatternWorkshopLaw" 27 yX11_feed : Cond) ∈ TW := tw_in (tb_2 (List.mem_of_getElem? (i := 140) rfl)) (by decide +kernel)
theorem tw_856 : (.instanceMethod yX11_feed : Cond) ∈ TW := tw_in (tb_2 (List.mem_of_getElem? (i := 141) rfl)) (by decide +kernel)
theorem tw_857 : (.selects "PatternWorkshop" yX11_feed yX11_feed : Cond) ∈ TW := tw_in (tb_2 (List.mem_of_getElem? (i := 142) rfl)) (by decide +kernel)
theorem tw_858 : (.code yX11_feed cX11_feed 5 (some (.int)) : Cond) ∈ TW := tw_in (tb_2 (List.mem_of_getElem? (i := 143) rfl)) (by decide +kernel)
theorem tw_859 : (.methodLink "PatternWorkshop" 88 yX11_byteOf : Cond) ∈ TW := tw_in (tb_2 (List.mem_of_getElem? (i := 144) rfl)) (by decide +kernel)
theorem tw_860 : (.static yX11_byteOf : Cond) ∈ TW := tw_in (tb_2 (List.mem_of_getElem? (i := 145) rfl)) (by decide +kernel)
theorem tw_861 : (.code yX11_byteOf cX11_byteOf 3 (some (.int)) : Cond) ∈ TW := tw_in (tb_2 (List.mem_of_getElem? (i := 146) rfl)) (by decide +kernel)
theorem tw_862 : (.methodLink "PatternWorkshop" 92 yX11_isTapeSign : Cond) ∈ TW := tw_in (tb_2 (List.mem_of_getElem? (i := 147) rfl)) (by decide +kernel)
theorem tw_863 : (.static yX11_isTapeSign : Cond) ∈ TW := tw_in (tb_2 (List.mem_of_getElem? (i := 148) rfl)) (by decide +kernel)
theorem tw_864 : (.code yX11_isTapeSign cX11_isTapeSign 1 (some (.boolean)) : Cond) ∈ TW := tw_in (tb_2 (List.mem_of_getElem? (i := 149) rfl)) (by decide +kernel)
theorem tw_865 : (.methodLink "PatternWorkshop" 99 yX7_add : Cond) ∈ TW := tw_in (tb_2 (List.mem_of_getElem? (i := 150) rfl)) (by decide +kernel)
theorem tw_866 : (.instanceMethod yX7_add : Cond) ∈ TW := tw_in (tb_2 (List.mem_of_getElem? (i := 151) rfl)) (by decide +kernel)
theorem tw_867 : (.selects "PatternWorkshop$Row" yX7_add yX7_add : Cond) ∈ TW := tw_in (tb_2 (List.mem_of_getElem? (i := 152) rfl)) (by decide +kernel)
theorem tw_868 : (.code yX7_add cX7_add 2 none : Cond) ∈ TW := tw_in (tb_2 (List.mem_of_getElem? (i := 153) rfl)) (by decide +kernel)
theorem tw_1287 : (.constant "PatternWorkshop" 178 65535 : Cond) ∈ TW := tw_in (tb_4 (List.mem_of_getElem? (i := 92) rfl)) (by decide +kernel)
theorem tw_1407 : (.methodLink "PatternWorkshopLaw" 72 yX11_put : Cond) ∈ TW := tw_in (tb_4 (List.mem_of_getElem? (i := 212) rfl)) (by decide +kernel)
theorem tw_1408 : (.instanceMethod yX11_put : Cond) ∈ TW := tw_in (tb_4 (List.mem_of_getElem? (i := 213) rfl)) (by decide +kernel)
theorem tw_1409 : (.selects "PatternWorkshop" yX11_put yX11_put : Cond) ∈ TW := tw_in (tb_4 (List.mem_of_getElem? (i := 214) rfl)) (by decide +kernel)
theorem tw_1410 : (.code yX11_put cX11_put 7 (some (.int)) : Cond) ∈ TW := tw_in (tb_4 (List.mem_of_getElem? (i := 215) rfl)) (by decide +kernel)
theorem tw_1414 : (.methodLink "PatternWorkshop" 206 yX11_endSearchOver : Cond) ∈ TW := tw_in (tb_4 (List.mem_of_getElem? (i := 219) rfl)) (by decide +kernel)
theorem tw_1416 : (.instanceMethod yX11_endSearchOver : Cond) ∈ TW := tw_in (tb_4 (List.mem_of_getElem? (i := 221) rfl)) (by decide +kernel)
theorem tw_1417 : (.code yX11_endSearchOver cX11_endSearchOver 2 none : Cond) ∈ TW := tw_in (tb_4 (List.mem_of_getElem? (i := 222) rfl)) (by decide +kernel)
theorem tw_1803 : (.methodLink "PatternWorkshopLaw" 120 yX11_first : Cond) ∈ TW := tw_in (tb_6 (List.mem_of_getElem? (i := 128) rfl)) (by decide +kernel)
theorem tw_1804 : (.instanceMethod yX11_first : Cond) ∈ TW := tw_in (tb_6 (List.mem_of_getElem? (i := 129) rfl)) (by decide +kernel)
theorem tw_1805 : (.selects "PatternWorkshop" yX11_first yX11_first : Cond) ∈ TW := tw_in (tb_6 (List.mem_of_getElem? (i := 130) rfl)) (by decide +kernel)
theorem tw_1806 : (.code yX11_first cX11_first 7 (some (.int)) : Cond) ∈ TW := tw_in (tb_6 (List.mem_of_getElem? (i := 131) rfl)) (by decide +kernel)
theorem tw_1810 : (.code yX11_areThere cX11_areThere 3 (some (.boolean)) : Cond) ∈ TW := tw_in (tb_6 (List.mem_of_getElem? (i := 135) rfl)) (by decide +kernel)
theorem tw_1813 : (.code yX11_isTold cX11_isTold 2 (some (.boolean)) : Cond) ∈ TW := tw_in (tb_6 (List.mem_of_getElem? (i := 138) rfl)) (by decide +kernel)
theorem tw_2570 : (.methodLink "PatternWorkshopLaw" 31 yX12_feed : Cond) ∈ TW := tw_in (tb_9 (List.mem_of_getElem? (i := 175) rfl)) (by decide +kernel)
theorem tw_2571 : (.instanceMethod yX12_feed : Cond) ∈ TW := tw_in (tb_9 (List.mem_of_getElem? (i := 176) rfl)) (by decide +kernel)
theorem tw_2572 : (.selects "PatternWorkshopModel" yX12_feed yX12_feed : Cond) ∈ TW := tw_in (tb_9 (List.mem_of_getElem? (i := 177) rfl)) (by decide +kernel)
theorem tw_2573 : (.code yX12_feed cX12_feed 6 (some (.int)) : Cond) ∈ TW := tw_in (tb_9 (List.mem_of_getElem? (i := 178) rfl)) (by decide +kernel)
theorem tw_2577 : (.constantLong "PatternWorkshopModel" 441 255 : Cond) ∈ TW := tw_in (tb_9 (List.mem_of_getElem? (i := 182) rfl)) (by decide +kernel)
theorem tw_2809 : (.methodLink "PatternWorkshopLaw" 76 yX12_put_ : Cond) ∈ TW := tw_in (tb_10 (List.mem_of_getElem? (i := 174) rfl)) (by decide +kernel)
theorem tw_2810 : (.instanceMethod yX12_put_ : Cond) ∈ TW := tw_in (tb_10 (List.mem_of_getElem? (i := 175) rfl)) (by decide +kernel)
theorem tw_2811 : (.selects "PatternWorkshopModel" yX12_put_ yX12_put_ : Cond) ∈ TW := tw_in (tb_10 (List.mem_of_getElem? (i := 176) rfl)) (by decide +kernel)
theorem tw_2812 : (.code yX12_put_ cX12_put_ 7 (some (.int)) : Cond) ∈ TW := tw_in (tb_10 (List.mem_of_getElem? (i := 177) rfl)) (by decide +kernel)
theorem tw_2813 : (.constantLong "PatternWorkshopModel" 537 65535 : Cond) ∈ TW := tw_in (tb_10 (List.mem_of_getElem? (i := 178) rfl)) (by decide +kernel)
theorem tw_2990 : (.methodLink "PatternWorkshopLaw" 124 yX12_first : Cond) ∈ TW := tw_in (tb_11 (List.mem_of_getElem? (i := 115) rfl)) (by decide +kernel)
theorem tw_2991 : (.instanceMethod yX12_first : Cond) ∈ TW := tw_in (tb_11 (List.mem_of_getElem? (i := 116) rfl)) (by decide +kernel)
theorem tw_2992 : (.selects "PatternWorkshopModel" yX12_first yX12_first : Cond) ∈ TW := tw_in (tb_11 (List.mem_of_getElem? (i := 117) rfl)) (by decide +kernel)
theorem tw_2993 : (.code yX12_first cX12_first 12 (some (.int)) : Cond) ∈ TW := tw_in (tb_11 (List.mem_of_getElem? (i := 118) rfl)) (by decide +kernel)
theorem tw_3074 : (.constantLong "PatternWorkshopLaw" 25 4294967295 : Cond) ∈ TW := tw_in (tb_11 (List.mem_of_getElem? (i := 199) rfl)) (by decide +kernel)
theorem gw_X11_areThere : GoodIn TW (WS yX11_areThere cX11_areThere 3 (some (.boolean))) := goodC tw_1810
theorem gw_X11_byteOf : GoodIn TW (WS yX11_byteOf cX11_byteOf 3 (some (.int))) := goodC tw_861
theorem gw_X11_endSearchOver : GoodIn TW (WS yX11_endSearchOver cX11_endSearchOver 2 none) := goodC tw_1417
theorem gw_X11_feed : GoodIn TW (WS yX11_feed cX11_feed 5 (some (.int))) := goodC tw_858
theorem gw_X11_first : GoodIn TW (WS yX11_first cX11_first 7 (some (.int))) := goodC tw_1806
theorem gw_X11_isTapeSign : GoodIn TW (WS yX11_isTapeSign cX11_isTapeSign 1 (some (.boolean))) := goodC tw_864
theorem gw_X11_isTold : GoodIn TW (WS yX11_isTold cX11_isTold 2 (some (.boolean))) := goodC tw_1813
theorem gw_X11_put : GoodIn TW (WS yX11_put cX11_put 7 (some (.int))) := goodC tw_1410
theorem gw_X12_feed : GoodIn TW (WS yX12_feed cX12_feed 6 (some (.int))) := goodC tw_2573
theorem gw_X12_first : GoodIn TW (WS yX12_first cX12_first 12 (some (.int))) := goodC tw_2993
theorem gw_X12_put_ : GoodIn TW (WS yX12_put_ cX12_put_ 7 (some (.int))) := goodC tw_2812
theorem gw_X7_add : GoodIn TW (WS yX7_add cX7_add 2 none) := goodC tw_868
theorem sp_5 {x : Int32} (h0 : ¬ x < 0) (h1 : ¬ 5 ≤ x) : x = 0 ∨ x = 1 ∨ x = 2 ∨ x = 3 ∨ x = 4 := by
  have a : ¬ x.toInt < 0 := fun h => h0 (Int32.lt_iff_toInt_lt.mpr h)
  have b : ¬ (5 : Int) ≤ x.toInt := fun h => h1 (Int32.le_iff_toInt_le.mpr h)
  rcases (show x.toInt = 0 ∨ x.toInt = 1 ∨ x.toInt = 2 ∨ x.toInt = 3 ∨ x.toInt = 4 by omega) with h | h | h | h | h
  · exact (Or.inl (Int32.toInt_inj.mp h))
  · exact (Or.inr (Or.inl (Int32.toInt_inj.mp h)))
  · exact (Or.inr (Or.inr (Or.inl (Int32.toInt_inj.mp h))))
  · exact (Or.inr (Or.inr (Or.inr (Or.inl (Int32.toInt_inj.mp h)))))
  · exact (Or.inr (Or.inr (Or.inr (Or.inr (Int32.toInt_inj.mp h)))))
theorem dL_law_180 : decode cL_law 180 = .ok (.aload_n 1, 1) := by decide +kernel
theorem dL_law_181 : decode cL_law 181 = .ok (.aload_n 0, 1) := by decide +kernel
theorem dL_law_182 : decode cL_law 182 = .ok (.iload 4, 2) := by decide +kernel
theorem dL_law_184 : decode cL_law 184 = .ok (.iconst 1, 1) := by decide +kernel
theorem dL_law_185 : decode cL_law 185 = .ok (.iadd, 1) := by decide +kernel
theorem dL_law_186 : decode cL_law 186 = .ok (.iaload, 1) := by decide +kernel
theorem dL_law_187 : decode cL_law 187 = .ok (.aload_n 0, 1) := by decide +kernel
theorem dL_law_188 : decode cL_law 188 = .ok (.iload 4, 2) := by decide +kernel
theorem dL_law_190 : decode cL_law 190 = .ok (.iconst 2, 1) := by decide +kernel
theorem dL_law_191 : decode cL_law 191 = .ok (.iadd, 1) := by decide +kernel
theorem dL_law_192 : decode cL_law 192 = .ok (.iaload, 1) := by decide +kernel
theorem dL_law_193 : decode cL_law 193 = .ok (.i2l, 1) := by decide +kernel
theorem dL_law_194 : decode cL_law 194 = .ok (.bipush 32, 2) := by decide +kernel
theorem dL_law_196 : decode cL_law 196 = .ok (.lshl, 1) := by decide +kernel
theorem dL_law_197 : decode cL_law 197 = .ok (.aload_n 0, 1) := by decide +kernel
theorem dL_law_198 : decode cL_law 198 = .ok (.iload 4, 2) := by decide +kernel
theorem dL_law_200 : decode cL_law 200 = .ok (.iconst 3, 1) := by decide +kernel
theorem dL_law_201 : decode cL_law 201 = .ok (.iadd, 1) := by decide +kernel
theorem dL_law_202 : decode cL_law 202 = .ok (.iaload, 1) := by decide +kernel
theorem dL_law_203 : decode cL_law 203 = .ok (.i2l, 1) := by decide +kernel
theorem dL_law_204 : decode cL_law 204 = .ok (.ldc2_w 25, 3) := by decide +kernel
theorem dL_law_207 : decode cL_law 207 = .ok (.land, 1) := by decide +kernel
theorem dL_law_208 : decode cL_law 208 = .ok (.lor, 1) := by decide +kernel
theorem dL_law_209 : decode cL_law 209 = .ok (.invokevirtual 27, 3) := by decide +kernel
theorem dL_law_212 : decode cL_law 212 = .ok (.aload_n 2, 1) := by decide +kernel
theorem dL_law_213 : decode cL_law 213 = .ok (.aload_n 0, 1) := by decide +kernel
theorem dL_law_214 : decode cL_law 214 = .ok (.iload 4, 2) := by decide +kernel
theorem dL_law_216 : decode cL_law 216 = .ok (.iconst 1, 1) := by decide +kernel
theorem dL_law_217 : decode cL_law 217 = .ok (.iadd, 1) := by decide +kernel
theorem dL_law_218 : decode cL_law 218 = .ok (.iaload, 1) := by decide +kernel
theorem dL_law_219 : decode cL_law 219 = .ok (.aload_n 0, 1) := by decide +kernel
theorem dL_law_220 : decode cL_law 220 = .ok (.iload 4, 2) := by decide +kernel
theorem dL_law_222 : decode cL_law 222 = .ok (.iconst 2, 1) := by decide +kernel
theorem dL_law_223 : decode cL_law 223 = .ok (.iadd, 1) := by decide +kernel
theorem dL_law_224 : decode cL_law 224 = .ok (.iaload, 1) := by decide +kernel
theorem dL_law_225 : decode cL_law 225 = .ok (.i2l, 1) := by decide +kernel
theorem dL_law_226 : decode cL_law 226 = .ok (.bipush 32, 2) := by decide +kernel
theorem dL_law_228 : decode cL_law 228 = .ok (.lshl, 1) := by decide +kernel
theorem dL_law_229 : decode cL_law 229 = .ok (.aload_n 0, 1) := by decide +kernel
theorem dL_law_230 : decode cL_law 230 = .ok (.iload 4, 2) := by decide +kernel
theorem dL_law_232 : decode cL_law 232 = .ok (.iconst 3, 1) := by decide +kernel
theorem dL_law_233 : decode cL_law 233 = .ok (.iadd, 1) := by decide +kernel
theorem dL_law_234 : decode cL_law 234 = .ok (.iaload, 1) := by decide +kernel
theorem dL_law_235 : decode cL_law 235 = .ok (.i2l, 1) := by decide +kernel
theorem dL_law_236 : decode cL_law 236 = .ok (.ldc2_w 25, 3) := by decide +kernel
theorem dL_law_239 : decode cL_law 239 = .ok (.land, 1) := by decide +kernel
theorem dL_law_240 : decode cL_law 240 = .ok (.lor, 1) := by decide +kernel
theorem dL_law_241 : decode cL_law 241 = .ok (.invokevirtual 31, 3) := by decide +kernel
theorem dL_law_244 : decode cL_law 244 = .ok (.if_icmp .eq 1181, 3) := by decide +kernel
theorem dL_law_562 : decode cL_law 562 = .ok (.aload_n 1, 1) := by decide +kernel
theorem dL_law_563 : decode cL_law 563 = .ok (.aload_n 0, 1) := by decide +kernel
theorem dL_law_564 : decode cL_law 564 = .ok (.iload 4, 2) := by decide +kernel
theorem dL_law_566 : decode cL_law 566 = .ok (.iconst 1, 1) := by decide +kernel
theorem dL_law_567 : decode cL_law 567 = .ok (.iadd, 1) := by decide +kernel
theorem dL_law_568 : decode cL_law 568 = .ok (.iaload, 1) := by decide +kernel
theorem dL_law_569 : decode cL_law 569 = .ok (.aload_n 0, 1) := by decide +kernel
theorem dL_law_570 : decode cL_law 570 = .ok (.iload 4, 2) := by decide +kernel
theorem dL_law_572 : decode cL_law 572 = .ok (.iconst 2, 1) := by decide +kernel
theorem dL_law_573 : decode cL_law 573 = .ok (.iadd, 1) := by decide +kernel
theorem dL_law_574 : decode cL_law 574 = .ok (.iaload, 1) := by decide +kernel
theorem dL_law_575 : decode cL_law 575 = .ok (.aload_n 0, 1) := by decide +kernel
theorem dL_law_576 : decode cL_law 576 = .ok (.iload 4, 2) := by decide +kernel
theorem dL_law_578 : decode cL_law 578 = .ok (.iconst 3, 1) := by decide +kernel
theorem dL_law_579 : decode cL_law 579 = .ok (.iadd, 1) := by decide +kernel
theorem dL_law_580 : decode cL_law 580 = .ok (.iaload, 1) := by decide +kernel
theorem dL_law_581 : decode cL_law 581 = .ok (.i2l, 1) := by decide +kernel
theorem dL_law_582 : decode cL_law 582 = .ok (.bipush 32, 2) := by decide +kernel
theorem dL_law_584 : decode cL_law 584 = .ok (.lshl, 1) := by decide +kernel
theorem dL_law_585 : decode cL_law 585 = .ok (.aload_n 0, 1) := by decide +kernel
theorem dL_law_586 : decode cL_law 586 = .ok (.iload 4, 2) := by decide +kernel
theorem dL_law_588 : decode cL_law 588 = .ok (.iconst 4, 1) := by decide +kernel
theorem dL_law_589 : decode cL_law 589 = .ok (.iadd, 1) := by decide +kernel
theorem dL_law_590 : decode cL_law 590 = .ok (.iaload, 1) := by decide +kernel
theorem dL_law_591 : decode cL_law 591 = .ok (.i2l, 1) := by decide +kernel
theorem dL_law_592 : decode cL_law 592 = .ok (.ldc2_w 25, 3) := by decide +kernel
theorem dL_law_595 : decode cL_law 595 = .ok (.land, 1) := by decide +kernel
theorem dL_law_596 : decode cL_law 596 = .ok (.lor, 1) := by decide +kernel
theorem dL_law_597 : decode cL_law 597 = .ok (.invokevirtual 72, 3) := by decide +kernel
theorem dL_law_600 : decode cL_law 600 = .ok (.aload_n 2, 1) := by decide +kernel
theorem dL_law_601 : decode cL_law 601 = .ok (.aload_n 0, 1) := by decide +kernel
theorem dL_law_602 : decode cL_law 602 = .ok (.iload 4, 2) := by decide +kernel
theorem dL_law_604 : decode cL_law 604 = .ok (.iconst 1, 1) := by decide +kernel
theorem dL_law_605 : decode cL_law 605 = .ok (.iadd, 1) := by decide +kernel
theorem dL_law_606 : decode cL_law 606 = .ok (.iaload, 1) := by decide +kernel
theorem dL_law_607 : decode cL_law 607 = .ok (.aload_n 0, 1) := by decide +kernel
theorem dL_law_608 : decode cL_law 608 = .ok (.iload 4, 2) := by decide +kernel
theorem dL_law_610 : decode cL_law 610 = .ok (.iconst 2, 1) := by decide +kernel
theorem dL_law_611 : decode cL_law 611 = .ok (.iadd, 1) := by decide +kernel
theorem dL_law_612 : decode cL_law 612 = .ok (.iaload, 1) := by decide +kernel
theorem dL_law_613 : decode cL_law 613 = .ok (.aload_n 0, 1) := by decide +kernel
theorem dL_law_614 : decode cL_law 614 = .ok (.iload 4, 2) := by decide +kernel
theorem dL_law_616 : decode cL_law 616 = .ok (.iconst 3, 1) := by decide +kernel
theorem dL_law_617 : decode cL_law 617 = .ok (.iadd, 1) := by decide +kernel
theorem dL_law_618 : decode cL_law 618 = .ok (.iaload, 1) := by decide +kernel
theorem dL_law_619 : decode cL_law 619 = .ok (.i2l, 1) := by decide +kernel
theorem dL_law_620 : decode cL_law 620 = .ok (.bipush 32, 2) := by decide +kernel
theorem dL_law_622 : decode cL_law 622 = .ok (.lshl, 1) := by decide +kernel
theorem dL_law_623 : decode cL_law 623 = .ok (.aload_n 0, 1) := by decide +kernel
theorem dL_law_624 : decode cL_law 624 = .ok (.iload 4, 2) := by decide +kernel
theorem dL_law_626 : decode cL_law 626 = .ok (.iconst 4, 1) := by decide +kernel
theorem dL_law_627 : decode cL_law 627 = .ok (.iadd, 1) := by decide +kernel
theorem dL_law_628 : decode cL_law 628 = .ok (.iaload, 1) := by decide +kernel
theorem dL_law_629 : decode cL_law 629 = .ok (.i2l, 1) := by decide +kernel
theorem dL_law_630 : decode cL_law 630 = .ok (.ldc2_w 25, 3) := by decide +kernel
theorem dL_law_633 : decode cL_law 633 = .ok (.land, 1) := by decide +kernel
theorem dL_law_634 : decode cL_law 634 = .ok (.lor, 1) := by decide +kernel
theorem dL_law_635 : decode cL_law 635 = .ok (.invokevirtual 76, 3) := by decide +kernel
theorem dL_law_638 : decode cL_law 638 = .ok (.if_icmp .eq 787, 3) := by decide +kernel
theorem dL_law_1071 : decode cL_law 1071 = .ok (.aload_n 1, 1) := by decide +kernel
theorem dL_law_1072 : decode cL_law 1072 = .ok (.aload_n 0, 1) := by decide +kernel
theorem dL_law_1073 : decode cL_law 1073 = .ok (.iload 4, 2) := by decide +kernel
theorem dL_law_1075 : decode cL_law 1075 = .ok (.iconst 1, 1) := by decide +kernel
theorem dL_law_1076 : decode cL_law 1076 = .ok (.iadd, 1) := by decide +kernel
theorem dL_law_1077 : decode cL_law 1077 = .ok (.iaload, 1) := by decide +kernel
theorem dL_law_1078 : decode cL_law 1078 = .ok (.aload_n 0, 1) := by decide +kernel
theorem dL_law_1079 : decode cL_law 1079 = .ok (.iload 4, 2) := by decide +kernel
theorem dL_law_1081 : decode cL_law 1081 = .ok (.iconst 2, 1) := by decide +kernel
theorem dL_law_1082 : decode cL_law 1082 = .ok (.iadd, 1) := by decide +kernel
theorem dL_law_1083 : decode cL_law 1083 = .ok (.iaload, 1) := by decide +kernel
theorem dL_law_1084 : decode cL_law 1084 = .ok (.aload_n 0, 1) := by decide +kernel
theorem dL_law_1085 : decode cL_law 1085 = .ok (.iload 4, 2) := by decide +kernel
theorem dL_law_1087 : decode cL_law 1087 = .ok (.iconst 3, 1) := by decide +kernel
theorem dL_law_1088 : decode cL_law 1088 = .ok (.iadd, 1) := by decide +kernel
theorem dL_law_1089 : decode cL_law 1089 = .ok (.iaload, 1) := by decide +kernel
theorem dL_law_1090 : decode cL_law 1090 = .ok (.aload_n 0, 1) := by decide +kernel
theorem dL_law_1091 : decode cL_law 1091 = .ok (.iload 4, 2) := by decide +kernel
theorem dL_law_1093 : decode cL_law 1093 = .ok (.iconst 4, 1) := by decide +kernel
theorem dL_law_1094 : decode cL_law 1094 = .ok (.iadd, 1) := by decide +kernel
theorem dL_law_1095 : decode cL_law 1095 = .ok (.iaload, 1) := by decide +kernel
theorem dL_law_1096 : decode cL_law 1096 = .ok (.invokevirtual 120, 3) := by decide +kernel
theorem dL_law_1099 : decode cL_law 1099 = .ok (.aload_n 2, 1) := by decide +kernel
theorem dL_law_1100 : decode cL_law 1100 = .ok (.aload_n 0, 1) := by decide +kernel
theorem dL_law_1101 : decode cL_law 1101 = .ok (.iload 4, 2) := by decide +kernel
theorem dL_law_1103 : decode cL_law 1103 = .ok (.iconst 1, 1) := by decide +kernel
theorem dL_law_1104 : decode cL_law 1104 = .ok (.iadd, 1) := by decide +kernel
theorem dL_law_1105 : decode cL_law 1105 = .ok (.iaload, 1) := by decide +kernel
theorem dL_law_1106 : decode cL_law 1106 = .ok (.aload_n 0, 1) := by decide +kernel
theorem dL_law_1107 : decode cL_law 1107 = .ok (.iload 4, 2) := by decide +kernel
theorem dL_law_1109 : decode cL_law 1109 = .ok (.iconst 2, 1) := by decide +kernel
theorem dL_law_1110 : decode cL_law 1110 = .ok (.iadd, 1) := by decide +kernel
theorem dL_law_1111 : decode cL_law 1111 = .ok (.iaload, 1) := by decide +kernel
theorem dL_law_1112 : decode cL_law 1112 = .ok (.aload_n 0, 1) := by decide +kernel
theorem dL_law_1113 : decode cL_law 1113 = .ok (.iload 4, 2) := by decide +kernel
theorem dL_law_1115 : decode cL_law 1115 = .ok (.iconst 3, 1) := by decide +kernel
theorem dL_law_1116 : decode cL_law 1116 = .ok (.iadd, 1) := by decide +kernel
theorem dL_law_1117 : decode cL_law 1117 = .ok (.iaload, 1) := by decide +kernel
theorem dL_law_1118 : decode cL_law 1118 = .ok (.aload_n 0, 1) := by decide +kernel
theorem dL_law_1119 : decode cL_law 1119 = .ok (.iload 4, 2) := by decide +kernel
theorem dL_law_1121 : decode cL_law 1121 = .ok (.iconst 4, 1) := by decide +kernel
theorem dL_law_1122 : decode cL_law 1122 = .ok (.iadd, 1) := by decide +kernel
theorem dL_law_1123 : decode cL_law 1123 = .ok (.iaload, 1) := by decide +kernel
theorem dL_law_1124 : decode cL_law 1124 = .ok (.invokevirtual 124, 3) := by decide +kernel
theorem dL_law_1127 : decode cL_law 1127 = .ok (.if_icmp .eq 298, 3) := by decide +kernel
theorem dX11_areThere_0 : decode cX11_areThere 0 = .ok (.iconst 0, 1) := by decide +kernel
theorem dX11_areThere_1 : decode cX11_areThere 1 = .ok (.istore_n 2, 1) := by decide +kernel
theorem dX11_areThere_2 : decode cX11_areThere 2 = .ok (.iload_n 2, 1) := by decide +kernel
theorem dX11_areThere_3 : decode cX11_areThere 3 = .ok (.bipush 6, 2) := by decide +kernel
theorem dX11_areThere_5 : decode cX11_areThere 5 = .ok (.if_icmp .ge 27, 3) := by decide +kernel
theorem dX11_areThere_8 : decode cX11_areThere 8 = .ok (.iload_n 1, 1) := by decide +kernel
theorem dX11_areThere_9 : decode cX11_areThere 9 = .ok (.iload_n 2, 1) := by decide +kernel
theorem dX11_areThere_10 : decode cX11_areThere 10 = .ok (.invokestatic 361, 3) := by decide +kernel
theorem dX11_areThere_13 : decode cX11_areThere 13 = .ok (.ifCond .eq 13, 3) := by decide +kernel
theorem dX11_areThere_16 : decode cX11_areThere 16 = .ok (.aload_n 0, 1) := by decide +kernel
theorem dX11_areThere_17 : decode cX11_areThere 17 = .ok (.iload_n 2, 1) := by decide +kernel
theorem dX11_areThere_18 : decode cX11_areThere 18 = .ok (.invokevirtual 128, 3) := by decide +kernel
theorem dX11_areThere_21 : decode cX11_areThere 21 = .ok (.ifnonnull 5, 3) := by decide +kernel
theorem dX11_areThere_24 : decode cX11_areThere 24 = .ok (.iconst 0, 1) := by decide +kernel
theorem dX11_areThere_25 : decode cX11_areThere 25 = .ok (.ireturn, 1) := by decide +kernel
theorem dX11_areThere_26 : decode cX11_areThere 26 = .ok (.iinc 2 1, 3) := by decide +kernel
theorem dX11_areThere_29 : decode cX11_areThere 29 = .ok (.goto (-27), 3) := by decide +kernel
theorem dX11_byteOf_0 : decode cX11_byteOf 0 = .ok (.lload_n 0, 1) := by decide +kernel
theorem dX11_byteOf_1 : decode cX11_byteOf 1 = .ok (.bipush 8, 2) := by decide +kernel
theorem dX11_byteOf_3 : decode cX11_byteOf 3 = .ok (.iload_n 2, 1) := by decide +kernel
theorem dX11_byteOf_4 : decode cX11_byteOf 4 = .ok (.imul, 1) := by decide +kernel
theorem dX11_byteOf_5 : decode cX11_byteOf 5 = .ok (.lushr, 1) := by decide +kernel
theorem dX11_byteOf_6 : decode cX11_byteOf 6 = .ok (.l2i, 1) := by decide +kernel
theorem dX11_byteOf_7 : decode cX11_byteOf 7 = .ok (.sipush 255, 3) := by decide +kernel
theorem dX11_byteOf_10 : decode cX11_byteOf 10 = .ok (.iand, 1) := by decide +kernel
theorem dX11_byteOf_11 : decode cX11_byteOf 11 = .ok (.ireturn, 1) := by decide +kernel
theorem dX11_endSearchOver_0 : decode cX11_endSearchOver 0 = .ok (.aload_n 0, 1) := by decide +kernel
theorem dX11_endSearchOver_1 : decode cX11_endSearchOver 1 = .ok (.getfield 82, 3) := by decide +kernel
theorem dX11_endSearchOver_4 : decode cX11_endSearchOver 4 = .ok (.iload_n 1, 1) := by decide +kernel
theorem dX11_endSearchOver_5 : decode cX11_endSearchOver 5 = .ok (.if_icmp .ne 7, 3) := by decide +kernel
theorem dX11_endSearchOver_12 : decode cX11_endSearchOver 12 = .ok (.return_, 1) := by decide +kernel
theorem dX11_feed_0 : decode cX11_feed 0 = .ok (.iload_n 1, 1) := by decide +kernel
theorem dX11_feed_1 : decode cX11_feed 1 = .ok (.iconst 1, 1) := by decide +kernel
theorem dX11_feed_2 : decode cX11_feed 2 = .ok (.if_icmp .lt 9, 3) := by decide +kernel
theorem dX11_feed_5 : decode cX11_feed 5 = .ok (.iload_n 1, 1) := by decide +kernel
theorem dX11_feed_6 : decode cX11_feed 6 = .ok (.bipush 8, 2) := by decide +kernel
theorem dX11_feed_8 : decode cX11_feed 8 = .ok (.if_icmp .le 6, 3) := by decide +kernel
theorem dX11_feed_11 : decode cX11_feed 11 = .ok (.bipush (-4), 2) := by decide +kernel
theorem dX11_feed_13 : decode cX11_feed 13 = .ok (.ireturn, 1) := by decide +kernel
theorem dX11_feed_14 : decode cX11_feed 14 = .ok (.iconst 0, 1) := by decide +kernel
theorem dX11_feed_15 : decode cX11_feed 15 = .ok (.istore 4, 2) := by decide +kernel
theorem dX11_feed_17 : decode cX11_feed 17 = .ok (.iload 4, 2) := by decide +kernel
theorem dX11_feed_19 : decode cX11_feed 19 = .ok (.iload_n 1, 1) := by decide +kernel
theorem dX11_feed_20 : decode cX11_feed 20 = .ok (.if_icmp .ge 24, 3) := by decide +kernel
theorem dX11_feed_23 : decode cX11_feed 23 = .ok (.lload_n 2, 1) := by decide +kernel
theorem dX11_feed_24 : decode cX11_feed 24 = .ok (.iload 4, 2) := by decide +kernel
theorem dX11_feed_26 : decode cX11_feed 26 = .ok (.invokestatic 88, 3) := by decide +kernel
theorem dX11_feed_29 : decode cX11_feed 29 = .ok (.invokestatic 92, 3) := by decide +kernel
theorem dX11_feed_32 : decode cX11_feed 32 = .ok (.ifCond .ne 6, 3) := by decide +kernel
theorem dX11_feed_35 : decode cX11_feed 35 = .ok (.bipush (-4), 2) := by decide +kernel
theorem dX11_feed_37 : decode cX11_feed 37 = .ok (.ireturn, 1) := by decide +kernel
theorem dX11_feed_38 : decode cX11_feed 38 = .ok (.iinc 4 1, 3) := by decide +kernel
theorem dX11_feed_41 : decode cX11_feed 41 = .ok (.goto (-24), 3) := by decide +kernel
theorem dX11_feed_44 : decode cX11_feed 44 = .ok (.aload_n 0, 1) := by decide +kernel
theorem dX11_feed_45 : decode cX11_feed 45 = .ok (.getfield 14, 3) := by decide +kernel
theorem dX11_feed_48 : decode cX11_feed 48 = .ok (.getfield 96, 3) := by decide +kernel
theorem dX11_feed_51 : decode cX11_feed 51 = .ok (.iload_n 1, 1) := by decide +kernel
theorem dX11_feed_52 : decode cX11_feed 52 = .ok (.iadd, 1) := by decide +kernel
theorem dX11_feed_53 : decode cX11_feed 53 = .ok (.sipush 200, 3) := by decide +kernel
theorem dX11_feed_56 : decode cX11_feed 56 = .ok (.if_icmp .le 6, 3) := by decide +kernel
theorem dX11_feed_62 : decode cX11_feed 62 = .ok (.iload_n 1, 1) := by decide +kernel
theorem dX11_feed_63 : decode cX11_feed 63 = .ok (.iconst 1, 1) := by decide +kernel
theorem dX11_feed_64 : decode cX11_feed 64 = .ok (.isub, 1) := by decide +kernel
theorem dX11_feed_65 : decode cX11_feed 65 = .ok (.istore 4, 2) := by decide +kernel
theorem dX11_feed_67 : decode cX11_feed 67 = .ok (.iload 4, 2) := by decide +kernel
theorem dX11_feed_69 : decode cX11_feed 69 = .ok (.ifCond .lt 22, 3) := by decide +kernel
theorem dX11_feed_72 : decode cX11_feed 72 = .ok (.aload_n 0, 1) := by decide +kernel
theorem dX11_feed_73 : decode cX11_feed 73 = .ok (.getfield 14, 3) := by decide +kernel
theorem dX11_feed_76 : decode cX11_feed 76 = .ok (.lload_n 2, 1) := by decide +kernel
theorem dX11_feed_77 : decode cX11_feed 77 = .ok (.iload 4, 2) := by decide +kernel
theorem dX11_feed_79 : decode cX11_feed 79 = .ok (.invokestatic 88, 3) := by decide +kernel
theorem dX11_feed_82 : decode cX11_feed 82 = .ok (.invokevirtual 99, 3) := by decide +kernel
theorem dX11_feed_85 : decode cX11_feed 85 = .ok (.iinc 4 (-1), 3) := by decide +kernel
theorem dX11_feed_88 : decode cX11_feed 88 = .ok (.goto (-21), 3) := by decide +kernel
theorem dX11_feed_91 : decode cX11_feed 91 = .ok (.aload_n 0, 1) := by decide +kernel
theorem dX11_feed_92 : decode cX11_feed 92 = .ok (.getfield 14, 3) := by decide +kernel
theorem dX11_feed_95 : decode cX11_feed 95 = .ok (.getfield 96, 3) := by decide +kernel
theorem dX11_feed_98 : decode cX11_feed 98 = .ok (.ireturn, 1) := by decide +kernel
theorem dX11_first_0 : decode cX11_first 0 = .ok (.iload_n 1, 1) := by decide +kernel
theorem dX11_first_1 : decode cX11_first 1 = .ok (.iconst 1, 1) := by decide +kernel
theorem dX11_first_2 : decode cX11_first 2 = .ok (.if_icmp .lt 17, 3) := by decide +kernel
theorem dX11_first_5 : decode cX11_first 5 = .ok (.iload_n 1, 1) := by decide +kernel
theorem dX11_first_6 : decode cX11_first 6 = .ok (.bipush 64, 2) := by decide +kernel
theorem dX11_first_8 : decode cX11_first 8 = .ok (.if_icmp .ge 11, 3) := by decide +kernel
theorem dX11_first_11 : decode cX11_first 11 = .ok (.aload_n 0, 1) := by decide +kernel
theorem dX11_first_12 : decode cX11_first 12 = .ok (.iload_n 1, 1) := by decide +kernel
theorem dX11_first_13 : decode cX11_first 13 = .ok (.invokevirtual 273, 3) := by decide +kernel
theorem dX11_first_16 : decode cX11_first 16 = .ok (.ifCond .ne 6, 3) := by decide +kernel
theorem dX11_first_19 : decode cX11_first 19 = .ok (.bipush (-2), 2) := by decide +kernel
theorem dX11_first_21 : decode cX11_first 21 = .ok (.ireturn, 1) := by decide +kernel
theorem dX11_isTapeSign_0 : decode cX11_isTapeSign 0 = .ok (.iload_n 0, 1) := by decide +kernel
theorem dX11_isTapeSign_1 : decode cX11_isTapeSign 1 = .ok (.bipush 32, 2) := by decide +kernel
theorem dX11_isTapeSign_3 : decode cX11_isTapeSign 3 = .ok (.if_icmp .lt 13, 3) := by decide +kernel
theorem dX11_isTapeSign_6 : decode cX11_isTapeSign 6 = .ok (.iload_n 0, 1) := by decide +kernel
theorem dX11_isTapeSign_7 : decode cX11_isTapeSign 7 = .ok (.bipush 126, 2) := by decide +kernel
theorem dX11_isTapeSign_9 : decode cX11_isTapeSign 9 = .ok (.if_icmp .gt 7, 3) := by decide +kernel
theorem dX11_isTapeSign_12 : decode cX11_isTapeSign 12 = .ok (.iconst 1, 1) := by decide +kernel
theorem dX11_isTapeSign_13 : decode cX11_isTapeSign 13 = .ok (.goto 4, 3) := by decide +kernel
theorem dX11_isTapeSign_16 : decode cX11_isTapeSign 16 = .ok (.iconst 0, 1) := by decide +kernel
theorem dX11_isTapeSign_17 : decode cX11_isTapeSign 17 = .ok (.ireturn, 1) := by decide +kernel
theorem dX11_isTold_0 : decode cX11_isTold 0 = .ok (.iload_n 0, 1) := by decide +kernel
theorem dX11_isTold_1 : decode cX11_isTold 1 = .ok (.iload_n 1, 1) := by decide +kernel
theorem dX11_isTold_2 : decode cX11_isTold 2 = .ok (.ishr, 1) := by decide +kernel
theorem dX11_isTold_3 : decode cX11_isTold 3 = .ok (.iconst 1, 1) := by decide +kernel
theorem dX11_isTold_4 : decode cX11_isTold 4 = .ok (.iand, 1) := by decide +kernel
theorem dX11_isTold_5 : decode cX11_isTold 5 = .ok (.iconst 1, 1) := by decide +kernel
theorem dX11_isTold_6 : decode cX11_isTold 6 = .ok (.if_icmp .ne 7, 3) := by decide +kernel
theorem dX11_isTold_9 : decode cX11_isTold 9 = .ok (.iconst 1, 1) := by decide +kernel
theorem dX11_isTold_10 : decode cX11_isTold 10 = .ok (.goto 4, 3) := by decide +kernel
theorem dX11_isTold_13 : decode cX11_isTold 13 = .ok (.iconst 0, 1) := by decide +kernel
theorem dX11_isTold_14 : decode cX11_isTold 14 = .ok (.ireturn, 1) := by decide +kernel
theorem dX11_put_0 : decode cX11_put 0 = .ok (.iload_n 1, 1) := by decide +kernel
theorem dX11_put_1 : decode cX11_put 1 = .ok (.invokestatic 202, 3) := by decide +kernel
theorem dX11_put_4 : decode cX11_put 4 = .ok (.ifCond .ne 6, 3) := by decide +kernel
theorem dX11_put_7 : decode cX11_put 7 = .ok (.bipush (-2), 2) := by decide +kernel
theorem dX11_put_9 : decode cX11_put 9 = .ok (.ireturn, 1) := by decide +kernel
theorem dX11_put_10 : decode cX11_put 10 = .ok (.iload_n 2, 1) := by decide +kernel
theorem dX11_put_11 : decode cX11_put 11 = .ok (.ifCond .lt 8, 3) := by decide +kernel
theorem dX11_put_14 : decode cX11_put 14 = .ok (.iload_n 2, 1) := by decide +kernel
theorem dX11_put_15 : decode cX11_put 15 = .ok (.iconst 4, 1) := by decide +kernel
theorem dX11_put_16 : decode cX11_put 16 = .ok (.if_icmp .le 6, 3) := by decide +kernel
theorem dX11_put_19 : decode cX11_put 19 = .ok (.bipush (-4), 2) := by decide +kernel
theorem dX11_put_21 : decode cX11_put 21 = .ok (.ireturn, 1) := by decide +kernel
theorem dX11_put_22 : decode cX11_put 22 = .ok (.aload_n 0, 1) := by decide +kernel
theorem dX11_put_23 : decode cX11_put 23 = .ok (.getfield 24, 3) := by decide +kernel
theorem dX11_put_26 : decode cX11_put 26 = .ok (.iload_n 1, 1) := by decide +kernel
theorem dX11_put_27 : decode cX11_put 27 = .ok (.aaload, 1) := by decide +kernel
theorem dX11_put_28 : decode cX11_put 28 = .ok (.astore 5, 2) := by decide +kernel
theorem dX11_put_30 : decode cX11_put 30 = .ok (.aload 5, 2) := by decide +kernel
theorem dX11_put_32 : decode cX11_put 32 = .ok (.getfield 96, 3) := by decide +kernel
theorem dX11_put_35 : decode cX11_put 35 = .ok (.iload_n 2, 1) := by decide +kernel
theorem dX11_put_36 : decode cX11_put 36 = .ok (.iadd, 1) := by decide +kernel
theorem dX11_put_37 : decode cX11_put 37 = .ok (.bipush 100, 2) := by decide +kernel
theorem dX11_put_39 : decode cX11_put 39 = .ok (.if_icmp .le 6, 3) := by decide +kernel
theorem dX11_put_45 : decode cX11_put 45 = .ok (.iload_n 2, 1) := by decide +kernel
theorem dX11_put_46 : decode cX11_put 46 = .ok (.iconst 1, 1) := by decide +kernel
theorem dX11_put_47 : decode cX11_put 47 = .ok (.isub, 1) := by decide +kernel
theorem dX11_put_48 : decode cX11_put 48 = .ok (.istore 6, 2) := by decide +kernel
theorem dX11_put_50 : decode cX11_put 50 = .ok (.iload 6, 2) := by decide +kernel
theorem dX11_put_52 : decode cX11_put 52 = .ok (.ifCond .lt 25, 3) := by decide +kernel
theorem dX11_put_55 : decode cX11_put 55 = .ok (.aload 5, 2) := by decide +kernel
theorem dX11_put_57 : decode cX11_put 57 = .ok (.lload_n 3, 1) := by decide +kernel
theorem dX11_put_58 : decode cX11_put 58 = .ok (.bipush 16, 2) := by decide +kernel
theorem dX11_put_60 : decode cX11_put 60 = .ok (.iload 6, 2) := by decide +kernel
theorem dX11_put_62 : decode cX11_put 62 = .ok (.imul, 1) := by decide +kernel
theorem dX11_put_63 : decode cX11_put 63 = .ok (.lushr, 1) := by decide +kernel
theorem dX11_put_64 : decode cX11_put 64 = .ok (.l2i, 1) := by decide +kernel
theorem dX11_put_65 : decode cX11_put 65 = .ok (.ldc 178, 2) := by decide +kernel
theorem dX11_put_67 : decode cX11_put 67 = .ok (.iand, 1) := by decide +kernel
theorem dX11_put_68 : decode cX11_put 68 = .ok (.invokevirtual 99, 3) := by decide +kernel
theorem dX11_put_71 : decode cX11_put 71 = .ok (.iinc 6 (-1), 3) := by decide +kernel
theorem dX11_put_74 : decode cX11_put 74 = .ok (.goto (-24), 3) := by decide +kernel
theorem dX11_put_77 : decode cX11_put 77 = .ok (.aload 5, 2) := by decide +kernel
theorem dX11_put_79 : decode cX11_put 79 = .ok (.iconst 1, 1) := by decide +kernel
theorem dX11_put_80 : decode cX11_put 80 = .ok (.putfield 205, 3) := by decide +kernel
theorem dX11_put_83 : decode cX11_put 83 = .ok (.aload_n 0, 1) := by decide +kernel
theorem dX11_put_84 : decode cX11_put 84 = .ok (.iload_n 1, 1) := by decide +kernel
theorem dX11_put_85 : decode cX11_put 85 = .ok (.invokevirtual 206, 3) := by decide +kernel
theorem dX11_put_88 : decode cX11_put 88 = .ok (.aload 5, 2) := by decide +kernel
theorem dX11_put_90 : decode cX11_put 90 = .ok (.getfield 96, 3) := by decide +kernel
theorem dX11_put_93 : decode cX11_put 93 = .ok (.ireturn, 1) := by decide +kernel
theorem dX12_feed_0 : decode cX12_feed 0 = .ok (.aload_n 0, 1) := by decide +kernel
theorem dX12_feed_1 : decode cX12_feed 1 = .ok (.iconst 0, 1) := by decide +kernel
theorem dX12_feed_2 : decode cX12_feed 2 = .ok (.putfield 1, 3) := by decide +kernel
theorem dX12_feed_5 : decode cX12_feed 5 = .ok (.iload_n 1, 1) := by decide +kernel
theorem dX12_feed_6 : decode cX12_feed 6 = .ok (.iconst 1, 1) := by decide +kernel
theorem dX12_feed_7 : decode cX12_feed 7 = .ok (.bipush 8, 2) := by decide +kernel
theorem dX12_feed_9 : decode cX12_feed 9 = .ok (.invokestatic 7, 3) := by decide +kernel
theorem dX12_feed_12 : decode cX12_feed 12 = .ok (.istore 4, 2) := by decide +kernel
theorem dX12_feed_14 : decode cX12_feed 14 = .ok (.iconst 0, 1) := by decide +kernel
theorem dX12_feed_15 : decode cX12_feed 15 = .ok (.istore 5, 2) := by decide +kernel
theorem dX12_feed_17 : decode cX12_feed 17 = .ok (.iload 5, 2) := by decide +kernel
theorem dX12_feed_19 : decode cX12_feed 19 = .ok (.iload_n 1, 1) := by decide +kernel
theorem dX12_feed_20 : decode cX12_feed 20 = .ok (.if_icmp .ge 35, 3) := by decide +kernel
theorem dX12_feed_23 : decode cX12_feed 23 = .ok (.iload 4, 2) := by decide +kernel
theorem dX12_feed_25 : decode cX12_feed 25 = .ok (.ifCond .eq 30, 3) := by decide +kernel
theorem dX12_feed_28 : decode cX12_feed 28 = .ok (.lload_n 2, 1) := by decide +kernel
theorem dX12_feed_29 : decode cX12_feed 29 = .ok (.bipush 8, 2) := by decide +kernel
theorem dX12_feed_31 : decode cX12_feed 31 = .ok (.iload 5, 2) := by decide +kernel
theorem dX12_feed_33 : decode cX12_feed 33 = .ok (.imul, 1) := by decide +kernel
theorem dX12_feed_34 : decode cX12_feed 34 = .ok (.lshr, 1) := by decide +kernel
theorem dX12_feed_35 : decode cX12_feed 35 = .ok (.ldc2_w 441, 3) := by decide +kernel
theorem dX12_feed_38 : decode cX12_feed 38 = .ok (.land, 1) := by decide +kernel
theorem dX12_feed_39 : decode cX12_feed 39 = .ok (.l2i, 1) := by decide +kernel
theorem dX12_feed_40 : decode cX12_feed 40 = .ok (.bipush 32, 2) := by decide +kernel
theorem dX12_feed_42 : decode cX12_feed 42 = .ok (.bipush 126, 2) := by decide +kernel
theorem dX12_feed_44 : decode cX12_feed 44 = .ok (.invokestatic 7, 3) := by decide +kernel
theorem dX12_feed_47 : decode cX12_feed 47 = .ok (.istore 4, 2) := by decide +kernel
theorem dX12_feed_49 : decode cX12_feed 49 = .ok (.iinc 5 1, 3) := by decide +kernel
theorem dX12_feed_52 : decode cX12_feed 52 = .ok (.goto (-35), 3) := by decide +kernel
theorem dX12_feed_55 : decode cX12_feed 55 = .ok (.iload 4, 2) := by decide +kernel
theorem dX12_feed_57 : decode cX12_feed 57 = .ok (.ifCond .ne 6, 3) := by decide +kernel
theorem dX12_feed_60 : decode cX12_feed 60 = .ok (.bipush (-4), 2) := by decide +kernel
theorem dX12_feed_62 : decode cX12_feed 62 = .ok (.ireturn, 1) := by decide +kernel
theorem dX12_feed_63 : decode cX12_feed 63 = .ok (.aload_n 0, 1) := by decide +kernel
theorem dX12_feed_64 : decode cX12_feed 64 = .ok (.getfield 317, 3) := by decide +kernel
theorem dX12_feed_67 : decode cX12_feed 67 = .ok (.iload_n 1, 1) := by decide +kernel
theorem dX12_feed_68 : decode cX12_feed 68 = .ok (.iadd, 1) := by decide +kernel
theorem dX12_feed_69 : decode cX12_feed 69 = .ok (.sipush 200, 3) := by decide +kernel
theorem dX12_feed_72 : decode cX12_feed 72 = .ok (.if_icmp .le 6, 3) := by decide +kernel
theorem dX12_feed_78 : decode cX12_feed 78 = .ok (.iload_n 1, 1) := by decide +kernel
theorem dX12_feed_79 : decode cX12_feed 79 = .ok (.iconst 1, 1) := by decide +kernel
theorem dX12_feed_80 : decode cX12_feed 80 = .ok (.isub, 1) := by decide +kernel
theorem dX12_feed_81 : decode cX12_feed 81 = .ok (.istore 5, 2) := by decide +kernel
theorem dX12_feed_83 : decode cX12_feed 83 = .ok (.iload 5, 2) := by decide +kernel
theorem dX12_feed_85 : decode cX12_feed 85 = .ok (.ifCond .lt 40, 3) := by decide +kernel
theorem dX12_feed_88 : decode cX12_feed 88 = .ok (.aload_n 0, 1) := by decide +kernel
theorem dX12_feed_89 : decode cX12_feed 89 = .ok (.getfield 24, 3) := by decide +kernel
