abbrev cX11_all : ByteArray := prog_1_method_20_code
def yX11_all : MethodName := ⟨RX11, "all", "(III)I"⟩
abbrev cX11_find : ByteArray := prog_1_method_15_code
def yX11_find : MethodName := ⟨RX11, "find", "(IIIII)I"⟩
abbrev cX11_first : ByteArray := prog_1_method_22_code
def yX11_first : MethodName := ⟨RX11, "first", "(IIII)I"⟩
abbrev cX11_goOn : ByteArray := prog_1_method_16_code
def yX11_goOn : MethodName := ⟨RX11, "goOn", "(I)I"⟩
abbrev cX11_replace : ByteArray := prog_1_method_21_code
def yX11_replace : MethodName := ⟨RX11, "replace", "(III)I"⟩
abbrev cX11_whole : ByteArray := prog_1_method_19_code
def yX11_whole : MethodName := ⟨RX11, "whole", "(III)I"⟩
theorem tw_1433 : (.code yX11_find cX11_find 10 (some (.int)) : Cond) ∈ TW := tw_in (tb_4 (List.mem_of_getElem? (i := 238) rfl)) (by decide +kernel)
theorem tw_1758 : (.code yX11_goOn cX11_goOn 3 (some (.int)) : Cond) ∈ TW := tw_in (tb_6 (List.mem_of_getElem? (i := 83) rfl)) (by decide +kernel)
theorem tw_1779 : (.code yX11_whole cX11_whole 7 (some (.int)) : Cond) ∈ TW := tw_in (tb_6 (List.mem_of_getElem? (i := 104) rfl)) (by decide +kernel)
theorem tw_1783 : (.code yX11_all cX11_all 8 (some (.int)) : Cond) ∈ TW := tw_in (tb_6 (List.mem_of_getElem? (i := 108) rfl)) (by decide +kernel)
theorem tw_1798 : (.code yX11_replace cX11_replace 7 (some (.int)) : Cond) ∈ TW := tw_in (tb_6 (List.mem_of_getElem? (i := 123) rfl)) (by decide +kernel)
theorem tw_1806 : (.code yX11_first cX11_first 7 (some (.int)) : Cond) ∈ TW := tw_in (tb_6 (List.mem_of_getElem? (i := 131) rfl)) (by decide +kernel)
theorem gw_X11_all : GoodIn TW (WS yX11_all cX11_all 8 (some (.int))) := goodC tw_1783
theorem gw_X11_find : GoodIn TW (WS yX11_find cX11_find 10 (some (.int))) := goodC tw_1433
theorem gw_X11_first : GoodIn TW (WS yX11_first cX11_first 7 (some (.int))) := goodC tw_1806
theorem gw_X11_goOn : GoodIn TW (WS yX11_goOn cX11_goOn 3 (some (.int))) := goodC tw_1758
theorem gw_X11_replace : GoodIn TW (WS yX11_replace cX11_replace 7 (some (.int))) := goodC tw_1798
theorem gw_X11_whole : GoodIn TW (WS yX11_whole cX11_whole 7 (some (.int))) := goodC tw_1779
