abbrev cX11_pattern : ByteArray := prog_1_method_3_code
def yX11_pattern : MethodName := ⟨RX11, "pattern", "(I)I"⟩
theorem tw_872 : (.code yX11_pattern cX11_pattern 3 (some (.int)) : Cond) ∈ TW := tw_in (tb_2 (List.mem_of_getElem? (i := 157) rfl)) (by decide +kernel)
theorem gw_X11_pattern : GoodIn TW (WS yX11_pattern cX11_pattern 3 (some (.int))) := goodC tw_872
