def txk : Cond → Bool
  | .castable _ _ => true
  | .declares _ => true
  | w => goodWord w
theorem txk_warm {w : Cond} (hk : txk w = true) {s U : State} (hW : s.WarmedH U.vm) (h : va_Nw w s) : va_Nw w U := by
  cases w <;> first | exact va_Nw.warmC hW h | exact va_Nw.warmD hW h | exact word_at hW (good_of_word hk) h
def TXL : List Cond := (Bundle.npeArmAtoms 8).filter vx_no ++ vx_at0 "PatternWorkshop" 218 "java/lang/ArrayIndexOutOfBoundsException" ["java/lang/IndexOutOfBoundsException", "java/lang/RuntimeException", "java/lang/Exception"]
theorem TXL_k : ∀ w ∈ TXL, txk w = true := by decide +kernel
theorem TXL_in : ∀ w ∈ TXL, w ∈ lw_tbl := by decide +kernel
theorem TXL_o : ∀ w ∈ TXL, w.onTables = true := by decide +kernel
def TX (U : State) : Prop := (∀ w ∈ TXL, va_Nw w U) ∧ va_Nw (.castable "java/lang/ArrayIndexOutOfBoundsException" "java/lang/ArrayIndexOutOfBoundsException") U ∧ va_Nw (.castable "java/lang/NullPointerException" "java/lang/NullPointerException") U ∧ va_Nc "java/lang/ArrayIndexOutOfBoundsException" "java/lang/NullPointerException" U
theorem TX.warm {s U : State} (h : TX s) (hW : s.WarmedH U.vm) : TX U := ⟨fun w hw => txk_warm (TXL_k w hw) hW (h.1 w hw), va_Nw.warmC hW h.2.1, va_Nw.warmC hW h.2.2.1, va_Nc.moved hW.alike h.2.2.2⟩
theorem TX.calling {U : State} {g : JFrame} {mk : MethodId} {a : Array Value} (h : TX U) : TX (U.calling g mk a) := h.warm (U := U.calling g mk a) (State.WarmedH.refl U)
theorem TX.of {A : Array Value} {s : State} (hts : ∀ w ∈ lw_tbl, w.before A s = true) (hn : va_Nc "java/lang/ArrayIndexOutOfBoundsException" "java/lang/NullPointerException" s) : TX s := ⟨fun w hw => va_Nw.of (TXL_o w hw) (hts w (TXL_in w hw)), va_Nw.of rfl (hts _ (tb_7 (List.mem_of_getElem? (i := 179) rfl))), va_Nw.of rfl (hts _ (tb_7 (List.mem_of_getElem? (i := 140) rfl))), hn⟩
