def RL : String := "PatternWorkshopLaw"
def txk : Cond → Bool
  | .castable _ _ => true
  | .declares _ => true
  | w => goodWord w
theorem txk_warm {w : Cond} (hk : txk w = true) {s U : State} (hW : s.WarmedH U.vm) (h : va_Nw w s) : va_Nw w U := by
  cases w <;> first | exact va_Nw.warmC hW h | exact va_Nw.warmD hW h | exact word_at hW (good_of_word hk) h
def TXL : List Cond := (Bundle.npeArmAtoms 8).filter vx_no ++ vx_at0 "PatternWorkshop" 218 "java/lang/ArrayIndexOutOfBoundsException" ["java/lang/IndexOutOfBoundsException", "java/lang/RuntimeException", "java/lang/Exception"]
theorem TXL_k : ∀ w ∈ TXL, txk w = true := by decide +kernel
theorem tbl_of {ws : List Cond} (ps : List Nat) (hp : ws = ps.filterMap (fun i => lw_tbl[i]?)) : ∀ w ∈ ws, w ∈ lw_tbl := by
  intro w hw
  rw [hp] at hw
  obtain ⟨i, -, hi⟩ := List.mem_filterMap.mp hw
  exact List.mem_of_getElem? hi
theorem TXL_in : ∀ w ∈ TXL, w ∈ lw_tbl := tbl_of [251, 2069, 2012, 2025, 2028, 2030, 2004, 2005, 265, 266, 2006, 2011, 2026, 2035, 2063, 2036, 2064, 2037, 2065, 2007, 2009, 2066, 2054, 2016, 2017, 2031, 2038, 2022, 2023, 2070, 1995, 1996, 1997, 1998, 2056, 1998, 1999, 2000, 2001, 2058, 2001, 2002, 2003, 2004, 2060, 254, 1994, 2055, 2062, 2015, 2046, 2048, 2052, 2033, 2067, 2042, 251, 2069, 2012, 2025, 2028, 2030, 2004, 2005, 265, 266, 2006, 2011, 2026, 2035, 2063, 2036, 2064, 2037, 2065, 2007, 2009, 2066, 2110, 2111, 2112, 2113, 2095, 2113, 2114, 2115, 1998, 2056, 1998, 1999, 2000, 2001, 2058, 2001, 2002, 2003, 2004, 2060, 2109, 2072, 2094, 2097, 2014, 2089, 2090, 2092, 2088, 2033, 2067, 2087] (by decide +kernel)
theorem TXL_o : ∀ w ∈ TXL, w.onTables = true := by decide +kernel
def TX (U : State) : Prop := (∀ w ∈ TXL, va_Nw w U) ∧ va_Nw (.castable "java/lang/ArrayIndexOutOfBoundsException" "java/lang/ArrayIndexOutOfBoundsException") U ∧ va_Nw (.castable "java/lang/NullPointerException" "java/lang/NullPointerException") U ∧ va_Nc "java/lang/ArrayIndexOutOfBoundsException" "java/lang/NullPointerException" U
theorem TX.warm {s U : State} (h : TX s) (hW : s.WarmedH U.vm) : TX U := ⟨fun w hw => txk_warm (TXL_k w hw) hW (h.1 w hw), va_Nw.warmC hW h.2.1, va_Nw.warmC hW h.2.2.1, va_Nc.moved hW.alike h.2.2.2⟩
theorem TX.calling {U : State} {g : JFrame} {mk : MethodId} {a : Array Value} (h : TX U) : TX (U.calling g mk a) := h.warm (U := U.calling g mk a) (State.WarmedH.refl U)
theorem TX.of {A : Array Value} {s : State} (hts : ∀ w ∈ lw_tbl, w.before A s = true) (hn : va_Nc "java/lang/ArrayIndexOutOfBoundsException" "java/lang/NullPointerException" s) : TX s := ⟨fun w hw => va_Nw.of (TXL_o w hw) (hts w (TXL_in w hw)), va_Nw.of rfl (hts _ (tb_7 (List.mem_of_getElem? (i := 179) rfl))), va_Nw.of rfl (hts _ (tb_7 (List.mem_of_getElem? (i := 140) rfl))), hn⟩
