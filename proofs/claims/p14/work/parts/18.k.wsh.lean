def WSH (y : MethodName) (b : ByteArray) (n : Nat) (r : Option FieldType) (hh : List (Nat × Nat × Nat × Nat)) : List Cond := .codeWith y b n r hh :: TW
theorem goodH {y : MethodName} {b : ByteArray} {n : Nat} {r : Option FieldType} {hh : List (Nat × Nat × Nat × Nat)} (h : Cond.codeWith y b n r hh ∈ TW) : GoodIn TW (WSH y b n r hh) := fun w hw => (List.mem_cons.mp hw).elim (fun e => by rw [e]; exact tw_good h) (fun h => tw_good h)
theorem gh_L_sign : GoodIn TW (WSH yL_sign cL_sign 5 (some (.int)) [(0, 10, 13, 13), (0, 10, 17, 15)]) := goodH (tw_in (tb_7 (List.mem_of_getElem? (i := 77) rfl)) (by decide +kernel))
theorem gh_L_out : GoodIn TW (WSH yL_out cL_out 4 (some (.int)) [(0, 9, 12, 15)]) := goodH (tw_in (tb_7 (List.mem_of_getElem? (i := 205) rfl)) (by decide +kernel))
