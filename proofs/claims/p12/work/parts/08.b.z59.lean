theorem zZ_r {so va le mo ho pa en fp pb pe : Nat → Int32} {b q n c : Int} (h : zSl so va le mo ho pa en fp pb pe b q n c) : (fun c => zg en (b + c) - c) 0 ≤ 220 := by
  have n1 := h.1
  have n2 := h.2.1
  obtain ⟨_, ⟨f1, f2⟩, _⟩ := zNf h (Int.le_refl 0) (by omega)
  show zg en (b + 0) - 0 ≤ 220; omega
