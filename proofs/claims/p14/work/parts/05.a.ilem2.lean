theorem i_01c {x : Int32} {a : Int} (hx : x.toInt = a) (h1 : 0 ≤ a) (h2 : a ≤ 1) : x = 0 ∨ x = 1 := i_01 (by omega) (by omega)
theorem i_and01 {r x y : Int32} {a b : Int} (h : r = x &&& y) (hx : x.toInt = a) (hy : y.toInt = b) (h1 : 0 ≤ a) (h2 : a ≤ 1) (h3 : 0 ≤ b) (h4 : b ≤ 1) : 0 ≤ r.toInt ∧ r.toInt ≤ 1 := by
  rcases i_01c hx h1 h2 with q | q <;> rcases i_01c hy h3 h4 with z | z <;> subst q <;> subst z <;> subst h <;> decide
theorem i_or01 {r x y : Int32} {a b : Int} (h : r = x ||| y) (hx : x.toInt = a) (hy : y.toInt = b) (h1 : 0 ≤ a) (h2 : a ≤ 1) (h3 : 0 ≤ b) (h4 : b ≤ 1) : 0 ≤ r.toInt ∧ r.toInt ≤ 1 := by
  rcases i_01c hx h1 h2 with q | q <;> rcases i_01c hy h3 h4 with z | z <;> subst q <;> subst z <;> subst h <;> decide
theorem i_xor01 {r x y : Int32} {a b : Int} (h : r = x ^^^ y) (hx : x.toInt = a) (hy : y.toInt = b) (h1 : 0 ≤ a) (h2 : a ≤ 1) (h3 : 0 ≤ b) (h4 : b ≤ 1) : 0 ≤ r.toInt ∧ r.toInt ≤ 1 := by
  rcases i_01c hx h1 h2 with q | q <;> rcases i_01c hy h3 h4 with z | z <;> subst q <;> subst z <;> subst h <;> decide
