def zBq (rg va : Nat → Int32) (g l : Int) : Prop := (0 ≤ zg va g ∧ zg va g ≤ 9) ∧ (-1 ≤ zg rg (zg va g) ∧ zg rg (zg va g) ≤ 100) ∧ (-1 ≤ zg rg (10 + zg va g) ∧ zg rg (10 + zg va g) ≤ 100) ∧ (zg rg (zg va g) < 0 ∨ (zg rg (zg va g) ≤ zg rg (10 + zg va g) ∧ zg rg (10 + zg va g) ≤ l))
theorem zBq_v {rg va : Nat → Int32} {l : Int} {g x : Int32} (h : zBq rg va g.toInt l) (ex : x = va g.toNatClampNeg) : 0 ≤ x.toInt ∧ x.toInt ≤ 9 := by
  rw [zg_at ex]; exact h.1
theorem zBq_b {rg va : Nat → Int32} {l : Int} {g x y i : Int32} (h : zBq rg va g.toInt l) (ex : x = va g.toNatClampNeg) (ey : y = rg i.toNatClampNeg) (hi : i.toInt = x.toInt) : -1 ≤ y.toInt ∧ y.toInt ≤ 100 := by
  have e := zg_at ex
  have := zg_at2 ey (hi.trans e); have := h.2.1; omega
theorem zBq_e {rg va : Nat → Int32} {l : Int} {g x y i x2 y2 i2 : Int32} (h : zBq rg va g.toInt l) (ex : x = va g.toNatClampNeg) (ey : y = rg i.toNatClampNeg) (hi : i.toInt = x.toInt) (ex2 : x2 = va g.toNatClampNeg) (ey2 : y2 = rg i2.toNatClampNeg) (hi2 : i2.toInt = 10 + x2.toInt) : (-1 ≤ y2.toInt ∧ y2.toInt ≤ 100) ∧ (y.toInt < 0 ∨ (y.toInt ≤ y2.toInt ∧ y2.toInt ≤ l)) := by
  have e := zg_at ex; have e2 := zg_at ex2
  have a := zg_at2 ey (hi.trans e); have b := zg_at2 (k := 10 + zg va g.toInt) ey2 (by omega)
  obtain ⟨h1, h2, h3, h4⟩ := h
  rw [a, b]; exact ⟨h3, h4⟩
