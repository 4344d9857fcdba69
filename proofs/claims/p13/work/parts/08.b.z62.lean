theorem zl0 {l0 : Nat → Int32} {k : Int} (h : rp (fun k v => 0 ≤ v ∧ v ≤ 100) l0 0 4) (h0 : 0 ≤ k) (h1 : k ≤ 3) : 0 ≤ zg l0 k ∧ zg l0 k ≤ 100 := by
  have := h k.toNat (by omega) (by omega)
  exact this
