def zGi (ig : Bool) (it : Nat → Bool) (l0 : Nat → Int32) (s k f st : Int) : Prop := ig = true → ((0 ≤ s ∧ s ≤ 5) ∧ it s.toNat = true) ∧ (0 ≤ k ∧ k ≤ 3) ∧ (0 ≤ f ∧ f ≤ zg l0 k) ∧ (1 ≤ st ∧ st ≤ 3000)
theorem zGi_n {ig : Bool} {it : Nat → Bool} {l0 : Nat → Int32} {s k f st : Int} (h : ig = false) : zGi ig it l0 s k f st := fun z => by rw [h] at z; exact absurd z (by decide)
