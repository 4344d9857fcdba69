theorem zS_ch {so va le mo ho pa en fp pb pe : Nat → Int32} {b q n c k : Int} {x i : Int32} (h : zSl so va le mo ho pa en fp pb pe b q n c) (ex : x = so i.toNatClampNeg) (hi : i.toInt = b + k) (k0 : 0 ≤ k) (k1 : k < n) (h6 : 6 ≤ x.toInt) : k + 1 < n := by
  obtain ⟨p, _, _, ⟨_, _, d3, d4, _⟩, _, d7, _⟩ := zS_nd h k0 k1
  have := zg_at2 ex hi; have := d7 (by omega); omega
def zKb (so : Nat → Int32) (b n : Int) : Prop := ∀ k : Int, 0 ≤ k → k < n → zg so (b + k) ≠ 4 ∧ zg so (b + k) ≠ 9 ∧ zg so (b + k) ≠ 10
theorem zKb_0 {g : Int} {so : Nat → Int32} {b : Int} : g = 0 → zKb so b (0 : Int32).toInt := by
  intro _ k k0 k1
  have e : (0 : Int32).toInt = 0 := rfl
  omega
theorem zKb_s {so : Nat → Int32} {b : Int} {l4 s0 s1 x i k k' : Int32} (h : l4.toInt = 0 → zKb so b k.toInt) (h83 : s0.toInt = 0 → (l4.toInt = 0 ∧ x.toInt ≠ 4 ∧ x.toInt ≠ 9 ∧ x.toInt ≠ 10)) (h142 : s1.toInt = 0 → s0.toInt = 0) (ex : x = so i.toNatClampNeg) (hi : i.toInt = b + k.toInt) (hk : k'.toInt = k.toInt + 1) : s1.toInt = 0 → zKb so b k'.toInt := by
  intro z j j0 j1
  obtain ⟨z1, z2⟩ := h83 (h142 z)
  by_cases e : j = k.toInt
  · subst e; rw [← zg_at2 ex hi]; exact z2
  · exact h z1 j j0 (by omega)
theorem zKb_m {so : Nat → Int32} {b k n : Int} (h : zKb so b k) (hn : n ≤ k) : zKb so b n := fun j j0 j1 => h j j0 (by omega)
theorem zS_pa {so va le mo ho pa en fp pb pe : Nat → Int32} {b q n c k : Int} {y j : Int32} (h : zSl so va le mo ho pa en fp pb pe b q n c) (ey : y = pa j.toNatClampNeg) (hj : j.toInt = b + k) (k0 : 0 ≤ k) (k1 : k < n) (h2 : zg so (b + k) = 2) : 0 ≤ y.toInt ∧ y.toInt ≤ 420 := by
  obtain ⟨p, hp, ⟨_, _, _, _, _, _, _, _, _, _, _, d⟩, _⟩ := zS_nd h k0 k1
  have := zg_at2 ey hj; have := d h2; omega
