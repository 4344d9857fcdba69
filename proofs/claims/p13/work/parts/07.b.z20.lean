theorem zE_c {so va le mo ho pa en fp pb pe : Nat → Int32} {b q n c k g : Int} (h : zSl so va le mo ho pa en fp pb pe b q n c) (hs : zg so g = 7) (hg : g = b + k) (k0 : 0 ≤ k) (k1 : k < n) : k + 1 < n := by
  obtain ⟨p, _, _, ⟨_, _, d3, d4, _⟩, _, d7, _⟩ := zS_nd h k0 k1
  rw [hg] at hs
  have := d7 (by omega); omega
