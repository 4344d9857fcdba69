theorem zbz_t {f : Nat → Bool} {i x : Int32} (ex : x = bz (f i.toNatClampNeg)) (h : x.toInt ≠ 0) : f i.toNatClampNeg = true := by
  cases hb : f i.toNatClampNeg with
  | true => rfl
  | false => rw [hb] at ex; subst ex; exact absurd rfl h
theorem zAll_s {it : Nat → Bool} {ma ca so va le mo ho pa en fp pb pe sz ps : Nat → Int32} {s : Int32} (h : zAll it ma ca so va le mo ho pa en fp pb pe sz ps) (ht : it s.toNatClampNeg = true) (h0 : 0 ≤ s.toInt) (h1 : s.toInt ≤ 5) : zSl so va le mo ho pa en fp pb pe (220 * s.toInt) (420 * s.toInt) (zg ma s.toInt) (zg ca s.toInt) ∧ zMs so le mo en sz ps (220 * s.toInt) 0 (zg ma s.toInt) := h s.toInt h0 (by omega) ht
theorem zS_n {so va le mo ho pa en fp pb pe : Nat → Int32} {b q n c : Int} (h : zSl so va le mo ho pa en fp pb pe b q n c) : 1 ≤ n ∧ n ≤ 220 := ⟨h.1, h.2.1⟩
theorem zS_c {so va le mo ho pa en fp pb pe : Nat → Int32} {b q n c : Int} (h : zSl so va le mo ho pa en fp pb pe b q n c) : 0 ≤ c ∧ c ≤ 9 := ⟨h.2.2.1, h.2.2.2.1⟩
theorem zS_nd {so va le mo ho pa en fp pb pe : Nat → Int32} {b q n c k : Int} (h : zSl so va le mo ho pa en fp pb pe b q n c) (k0 : 0 ≤ k) (k1 : k < n) : ∃ p : Int, p ≤ 420 ∧ zNd so va le mo ho pa en fp b q n c p k := by
  obtain ⟨s1, s2, s3, s4, p, p0, p1, s5, s6⟩ := h
  exact ⟨p, p1, s5 k k0 k1⟩
theorem zS_sort {so va le mo ho pa en fp pb pe : Nat → Int32} {b q n c k : Int} {x i : Int32} (h : zSl so va le mo ho pa en fp pb pe b q n c) (ex : x = so i.toNatClampNeg) (hi : i.toInt = b + k) (k0 : 0 ≤ k) (k1 : k < n) : 0 ≤ x.toInt ∧ x.toInt ≤ 11 := by
  obtain ⟨p, _, d⟩ := zS_nd h k0 k1
  have := zg_at2 ex hi; unfold zNd at d; omega
theorem zS_value {so va le mo ho pa en fp pb pe : Nat → Int32} {b q n c k : Int} {x i : Int32} (h : zSl so va le mo ho pa en fp pb pe b q n c) (ex : x = va i.toNatClampNeg) (hi : i.toInt = b + k) (k0 : 0 ≤ k) (k1 : k < n) : 0 ≤ x.toInt ∧ x.toInt ≤ 65535 := by
  obtain ⟨p, _, ⟨_, _, _, _, _, _, d7, d8, _⟩, _⟩ := zS_nd h k0 k1
  have := zg_at2 ex hi; omega
theorem zS_least {so va le mo ho pa en fp pb pe : Nat → Int32} {b q n c k : Int} {x i : Int32} (h : zSl so va le mo ho pa en fp pb pe b q n c) (ex : x = le i.toNatClampNeg) (hi : i.toInt = b + k) (k0 : 0 ≤ k) (k1 : k < n) : 0 ≤ x.toInt ∧ x.toInt ≤ 20 := by
  obtain ⟨p, _, ⟨_, _, d3, d4, _⟩, _⟩ := zS_nd h k0 k1
  have := zg_at2 ex hi; omega
theorem zS_most {so va le mo ho pa en fp pb pe : Nat → Int32} {b q n c k : Int} {x i : Int32} (h : zSl so va le mo ho pa en fp pb pe b q n c) (ex : x = mo i.toNatClampNeg) (hi : i.toInt = b + k) (k0 : 0 ≤ k) (k1 : k < n) : -1 ≤ x.toInt ∧ x.toInt ≤ 20 := by
  obtain ⟨p, _, ⟨_, _, _, _, d5, d6, _⟩, _⟩ := zS_nd h k0 k1
  have := zg_at2 ex hi; omega
theorem zS_holder {so va le mo ho pa en fp pb pe : Nat → Int32} {b q n c k : Int} {x i : Int32} (h : zSl so va le mo ho pa en fp pb pe b q n c) (ex : x = ho i.toNatClampNeg) (hi : i.toInt = b + k) (k0 : 0 ≤ k) (k1 : k < n) : -1 ≤ x.toInt ∧ x.toInt < k ∧ (1 ≤ k → 0 ≤ x.toInt) := by
  obtain ⟨p, _, _, ⟨d1, d2, _⟩, _⟩ := zS_nd h k0 k1
  have := zg_at2 ex hi
  by_cases e : k = 0
  · have := d1 e; omega
  · have := d2 (by omega); omega
theorem zS_end {so va le mo ho pa en fp pb pe : Nat → Int32} {b q n c k : Int} {x i : Int32} (h : zSl so va le mo ho pa en fp pb pe b q n c) (ex : x = en i.toNatClampNeg) (hi : i.toInt = b + k) (k0 : 0 ≤ k) (k1 : k < n) : k < x.toInt ∧ x.toInt ≤ n := by
  obtain ⟨p, _, _, ⟨_, _, d3, d4, _⟩, _⟩ := zS_nd h k0 k1
  have := zg_at2 ex hi; omega
theorem zS_firstPart {so va le mo ho pa en fp pb pe : Nat → Int32} {b q n c k : Int} {x i y j : Int32} (h : zSl so va le mo ho pa en fp pb pe b q n c) (ex : x = fp i.toNatClampNeg) (ey : y = pa j.toNatClampNeg) (hi : i.toInt = b + k) (hj : j.toInt = b + k) (k0 : 0 ≤ k) (k1 : k < n) (h2 : zg so (b + k) = 2) : q ≤ x.toInt ∧ 0 ≤ y.toInt ∧ x.toInt + y.toInt ≤ q + 420 := by
  obtain ⟨p, hp, ⟨_, _, _, _, _, _, _, _, _, _, _, d⟩, _⟩ := zS_nd h k0 k1
  have := zg_at2 ex hi; have := zg_at2 ey hj; have := d h2; omega
theorem zS_fp0 {so va le mo ho pa en fp pb pe : Nat → Int32} {b q n c k : Int} {x i : Int32} (h : zSl so va le mo ho pa en fp pb pe b q n c) (ex : x = fp i.toNatClampNeg) (hi : i.toInt = b + k) (k0 : 0 ≤ k) (k1 : k < n) (h2 : zg so i.toInt = 2) : q ≤ x.toInt ∧ x.toInt ≤ q + 420 := by
  obtain ⟨p, hp, ⟨_, _, _, _, _, _, _, _, _, _, _, d⟩, _⟩ := zS_nd h k0 k1
  rw [hi] at h2
  have := zg_at2 ex hi; have := d h2; omega
theorem zS_fp {so va le mo ho pa en fp pb pe : Nat → Int32} {b q n c k : Int} {x i y j : Int32} (h : zSl so va le mo ho pa en fp pb pe b q n c) (ex : x = fp i.toNatClampNeg) (ey : y = pa j.toNatClampNeg) (hi : i.toInt = b + k) (hj : j.toInt = b + k) (k0 : 0 ≤ k) (k1 : k < n) (h2 : zg so i.toInt = 2) : q ≤ x.toInt ∧ 0 ≤ y.toInt ∧ x.toInt + y.toInt ≤ q + 420 := by
  rw [hi] at h2; exact zS_firstPart h ex ey hi hj k0 k1 h2
theorem zS_mono {so va le mo ho pa en fp pb pe : Nat → Int32} {b q n c k : Int} {x i : Int32} (h : zSl so va le mo ho pa en fp pb pe b q n c) (ex : x = so i.toNatClampNeg) (hi : i.toInt = b + k) : zg so i.toInt = x.toInt := (zg_at ex).symm
