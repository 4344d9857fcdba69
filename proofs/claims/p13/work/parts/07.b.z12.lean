def zMn (so le mo en : Nat → Int32) (b n : Int) : Prop := ∀ k : Int, 0 ≤ k → k < n → 0 ≤ zg so (b + k) ∧ zg so (b + k) ≤ 11 ∧ 0 ≤ zg le (b + k) ∧ zg le (b + k) ≤ 20 ∧ -1 ≤ zg mo (b + k) ∧ zg mo (b + k) ≤ 20 ∧ k < zg en (b + k) ∧ zg en (b + k) ≤ n
theorem zMn_of {so va le mo ho pa en fp pb pe : Nat → Int32} {b q n c : Int} (h : zSl so va le mo ho pa en fp pb pe b q n c) : zMn so le mo en b n := by
  obtain ⟨s1, s2, s3, s4, p, p0, p1, s5, s6⟩ := h
  intro k k0 k1
  obtain ⟨⟨d1, d2, d3, d4, d5, d6, d7⟩, ⟨e1, e2, e3, e4, e5⟩, _⟩ := s5 k k0 k1
  exact ⟨d1, d2, d3, d4, d5, d6.1, e3, e4⟩
theorem zMn_e {so le mo en : Nat → Int32} {b n k : Int} {x i : Int32} (h : zMn so le mo en b n) (ex : x = en i.toNatClampNeg) (hi : i.toInt = b + k) (k0 : 0 ≤ k) (k1 : k < n) : k < x.toInt ∧ x.toInt ≤ n := by
  have := zg_at2 ex hi; have := h k k0 k1; omega
theorem zMn_s {so le mo en : Nat → Int32} {b n k : Int} {x i : Int32} (h : zMn so le mo en b n) (ex : x = so i.toNatClampNeg) (hi : i.toInt = b + k) (k0 : 0 ≤ k) (k1 : k < n) : 0 ≤ x.toInt ∧ x.toInt ≤ 11 := by
  have := zg_at2 ex hi; have := h k k0 k1; omega
theorem zMn_l {so le mo en : Nat → Int32} {b n k : Int} {x i : Int32} (h : zMn so le mo en b n) (ex : x = le i.toNatClampNeg) (hi : i.toInt = b + k) (k0 : 0 ≤ k) (k1 : k < n) : 0 ≤ x.toInt ∧ x.toInt ≤ 20 := by
  have := zg_at2 ex hi; have := h k k0 k1; omega
theorem zMn_m {so le mo en : Nat → Int32} {b n k : Int} {x i : Int32} (h : zMn so le mo en b n) (ex : x = mo i.toNatClampNeg) (hi : i.toInt = b + k) (k0 : 0 ≤ k) (k1 : k < n) : -1 ≤ x.toInt ∧ x.toInt ≤ 20 := by
  have := zg_at2 ex hi; have := h k k0 k1; omega
theorem zMs_z {so le mo en sz ps : Nat → Int32} {b lo n k : Int} {x i : Int32} (h : zMs so le mo en sz ps b lo n) (ex : x = sz i.toNatClampNeg) (hi : i.toInt = b + k) (k0 : lo ≤ k) (k1 : k < n) (k2 : 0 ≤ k) : 1 ≤ x.toInt ∧ x.toInt ≤ 20000 := by
  have := zg_at2 ex hi; have := h k k0 k1 k2; unfold zM1 at this; omega
theorem zMs_p {so le mo en sz ps : Nat → Int32} {b lo n k : Int} {x i : Int32} (h : zMs so le mo en sz ps b lo n) (ex : x = ps i.toNatClampNeg) (hi : i.toInt = b + k) (k0 : lo ≤ k) (k1 : k < n) (k2 : 0 ≤ k) : 0 ≤ x.toInt ∧ x.toInt ≤ 20000 := by
  have := zg_at2 ex hi; have := h k k0 k1 k2; unfold zM1 at this; omega
theorem zSu_r {so le mo en sz : Nat → Int32} {b k n : Int} {c c' s s' x x2 x3 i j : Int32} (h : zSu en sz b k (zg en (b + k)) c.toInt s.toInt) (hm : zMn so le mo en b n) (ex : x = sz i.toNatClampNeg) (e2 : x2 = s + x) (ec : c' = en j.toNatClampNeg) (hs : (s'.toInt = x2.toInt ∧ x2.toInt ≤ 20000) ∨ (s'.toInt = 20000 ∧ 20000 < x2.toInt)) (hi : i.toInt = b + c.toInt) (hj : j.toInt = b + c.toInt) (hx : 0 ≤ x.toInt ∧ x.toInt ≤ 20000) (ecx : x3.toInt = zg en (b + k)) (hc : c.toInt < x3.toInt) (hk : 0 ≤ k ∧ k < n ∧ k < c.toInt) : zSu en sz b k (zg en (b + k)) c'.toInt s'.toInt := by
  obtain ⟨h1, h2, h3⟩ := h
  have a1 := i_add (a := s.toInt) (b := x.toInt) e2 rfl rfl (by omega) (by omega)
  have q1 := zg_at2 ex hi
  have q2 := zg_at2 ec hj
  have hen := (hm k hk.1 hk.2.1).2.2.2.2.2.2.2
  exact zSu_s ⟨h1, h2, h3⟩ (fun j j0 j1 => (hm j (by omega) (by omega)).2.2.2.2.2.2.1) (by omega) q1 (by omega) q2 (by omega)
theorem zmulb {a b : Int} (h1 : 0 ≤ a) (h2 : a ≤ 21) (h3 : 0 ≤ b) (h4 : b ≤ 20000) : 0 ≤ a * b ∧ a * b ≤ 420000 := by
  have q1 := Int.mul_nonneg h1 h3
  have q2 := Int.mul_le_mul h2 h4 h3 (by omega)
  omega
theorem zmul_i {x a s : Int32} (e : x = a * s) (h1 : 0 ≤ a.toInt) (h2 : a.toInt ≤ 21) (h3 : 0 ≤ s.toInt) (h4 : s.toInt ≤ 20000) : x.toInt = a.toInt * s.toInt ∧ 0 ≤ x.toInt ∧ x.toInt ≤ 420000 := by
  have q := zmulb h1 h2 h3 h4
  have e2 := i_mul (a := a.toInt) (b := s.toInt) e rfl rfl (by omega) (by omega)
  omega
theorem zby_a {so le mo : Nat → Int32} {g x : Int32} (ex : x = so g.toNatClampNeg) (h : x.toInt ≠ 7) : (1 : Int32).toInt = zby so le mo g.toInt := by
  have := zg_at ex; unfold zby; rw [if_neg (by omega)]; rfl
theorem zby_b {so le mo : Nat → Int32} {g x y z w : Int32} (ex : x = so g.toNatClampNeg) (h : x.toInt = 7) (ey : y = mo g.toNatClampNeg) (hy : y.toInt = -1) (ez : z = le g.toNatClampNeg) (ew : w.toInt = z.toInt + 1) : w.toInt = zby so le mo g.toInt := by
  have := zg_at ex; have := zg_at ey; have := zg_at ez; unfold zby; rw [if_pos (by omega), if_pos (by omega)]; omega
theorem zby_c {so le mo : Nat → Int32} {g x y z : Int32} (ex : x = so g.toNatClampNeg) (h : x.toInt = 7) (ey : y = mo g.toNatClampNeg) (hy : y.toInt ≠ -1) (ez : z = mo g.toNatClampNeg) (hz : z.toInt < 1) : (1 : Int32).toInt = zby so le mo g.toInt := by
  have := zg_at ex; have := zg_at ey; have := zg_at ez; unfold zby; rw [if_pos (by omega), if_neg (by omega), if_pos (by omega)]; rfl
theorem zby_d {so le mo : Nat → Int32} {g x y z w : Int32} (ex : x = so g.toNatClampNeg) (h : x.toInt = 7) (ey : y = mo g.toNatClampNeg) (hy : y.toInt ≠ -1) (ez : z = mo g.toNatClampNeg) (hz : 1 ≤ z.toInt) (ew : w = mo g.toNatClampNeg) : w.toInt = zby so le mo g.toInt := by
  have := zg_at ex; have := zg_at ey; have := zg_at ez; have := zg_at ew; unfold zby; rw [if_pos (by omega), if_neg (by omega), if_neg (by omega)]; omega
theorem zMs_new {so le mo en sz ps sz' ps' : Nat → Int32} {b k n : Int} {g y z : Int32} {s e : Int} (hm : zMs so le mo en sz ps b (k + 1) n) (hn : zMn so le mo en b n) (e1 : sz' = upd sz g.toNatClampNeg y) (e2 : ps' = upd ps g.toNatClampNeg z) (hb : 0 ≤ b) (hg : g.toInt = b + k) (hk : 0 ≤ k ∧ k < n)
    (hs : zSu en sz b k (zg en (b + k)) (zg en (b + k)) s) (he : zSu en ps b k (zg en (b + k)) (zg en (b + k)) e) (hby : 1 ≤ zby so le mo (b + k))
    (hy : 1 ≤ y.toInt ∧ y.toInt ≤ 20000 ∧ (y.toInt = 20000 ∨ y.toInt = 1 + zby so le mo (b + k) * s)) (hz : 0 ≤ z.toInt ∧ z.toInt ≤ 20000 ∧ (zg so (b + k) ≤ 2 → z.toInt = 1) ∧ (2 < zg so (b + k) → z.toInt = 20000 ∨ z.toInt = zby so le mo (b + k) * e)) : zMs so le mo en sz' ps' b k n := by
  subst e1; subst e2
  have g0 : 0 ≤ g.toInt := by omega
  have ne : ∀ j : Int, 0 ≤ j → j ≠ k → ∀ f : Nat → Int32, ∀ v : Int32, zg (upd f g.toNatClampNeg v) (b + j) = zg f (b + j) := fun j j0 j1 f v => zg_ne g0 (by omega) (by omega)
  have eq : ∀ f : Nat → Int32, ∀ v : Int32, zg (upd f g.toNatClampNeg v) (b + k) = v.toInt := fun f v => by rw [← hg]; exact zg_eq
  have ct : ∀ j : Int, k ≤ j → j < n → ∀ f : Nat → Int32, ∀ v : Int32, zct en (upd f g.toNatClampNeg v) b (j + 1) (zg en (b + j)) = zct en f b (j + 1) (zg en (b + j)) := fun j j0 j1 f v => zcs_congr (fun i i0 i1 => ⟨rfl, ne i (by omega) (by omega) f v, (hn i (by omega) (by have := (hn j (by omega) j1).2.2.2.2.2.2.2; omega)).2.2.2.2.2.2.1⟩)
  intro j j2 j1 j0
  unfold zM1
  rw [ct j j2 j1, ct j j2 j1]
  by_cases ej : j = k
  · subst ej
    rw [eq, eq]
    obtain ⟨a1, a2, a3⟩ := hs
    obtain ⟨b1, b2, b3⟩ := he
    rw [zct_end (c := zg en (b + j)) (Int.le_refl _)] at a3 b3
    refine ⟨by omega, by omega, by omega, by omega, fun w => ?_, fun w => by have := hz.2.2.1 w; omega, fun w w2 => ?_⟩
    · rcases hy.2.2 with q | q
      · omega
      · have : zct en sz b (j + 1) (zg en (b + j)) ≤ s := by
          rcases a3 with a3 | a3
          · subst a3
            have : zby so le mo (b + j) * 1 ≤ zby so le mo (b + j) * 20000 := Int.mul_le_mul_of_nonneg_left (by omega) (by omega)
            have := Int.mul_le_mul_of_nonneg_right hby (by omega : (0 : Int) ≤ 20000)
            omega
          · omega
        have := Int.mul_le_mul_of_nonneg_left this (by omega : (0 : Int) ≤ zby so le mo (b + j))
        omega
    · rcases hz.2.2.2 w with q | q
      · omega
      · have : zct en ps b (j + 1) (zg en (b + j)) ≤ e := by
          rcases b3 with b3 | b3
          · subst b3
            have := Int.mul_le_mul_of_nonneg_right hby (by omega : (0 : Int) ≤ 20000)
            omega
          · omega
        have := Int.mul_le_mul_of_nonneg_left this (by omega : (0 : Int) ≤ zby so le mo (b + j))
        omega
  · rw [ne j j0 ej, ne j j0 ej]
    have := hm j (by omega) j1 j0
    unfold zM1 at this; exact this
def zOb (f f' : Nat → Int32) (b : Int) : Prop := ∀ j : Int, 0 ≤ j → (j < b ∨ b + 220 ≤ j) → zg f' j = zg f j
theorem zOb_rf {f : Nat → Int32} {b : Int} : zOb f f b := fun _ _ _ => rfl
theorem zOb_w {f f1 f2 : Nat → Int32} {b : Int} {g v : Int32} (h : zOb f f1 b) (e : f2 = upd f1 g.toNatClampNeg v) (hg : 0 ≤ g.toInt ∧ b ≤ g.toInt ∧ g.toInt < b + 220) : zOb f f2 b := by
  subst e; intro j j0 j1
  rw [zg_ne hg.1 j0 (by omega)]; exact h j j0 j1
theorem zOb_tr {f f1 f2 : Nat → Int32} {b : Int} (h : zOb f f1 b) (h2 : zOb f1 f2 b) : zOb f f2 b := fun j j0 j1 => (h2 j j0 j1).trans (h j j0 j1)
theorem zSu_x {en sz : Nat → Int32} {b k l c s : Int} (h : zSu en sz b k l c s) (hc : l ≤ c) : zSu en sz b k l l s := by
  obtain ⟨h1, h2, h3⟩ := h
  refine ⟨h1, h2, ?_⟩
  rw [zct_end hc] at h3; rw [zct_end (Int.le_refl _)]; exact h3
