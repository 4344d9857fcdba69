def zMn (so le mo en : Nat → Int32) (b n : Int) : Prop := ∀ k : Int, 0 ≤ k → k < n → 0 ≤ zg so (b + k) ∧ zg so (b + k) ≤ 11 ∧ 0 ≤ zg le (b + k) ∧ zg le (b + k) ≤ 20 ∧ -1 ≤ zg mo (b + k) ∧ zg mo (b + k) ≤ 20 ∧ k < zg en (b + k) ∧ zg en (b + k) ≤ n
theorem zMn_of {so va le mo ho pa en fp pb pe : Nat → Int32} {b q n c : Int} (h : zSl so va le mo ho pa en fp pb pe b q n c) : zMn so le mo en b n := by
  obtain ⟨s1, s2, s3, s4, p, p0, p1, s5, s6⟩ := h
  intro k k0 k1
  obtain ⟨⟨d1, d2, d3, d4, d5, d6, d7⟩, ⟨e1, e2, e3, e4, e5⟩, _⟩ := s5 k k0 k1
  exact ⟨d1, d2, d3, d4, d5, d6.1, e3, e4⟩
theorem zMn_e {so le mo en : Nat → Int32} {b n k : Int} {x i : Int32} (h : zMn so le mo en b n) (ex : x = en i.toNatClampNeg) (hi : i.toInt = b + k) (k0 : 0 ≤ k) (k1 : k < n) : k < x.toInt ∧ x.toInt ≤ n := by
  have := zg_at2 ex hi; have := h k k0 k1; omega
theorem zMn_s {so le mo en : Nat → Int32} {b n k : Int} {x i : Int32} (h : zMn so le mo en b n) (ex : x = so i.toNatClampNeg) (hi : i.toInt = b + k) (k0 : 0 ≤ k) (k1 : k < n) : 0 ≤ x.toInt ∧ x.toInt ≤ 11 := by
  have := zg_at2 ex hi; have := h k k0 k1; omega
theorem zMn_l {so le mo en : Nat → Int32} {b n k : Int} {x i : Int32} (h : zMn so le mo en b n) (ex : x = le i.toNatClampNeg) (hi : i.toInt = b + k) (k0 : 0 ≤ k) (k1 : k < n) : 0 ≤ x.toInt ∧ x.toInt ≤ 20 := by
  have := zg_at2 ex hi; have := h k k0 k1; omega
theorem zMn_m {so le mo en : Nat → Int32} {b n k : Int} {x i : Int32} (h : zMn so le mo en b n) (ex : x = mo i.toNatClampNeg) (hi : i.toInt = b + k) (k0 : 0 ≤ k) (k1 : k < n) : -1 ≤ x.toInt ∧ x.toInt ≤ 20 := by
  have := zg_at2 ex hi; have := h k k0 k1; omega
theorem zMs_z {so le mo en sz ps : Nat → Int32} {b lo n k : Int} {x i : Int32} (h : zMs so le mo en sz ps b lo n) (ex : x = sz i.toNatClampNeg) (hi : i.toInt = b + k) (k0 : lo ≤ k) (k1 : k < n) (k2 : 0 ≤ k) : 1 ≤ x.toInt ∧ x.toInt ≤ 20000 := by
  have := zg_at2 ex hi; have := h k k0 k1 k2; unfold zM1 at this; omega
theorem zMs_p {so le mo en sz ps : Nat → Int32} {b lo n k : Int} {x i : Int32} (h : zMs so le mo en sz ps b lo n) (ex : x = ps i.toNatClampNeg) (hi : i.toInt = b + k) (k0 : lo ≤ k) (k1 : k < n) (k2 : 0 ≤ k) : 0 ≤ x.toInt ∧ x.toInt ≤ 20000 := by
  have := zg_at2 ex hi; have := h k k0 k1 k2; unfold zM1 at this; omega
theorem zSu_r {so le mo en sz : Nat → Int32} {b k n : Int} {c c' s s' x x2 x3 i j : Int32} (h : zSu en sz b k (zg en (b + k)) c.toInt s.toInt) (hm : zMn so le mo en b n) (ex : x = sz i.toNatClampNeg) (e2 : x2 = s + x) (ec : c' = en j.toNatClampNeg) (hs : (s'.toInt = x2.toInt ∧ x2.toInt ≤ 20000) ∨ (s'.toInt = 20000 ∧ 20000 < x2.toInt)) (hi : i.toInt = b + c.toInt) (hj : j.toInt = b + c.toInt) (hx : 0 ≤ x.toInt ∧ x.toInt ≤ 20000) (ecx : x3.toInt = zg en (b + k)) (hc : c.toInt < x3.toInt) (hk : 0 ≤ k ∧ k < n ∧ k < c.toInt) : zSu en sz b k (zg en (b + k)) c'.toInt s'.toInt := by
  obtain ⟨h1, h2, h3⟩ := h
  have a1 := i_add (a := s.toInt) (b := x.toInt) e2 rfl rfl (by omega) (by omega)
  have q1 := zg_at2 ex hi
  have q2 := zg_at2 ec hj
  have hen := (hm k hk.1 hk.2.1).2.2.2.2.2.2.2
  exact zSu_s ⟨h1, h2, h3⟩ (fun j j0 j1 => (hm j (by omega) (by omega)).2.2.2.2.2.2.1) (by omega) q1 (by omega) q2 (by omega)
theorem zmulb {a b : Int} (h1 : 0 ≤ a) (h2 : a ≤ 21) (h3 : 0 ≤ b) (h4 : b ≤ 20000) : 0 ≤ a * b ∧ a * b ≤ 420000 := by
  have q1 := Int.mul_nonneg h1 h3
  have q2 := Int.mul_le_mul h2 h4 h3 (by omega)
  omega
theorem zmul_i {x a s : Int32} (e : x = a * s) (h1 : 0 ≤ a.toInt) (h2 : a.toInt ≤ 21) (h3 : 0 ≤ s.toInt) (h4 : s.toInt ≤ 20000) : x.toInt = a.toInt * s.toInt ∧ 0 ≤ x.toInt ∧ x.toInt ≤ 420000 := by
  have q := zmulb h1 h2 h3 h4
  have e2 := i_mul (a := a.toInt) (b := s.toInt) e rfl rfl (by omega) (by omega)
  omega
theorem zby_a {so le mo : Nat → Int32} {g x : Int32} (ex : x = so g.toNatClampNeg) (h : x.toInt ≠ 7) : (1 : Int32).toInt = zby so le mo g.toInt := by
  have := zg_at ex; unfold zby; rw [if_neg (by omega)]; rfl
theorem zby_b {so le mo : Nat → Int32} {g x y z w : Int32} (ex : x = so g.toNatClampNeg) (h : x.toInt = 7) (ey : y = mo g.toNatClampNeg) (hy : y.toInt = -1) (ez : z = le g.toNatClampNeg) (ew : w.toInt = z.toInt + 1) : w.toInt = zby so le mo g.toInt := by
  have := zg_at ex; have := zg_at ey; have := zg_at ez; unfold zby; rw [if_pos (by omega), if_pos (by omega)]; omega
theorem zby_c {so le mo : Nat → Int32} {g x y z : Int32} (ex : x = so g.toNatClampNeg) (h : x.toInt = 7) (ey : y = mo g.toNatClampNeg) (hy : y.toInt ≠ -1) (ez : z = mo g.toNatClampNeg) (hz : z.toInt < 1) : (1 : Int32).toInt = zby so le mo g.toInt := by
  have := zg_at ex; have := zg_at ey; have := zg_at ez; unfold zby; rw [if_pos (by omega), if_neg (by omega), if_pos (by omega)]; rfl
theorem zby_d {so le mo : Nat → Int32} {g x y z w : Int32} (ex : x = so g.toNatClampNeg) (h : x.toInt = 7) (ey : y = mo g.toNatClampNeg) (hy : y.toInt ≠ -1) (ez : z = mo g.toNatClampNeg) (hz : 1 ≤ z.toInt) (ew : w = mo g.toNatClampNeg) : w.toInt = zby so le mo g.toInt := by
  have := zg_at ex; have := zg_at ey; have := zg_at ez; have := zg_at ew; unfold zby; rw [if_pos (by omega), if_neg (by omega), if_neg (by omega)]; omega
theorem zMs_new {so le mo en sz ps szω psω : Nat → Int32} {b k n : Int} {g y z : Int32} {s e : Int} (hm : zMs so le mo en sz ps b (k + 1) n) (hn : zMn so le mo en b n) (e1 : szω = upd sz g.toNatClampNeg y) (e2 : psω = upd ps g.toNatClampNeg z) (hb : 0 ≤ b) (hg : g.toInt = b + k) (hk : 0 ≤ k ∧ k < n)
    (hs : zSu en sz b k (zg en (b + k)) (zg en (b + k)) s) (he : zSu en ps b k (zg en (b + k)) (zg en (b + k)) e) (hby : 1 ≤ zby so le mo (b + k))
    (hy : 1 ≤ y.toInt ∧ y.toInt ≤ 20000 ∧ (y.toInt = 20000 ∨ y.toInt = 1 + zby so le mo (b + k) * s)) (hz : 0 ≤ z.toInt ∧ z.toInt ≤ 20000 ∧ (zg so (b + k) ≤ 2 → z.toInt = 1) ∧ (2 < zg so (b + k) → z.toInt = 20000 ∨ z.toInt = zby so le mo (b + k) * e)) : zMs so le mo en szω psω b k n := by
  subst e1; subst e2
  have g0 : 0 ≤ g.toInt := by omega
  have ne : ∀ j : Int, 0 ≤ j → j ≠ k → ∀ f : Nat → Int32, ∀ v : Int32, zg (upd f g.toNatClampNeg v) (b + j) = zg f (b + j) := fun j j0 j1 f v => zg_ne g0 (by omega) (by omega)
  have eq : ∀ f : Nat → Int32, ∀ v : Int32, zg (upd f g.toNatClampNeg v) (b + k) = v.toInt := fun f v => by rw [← hg]; exact zg_eq
  have ct : ∀ j : Int, k ≤ j → j < n → ∀ f : Nat → Int32, ∀ v : Int32, zct en (upd f g.toNatClampNeg v) b (j + 1) (zg en (b + j)) = zct en f b (j + 1) (zg en (b + j)) := fun j j0 j1 f v => zcs_congr (fun i i0 i1 => ⟨rfl, ne i (by omega) (by omega) f v, (hn i (by omega) (by have := (hn j (by omega) j1).2.2.2.2.2.2.2; omega)).2.2.2.2.2.2.1⟩)
  intro j j2 j1 j0
  unfold zM1
  rw [ct j j2 j1, ct j j2 j1]
  by_cases ej : j = k
  · subst ej
    rw [eq, eq]
    obtain ⟨a1, a2, a3⟩ := hs
    obtain ⟨b1, b2, b3⟩ := he
    rw [zct_end (c := zg en (b + j)) (Int.le_refl _)] at a3 b3
    refine ⟨by omega, by omega, by omega, by omega, fun w => ?_, fun w => by have := hz.2.2.1 w; omega, fun w w2 => ?_⟩
    · rcases hy.2.2 with q | q
      · omega
      · have : zct en sz b (j + 1) (zg en (b + j)) ≤ s := by
          rcases a3 with a3 | a3
          · subst a3
            have : zby so le mo (b + j) * 1 ≤ zby so le mo (b + j) * 20000 := Int.mul_le_mul_of_nonneg_left (by omega) (by omega)
            have := Int.mul_le_mul_of_nonneg_right hby (by omega : (0 : Int) ≤ 20000)
            omega
          · omega
        have := Int.mul_le_mul_of_nonneg_left this (by omega : (0 : Int) ≤ zby so le mo (b + j))
        omega
    · rcases hz.2.2.2 w with q | q
      · omega
      · have : zct en ps b (j + 1) (zg en (b + j)) ≤ e := by
          rcases b3 with b3 | b3
          · subst b3
            have := Int.mul_le_mul_of_nonneg_right hby (by omega : (0 : Int) ≤ 20000)
            omega
          · omega
        have := Int.mul_le_mul_of_nonneg_left this (by omega : (0 : Int) ≤ zby so le mo (b + j))
        omega
  · rw [ne j j0 ej, ne j j0 ej]
    have := hm j (by omega) j1 j0
    unfold zM1 at this; exact this
def zOb (f f' : Nat → Int32) (b : Int) : Prop := ∀ j : Int, 0 ≤ j → (j < b ∨ b + 220 ≤ j) → zg f' j = zg f j
theorem zOb_rf {f : Nat → Int32} {b : Int} : zOb f f b := fun _ _ _ => rfl
theorem zOb_w {f f1 f2 : Nat → Int32} {b : Int} {g v : Int32} (h : zOb f f1 b) (e : f2 = upd f1 g.toNatClampNeg v) (hg : 0 ≤ g.toInt ∧ b ≤ g.toInt ∧ g.toInt < b + 220) : zOb f f2 b := by
  subst e; intro j j0 j1
  rw [zg_ne hg.1 j0 (by omega)]; exact h j j0 j1
theorem zOb_tr {f f1 f2 : Nat → Int32} {b : Int} (h : zOb f f1 b) (h2 : zOb f1 f2 b) : zOb f f2 b := fun j j0 j1 => (h2 j j0 j1).trans (h j j0 j1)
theorem zSu_x {en sz : Nat → Int32} {b k l c s : Int} (h : zSu en sz b k l c s) (hc : l ≤ c) : zSu en sz b k l l s := by
  obtain ⟨h1, h2, h3⟩ := h
  refine ⟨h1, h2, ?_⟩
  rw [zct_end hc] at h3; rw [zct_end (Int.le_refl _)]; exact h3
def zPu (X w wh w1 wh1 : Nat → Int32) (top top1 t h : Int) : Prop := (zg X t = -1 ∧ top1 = top - 1 ∧ w1 = w ∧ wh1 = wh) ∨ (zg X t ≠ -1 ∧ top1 = top ∧ zg w1 (top - 1) = zg X t ∧ zg wh1 (top - 1) = h ∧ ∀ i : Int, 0 ≤ i → i < top - 1 → zg w1 i = zg w i ∧ zg wh1 i = zg wh i)
def zPv (F w1 wh1 w2 wh2 : Nat → Int32) (top1 top2 t n : Int) : Prop := (zg F t = -1 ∧ top2 = top1 ∧ w2 = w1 ∧ wh2 = wh1) ∨ (zg F t ≠ -1 ∧ top2 = top1 + 1 ∧ zg w2 top1 = zg F t ∧ zg wh2 top1 = n ∧ ∀ i : Int, 0 ≤ i → i < top1 → zg w2 i = zg w1 i ∧ zg wh2 i = zg wh1 i)
theorem zPu_a {X w wh : Nat → Int32} {t x : Int32} {top top1 h : Int} (ex : x = X t.toNatClampNeg) (hx : x.toInt = -1) (ht : top1 = top - 1) : zPu X w wh w wh top top1 t.toInt h := Or.inl ⟨by rw [← zg_at ex]; exact hx, ht, rfl, rfl⟩
theorem zPu_b {X w wh w1 wh1 : Nat → Int32} {t x y i h : Int32} {top top1 : Int} (ex : x = X t.toNatClampNeg) (ey : y = X t.toNatClampNeg) (e1 : w1 = upd w i.toNatClampNeg y) (e2 : wh1 = upd wh i.toNatClampNeg h) (hx : x.toInt ≠ -1) (ht : top1 = top) (hi : i.toInt = top - 1) (h0 : 0 ≤ i.toInt) : zPu X w wh w1 wh1 top top1 t.toInt h.toInt := by
  subst e1; subst e2
  refine Or.inr ⟨by rw [← zg_at ex]; exact hx, ht, by rw [← hi, zg_eq]; exact zg_at ey, by rw [← hi, zg_eq], fun j j0 j1 => ⟨zg_ne h0 j0 (by omega), zg_ne h0 j0 (by omega)⟩⟩
theorem zPv_a {F w wh : Nat → Int32} {t x : Int32} {top top1 n : Int} (ex : x = F t.toNatClampNeg) (hx : x.toInt = -1) (ht : top1 = top) : zPv F w wh w wh top top1 t.toInt n := Or.inl ⟨by rw [← zg_at ex]; exact hx, ht, rfl, rfl⟩
theorem zPv_b {F w wh w1 wh1 : Nat → Int32} {t x y i n : Int32} {top top1 : Int} (ex : x = F t.toNatClampNeg) (ey : y = F t.toNatClampNeg) (e1 : w1 = upd w i.toNatClampNeg y) (e2 : wh1 = upd wh i.toNatClampNeg n) (hx : x.toInt ≠ -1) (ht : top1 = top + 1) (hi : i.toInt = top) (h0 : 0 ≤ i.toInt) : zPv F w wh w1 wh1 top top1 t.toInt n.toInt := by
  subst e1; subst e2
  refine Or.inr ⟨by rw [← zg_at ex]; exact hx, ht, by rw [← hi, zg_eq]; exact zg_at ey, by rw [← hi, zg_eq], fun j j0 j1 => ⟨zg_ne h0 j0 (by omega), zg_ne h0 j0 (by omega)⟩⟩
theorem zKp_ptr {S V L Z F X M P w wh so va le mo ho pa fp : Nat → Int32} {b q n top N C : Int} (h : zKp S V L Z F X M P w wh so va le mo ho pa fp b q n top N C) (ht : 1 ≤ top) : -1 ≤ zg X (zg w (top - 1)) ∧ zg X (zg w (top - 1)) < N ∧ -1 ≤ zg F (zg w (top - 1)) ∧ zg F (zg w (top - 1)) < N := by
  obtain ⟨E, G, c, R, _, _, h0, h1, h2⟩ := h
  have e : top.toNat = (top - 1).toNat + 1 := by omega
  rw [e] at h1
  obtain ⟨a, eω, c', r', ⟨k, g1⟩, heN, g2, g3, g4, g5⟩ := h1
  have ee : (((top - 1).toNat : Nat) : Int) = top - 1 := by omega
  rw [ee] at g1 g2
  cases k with
  | zero => exact absurd g1.1 g2
  | succ k =>
    rcases g1 with g1 | ⟨d0, d1, d2, d3, d4, d5, d6, c0, cm, e1, e2, d7, d8⟩
    · exact absurd g1.1 g2
    · have l7 := zCh_le d7
      have l8 := zCh_le d8
      by_cases q1 : zg X (zg w (top - 1)) = -1 <;> by_cases q2 : zg F (zg w (top - 1)) = -1
      · omega
      · have := l7.2.2.2 q2; omega
      · have := l8.2.2.2 q1; omega
      · have := l7.2.2.2 q2; have := l8.2.2.2 q1; omega
theorem zKp_w {S V L Z F X M P w wh so va le mo ho pa fp w1 wh1 w2 wh2 so' vaω leω moω hoω paω fpω : Nat → Int32} {b q n n' top top1 top2 N C : Int} {t h g x1 x2 x3 x4 x6 x7 y7 i i2 : Int32} (hk : zKp S V L Z F X M P w wh so va le mo ho pa fp b q n top N C) (et : t = w i.toNatClampNeg) (eh : h = wh i2.toNatClampNeg)
    (e1 : so' = upd so g.toNatClampNeg x1) (e2 : vaω = upd va g.toNatClampNeg x2) (e3 : leω = upd le g.toNatClampNeg x3) (e4 : moω = upd mo g.toNatClampNeg x4) (e5 : hoω = upd ho g.toNatClampNeg h) (e6 : paω = upd pa g.toNatClampNeg x6) (e7 : fpω = upd fp g.toNatClampNeg x7)
    (f1 : x1 = S t.toNatClampNeg) (f2 : x2 = V t.toNatClampNeg) (f3 : x3 = L t.toNatClampNeg) (f4 : x4 = Z t.toNatClampNeg) (f6 : x6 = M t.toNatClampNeg) (f7 : y7 = P t.toNatClampNeg)
    (h1 : zPu X w wh w1 wh1 top top1 t.toInt h.toInt) (h2 : zPv F w1 wh1 w2 wh2 top1 top2 t.toInt n) (hx7 : zg S t.toInt = 2 → x7.toInt = q + y7.toInt) (hi : i.toInt = top - 1) (hi2 : i2.toInt = top - 1) (ht1 : 1 ≤ top) (hn : 0 ≤ n) (hb : 0 ≤ b) (hg : g.toInt = b + n) (hnω : n' = n + 1) :
    zKp S V L Z F X M P w2 wh2 so' vaω leω moω hoω paω fpω b q n' top2 N C := by
  subst hnω
  have q1 := zg_at2 et hi
  have q2 := zg_at2 eh hi2
  have g0 : 0 ≤ g.toInt := by omega
  subst e1; subst e2; subst e3; subst e4; subst e5; subst e6; subst e7
  refine zKp_step (t := t.toInt) (h := h.toInt) (top1 := top1) hk ht1 hn q1.symm q2.symm (fun k k0 k1 => ?_) ?_ h1 h2
  · exact ⟨zg_ne g0 (by omega) (by omega), zg_ne g0 (by omega) (by omega), zg_ne g0 (by omega) (by omega), zg_ne g0 (by omega) (by omega), zg_ne g0 (by omega) (by omega), zg_ne g0 (by omega) (by omega), zg_ne g0 (by omega) (by omega)⟩
  · rw [← hg]
    exact ⟨by rw [zg_eq]; exact zg_at f1, by rw [zg_eq]; exact zg_at f2, by rw [zg_eq]; exact zg_at f3, by rw [zg_eq]; exact zg_at f4, by rw [zg_eq], by rw [zg_eq]; exact zg_at f6, fun z => by rw [zg_eq, hx7 z, zg_at f7]⟩
def zEi (en : Nat → Int32) (b n : Int) : Prop := ∀ j : Int, 0 ≤ j → j < n → zg en (b + j) = j + 1
theorem zEi_w {en enω : Nat → Int32} {b n n' : Int} {g x : Int32} (h : zEi en b n) (e : enω = upd en g.toNatClampNeg x) (hx : x.toInt = n + 1) (hg : g.toInt = b + n) (hb : 0 ≤ b) (hn : 0 ≤ n) (hnω : n' = n + 1) : zEi enω b n' := by
  subst e; subst hnω; intro j j0 j1
  by_cases q : j = n
  · subst q; rw [← hg, zg_eq]; exact hx
  · rw [zg_ne (by omega) (by omega) (by omega)]; exact h j j0 (by omega)
def zO8 (so va le mo ho pa en fp so' vaω leω moω hoω paω enω fpω : Nat → Int32) (b : Int) : Prop := zOb so so' b ∧ zOb va vaω b ∧ zOb le leω b ∧ zOb mo moω b ∧ zOb ho hoω b ∧ zOb pa paω b ∧ zOb en enω b ∧ zOb fp fpω b
theorem zO8_rf {so va le mo ho pa en fp : Nat → Int32} {b : Int} : zO8 so va le mo ho pa en fp so va le mo ho pa en fp b := ⟨zOb_rf, zOb_rf, zOb_rf, zOb_rf, zOb_rf, zOb_rf, zOb_rf, zOb_rf⟩
theorem zO8_w {so va le mo ho pa en fp so1 va1 le1 mo1 ho1 pa1 en1 fp1 so' vaω leω moω hoω paω enω fpω : Nat → Int32} {b : Int} {g x1 x2 x3 x4 x5 x6 x7 x8 : Int32} (h : zO8 so va le mo ho pa en fp so1 va1 le1 mo1 ho1 pa1 en1 fp1 b) (e1 : so' = upd so1 g.toNatClampNeg x1) (e2 : vaω = upd va1 g.toNatClampNeg x2) (e3 : leω = upd le1 g.toNatClampNeg x3) (e4 : moω = upd mo1 g.toNatClampNeg x4) (e5 : hoω = upd ho1 g.toNatClampNeg x5) (e6 : paω = upd pa1 g.toNatClampNeg x6) (e7 : enω = upd en1 g.toNatClampNeg x7) (e8 : fpω = upd fp1 g.toNatClampNeg x8) (hg : 0 ≤ g.toInt ∧ b ≤ g.toInt ∧ g.toInt < b + 220) : zO8 so va le mo ho pa en fp so' vaω leω moω hoω paω enω fpω b := by
  obtain ⟨a1, a2, a3, a4, a5, a6, a7, a8⟩ := h
  exact ⟨zOb_w a1 e1 hg, zOb_w a2 e2 hg, zOb_w a3 e3 hg, zOb_w a4 e4 hg, zOb_w a5 e5 hg, zOb_w a6 e6 hg, zOb_w a7 e7 hg, zOb_w a8 e8 hg⟩
def zCy (B E pb pe pbω peω : Nat → Int32) (q k : Int) : Prop := (∀ i : Int, 0 ≤ i → i < k → zg pbω (q + i) = zg B i ∧ zg peω (q + i) = zg E i) ∧ (∀ j : Int, 0 ≤ j → (j < q ∨ q + 420 ≤ j) → zg pbω j = zg pb j ∧ zg peω j = zg pe j)
theorem zCy_0 {B E pb pe : Nat → Int32} {q : Int} : zCy B E pb pe pb pe q (0 : Int32).toInt := by
  refine ⟨fun i i0 i1 => ?_, fun _ _ _ => ⟨rfl, rfl⟩⟩
  have e : (0 : Int32).toInt = 0 := rfl
  omega
theorem zCy_w {B E pb pe pb1 pe1 pbω peω : Nat → Int32} {q kω : Int} {k i j x y : Int32} (h : zCy B E pb pe pb1 pe1 q k.toInt) (e1 : pbω = upd pb1 i.toNatClampNeg x) (e2 : peω = upd pe1 j.toNatClampNeg y) (ex : x = B k.toNatClampNeg) (ey : y = E k.toNatClampNeg) (hi : i.toInt = q + k.toInt) (hj : j.toInt = q + k.toInt) (hq : 0 ≤ q) (hk : 0 ≤ k.toInt ∧ k.toInt < 420) (hkω : kω = k.toInt + 1) : zCy B E pb pe pbω peω q kω := by
  subst e1; subst e2; subst hkω
  obtain ⟨a, b⟩ := h
  refine ⟨fun m m0 m1 => ?_, fun m m0 m1 => ?_⟩
  · by_cases e : m = k.toInt
    · subst e
      exact ⟨by rw [← hi, zg_eq]; exact zg_at ex, by rw [← hj, zg_eq]; exact zg_at ey⟩
    · rw [zg_ne (by omega) (by omega) (by omega), zg_ne (by omega) (by omega) (by omega)]; exact a m m0 (by omega)
  · rw [zg_ne (by omega) (by omega) (by omega), zg_ne (by omega) (by omega) (by omega)]; exact b m m0 m1
theorem zBk_h {S V L Z M P so va le mo ho pa fp en : Nat → Int32} {b q N C k k9 : Int} {x i : Int32} (h : zBk S V L Z M P so va le mo ho pa fp en b q N C k9) (ex : x = ho i.toNatClampNeg) (hi : i.toInt = b + k) (k0 : 1 ≤ k) (k1 : k < N) : 0 ≤ x.toInt ∧ x.toInt < k := by
  obtain ⟨E, G, h1, _⟩ := h
  have := zg_at2 ex hi
  have := (h1 k (by omega) k1).2.1.2.2.2 k0
  omega
def zMx (en : Nat → Int32) (a b s : Int) : Prop := (s = zg en a ∧ zg en b ≤ zg en a) ∨ (s = zg en b ∧ zg en a ≤ zg en b)
theorem zBk_w {S V L Z M P so va le mo ho pa fp en enω : Nat → Int32} {b q N C kω : Int} {k s x g i j : Int32} (h : zBk S V L Z M P so va le mo ho pa fp en b q N C k.toInt) (ex : x = ho i.toNatClampNeg) (e : enω = upd en g.toNatClampNeg s) (hm : zMx en g.toInt j.toInt s.toInt) (hi : i.toInt = b + k.toInt) (hj : j.toInt = b + k.toInt) (hg : g.toInt = b + x.toInt) (hb : 0 ≤ b) (k0 : 1 ≤ k.toInt) (k1 : k.toInt < N) (hkω : kω = k.toInt - 1) : zBk S V L Z M P so va le mo ho pa fp enω b q N C kω := by
  have q1 := zg_at2 ex hi
  have q2 := zBk_h h ex hi k0 k1
  subst e
  have g0 : 0 ≤ g.toInt := by omega
  refine zBk_step h k0 k1 hkω ?_ (fun j j0 j1 => zg_ne g0 (by omega) (by omega))
  rw [← q1, ← hg, zg_eq]
  unfold zMx at hm; rw [hj] at hm; omega
theorem zAll_put {it itω : Nat → Bool} {ma ca so va le mo ho pa en fp pb pe sz ps ma' ca' so' vaω leω moω hoω paω enω fpω pbω peω szω psω B E : Nat → Int32} {s n c : Int32} {k : Int} {z9 : Bool} (h : zAll it ma ca so va le mo ho pa en fp pb pe sz ps) (eit : itω = updB it s.toNatClampNeg z9) (ema : ma' = upd ma s.toNatClampNeg n) (eca : ca' = upd ca s.toNatClampNeg c) (o8 : zO8 so va le mo ho pa en fp so' vaω leω moω hoω paω enω fpω (220 * s.toInt)) (cy : zCy B E pb pe pbω peω (420 * s.toInt) k) (o1 : zOb sz szω (220 * s.toInt)) (o2 : zOb ps psω (220 * s.toInt)) (hs : zSl so' vaω leω moω hoω paω enω fpω pbω peω (220 * s.toInt) (420 * s.toInt) n.toInt c.toInt) (hm : zMs so' leω moω enω szω psω (220 * s.toInt) 0 n.toInt) (s0 : 0 ≤ s.toInt ∧ s.toInt < 6) : zAll itω ma' ca' so' vaω leω moω hoω paω enω fpω pbω peω szω psω := by
  subst eit; subst ema; subst eca
  intro r r0 r1 hr
  by_cases e : r = s.toInt
  · subst e
    rw [zg_eq, zg_eq]; exact ⟨hs, hm⟩
  · rw [zg_ne s0.1 r0 e, zg_ne s0.1 r0 e]
    have hrω : it r.toNat = true := by
      have : updB it s.toNatClampNeg z9 r.toNat = it r.toNat := by
        show (if r.toNat = s.toInt.toNat then _ else _) = _
        rw [if_neg (by omega)]
      rw [← this]; exact hr
    obtain ⟨g1, g2⟩ := h r r0 r1 hrω
    obtain ⟨a1, a2, a3, a4, a5, a6, a7, a8⟩ := o8
    have hd : ∀ j : Int, 0 ≤ j → j < 220 → (220 * r + j < 220 * s.toInt ∨ 220 * s.toInt + 220 ≤ 220 * r + j) := fun j j0 j1 => by omega
    refine ⟨zSl_congr (fun j j0 j1 => ⟨a1 _ (by omega) (hd j j0 j1), a2 _ (by omega) (hd j j0 j1), a3 _ (by omega) (hd j j0 j1), a4 _ (by omega) (hd j j0 j1), a5 _ (by omega) (hd j j0 j1), a6 _ (by omega) (hd j j0 j1), a7 _ (by omega) (hd j j0 j1), a8 _ (by omega) (hd j j0 j1)⟩) (fun i i0 i1 => cy.2 _ (by omega) (by omega)) g1, ?_⟩
    have hn := zMn_of g1
    exact zMs_congr g1.2.1 (fun k k0 k1 => (hn k k0 k1).2.2.2.2.2.2) (fun j j0 j1 => ⟨a1 _ (by omega) (hd j j0 j1), a3 _ (by omega) (hd j j0 j1), a4 _ (by omega) (hd j j0 j1), a7 _ (by omega) (hd j j0 j1), o1 _ (by omega) (hd j j0 j1), o2 _ (by omega) (hd j j0 j1)⟩) g2
theorem zFn_p {S V L Z M P : Nat → Int32} {N p q : Int} {t x y a : Int32} (h : zFn S V L Z M P N p) (f7 : y = P t.toNatClampNeg) (e : x = a + y) (ha : a.toInt = q) (hq : 0 ≤ q ∧ q ≤ 2100) (ht : 0 ≤ t.toInt ∧ t.toInt < N) (hp : p ≤ 420) : zg S t.toInt = 2 → x.toInt = q + y.toInt := by
  intro z
  have w := (h t.toInt ht.1 ht.2).2.2.2.2.2.2.2.2.2.2.2 z
  have := zg_at f7
  have := i_add (a := a.toInt) (b := y.toInt) e rfl rfl (by omega) (by omega)
  omega
theorem zbz_t {f : Nat → Bool} {i x : Int32} (ex : x = bz (f i.toNatClampNeg)) (h : x.toInt ≠ 0) : f i.toNatClampNeg = true := by
  cases hb : f i.toNatClampNeg with
  | true => rfl
  | false => rw [hb] at ex; subst ex; exact absurd rfl h
theorem zAll_s {it : Nat → Bool} {ma ca so va le mo ho pa en fp pb pe sz ps : Nat → Int32} {s : Int32} (h : zAll it ma ca so va le mo ho pa en fp pb pe sz ps) (ht : it s.toNatClampNeg = true) (h0 : 0 ≤ s.toInt) (h1 : s.toInt ≤ 5) : zSl so va le mo ho pa en fp pb pe (220 * s.toInt) (420 * s.toInt) (zg ma s.toInt) (zg ca s.toInt) ∧ zMs so le mo en sz ps (220 * s.toInt) 0 (zg ma s.toInt) := h s.toInt h0 (by omega) ht
theorem zS_n {so va le mo ho pa en fp pb pe : Nat → Int32} {b q n c : Int} (h : zSl so va le mo ho pa en fp pb pe b q n c) : 1 ≤ n ∧ n ≤ 220 := ⟨h.1, h.2.1⟩
theorem zS_c {so va le mo ho pa en fp pb pe : Nat → Int32} {b q n c : Int} (h : zSl so va le mo ho pa en fp pb pe b q n c) : 0 ≤ c ∧ c ≤ 9 := ⟨h.2.2.1, h.2.2.2.1⟩
theorem zS_nd {so va le mo ho pa en fp pb pe : Nat → Int32} {b q n c k : Int} (h : zSl so va le mo ho pa en fp pb pe b q n c) (k0 : 0 ≤ k) (k1 : k < n) : ∃ p : Int, p ≤ 420 ∧ zNd so va le mo ho pa en fp b q n c p k := by
  obtain ⟨s1, s2, s3, s4, p, p0, p1, s5, s6⟩ := h
  exact ⟨p, p1, s5 k k0 k1⟩
theorem zS_sort {so va le mo ho pa en fp pb pe : Nat → Int32} {b q n c k : Int} {x i : Int32} (h : zSl so va le mo ho pa en fp pb pe b q n c) (ex : x = so i.toNatClampNeg) (hi : i.toInt = b + k) (k0 : 0 ≤ k) (k1 : k < n) : 0 ≤ x.toInt ∧ x.toInt ≤ 11 := by
  obtain ⟨p, _, d⟩ := zS_nd h k0 k1
  have := zg_at2 ex hi; unfold zNd at d; omega
theorem zS_value {so va le mo ho pa en fp pb pe : Nat → Int32} {b q n c k : Int} {x i : Int32} (h : zSl so va le mo ho pa en fp pb pe b q n c) (ex : x = va i.toNatClampNeg) (hi : i.toInt = b + k) (k0 : 0 ≤ k) (k1 : k < n) : 0 ≤ x.toInt ∧ x.toInt ≤ 65535 := by
  obtain ⟨p, _, ⟨_, _, _, _, _, _, d7, d8, _⟩, _⟩ := zS_nd h k0 k1
  have := zg_at2 ex hi; omega
theorem zS_least {so va le mo ho pa en fp pb pe : Nat → Int32} {b q n c k : Int} {x i : Int32} (h : zSl so va le mo ho pa en fp pb pe b q n c) (ex : x = le i.toNatClampNeg) (hi : i.toInt = b + k) (k0 : 0 ≤ k) (k1 : k < n) : 0 ≤ x.toInt ∧ x.toInt ≤ 20 := by
  obtain ⟨p, _, ⟨_, _, d3, d4, _⟩, _⟩ := zS_nd h k0 k1
  have := zg_at2 ex hi; omega
theorem zS_most {so va le mo ho pa en fp pb pe : Nat → Int32} {b q n c k : Int} {x i : Int32} (h : zSl so va le mo ho pa en fp pb pe b q n c) (ex : x = mo i.toNatClampNeg) (hi : i.toInt = b + k) (k0 : 0 ≤ k) (k1 : k < n) : -1 ≤ x.toInt ∧ x.toInt ≤ 20 := by
  obtain ⟨p, _, ⟨_, _, _, _, d5, d6, _⟩, _⟩ := zS_nd h k0 k1
  have := zg_at2 ex hi; omega
theorem zS_holder {so va le mo ho pa en fp pb pe : Nat → Int32} {b q n c k : Int} {x i : Int32} (h : zSl so va le mo ho pa en fp pb pe b q n c) (ex : x = ho i.toNatClampNeg) (hi : i.toInt = b + k) (k0 : 0 ≤ k) (k1 : k < n) : -1 ≤ x.toInt ∧ x.toInt < k ∧ (1 ≤ k → 0 ≤ x.toInt) := by
  obtain ⟨p, _, _, ⟨d1, d2, _⟩, _⟩ := zS_nd h k0 k1
  have := zg_at2 ex hi
  by_cases e : k = 0
  · have := d1 e; omega
  · have := d2 (by omega); omega
theorem zS_end {so va le mo ho pa en fp pb pe : Nat → Int32} {b q n c k : Int} {x i : Int32} (h : zSl so va le mo ho pa en fp pb pe b q n c) (ex : x = en i.toNatClampNeg) (hi : i.toInt = b + k) (k0 : 0 ≤ k) (k1 : k < n) : k < x.toInt ∧ x.toInt ≤ n := by
  obtain ⟨p, _, _, ⟨_, _, d3, d4, _⟩, _⟩ := zS_nd h k0 k1
  have := zg_at2 ex hi; omega
theorem zS_firstPart {so va le mo ho pa en fp pb pe : Nat → Int32} {b q n c k : Int} {x i y j : Int32} (h : zSl so va le mo ho pa en fp pb pe b q n c) (ex : x = fp i.toNatClampNeg) (ey : y = pa j.toNatClampNeg) (hi : i.toInt = b + k) (hj : j.toInt = b + k) (k0 : 0 ≤ k) (k1 : k < n) (h2 : zg so (b + k) = 2) : q ≤ x.toInt ∧ 0 ≤ y.toInt ∧ x.toInt + y.toInt ≤ q + 420 := by
  obtain ⟨p, hp, ⟨_, _, _, _, _, _, _, _, _, _, _, d⟩, _⟩ := zS_nd h k0 k1
  have := zg_at2 ex hi; have := zg_at2 ey hj; have := d h2; omega
theorem zS_fp0 {so va le mo ho pa en fp pb pe : Nat → Int32} {b q n c k : Int} {x i : Int32} (h : zSl so va le mo ho pa en fp pb pe b q n c) (ex : x = fp i.toNatClampNeg) (hi : i.toInt = b + k) (k0 : 0 ≤ k) (k1 : k < n) (h2 : zg so i.toInt = 2) : q ≤ x.toInt ∧ x.toInt ≤ q + 420 := by
  obtain ⟨p, hp, ⟨_, _, _, _, _, _, _, _, _, _, _, d⟩, _⟩ := zS_nd h k0 k1
  rw [hi] at h2
  have := zg_at2 ex hi; have := d h2; omega
theorem zS_fp {so va le mo ho pa en fp pb pe : Nat → Int32} {b q n c k : Int} {x i y j : Int32} (h : zSl so va le mo ho pa en fp pb pe b q n c) (ex : x = fp i.toNatClampNeg) (ey : y = pa j.toNatClampNeg) (hi : i.toInt = b + k) (hj : j.toInt = b + k) (k0 : 0 ≤ k) (k1 : k < n) (h2 : zg so i.toInt = 2) : q ≤ x.toInt ∧ 0 ≤ y.toInt ∧ x.toInt + y.toInt ≤ q + 420 := by
  rw [hi] at h2; exact zS_firstPart h ex ey hi hj k0 k1 h2
theorem zS_mono {so va le mo ho pa en fp pb pe : Nat → Int32} {b q n c k : Int} {x i : Int32} (h : zSl so va le mo ho pa en fp pb pe b q n c) (ex : x = so i.toNatClampNeg) (hi : i.toInt = b + k) : zg so i.toInt = x.toInt := (zg_at ex).symm
def zb8 (w : Int64) (k : Int32) : Int32 := ((w >>> (((8 : Int32) * k).toInt64 &&& 63)) &&& (255 : Int64)).toInt32
theorem zb8_e {w y z : Int64} {x k v : Int32} (e1 : x = (8 : Int32) * k) (e2 : y = w >>> (x.toInt64 &&& 63)) (e3 : z = y &&& (255 : Int64)) (e4 : v = z.toInt32) : v = zb8 w k := by subst e1; subst e2; subst e3; subst e4; rfl
def zFd (w : Int64) (n : Int) : Prop := ∀ k : Int32, 0 ≤ k.toInt → k.toInt < n → 32 ≤ (zb8 w k).toInt ∧ (zb8 w k).toInt ≤ 126
def zFg (g : Int) (w : Int64) (n : Int) : Prop := g = 0 ∨ zFd w n
theorem zFg_0 {g : Int} {w : Int64} : zFg g w (0 : Int32).toInt := Or.inr (fun k k0 k1 => by have e : (0 : Int32).toInt = 0 := rfl
                                                                                             exact absurd k1 (by omega))
theorem zFg_s {g : Int} {w : Int64} {k kω v r : Int32} (h : zFg g w k.toInt) (hg : g ≠ 0) (e : v = zb8 w k) (h1 : (r.toInt = 0) ∨ (32 ≤ v.toInt)) (h2 : (r.toInt = 0) ∨ (v.toInt ≤ 126)) (hk : kω.toInt = k.toInt + 1) : zFg r.toInt w kω.toInt := by
  rcases h with h | h
  · exact absurd h hg
  · by_cases hr : r.toInt = 0
    · exact Or.inl hr
    · refine Or.inr (fun j j0 j1 => ?_)
      by_cases e2 : j.toInt = k.toInt
      · have := Int32.toInt_inj.mp e2
        subst this; rw [← e]; omega
      · exact h j j0 (by omega)
theorem zFg_m {g : Int} {w : Int64} {k n : Int} (h : zFg g w k) (hn : n ≤ k) : zFg g w n := by
  rcases h with h | h
  · exact Or.inl h
  · exact Or.inr (fun j j0 j1 => h j j0 (by omega))
theorem zl16 {x : Int32} {y z : Int64} (e1 : z = y &&& (65535 : Int64)) (e2 : x = z.toInt32) : 0 ≤ x.toInt ∧ x.toInt ≤ 65535 := by
  subst e2; subst e1
  have hn : (y &&& (65535 : Int64)).toBitVec.toNat ≤ 65535 := by
    show (y.toBitVec &&& (65535#64)).toNat ≤ 65535
    rw [BitVec.toNat_and]; exact Nat.and_le_right
  have hm : (y &&& (65535 : Int64)).toBitVec.msb = false := by
    rw [BitVec.msb_eq_false_iff_two_mul_lt]; omega
  have hi : (y &&& (65535 : Int64)).toInt = (y &&& (65535 : Int64)).toBitVec.toNat := BitVec.toInt_eq_toNat_of_msb hm
  rw [Int64.toInt_toInt32, hi, i_bm (by omega) (by omega)]
  omega
theorem zchr {r : Int32} {x : UInt32} (h : r = (x % 65536).toInt32) : chr r := by
  subst h
  show ((x % 65536).toUInt16.toUInt32).toInt32 = (x % 65536).toInt32
  congr 1
  apply UInt32.toNat_inj.mp
  have h1 : (x % 65536).toNat = x.toNat % 65536 := UInt32.toNat_mod _ _
  have h2 : ((x % 65536).toUInt16.toUInt32).toNat = (x % 65536).toNat % 65536 := by
    rw [UInt16.toNat_toUInt32, UInt32.toNat_toUInt16]
  rw [h2, h1]; omega
theorem zbz_f {f : Nat → Bool} {i x : Int32} (ex : x = bz (f i.toNatClampNeg)) (h : x.toInt = 0) : f i.toNatClampNeg = false := by
  cases hb : f i.toNatClampNeg with
  | false => rfl
  | true => rw [hb] at ex; subst ex; exact absurd h (by decide)
def zln (sb : Nat → Bool) (l0 : Nat → Int32) (s : Int) : Int := if sb s.toNat = true then zg l0 s else 0
def zPt (sb : Nat → Bool) (l0 : Nat → Int32) (s n : Int) (sbω : Nat → Bool) (l0ω : Nat → Int32) : Prop :=
  ((0 ≤ s ∧ s ≤ 3 ∧ 0 ≤ n ∧ n ≤ 4 ∧ zln sb l0 s + n ≤ 100) ∧ sbω s.toNat = true ∧ zg l0ω s = zln sb l0 s + n ∧ ∀ j : Int, 0 ≤ j → j ≠ s → sbω j.toNat = sb j.toNat ∧ zg l0ω j = zg l0 j) ∨
  (¬ (0 ≤ s ∧ s ≤ 3 ∧ 0 ≤ n ∧ n ≤ 4 ∧ zln sb l0 s + n ≤ 100) ∧ sbω = sb ∧ l0ω = l0)
def zDr (sb : Nat → Bool) (l0 : Nat → Int32) (s r : Int) (sbω : Nat → Bool) : Prop :=
  ((s < 0 ∨ 3 < s) ∧ r = -2 ∧ sbω = sb) ∨ ((0 ≤ s ∧ s ≤ 3) ∧ sb s.toNat = false ∧ r = -3 ∧ sbω = sb) ∨ ((0 ≤ s ∧ s ≤ 3) ∧ sb s.toNat = true ∧ r = zg l0 s ∧ sbω s.toNat = false ∧ ∀ j : Int, 0 ≤ j → j ≠ s → sbω j.toNat = sb j.toNat)
theorem zPt_no {sb : Nat → Bool} {l0 : Nat → Int32} {s n : Int} (h : ¬ (0 ≤ s ∧ s ≤ 3 ∧ 0 ≤ n ∧ n ≤ 4)) : zPt sb l0 s n sb l0 := Or.inr ⟨fun z => h ⟨z.1, z.2.1, z.2.2.1, z.2.2.2.1⟩, rfl, rfl⟩
theorem zPt_full {sb : Nat → Bool} {l0 : Nat → Int32} {s n h : Int} (hl : h = zln sb l0 s) (hh : 100 < h + n) : zPt sb l0 s n sb l0 := Or.inr ⟨fun z => by have := z.2.2.2.2; omega, rfl, rfl⟩
theorem zupdB_eq {f g : Nat → Bool} {i : Int32} {b : Bool} (e : g = updB f i.toNatClampNeg b) : g i.toInt.toNat = b := by
  subst e; show (if i.toInt.toNat = i.toInt.toNat then b else _) = b; rw [if_pos rfl]
theorem zupdB_ne {f g : Nat → Bool} {i : Int32} {b : Bool} {j : Int} (e : g = updB f i.toNatClampNeg b) (h0 : 0 ≤ i.toInt) (hj : 0 ≤ j) (h : j ≠ i.toInt) : g j.toNat = f j.toNat := by
  subst e; show (if j.toNat = i.toInt.toNat then b else _) = _; rw [if_neg (by omega)]
theorem zPt_yes {sb sbω : Nat → Bool} {l0 l0ω : Nat → Int32} {s x : Int32} {n h : Int} {b : Bool} (e1 : sbω = updB sb s.toNatClampNeg b) (hb : b = true) (e2 : l0ω = upd l0 s.toNatClampNeg x) (hl : h = zln sb l0 s.toInt) (hx : x.toInt = h + n) (hh : h + n ≤ 100) (hs : 0 ≤ s.toInt ∧ s.toInt ≤ 3) (hn : 0 ≤ n ∧ n ≤ 4) : zPt sb l0 s.toInt n sbω l0ω := by
  refine Or.inl ⟨⟨hs.1, hs.2, hn.1, hn.2, by omega⟩, by rw [zupdB_eq e1]; exact hb, ?_, fun j j0 j1 => ⟨zupdB_ne e1 hs.1 j0 j1, ?_⟩⟩
  · subst e2; rw [zg_eq]; omega
  · subst e2; exact zg_ne hs.1 j0 j1
theorem zln_t {sb : Nat → Bool} {l0 : Nat → Int32} {s x y : Int32} (ex : x = bz (sb s.toNatClampNeg)) (hx : x.toInt ≠ 0) (ey : y = l0 s.toNatClampNeg) : y.toInt = zln sb l0 s.toInt := by
  have := zbz_t ex hx
  unfold zln; rw [if_pos (show sb s.toInt.toNat = true from this)]; exact zg_at ey
theorem zln_f {sb : Nat → Bool} {l0 : Nat → Int32} {s x : Int32} (ex : x = bz (sb s.toNatClampNeg)) (hx : x.toInt = 0) : (0 : Int32).toInt = zln sb l0 s.toInt := by
  have := zbz_f ex hx
  unfold zln; rw [if_neg (by rw [show s.toInt.toNat = s.toNatClampNeg from rfl, this]; decide)]; rfl
theorem zDr_w {sb : Nat → Bool} {l0 : Nat → Int32} {s r : Int32} (h0 : r.toInt = 0 ∨ r.toInt = -2 ∨ r.toInt = -3) (hr : r.toInt ≠ 0) (h3 : r.toInt = -3 → (0 ≤ s.toInt ∧ s.toInt ≤ 3 ∧ sb s.toNatClampNeg = false)) (h2 : r.toInt = -2 → (s.toInt < 0 ∨ 3 < s.toInt)) : zDr sb l0 s.toInt r.toInt sb := by
  rcases h0 with h | h | h
  · exact absurd h hr
  · exact Or.inl ⟨h2 h, h, rfl⟩
  · obtain ⟨a, b, c⟩ := h3 h
    exact Or.inr (Or.inl ⟨⟨a, b⟩, c, h, rfl⟩)
theorem zDr_y {sb sbω : Nat → Bool} {l0 : Nat → Int32} {s x r : Int32} {b : Bool} (ht : r.toInt = 0 → sb s.toNatClampNeg = true) (hr : r.toInt = 0) (e1 : sbω = updB sb s.toNatClampNeg b) (hb : b = false) (ex : x = l0 s.toNatClampNeg) (hs : 0 ≤ s.toInt ∧ s.toInt ≤ 3) : zDr sb l0 s.toInt x.toInt sbω :=
  Or.inr (Or.inr ⟨hs, ht hr, zg_at ex, by rw [zupdB_eq e1]; exact hb, fun j j0 j1 => zupdB_ne e1 hs.1 j0 j1⟩)
theorem zAll_off {it itω : Nat → Bool} {ma ca so va le mo ho pa en fp pb pe sz ps : Nat → Int32} {s : Int32} {b : Bool} (h : zAll it ma ca so va le mo ho pa en fp pb pe sz ps) (e : itω = updB it s.toNatClampNeg b) (hb : b = false) (h0 : 0 ≤ s.toInt) : zAll itω ma ca so va le mo ho pa en fp pb pe sz ps := by
  intro r r0 r1 hr
  by_cases q : r = s.toInt
  · subst q; rw [zupdB_eq e, hb] at hr; exact absurd hr (by decide)
  · rw [zupdB_ne e h0 r0 q] at hr; exact h r r0 r1 hr
def zGo (ig : Bool) (it : Nat → Bool) (s : Int) : Prop := ig = true → it s.toNat = true
theorem zbz1 {b : Bool} (h : (bz b).toInt ≠ 0) : b = true := by
  cases b with
  | true => rfl
  | false => exact absurd rfl h
theorem zbz2 {b : Bool} {x : Int32} (h : b = true) (e : x = bz b) : x.toInt = 1 := by subst e; subst h; rfl
theorem zGo_off {ig igω : Bool} {it itω : Nat → Bool} {s : Int32} {g : Int} {b : Bool} (h : zGo ig it g) (e : itω = updB it s.toNatClampNeg b) (h0 : 0 ≤ s.toInt) (hg : 0 ≤ g) (hi : igω = true → ig = true ∧ g ≠ s.toInt) : zGo igω itω g := by
  intro z
  obtain ⟨a, c⟩ := hi z
  rw [zupdB_ne e h0 hg c]; exact h a
theorem zRd_ok {φ : Int} {S V L Z F X M P B E : Nat → Int32} {t n p c : Int} (h : zRd φ S V L Z F X M P B E t n p c) (h0 : φ ≤ 0) : zOne S V F X t 0 n 0 c ∧ zFn S V L Z M P n p ∧ zFp B E p ∧ zCn S V M P B E 0 n p c 100 200 3224 := by
  rcases h with h | h
  · exact absurd h (by omega)
  · exact h
theorem zGo_put {ig igω : Bool} {it itω : Nat → Bool} {s : Int32} {g : Int} (h : zGo ig it g) (e : ∀ j : Int, 0 ≤ j → j ≠ s.toInt → itω j.toNat = it j.toNat) (hg : 0 ≤ g) (hi : igω = true → ig = true ∧ g ≠ s.toInt) : zGo igω itω g := by
  intro z
  obtain ⟨a, c⟩ := hi z
  rw [e g hg c]; exact h a
theorem zGo_no {it : Nat → Bool} {g : Int} : zGo false it g := fun z => absurd z (by decide)
def zOff (it : Nat → Bool) (k : Int) : Prop := ∀ j : Int, 0 ≤ j → j < k → it j.toNat = false
theorem zOff_0 {it : Nat → Bool} : zOff it (0 : Int32).toInt := fun j j0 j1 => by have e : (0 : Int32).toInt = 0 := rfl
                                                                                  exact absurd j1 (by omega)
theorem zOff_s {it itω : Nat → Bool} {k kω : Int32} {b : Bool} (h : zOff it k.toInt) (e : itω = updB it k.toNatClampNeg b) (hb : b = false) (h0 : 0 ≤ k.toInt) (hk : kω.toInt = k.toInt + 1) : zOff itω kω.toInt := by
  intro j j0 j1
  by_cases q : j = k.toInt
  · subst q; rw [zupdB_eq e]; exact hb
  · rw [zupdB_ne e h0 j0 q]; exact h j j0 (by omega)
theorem zAll_no {it : Nat → Bool} {ma ca so va le mo ho pa en fp pb pe sz ps : Nat → Int32} {k : Int} (h : zOff it k) (hk : 6 ≤ k) : zAll it ma ca so va le mo ho pa en fp pb pe sz ps := by
  intro r r0 r1 hr
  rw [h r r0 (by omega)] at hr; exact absurd hr (by decide)
theorem zS_ch {so va le mo ho pa en fp pb pe : Nat → Int32} {b q n c k : Int} {x i : Int32} (h : zSl so va le mo ho pa en fp pb pe b q n c) (ex : x = so i.toNatClampNeg) (hi : i.toInt = b + k) (k0 : 0 ≤ k) (k1 : k < n) (h6 : 6 ≤ x.toInt) : k + 1 < n := by
  obtain ⟨p, _, _, ⟨_, _, d3, d4, _⟩, _, d7, _⟩ := zS_nd h k0 k1
  have := zg_at2 ex hi; have := d7 (by omega); omega
def zKb (so : Nat → Int32) (b n : Int) : Prop := ∀ k : Int, 0 ≤ k → k < n → zg so (b + k) ≠ 4 ∧ zg so (b + k) ≠ 9 ∧ zg so (b + k) ≠ 10
theorem zKb_0 {g : Int} {so : Nat → Int32} {b : Int} : g = 0 → zKb so b (0 : Int32).toInt := by
  intro _ k k0 k1
  have e : (0 : Int32).toInt = 0 := rfl
  omega
theorem zKb_s {so : Nat → Int32} {b : Int} {l4 s0 s1 x i k kω : Int32} (h : l4.toInt = 0 → zKb so b k.toInt) (h83 : s0.toInt = 0 → (l4.toInt = 0 ∧ x.toInt ≠ 4 ∧ x.toInt ≠ 9 ∧ x.toInt ≠ 10)) (h142 : s1.toInt = 0 → s0.toInt = 0) (ex : x = so i.toNatClampNeg) (hi : i.toInt = b + k.toInt) (hk : kω.toInt = k.toInt + 1) : s1.toInt = 0 → zKb so b kω.toInt := by
  intro z j j0 j1
  obtain ⟨z1, z2⟩ := h83 (h142 z)
  by_cases e : j = k.toInt
  · subst e; rw [← zg_at2 ex hi]; exact z2
  · exact h z1 j j0 (by omega)
theorem zKb_m {so : Nat → Int32} {b k n : Int} (h : zKb so b k) (hn : n ≤ k) : zKb so b n := fun j j0 j1 => h j j0 (by omega)
theorem zS_pa {so va le mo ho pa en fp pb pe : Nat → Int32} {b q n c k : Int} {y j : Int32} (h : zSl so va le mo ho pa en fp pb pe b q n c) (ey : y = pa j.toNatClampNeg) (hj : j.toInt = b + k) (k0 : 0 ≤ k) (k1 : k < n) (h2 : zg so (b + k) = 2) : 0 ≤ y.toInt ∧ y.toInt ≤ 420 := by
  obtain ⟨p, hp, ⟨_, _, _, _, _, _, _, _, _, _, _, d⟩, _⟩ := zS_nd h k0 k1
  have := zg_at2 ey hj; have := d h2; omega
def zb1 (f : Nat → Bool) (k : Int) : Int := if f k.toNat = true then 1 else 0
def zhi (f : Nat → Bool) (k : Int) : Int := if f (k + 128).toNat = true then 1 else 0
def zth (N : Nat) (f : Nat → Bool) : Int := zsm (zhi f) N
theorem zb1_nn (f : Nat → Bool) (k : Int) : 0 ≤ zb1 f k ∧ zb1 f k ≤ 1 := by unfold zb1; split <;> omega
theorem zth_set {N : Nat} (hN : (N : Int) = 65409) {f f' : Nat → Bool} {i : Int32} {b : Bool} (e : f' = updB f i.toNatClampNeg b) (h0 : 0 ≤ i.toInt) (h1 : i.toInt ≤ 65536) : zth N f' ≤ zth N f + (if 128 ≤ i.toInt then 1 else 0) := by
  unfold zth
  by_cases h : 128 ≤ i.toInt
  · rw [if_pos h]
    have ne : ∀ k : Int, 0 ≤ k → k < ((N : Nat) : Int) → k ≠ i.toInt - 128 → zhi f' k = zhi f k := fun k k0 k1 k2 => by
      unfold zhi; rw [zupdB_ne e h0 (by omega) (by omega)]
    have := zsm_upd (n := N) (j := i.toInt - 128) (by omega) (by omega) ne
    have a1 : zhi f' (i.toInt - 128) ≤ 1 := by unfold zhi; split <;> omega
    have a2 : 0 ≤ zhi f (i.toInt - 128) := by unfold zhi; split <;> omega
    omega
  · rw [if_neg h]
    have : zsm (zhi f') N = zsm (zhi f) N := zsm_congr (fun k k0 k1 => by unfold zhi; rw [zupdB_ne e h0 (by omega) (by omega)])
    omega
theorem zth_same {f f' : Nat → Bool} {i : Int32} {b : Bool} (e : f' = updB f i.toNatClampNeg b) (hb : b = true) (h : f i.toInt.toNat = true) : f' = f := by
  subst e; funext j
  show (if j = i.toInt.toNat then b else f j) = f j
  by_cases q : j = i.toInt.toNat
  · rw [if_pos q, q, h, hb]
  · rw [if_neg q]
theorem zmk_sign {N : Nat} (hN : (N : Int) = 65409) {f f1 f2 f3 f4 : Nat → Bool} {v w o o1 : Int32} {b1 b2 b3 b4 : Bool} (e1 : f1 = updB f v.toNatClampNeg b1) (e2 : f2 = updB f1 w.toNatClampNeg b2) (e3 : f3 = updB f2 o.toNatClampNeg b3) (e4 : f4 = updB f3 o1.toNatClampNeg b4) (hb : b1 = true ∧ b2 = true ∧ b3 = true ∧ b4 = true) (hv : 0 ≤ v.toInt ∧ v.toInt ≤ 65535) (hw : w.toInt = v.toInt + 1) (ho : 0 ≤ o.toInt ∧ o.toInt ≤ 65535) (ho1 : o1.toInt = o.toInt + 1) (hc : o.toInt = v.toInt ∨ (o.toInt ≤ 122 ∧ v.toInt ≤ 122)) : zth N f4 ≤ zth N f + 2 * zhx v.toInt := by
  have a1 := zth_set hN e1 hv.1 (by omega)
  have a2 := zth_set hN e2 (by omega) (by omega)
  by_cases q : o.toInt = v.toInt
  · have t1 : f1 v.toInt.toNat = true := by rw [zupdB_eq e1]; exact hb.1
    have t2 : f2 w.toInt.toNat = true := by rw [zupdB_eq e2]; exact hb.2.1
    have t3 : f2 v.toInt.toNat = true := by rw [zupdB_ne e2 (by omega) (by omega) (by omega)]; exact t1
    have s3 : f3 = f2 := zth_same e3 hb.2.2.1 (by rw [q]; exact t3)
    have s4 : f4 = f3 := zth_same e4 hb.2.2.2 (by rw [s3, show o1.toInt = w.toInt from by omega]; exact t2)
    rw [s4, s3]
    unfold zhx
    by_cases z : v.toInt < 32 ∨ 126 < v.toInt
    · rw [if_pos z]; split at a1 <;> split at a2 <;> omega
    · rw [if_neg z]; rw [if_neg (by omega)] at a1 a2; omega
  · have a3 := zth_set hN e3 (by omega) (by omega)
    have a4 := zth_set hN e4 (by omega) (by omega)
    rw [if_neg (by omega)] at a1 a2 a3 a4
    have := zhx_nn v.toInt
    omega
theorem zmk_low {N : Nat} (hN : (N : Int) = 65409) {f f1 : Nat → Bool} {i : Int32} {b : Bool} (e1 : f1 = updB f i.toNatClampNeg b) (h : 0 ≤ i.toInt ∧ i.toInt < 128) : zth N f1 ≤ zth N f := by
  have := zth_set hN e1 h.1 (by omega); rw [if_neg (by omega)] at this; omega
theorem zmk_part {N : Nat} (hN : (N : Int) = 65409) {f f1 f2 : Nat → Bool} {v w : Int32} {b1 b2 : Bool} {pb pe : Int} (e1 : f1 = updB f v.toNatClampNeg b1) (e2 : f2 = updB f1 w.toNatClampNeg b2) (hv : v.toInt = pb ∧ 0 ≤ pb ∧ pb ≤ 65535) (hw : w.toInt = pe + 1 ∧ 0 ≤ pe ∧ pe ≤ 65535) : zth N f2 ≤ zth N f + zhx pb + zhx pe := by
  have a1 := zth_set hN e1 (by omega) (by omega)
  have a2 := zth_set hN e2 (by omega) (by omega)
  have b1 : (if 128 ≤ v.toInt then (1 : Int) else 0) ≤ zhx pb := by
    unfold zhx; split <;> split <;> omega
  have b2 : (if 128 ≤ w.toInt then (1 : Int) else 0) ≤ zhx pe := by
    unfold zhx; split <;> split <;> omega
  omega
def zcB (f : Nat → Bool) (n : Nat) : Int := zsm (zb1 f) n
theorem zsm_split {f : Int → Int} {a : Nat} : ∀ {n : Nat}, zsm f (a + n) = zsm f a + zsm (fun k => f (k + a)) n := by
  intro n; induction n with
  | zero => show zsm f a = zsm f a + 0; omega
  | succ n ih =>
    show zsm f (a + n) + f ((a + n : Nat) : Int) = zsm f a + (zsm (fun k => f (k + a)) n + f ((n : Int) + a))
    rw [ih, show ((a + n : Nat) : Int) = (n : Int) + a from by omega]; omega
theorem zsm_ub {f : Int → Int} (h : ∀ k : Int, f k ≤ 1) : ∀ {n : Nat}, zsm f n ≤ n := by
  intro n; induction n with
  | zero => exact Int.le_refl _
  | succ n ih => have := h n; show zsm f n + f n ≤ _; omega
theorem zcB_th {N : Nat} (hN : (N : Int) = 65409) (f : Nat → Bool) : zcB f (128 + N) ≤ 128 + zth N f := by
  unfold zcB zth
  have e : zsm (zb1 f) (128 + N) = zsm (zb1 f) 128 + zsm (fun k => zb1 f (k + (128 : Nat))) N := zsm_split (a := 128) (n := N)
  have a := zsm_ub (f := zb1 f) (fun k => (zb1_nn f k).2) (n := 128)
  have e2 : zsm (fun k => zb1 f (k + (128 : Nat))) N = zsm (zhi f) N := zsm_congr (fun k _ _ => rfl)
  omega
def zNo (f : Nat → Bool) : Prop := ∀ k : Nat, k < 65537 → f k = false
theorem zNo_th {N : Nat} {f : Nat → Bool} (hN : (N : Int) = 65409) (h : zNo f) : zth N f = 0 := by
  unfold zth
  rw [zsm_congr (g := fun _ => 0) (fun k k0 k1 => by unfold zhi; rw [h _ (by omega)]; rfl)]
  have : ∀ n : Nat, zsm (fun _ => 0) n = 0 := by
    intro n; induction n with
    | zero => rfl
    | succ n ih => show zsm _ n + 0 = 0; rw [ih]; rfl
  exact this _
theorem zvn_nn (so va : Nat → Int32) (b k : Int) : 0 ≤ zvn so va b k := by unfold zvn; have := zhx_nn (zg va (b + k)); split <;> omega
theorem zmk_sg {N : Nat} (hN : (N : Int) = 65409) {f f1 f2 f3 f4 : Nat → Bool} {so va : Nat → Int32} {b k : Int} {x i v v2 v3 v4 i2 i3 i4 i5 w o o1 o2 : Int32} {b1 b2 b3 b4 : Bool} (ex : x = so i.toNatClampNeg) (ev : v = va i2.toNatClampNeg) (ev2 : v2 = va i3.toNatClampNeg) (ev3 : v3 = va i4.toNatClampNeg) (ev4 : v4 = va i5.toNatClampNeg) (e1 : f1 = updB f v.toNatClampNeg b1) (e2 : f2 = updB f1 w.toNatClampNeg b2) (e3 : f3 = updB f2 o.toNatClampNeg b3) (e4 : f4 = updB f3 o1.toNatClampNeg b4) (hb : b1 = true ∧ b2 = true ∧ b3 = true ∧ b4 = true) (hx : x.toInt = 0) (hi : i.toInt = b + k ∧ i2.toInt = b + k ∧ i3.toInt = b + k ∧ i4.toInt = b + k ∧ i5.toInt = b + k) (hv : 0 ≤ v.toInt ∧ v.toInt ≤ 65535) (hw : w.toInt = v2.toInt + 1) (ho : 0 ≤ o.toInt ∧ o.toInt ≤ 65535) (ho2 : 0 ≤ o2.toInt ∧ o2.toInt ≤ 65535) (ho1 : o1.toInt = o2.toInt + 1) (hc : o.toInt = v3.toInt ∨ (o.toInt ≤ 122 ∧ v3.toInt ≤ 122)) (hc2 : o2.toInt = v4.toInt ∨ (o2.toInt ≤ 122 ∧ v4.toInt ≤ 122)) (hoo : v3.toInt = v4.toInt → o2.toInt = o.toInt) : zth N f4 ≤ zth N f + zvn so va b k := by
  have q1 := zg_at2 ev hi.2.1; have q2 := zg_at2 ev2 hi.2.2.1; have q3 := zg_at2 ev3 hi.2.2.2.1; have q4 := zg_at2 ev4 hi.2.2.2.2
  have q0 := zg_at2 ex hi.1
  have := hoo (by omega)
  have r := zmk_sign hN e1 e2 e3 e4 hb hv (by omega) ho (by omega) (by omega)
  unfold zvn; rw [if_pos (by omega), ← q1]; exact r
def zml (pb pe : Nat → Int32) (q i j : Int) : Int := zsm (zvp pb pe q) (i - q).toNat - zsm (zvp pb pe q) (j - q).toNat
theorem zml_0 {pb pe : Nat → Int32} {q i : Int} : zml pb pe q i i = 0 := by unfold zml; omega
theorem zml_s {pb pe : Nat → Int32} {q j : Int} {i i' x y k : Int32} (ex : x = pb i.toNatClampNeg) (ey : y = pe k.toNatClampNeg) (hk : k.toInt = i.toInt) (hq : 0 ≤ q ∧ q ≤ i.toInt) (hi : i'.toInt = i.toInt + 1) : zml pb pe q i'.toInt j = zml pb pe q i.toInt j + zhx x.toInt + zhx y.toInt := by
  unfold zml
  rw [hi, show i.toInt + 1 - q = (i.toInt - q) + 1 from by omega, zsm_add (by omega)]
  have q1 := zg_at ex; have q2 := zg_at2 ey hk
  have : zvp pb pe q (i.toInt - q) = zhx x.toInt + zhx y.toInt := by unfold zvp; rw [show q + (i.toInt - q) = i.toInt from by omega, q1, q2]
  omega
theorem zml_e {so pa fp pb pe : Nat → Int32} {b q k j l : Int} {x i y : Int32} (ex : x = so i.toNatClampNeg) (hx : x.toInt = 2) (hi : i.toInt = b + k) (ey : y = fp i.toNatClampNeg) (hj : j = y.toInt) (hl : l = y.toInt + zg pa i.toInt) : zml pb pe q l j = zvr so pa fp pb pe b q k := by
  have q0 := zg_at2 ex hi
  have q1 := zg_at2 ey hi
  unfold zvr zml; rw [if_pos (by omega), hl, hj, q1, hi, show zg fp (b + k) + zg pa (b + k) - q = zg fp (b + k) - q + zg pa (b + k) from by omega]
theorem zvr_0 {so pa fp pb pe : Nat → Int32} {b q k : Int} {x i : Int32} (ex : x = so i.toNatClampNeg) (hx : x.toInt ≠ 2) (hi : i.toInt = b + k) : zvr so pa fp pb pe b q k = 0 := by
  have q0 := zg_at2 ex hi
  unfold zvr; rw [if_neg (by omega)]
theorem zsm_s1 {f : Int → Int} {k : Int} (h : 0 ≤ k) : zsm f (k + 1).toNat = zsm f k.toNat + f k := zsm_add h
theorem zS_66 {so va le mo ho pa en fp pb pe : Nat → Int32} {b q n c : Int} (h : zSl so va le mo ho pa en fp pb pe b q n c) : zsm (zvn so va b) n.toNat + zsm (zvr so pa fp pb pe b q) n.toNat ≤ 66 := by
  obtain ⟨s1, s2, s3, s4, p, p0, p1, s5, s6, s7, s8, s9⟩ := h
  exact s8
theorem zS_pb {so va le mo ho pa en fp pb pe : Nat → Int32} {b q n c k : Int} {x i y j v w : Int32} (h : zSl so va le mo ho pa en fp pb pe b q n c) (ex : x = fp i.toNatClampNeg) (ey : y = pa j.toNatClampNeg) (es : zg so (b + k) = 2) (hi : i.toInt = b + k) (hj : j.toInt = b + k) (k0 : 0 ≤ k) (k1 : k < n) (hw : x.toInt ≤ w.toInt ∧ w.toInt < x.toInt + y.toInt) (hq : 0 ≤ q) : (v = pb w.toNatClampNeg → 0 ≤ v.toInt ∧ v.toInt ≤ 65535) ∧ (v = pe w.toNatClampNeg → 0 ≤ v.toInt ∧ v.toInt ≤ 65535) := by
  obtain ⟨s1, s2, s3, s4, p, p0, p1, s5, s6, s7⟩ := h
  have d := (s5 k k0 k1).1.2.2.2.2.2.2.2.2.2.2.2 es
  have a1 := zg_at2 ex hi; have a2 := zg_at2 ey hj
  have z := s6 (w.toInt - q) (by omega) (by omega)
  rw [show q + (w.toInt - q) = w.toInt from by omega] at z
  exact ⟨fun e => by have := zg_at e; omega, fun e => by have := zg_at e; omega⟩
theorem zmb_0 {N : Nat} {f : Nat → Bool} {g h : Int → Int} : zth N f ≤ zth N f + zsm g (0 : Int32).toInt.toNat + zsm h (0 : Int32).toInt.toNat := by
  show zth N f ≤ zth N f + 0 + 0; omega
theorem zmb_s {N : Nat} {f f2 f3 f4 f5 : Nat → Bool} {g h : Int → Int} {k kω : Int32} (h1 : zth N f2 ≤ zth N f + zsm g k.toInt.toNat + zsm h k.toInt.toNat) (h2 : zth N f3 ≤ zth N f2 + g k.toInt) (h3 : zth N f4 ≤ zth N f3 + h k.toInt) (h4 : zth N f5 ≤ zth N f4) (hk : kω.toInt = k.toInt + 1) (h0 : 0 ≤ k.toInt) : zth N f5 ≤ zth N f + zsm g kω.toInt.toNat + zsm h kω.toInt.toNat := by
  rw [hk, zsm_s1 h0, zsm_s1 h0]; omega
theorem zmb_e {N : Nat} {f f2 : Nat → Bool} {so va le mo ho pa en fp pb pe : Nat → Int32} {b q n c k : Int} (h1 : zth N f2 ≤ zth N f + zsm (zvn so va b) k.toNat + zsm (zvr so pa fp pb pe b q) k.toNat) (hS : zSl so va le mo ho pa en fp pb pe b q n c) (hk : k = n) : zth N f2 ≤ zth N f + 66 := by
  subst hk; have := zS_66 hS; omega
theorem zS_fpo {so va le mo ho pa en fp pb pe : Nat → Int32} {b q n c k : Int} {x i s j : Int32} (h : zSl so va le mo ho pa en fp pb pe b q n c) (es : s = so j.toNatClampNeg) (ex : x = fp i.toNatClampNeg) (hj : j.toInt = b + k) (hi : i.toInt = b + k) (k0 : 0 ≤ k) (k1 : k < n) : s.toInt ≠ 2 ∨ (q ≤ x.toInt ∧ x.toInt ≤ q + 420) := by
  by_cases e : s.toInt = 2
  · exact Or.inr (zS_fp0 h ex hi k0 k1 (by rw [hi, ← zg_at2 es hj]; exact e))
  · exact Or.inl e
theorem zml_x {N : Nat} {f g : Nat → Bool} {so pa fp pb pe : Nat → Int32} {b q k l j m : Int} {x i : Int32} (h : zth N f ≤ zth N g + zml pb pe q l j) (h1 : (x.toInt ≠ 2 ∧ l = j) ∨ (x.toInt = 2 ∧ l ≤ m)) (ex : x = so i.toNatClampNeg) (hx : x.toInt ≠ 2) (hi : i.toInt = b + k) : zth N f ≤ zth N g + zvr so pa fp pb pe b q k := by
  rcases h1 with ⟨_, h1⟩ | ⟨h1, _⟩
  · rw [h1, zml_0] at h; rw [zvr_0 ex hx hi]; exact h
  · exact absurd h1 hx
theorem zml_y {N : Nat} {f g : Nat → Bool} {so pa fp pb pe : Nat → Int32} {b q k l j : Int} {x i y : Int32} (h : zth N f ≤ zth N g + zml pb pe q l j) (ex : x = so i.toNatClampNeg) (hx : x.toInt = 2) (hi : i.toInt = b + k) (ey : y = fp i.toNatClampNeg) (hj : j = y.toInt) (hl : l = y.toInt + zg pa i.toInt) : zth N f ≤ zth N g + zvr so pa fp pb pe b q k := by
  rw [← zml_e (l := l) (j := j) ex hx hi ey hj hl]; exact h
theorem zml_i {so va le mo ho pa en fp pb pe : Nat → Int32} {b q n c k l j : Int} {x i : Int32} (h : zSl so va le mo ho pa en fp pb pe b q n c) (ex : x = so i.toNatClampNeg) (hi : i.toInt = b + k) (k0 : 0 ≤ k) (k1 : k < n) (hl : l = j) : (x.toInt ≠ 2 ∧ l = j) ∨ (x.toInt = 2 ∧ l ≤ j + zg pa i.toInt) := by
  by_cases e : x.toInt = 2
  · have := zS_pa (k := k) h (y := pa i.toNatClampNeg) rfl hi k0 k1 (by rw [← zg_at2 ex hi]; exact e)
    have h7 : (pa i.toNatClampNeg).toInt = zg pa i.toInt := rfl
    exact Or.inr ⟨e, by omega⟩
  · exact Or.inl ⟨e, hl⟩
theorem zml_n {N : Nat} {f f2 g : Nat → Bool} {pb pe : Nat → Int32} {q j lω : Int} {i x y k : Int32} (h : zth N f ≤ zth N g + zml pb pe q i.toInt j) (ex : x = pb i.toNatClampNeg) (ey : y = pe k.toNatClampNeg) (hs : zth N f2 ≤ zth N f + zhx x.toInt + zhx y.toInt) (hk : k.toInt = i.toInt) (hq : 0 ≤ q ∧ q ≤ i.toInt) (hi : lω = i.toInt + 1) : zth N f2 ≤ zth N g + zml pb pe q lω j := by
  subst hi
  have : zml pb pe q (i.toInt + 1) j = zml pb pe q i.toInt j + zhx x.toInt + zhx y.toInt := by
    unfold zml
    rw [show i.toInt + 1 - q = (i.toInt - q) + 1 from by omega, zsm_add (by omega)]
    have q1 := zg_at ex; have q2 := zg_at2 ey hk
    have : zvp pb pe q (i.toInt - q) = zhx x.toInt + zhx y.toInt := by unfold zvp; rw [show q + (i.toInt - q) = i.toInt from by omega, q1, q2]
    omega
  omega
theorem zml_z {N : Nat} {f : Nat → Bool} {pb pe : Nat → Int32} {q l j : Int} (h : l = j) : zth N f ≤ zth N f + zml pb pe q l j := by subst h; rw [zml_0]; omega
def zFB (f0 f : Nat → Bool) (bo : Nat → Int32) (c m : Int) : Prop := (∀ j : Int, 0 ≤ j → j < c → f j.toNat = false) ∧ (∀ j : Int, 0 ≤ j → c ≤ j → f j.toNat = f0 j.toNat) ∧ m = zcB f0 c.toNat ∧ (1 ≤ c → zg bo 0 = 0 ∧ 1 ≤ m)
def zFC (f0 f : Nat → Bool) (bo : Nat → Int32) (c m : Int) : Prop := (∀ j : Int, 0 ≤ j → j < c → f j.toNat = false) ∧ (∀ j : Int, 0 ≤ j → c ≤ j → f j.toNat = f0 j.toNat) ∧ m = zcB f0 (c + 1).toNat ∧ zg bo 0 = 0 ∧ 1 ≤ m
theorem zFB_0 {f0 : Nat → Bool} {bo : Nat → Int32} : zFB f0 f0 bo (0 : Int32).toInt (0 : Int32).toInt := by
  have e : (0 : Int32).toInt = 0 := rfl
  rw [e]
  exact ⟨fun j j0 j1 => by omega, fun _ _ _ => rfl, rfl, fun z => by omega⟩
theorem zcB_s {f : Nat → Bool} {c : Int} (h : 0 ≤ c) : zcB f (c + 1).toNat = zcB f c.toNat + zb1 f c := zsm_add h
theorem zFC_n {f0 f : Nat → Bool} {bo : Nat → Int32} {c x : Int32} {m : Int} (h : zFB f0 f bo c.toInt m) (h00 : f0 0 = true) (ex : x = bz (f c.toNatClampNeg)) (hx : x.toInt = 0) (c0 : 0 ≤ c.toInt) : zFC f0 f bo c.toInt m := by
  obtain ⟨a, b, d, e⟩ := h
  have q := zbz_f ex hx
  have q2 : f0 c.toInt.toNat = false := by rw [← b c.toInt c0 (Int.le_refl _)]; exact q
  have c1 : 1 ≤ c.toInt := by
    by_cases z : c.toInt = 0
    · rw [z] at q2; exact absurd (q2.symm.trans h00) (by decide)
    · omega
  refine ⟨a, b, ?_, e c1⟩
  rw [zcB_s c0, d]; unfold zb1; rw [q2]; rw [if_neg (by decide)]; omega
theorem zFC_y {f0 f : Nat → Bool} {bo bo' : Nat → Int32} {c x m m' : Int32} (h : zFB f0 f bo c.toInt m.toInt) (ex : x = bz (f c.toNatClampNeg)) (hx : x.toInt ≠ 0) (eb : bo' = upd bo m.toNatClampNeg c) (c0 : 0 ≤ c.toInt) (m0 : 0 ≤ m.toInt) (hm : m'.toInt = m.toInt + 1) : zFC f0 f bo' c.toInt m'.toInt := by
  obtain ⟨a, b, d, e⟩ := h
  have q := zbz_t ex hx
  have q2 : f0 c.toInt.toNat = true := by rw [← b c.toInt c0 (Int.le_refl _)]; exact q
  subst eb
  refine ⟨a, b, ?_, ?_, by omega⟩
  · rw [zcB_s c0, hm, d]; unfold zb1; rw [if_pos q2]
  · by_cases z : m.toInt = 0
    · have : c.toInt = 0 := by
        by_cases y : c.toInt = 0
        · exact y
        · have := (e (by omega)).2; omega
      have w := zg_eq (f := bo) (i := m) (v := c)
      rw [z] at w; rw [w]; exact this
    · have : 1 ≤ c.toInt := by
        by_cases y : c.toInt = 0
        · rw [y] at d; exact absurd d z
        · omega
      rw [zg_ne m0 (by omega) (by omega)]; exact (e this).1
theorem zFB_s {f0 f f' : Nat → Bool} {bo : Nat → Int32} {c c' : Int32} {m : Int} {b : Bool} (h : zFC f0 f bo c.toInt m) (e : f' = updB f c.toNatClampNeg b) (hb : b = false) (c0 : 0 ≤ c.toInt) (hc : c'.toInt = c.toInt + 1) : zFB f0 f' bo c'.toInt m := by
  obtain ⟨a, d, g, k1, k2⟩ := h
  refine ⟨fun j j0 j1 => ?_, fun j j0 j1 => ?_, by rw [hc]; exact g, fun _ => ⟨k1, k2⟩⟩
  · by_cases z : j = c.toInt
    · subst z; rw [zupdB_eq e]; exact hb
    · rw [zupdB_ne e c0 j0 z]; exact a j j0 (by omega)
  · rw [zupdB_ne e c0 j0 (by omega)]; exact d j j0 (by omega)
theorem zFB_le {N : Nat} {f0 f v : Nat → Bool} {bo : Nat → Int32} {c m t : Int} {i : Int32} {b : Bool} (h : zFB f0 f bo c m) (hN : (N : Int) = 65409) (e : f0 = updB v i.toNatClampNeg b) (hi : i.toInt = 0) (ht : zth N v ≤ t) (hc : c ≤ 65537) : m ≤ 128 + t := by
  obtain ⟨a, d, g, k1⟩ := h
  have q := zmk_low hN e (by omega)
  have w := zcB_th hN f0
  have z : zcB f0 c.toNat ≤ zcB f0 (128 + N) := zsm_mono (fun k => (zb1_nn f0 k).1) (by omega)
  omega
theorem zFB_no {f0 f f' : Nat → Bool} {bo : Nat → Int32} {c m : Int} {i : Int32} {b : Bool} (h : zFB f0 f bo c m) (hc : c = 65536) (e : f' = updB f i.toNatClampNeg b) (hi : i.toInt = 65536) (hb : b = false) : zNo f' := by
  intro k hk
  by_cases z : (k : Int) = 65536
  · have := zupdB_eq e
    rw [hi] at this
    have ek : k = (65536 : Int).toNat := by omega
    rw [ek, this]; exact hb
  · have := zupdB_ne (j := (k : Int)) e (by omega) (by omega) (by omega)
    rw [show ((k : Int)).toNat = k from by omega] at this
    rw [this]
    have w := h.1 (k : Int) (by omega) (by omega)
    rw [show ((k : Int)).toNat = k from by omega] at w
    exact w
theorem zE_c {so va le mo ho pa en fp pb pe : Nat → Int32} {b q n c k g : Int} (h : zSl so va le mo ho pa en fp pb pe b q n c) (hs : zg so g = 7) (hg : g = b + k) (k0 : 0 ≤ k) (k1 : k < n) : k + 1 < n := by
  obtain ⟨p, _, _, ⟨_, _, d3, d4, _⟩, _, d7, _⟩ := zS_nd h k0 k1
  rw [hg] at hs
  have := d7 (by omega); omega
def zrt (so : Nat → Int32) (b k : Int) : Int := if zg so (b + k) = 7 then 9 else if 5 ≤ zg so (b + k) then 1 else 0
theorem zrt_b {so : Nat → Int32} {b k : Int} {x i : Int32} (ex : x = so i.toNatClampNeg) (hi : i.toInt = b + k) : (zrt so b k = 9 ∧ x.toInt = 7) ∨ (zrt so b k ≤ 1 ∧ x.toInt ≠ 7 ∧ 5 ≤ x.toInt) ∨ (zrt so b k = 0 ∧ x.toInt < 5) := by
  have := zg_at2 ex hi
  unfold zrt; split
  · omega
  · split <;> omega
theorem zvp_nn (pb pe : Nat → Int32) (q k : Int) : 0 ≤ zvp pb pe q k := by unfold zvp; have := zhx_nn (zg pb (q + k)); have := zhx_nn (zg pe (q + k)); omega
theorem zml_mono {pb pe : Nat → Int32} {q i l j : Int} (h : i ≤ l) : zml pb pe q i j ≤ zml pb pe q l j := by
  unfold zml
  have := zsm_mono (f := zvp pb pe q) (zvp_nn pb pe q) (n := (i - q).toNat) (m := (l - q).toNat) (by omega)
  omega
theorem zvs_set {so va pa fp pb pe : Nat → Int32} {b q k l j : Int} {x i y : Int32} (ex : x = so i.toNatClampNeg) (hx : x.toInt = 2) (hi : i.toInt = b + k) (ey : y = fp i.toNatClampNeg) (hj : j = y.toInt) (hl : l = y.toInt + zg pa i.toInt) : zvs so va pa fp pb pe b q k = 5 * zg pa i.toInt + 4 * zml pb pe q l j := by
  have q0 := zg_at2 ex hi
  have q1 := zg_at2 ey hi
  unfold zvs zml; rw [if_pos (by omega), hl, hj, q1, hi, show zg fp (b + k) + zg pa (b + k) - q = zg fp (b + k) - q + zg pa (b + k) from by omega]
theorem zvs_nn {so va le mo ho pa en fp pb pe : Nat → Int32} {b q n c k : Int} (h : zSl so va le mo ho pa en fp pb pe b q n c) (k0 : 0 ≤ k) (k1 : k < n) : 0 ≤ zvs so va pa fp pb pe b q k := by
  obtain ⟨p, _, ⟨_, _, _, _, _, _, _, _, _, _, _, d⟩, _⟩ := zS_nd h k0 k1
  unfold zvs
  split
  · have := d (by assumption)
    have := zsm_mono (f := zvp pb pe q) (zvp_nn pb pe q) (n := (zg fp (b + k) - q).toNat) (m := (zg fp (b + k) - q + zg pa (b + k)).toNat) (by omega)
    omega
  · split
    · have := zhx_nn (zg va (b + k)); omega
    · omega
def zph (pb pe : Nat → Int32) (q v m i j : Int) : Prop := m ≤ v + 4 + 5 * (i - j) + 4 * zml pb pe q i j
theorem zph_0 {pb pe : Nat → Int32} {q v m j : Int} (h : m ≤ v + 4) : zph pb pe q v m j j := by unfold zph; rw [zml_0]; omega
theorem zph_s {pb pe : Nat → Int32} {q v m j : Int} {m' lω : Int} {i x y k : Int32} {a : Int} (h : zph pb pe q v m i.toInt j) (ex : x = pb i.toNatClampNeg) (ey : y = pe k.toNatClampNeg) (ha : a ≤ m + 6 ∧ (a ≤ m + 2 ∨ x.toInt < 32 ∨ 126 < x.toInt)) (hc : m' ≤ a + 1 + 6 ∧ (m' ≤ a + 1 + 2 ∨ y.toInt < 32 ∨ 126 < y.toInt)) (hk : k.toInt = i.toInt) (hq : 0 ≤ q ∧ q ≤ i.toInt) (hi : lω = i.toInt + 1) : zph pb pe q v m' lω j := by
  subst hi
  have e : zml pb pe q (i.toInt + 1) j = zml pb pe q i.toInt j + zhx x.toInt + zhx y.toInt := by
    unfold zml
    rw [show i.toInt + 1 - q = (i.toInt - q) + 1 from by omega, zsm_add (by omega)]
    have q1 := zg_at ex; have q2 := zg_at2 ey hk
    have : zvp pb pe q (i.toInt - q) = zhx x.toInt + zhx y.toInt := by unfold zvp; rw [show q + (i.toInt - q) = i.toInt from by omega, q1, q2]
    omega
  unfold zph at *; rw [e]
  have b1 : a ≤ m + 2 + 4 * zhx x.toInt := by unfold zhx; split <;> omega
  have b2 : m' ≤ a + 1 + 2 + 4 * zhx y.toInt := by unfold zhx; split <;> omega
  omega
theorem zS_v9 {so va le mo ho pa en fp pb pe : Nat → Int32} {b q n c k : Int} {x i y j : Int32} (h : zSl so va le mo ho pa en fp pb pe b q n c) (ex : x = so i.toNatClampNeg) (ey : y = va j.toNatClampNeg) (hi : i.toInt = b + k) (hj : j.toInt = b + k) (k0 : 0 ≤ k) (k1 : k < n) (hx : x.toInt ≠ 0) : y.toInt ≤ 9 := by
  obtain ⟨p, _, ⟨_, _, _, _, _, _, _, _, d, _⟩, _⟩ := zS_nd h k0 k1
  have := zg_at2 ex hi; have := zg_at2 ey hj; have := d (by omega); omega
theorem zrt_5 {so : Nat → Int32} {b k : Int} {x i : Int32} (ex : x = so i.toNatClampNeg) (hi : i.toInt = b + k) : 5 ≤ x.toInt → 1 ≤ zrt so b k := by
  intro h
  have := zg_at2 ex hi
  unfold zrt; split
  · omega
  · rw [if_pos (by omega)]; omega
def zPk (w wh en so : Nat → Int32) (b n : Int) : Nat → Int → Int → Int → Prop
  | 0, _, U, r => r = 0 ∧ 0 ≤ U
  | m + 1, V, U, r => ∃ r' : Int, (0 ≤ zg w m ∧ zg w m < n ∧ zg w m < U) ∧ (V ≤ zg wh m ∧ zg wh m ≤ zg en (b + zg w m)) ∧ r = r' + zrt so b (zg w m) ∧ zPk w wh en so b n m (zg en (b + zg w m)) (zg w m) r'
theorem zrt_nn (so : Nat → Int32) (b k : Int) : 0 ≤ zrt so b k := by unfold zrt; split; omega; split <;> omega
theorem zPk_le {w wh en so : Nat → Int32} {b n : Int} : ∀ {m : Nat} {V U r : Int}, zPk w wh en so b n m V U r → (m : Int) ≤ U ∧ 0 ≤ r := by
  intro m; induction m with
  | zero => intro V U r h; obtain ⟨h1, h2⟩ := h; omega
  | succ m ih =>
    intro V U r h
    obtain ⟨r', h1, h2, h3, h4⟩ := h
    have := ih h4; have := zrt_nn so b (zg w m); omega
theorem zPk_congr {w wh en so w' wh' : Nat → Int32} {b n : Int} : ∀ {m : Nat} {V U Uω r : Int}, (∀ i : Int, 0 ≤ i → i < m → zg w' i = zg w i ∧ zg wh' i = zg wh i) → U ≤ Uω → zPk w wh en so b n m V U r → zPk w' wh' en so b n m V Uω r := by
  intro m; induction m with
  | zero => intro V U Uω r _ hU h; exact ⟨h.1, by have := h.2; omega⟩
  | succ m ih =>
    intro V U Uω r hw hU h
    obtain ⟨r', h1, h2, h3, h4⟩ := h
    obtain ⟨e1, e2⟩ := hw m (by omega) (by omega)
    refine ⟨r', ?_, ?_, ?_, ?_⟩
    · rw [e1]; omega
    · rw [e1, e2]; exact h2
    · rw [e1]; exact h3
    · rw [e1]; exact ih (fun i i0 i1 => hw i i0 (by omega)) (Int.le_refl _) h4
def zPO (w wh en so : Nat → Int32) (zv : Int → Int) (b n top pm gm : Int) : Prop := ∃ V r : Int, 0 ≤ V ∧ V ≤ n ∧ zPk w wh en so b n top.toNat V V r ∧ pm + r ≤ 12 * V + zsm zv V.toNat ∧ 3 * (n - V) + top + 2 ≤ gm
def zPN (w wh en so : Nat → Int32) (zv : Int → Int) (b n top pm gm : Int) : Prop := ∃ V r : Int, 0 ≤ V ∧ 1 ≤ top ∧ zg wh (top - 1) = -1 ∧ V ≤ zg w (top - 1) ∧ zg w (top - 1) < n ∧ zPk w wh en so b n (top - 1).toNat (zg en (b + zg w (top - 1))) (zg w (top - 1)) r ∧ pm + r ≤ 12 * V + zsm zv V.toNat + 1 ∧ 3 * (n - V) + top ≤ gm
def zPI (w wh en so : Nat → Int32) (zv : Int → Int) (b n top pm gm : Int) : Prop := zPO w wh en so zv b n top pm gm ∨ zPN w wh en so zv b n top pm gm
theorem zPI_0 {w wh en so : Nat → Int32} {zv : Int → Int} {b n gm : Int} {k : Int32} (hw : zg w 0 = k.toInt) (hh : zg wh 0 = -1) (k0 : 0 ≤ k.toInt) (k1 : k.toInt < n) (hg : 3 * n + 1 ≤ gm) : zPI w wh en so zv b n 1 0 gm := by
  refine Or.inr ⟨0, 0, by omega, by omega, by rw [show (1 : Int) - 1 = 0 from rfl]; exact hh, by rw [show (1 : Int) - 1 = 0 from rfl, hw]; exact k0, by rw [show (1 : Int) - 1 = 0 from rfl, hw]; exact k1, ?_, ?_, by omega⟩
  · rw [show (1 : Int) - 1 = 0 from rfl, hw]; exact ⟨rfl, k0⟩
  · show 0 + 0 ≤ 12 * 0 + 0 + 1; omega
theorem zsm_mn {f : Int → Int} {a c : Int} (h : ∀ k : Int, 0 ≤ k → k < c → 0 ≤ f k) (h0 : 0 ≤ a) (hm : a ≤ c) : zsm f a.toNat ≤ zsm f c.toNat := by
  have key : ∀ m : Nat, a + m ≤ c → zsm f a.toNat ≤ zsm f (a + m).toNat := by
    intro m; induction m with
    | zero => intro _; rw [show a + ((0 : Nat) : Int) = a from by omega]; exact Int.le_refl _
    | succ m ih =>
      intro hh
      have := ih (by omega)
      rw [show a + ((m + 1 : Nat) : Int) = (a + m) + 1 from by omega, zsm_add (by omega)]
      have := h (a + m) (by omega) (by omega); omega
  have := key (c - a).toNat (by omega)
  rw [show a + ((c - a).toNat : Int) = c from by omega] at this; exact this
theorem zPI_le {w wh en so : Nat → Int32} {zv : Int → Int} {b n top pm gm : Int} (h : zPI w wh en so zv b n top pm gm) (hz : ∀ k : Int, 0 ≤ k → k < n → 0 ≤ zv k) (ht : 1 ≤ top) : top ≤ n ∧ 1 ≤ gm ∧ pm ≤ 12 * n + zsm zv n.toNat + 1 ∧ 0 ≤ zg w (top - 1) ∧ zg w (top - 1) < n := by
  rcases h with ⟨V, r, a1, a2, a3, a4, a5⟩ | ⟨V, r, a1, a2, a3, a4, a5, a6, a7, a8⟩
  · have q := zPk_le a3
    have m := zsm_mn hz a1 a2
    have e : top.toNat = (top - 1).toNat + 1 := by omega
    rw [e] at a3
    obtain ⟨r', b1, b2, b3, b4⟩ := a3
    have ee : (((top - 1).toNat : Nat) : Int) = top - 1 := by omega
    rw [ee] at b1
    omega
  · have q := zPk_le a6
    have m := zsm_mn hz a1 (show V ≤ n by omega)
    omega
theorem zPI_hd {w wh en so : Nat → Int32} {zv : Int → Int} {b n top pm gm : Int} (h : zPI w wh en so zv b n top pm gm) (hz : ∀ k : Int, 0 ≤ k → k < n → 0 ≤ zv k) (ht : 1 ≤ top) (hw : zg wh (top - 1) = -1) : pm + zv (zg w (top - 1)) ≤ 12 * n + zsm zv n.toNat + 1 := by
  rcases h with ⟨V, r, a1, a2, a3, a4, a5⟩ | ⟨V, r, a1, a2, a3, a4, a5, a6, a7, a8⟩
  · have e : top.toNat = (top - 1).toNat + 1 := by omega
    rw [e] at a3
    obtain ⟨r', b1, b2, b3, b4⟩ := a3
    have ee : (((top - 1).toNat : Nat) : Int) = top - 1 := by omega
    rw [ee, hw] at b2; omega
  · have q := zPk_le a6
    have m1 := zsm_mn hz (a := V) (c := n) a1 (by omega)
    have m2 := zsm_mn (f := zv) (a := V) (c := zg w (top - 1)) (fun k k0 k1 => hz k k0 (by omega)) a1 a4
    have m3 := zsm_mn hz (a := zg w (top - 1) + 1) (c := n) (by omega) (by omega)
    rw [zsm_add (by omega)] at m3
    omega
theorem zPO_hd {w wh wh' en so : Nat → Int32} {zv : Int → Int} {b n top pm pmω gm : Int} {i x : Int32} (h : zPI w wh en so zv b n top pm gm) (hz : ∀ k : Int, 0 ≤ k → k < n → 0 ≤ zv k) (ht : 1 ≤ top) (hw : zg wh (top - 1) = -1) (e : wh' = upd wh i.toNatClampNeg x) (hi : i.toInt = top - 1) (hx : x.toInt = zg w (top - 1) + 1) (hen : zg w (top - 1) < zg en (b + zg w (top - 1))) (hp : pmω + zrt so b (zg w (top - 1)) ≤ pm + 11 + zv (zg w (top - 1))) : zPO w wh' en so zv b n top pmω gm := by
  rcases h with ⟨V, r, a1, a2, a3, a4, a5⟩ | ⟨V, r, a1, a2, a3, a4, a5, a6, a7, a8⟩
  · have e : top.toNat = (top - 1).toNat + 1 := by omega
    rw [e] at a3
    obtain ⟨r', b1, b2, b3, b4⟩ := a3
    have ee : (((top - 1).toNat : Nat) : Int) = top - 1 := by omega
    rw [ee, hw] at b2; omega
  · subst e
    have e : top.toNat = (top - 1).toNat + 1 := by omega
    have ee : (((top - 1).toNat : Nat) : Int) = top - 1 := by omega
    have m2 := zsm_mn (f := zv) (a := V) (c := zg w (top - 1)) (fun k k0 k1 => hz k k0 (by omega)) a1 a4
    refine ⟨zg w (top - 1) + 1, r + zrt so b (zg w (top - 1)), by omega, by omega, ?_, ?_, by omega⟩
    · rw [e]
      refine ⟨r, by rw [ee]; omega, ?_, by rw [ee], ?_⟩
      · rw [ee, ← hi, zg_eq, hx, hi]; omega
      · rw [ee]; exact zPk_congr (fun j j0 j1 => ⟨rfl, zg_ne (by omega) j0 (by omega)⟩) (Int.le_refl _) a6
    · rw [zsm_add (by omega)]; omega
theorem zPO_op {w wh en so : Nat → Int32} {zv : Int → Int} {b n top pm gm : Int} (h : zPI w wh en so zv b n top pm gm) (hw : zg wh (top - 1) ≠ -1) : zPO w wh en so zv b n top pm gm := by
  rcases h with h | ⟨V, r, a1, a2, a3, a4⟩
  · exact h
  · exact absurd a3 hw
theorem zPO_c {w wh en so : Nat → Int32} {zv : Int → Int} {b n top pm gm : Int} (h : zPO w wh en so zv b n top pm gm) (ht : 1 ≤ top) : zg w (top - 1) < zg wh (top - 1) ∧ zg wh (top - 1) ≤ zg en (b + zg w (top - 1)) := by
  obtain ⟨V, r, a1, a2, a3, a4, a5⟩ := h
  have e : top.toNat = (top - 1).toNat + 1 := by omega
  rw [e] at a3
  obtain ⟨r', b1, b2, b3, b4⟩ := a3
  have ee : (((top - 1).toNat : Nat) : Int) = top - 1 := by omega
  rw [ee] at b1 b2; omega
theorem zPI_push {w wh w' wh1 wh2 en so : Nat → Int32} {zv : Int → Int} {b n top topω pm pmω gm gmω : Int} {i j j2 x c : Int32} (h : zPO w wh en so zv b n top pm gm) (ht : 1 ≤ top) (e1 : wh1 = upd wh i.toNatClampNeg x) (e2 : w' = upd w j.toNatClampNeg c) (e3 : wh2 = upd wh1 j2.toNatClampNeg (-1)) (hi : i.toInt = top - 1) (hj : j.toInt = top) (hj2 : j2.toInt = top) (hc : c.toInt = zg wh (top - 1)) (hx : x.toInt = zg en (b + c.toInt)) (hcn : c.toInt < n) (hen : zg en (b + c.toInt) ≤ zg en (b + zg w (top - 1))) (hp : pmω ≤ pm + 1) (ht' : topω = top + 1) (hg : gmω = gm - 1) : zPI w' wh2 en so zv b n topω pmω gmω := by
  obtain ⟨V, r, a1, a2, a3, a4, a5⟩ := h
  subst e1; subst e2; subst e3; subst ht'; subst hg
  have e : top.toNat = (top - 1).toNat + 1 := by omega
  have ee : (((top - 1).toNat : Nat) : Int) = top - 1 := by omega
  have et : top + 1 - 1 = top := by omega
  have hwt : zg (upd w j.toNatClampNeg c) top = c.toInt := by rw [← hj]; exact zg_eq
  have hwo : ∀ q : Int, 0 ≤ q → q < top → zg (upd w j.toNatClampNeg c) q = zg w q := fun q q0 q1 => zg_ne (by omega) q0 (by omega)
  rw [e] at a3
  obtain ⟨r', b1, b2, b3, b4⟩ := a3
  rw [ee] at b1 b2 b3 b4
  refine Or.inr ⟨V, r, a1, by omega, ?_, ?_, ?_, ?_, by omega, by omega⟩
  · rw [et, ← hj2, zg_eq]; rfl
  · rw [et, hwt]; omega
  · rw [et, hwt]; exact hcn
  · rw [et, hwt, e]
    refine ⟨r', ?_, ?_, ?_, ?_⟩
    · rw [ee, hwo _ (by omega) (by omega)]; omega
    · rw [ee, hwo _ (by omega) (by omega), zg_ne (i := j2) (by omega) (by omega) (by omega), ← hi, zg_eq, hi]; omega
    · rw [ee, hwo _ (by omega) (by omega)]; exact b3
    · rw [ee, hwo _ (by omega) (by omega)]
      exact zPk_congr (fun q q0 q1 => ⟨hwo q q0 (by omega), by rw [zg_ne (i := j2) (by omega) q0 (by omega), zg_ne (by omega) q0 (by omega)]⟩) (Int.le_refl _) b4
theorem zPI_pop {w wh en so : Nat → Int32} {zv : Int → Int} {b n top topω pm pmω gm gmω : Int} (h : zPO w wh en so zv b n top pm gm) (hz : ∀ k : Int, 0 ≤ k → k < n → 0 ≤ zv k) (ht : 1 ≤ top) (hen : zg en (b + zg w (top - 1)) ≤ n) (hp : pmω ≤ pm + zrt so b (zg w (top - 1))) (ht' : topω = top - 1) (hg : gmω = gm - 1) : zPI w wh en so zv b n topω pmω gmω := by
  obtain ⟨V, r, a1, a2, a3, a4, a5⟩ := h
  subst ht'; subst hg
  have e : top.toNat = (top - 1).toNat + 1 := by omega
  have ee : (((top - 1).toNat : Nat) : Int) = top - 1 := by omega
  rw [e] at a3
  obtain ⟨r', b1, b2, b3, b4⟩ := a3
  rw [ee] at b1 b2 b3 b4
  have m1 := zsm_mn (f := zv) (a := V) (c := zg en (b + zg w (top - 1))) (fun k k0 k1 => hz k k0 (by omega)) a1 (by omega)
  exact Or.inl ⟨zg en (b + zg w (top - 1)), r', by omega, hen, zPk_congr (fun _ _ _ => ⟨rfl, rfl⟩) (by omega) b4, by omega, by omega⟩
theorem zPI_end {w wh en so : Nat → Int32} {zv : Int → Int} {b n top pm gm : Int} (h : zPI w wh en so zv b n top pm gm) (hz : ∀ k : Int, 0 ≤ k → k < n → 0 ≤ zv k) (ht : top ≤ 0) : pm ≤ 12 * n + zsm zv n.toNat := by
  rcases h with ⟨V, r, a1, a2, a3, a4, a5⟩ | ⟨V, r, a1, a2, a3⟩
  · have q := zPk_le a3
    have m := zsm_mn hz a1 a2
    omega
  · omega
theorem zS_33 {so va le mo ho pa en fp pb pe : Nat → Int32} {b q n c : Int} (h : zSl so va le mo ho pa en fp pb pe b q n c) : 12 * n + zsm (zvs so va pa fp pb pe b q) n.toNat ≤ 3332 := by
  obtain ⟨s1, s2, s3, s4, p, p0, p1, s5, s6, s7, s8, s9⟩ := h
  exact s9
theorem zS_e {so va le mo ho pa en fp pb pe : Nat → Int32} {b q n c k : Int} (h : zSl so va le mo ho pa en fp pb pe b q n c) (k0 : 0 ≤ k) (k1 : k < n) : k < zg en (b + k) ∧ zg en (b + k) ≤ n := by
  obtain ⟨p, _, _, ⟨_, _, d3, d4, _⟩, _⟩ := zS_nd h k0 k1
  exact ⟨d3, d4⟩
theorem zS_lam {so va le mo ho pa en fp pb pe : Nat → Int32} {b q n c k j : Int} (h : zSl so va le mo ho pa en fp pb pe b q n c) (k0 : 0 ≤ k) (k1 : k < n) (hj : k < j) (hj2 : j < zg en (b + k)) : zg en (b + j) ≤ zg en (b + k) := by
  obtain ⟨p, _, _, ⟨_, _, d3, d4, d5⟩, _⟩ := zS_nd h k0 k1
  exact (d5 j hj hj2).2
