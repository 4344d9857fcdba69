def zPu (X w wh w1 wh1 : Nat → Int32) (top top1 t h : Int) : Prop := (zg X t = -1 ∧ top1 = top - 1 ∧ w1 = w ∧ wh1 = wh) ∨ (zg X t ≠ -1 ∧ top1 = top ∧ zg w1 (top - 1) = zg X t ∧ zg wh1 (top - 1) = h ∧ ∀ i : Int, 0 ≤ i → i < top - 1 → zg w1 i = zg w i ∧ zg wh1 i = zg wh i)
def zPv (F w1 wh1 w2 wh2 : Nat → Int32) (top1 top2 t n : Int) : Prop := (zg F t = -1 ∧ top2 = top1 ∧ w2 = w1 ∧ wh2 = wh1) ∨ (zg F t ≠ -1 ∧ top2 = top1 + 1 ∧ zg w2 top1 = zg F t ∧ zg wh2 top1 = n ∧ ∀ i : Int, 0 ≤ i → i < top1 → zg w2 i = zg w1 i ∧ zg wh2 i = zg wh1 i)
theorem zPu_a {X w wh : Nat → Int32} {t x : Int32} {top top1 h : Int} (ex : x = X t.toNatClampNeg) (hx : x.toInt = -1) (ht : top1 = top - 1) : zPu X w wh w wh top top1 t.toInt h := Or.inl ⟨by rw [← zg_at ex]; exact hx, ht, rfl, rfl⟩
theorem zPu_b {X w wh w1 wh1 : Nat → Int32} {t x y i h : Int32} {top top1 : Int} (ex : x = X t.toNatClampNeg) (ey : y = X t.toNatClampNeg) (e1 : w1 = upd w i.toNatClampNeg y) (e2 : wh1 = upd wh i.toNatClampNeg h) (hx : x.toInt ≠ -1) (ht : top1 = top) (hi : i.toInt = top - 1) (h0 : 0 ≤ i.toInt) : zPu X w wh w1 wh1 top top1 t.toInt h.toInt := by
  subst e1; subst e2
  refine Or.inr ⟨by rw [← zg_at ex]; exact hx, ht, by rw [← hi, zg_eq]; exact zg_at ey, by rw [← hi, zg_eq], fun j j0 j1 => ⟨zg_ne h0 j0 (by omega), zg_ne h0 j0 (by omega)⟩⟩
theorem zPv_a {F w wh : Nat → Int32} {t x : Int32} {top top1 n : Int} (ex : x = F t.toNatClampNeg) (hx : x.toInt = -1) (ht : top1 = top) : zPv F w wh w wh top top1 t.toInt n := Or.inl ⟨by rw [← zg_at ex]; exact hx, ht, rfl, rfl⟩
theorem zPv_b {F w wh w1 wh1 : Nat → Int32} {t x y i n : Int32} {top top1 : Int} (ex : x = F t.toNatClampNeg) (ey : y = F t.toNatClampNeg) (e1 : w1 = upd w i.toNatClampNeg y) (e2 : wh1 = upd wh i.toNatClampNeg n) (hx : x.toInt ≠ -1) (ht : top1 = top + 1) (hi : i.toInt = top) (h0 : 0 ≤ i.toInt) : zPv F w wh w1 wh1 top top1 t.toInt n.toInt := by
  subst e1; subst e2
  refine Or.inr ⟨by rw [← zg_at ex]; exact hx, ht, by rw [← hi, zg_eq]; exact zg_at ey, by rw [← hi, zg_eq], fun j j0 j1 => ⟨zg_ne h0 j0 (by omega), zg_ne h0 j0 (by omega)⟩⟩
theorem zKp_ptr {S V L Z F X M P w wh so va le mo ho pa fp : Nat → Int32} {b q n top N C : Int} (h : zKp S V L Z F X M P w wh so va le mo ho pa fp b q n top N C) (ht : 1 ≤ top) : -1 ≤ zg X (zg w (top - 1)) ∧ zg X (zg w (top - 1)) < N ∧ -1 ≤ zg F (zg w (top - 1)) ∧ zg F (zg w (top - 1)) < N := by
  obtain ⟨E, G, c, R, _, _, h0, h1, h2⟩ := h
  have e : top.toNat = (top - 1).toNat + 1 := by omega
  rw [e] at h1
  obtain ⟨a, e', c', r', ⟨k, g1⟩, heN, g2, g3, g4, g5⟩ := h1
  have ee : (((top - 1).toNat : Nat) : Int) = top - 1 := by omega
  rw [ee] at g1 g2
  cases k with
  | zero => exact absurd g1.1 g2
  | succ k =>
    rcases g1 with g1 | ⟨d0, d1, d2, d3, d4, d5, d6, c0, cm, e1, e2, d7, d8⟩
    · exact absurd g1.1 g2
    · have l7 := zCh_le d7
      have l8 := zCh_le d8
      by_cases q1 : zg X (zg w (top - 1)) = -1 <;> by_cases q2 : zg F (zg w (top - 1)) = -1
      · omega
      · have := l7.2.2.2 q2; omega
      · have := l8.2.2.2 q1; omega
      · have := l7.2.2.2 q2; have := l8.2.2.2 q1; omega
theorem zKp_w {S V L Z F X M P w wh so va le mo ho pa fp w1 wh1 w2 wh2 so' va' le' mo' ho' pa' fp' : Nat → Int32} {b q n n' top top1 top2 N C : Int} {t h g x1 x2 x3 x4 x6 x7 y7 i i2 : Int32} (hk : zKp S V L Z F X M P w wh so va le mo ho pa fp b q n top N C) (et : t = w i.toNatClampNeg) (eh : h = wh i2.toNatClampNeg)
    (e1 : so' = upd so g.toNatClampNeg x1) (e2 : va' = upd va g.toNatClampNeg x2) (e3 : le' = upd le g.toNatClampNeg x3) (e4 : mo' = upd mo g.toNatClampNeg x4) (e5 : ho' = upd ho g.toNatClampNeg h) (e6 : pa' = upd pa g.toNatClampNeg x6) (e7 : fp' = upd fp g.toNatClampNeg x7)
    (f1 : x1 = S t.toNatClampNeg) (f2 : x2 = V t.toNatClampNeg) (f3 : x3 = L t.toNatClampNeg) (f4 : x4 = Z t.toNatClampNeg) (f6 : x6 = M t.toNatClampNeg) (f7 : y7 = P t.toNatClampNeg)
    (h1 : zPu X w wh w1 wh1 top top1 t.toInt h.toInt) (h2 : zPv F w1 wh1 w2 wh2 top1 top2 t.toInt n) (hx7 : zg S t.toInt = 2 → x7.toInt = q + y7.toInt) (hi : i.toInt = top - 1) (hi2 : i2.toInt = top - 1) (ht1 : 1 ≤ top) (hn : 0 ≤ n) (hb : 0 ≤ b) (hg : g.toInt = b + n) (hn' : n' = n + 1) :
    zKp S V L Z F X M P w2 wh2 so' va' le' mo' ho' pa' fp' b q n' top2 N C := by
  subst hn'
  have q1 := zg_at2 et hi
  have q2 := zg_at2 eh hi2
  have g0 : 0 ≤ g.toInt := by omega
  subst e1; subst e2; subst e3; subst e4; subst e5; subst e6; subst e7
  refine zKp_step (t := t.toInt) (h := h.toInt) (top1 := top1) hk ht1 hn q1.symm q2.symm (fun k k0 k1 => ?_) ?_ h1 h2
  · exact ⟨zg_ne g0 (by omega) (by omega), zg_ne g0 (by omega) (by omega), zg_ne g0 (by omega) (by omega), zg_ne g0 (by omega) (by omega), zg_ne g0 (by omega) (by omega), zg_ne g0 (by omega) (by omega), zg_ne g0 (by omega) (by omega)⟩
  · rw [← hg]
    exact ⟨by rw [zg_eq]; exact zg_at f1, by rw [zg_eq]; exact zg_at f2, by rw [zg_eq]; exact zg_at f3, by rw [zg_eq]; exact zg_at f4, by rw [zg_eq], by rw [zg_eq]; exact zg_at f6, fun z => by rw [zg_eq, hx7 z, zg_at f7]⟩
def zEi (en : Nat → Int32) (b n : Int) : Prop := ∀ j : Int, 0 ≤ j → j < n → zg en (b + j) = j + 1
theorem zEi_w {en en' : Nat → Int32} {b n n' : Int} {g x : Int32} (h : zEi en b n) (e : en' = upd en g.toNatClampNeg x) (hx : x.toInt = n + 1) (hg : g.toInt = b + n) (hb : 0 ≤ b) (hn : 0 ≤ n) (hn' : n' = n + 1) : zEi en' b n' := by
  subst e; subst hn'; intro j j0 j1
  by_cases q : j = n
  · subst q; rw [← hg, zg_eq]; exact hx
  · rw [zg_ne (by omega) (by omega) (by omega)]; exact h j j0 (by omega)
def zO8 (so va le mo ho pa en fp so' va' le' mo' ho' pa' en' fp' : Nat → Int32) (b : Int) : Prop := zOb so so' b ∧ zOb va va' b ∧ zOb le le' b ∧ zOb mo mo' b ∧ zOb ho ho' b ∧ zOb pa pa' b ∧ zOb en en' b ∧ zOb fp fp' b
theorem zO8_rf {so va le mo ho pa en fp : Nat → Int32} {b : Int} : zO8 so va le mo ho pa en fp so va le mo ho pa en fp b := ⟨zOb_rf, zOb_rf, zOb_rf, zOb_rf, zOb_rf, zOb_rf, zOb_rf, zOb_rf⟩
theorem zO8_w {so va le mo ho pa en fp so1 va1 le1 mo1 ho1 pa1 en1 fp1 so' va' le' mo' ho' pa' en' fp' : Nat → Int32} {b : Int} {g x1 x2 x3 x4 x5 x6 x7 x8 : Int32} (h : zO8 so va le mo ho pa en fp so1 va1 le1 mo1 ho1 pa1 en1 fp1 b) (e1 : so' = upd so1 g.toNatClampNeg x1) (e2 : va' = upd va1 g.toNatClampNeg x2) (e3 : le' = upd le1 g.toNatClampNeg x3) (e4 : mo' = upd mo1 g.toNatClampNeg x4) (e5 : ho' = upd ho1 g.toNatClampNeg x5) (e6 : pa' = upd pa1 g.toNatClampNeg x6) (e7 : en' = upd en1 g.toNatClampNeg x7) (e8 : fp' = upd fp1 g.toNatClampNeg x8) (hg : 0 ≤ g.toInt ∧ b ≤ g.toInt ∧ g.toInt < b + 220) : zO8 so va le mo ho pa en fp so' va' le' mo' ho' pa' en' fp' b := by
  obtain ⟨a1, a2, a3, a4, a5, a6, a7, a8⟩ := h
  exact ⟨zOb_w a1 e1 hg, zOb_w a2 e2 hg, zOb_w a3 e3 hg, zOb_w a4 e4 hg, zOb_w a5 e5 hg, zOb_w a6 e6 hg, zOb_w a7 e7 hg, zOb_w a8 e8 hg⟩
def zCy (B E pb pe pb' pe' : Nat → Int32) (q k : Int) : Prop := (∀ i : Int, 0 ≤ i → i < k → zg pb' (q + i) = zg B i ∧ zg pe' (q + i) = zg E i) ∧ (∀ j : Int, 0 ≤ j → (j < q ∨ q + 420 ≤ j) → zg pb' j = zg pb j ∧ zg pe' j = zg pe j)
theorem zCy_0 {B E pb pe : Nat → Int32} {q : Int} : zCy B E pb pe pb pe q (0 : Int32).toInt := by
  refine ⟨fun i i0 i1 => ?_, fun _ _ _ => ⟨rfl, rfl⟩⟩
  have e : (0 : Int32).toInt = 0 := rfl
  omega
theorem zCy_w {B E pb pe pb1 pe1 pb' pe' : Nat → Int32} {q k' : Int} {k i j x y : Int32} (h : zCy B E pb pe pb1 pe1 q k.toInt) (e1 : pb' = upd pb1 i.toNatClampNeg x) (e2 : pe' = upd pe1 j.toNatClampNeg y) (ex : x = B k.toNatClampNeg) (ey : y = E k.toNatClampNeg) (hi : i.toInt = q + k.toInt) (hj : j.toInt = q + k.toInt) (hq : 0 ≤ q) (hk : 0 ≤ k.toInt ∧ k.toInt < 420) (hk' : k' = k.toInt + 1) : zCy B E pb pe pb' pe' q k' := by
  subst e1; subst e2; subst hk'
  obtain ⟨a, b⟩ := h
  refine ⟨fun m m0 m1 => ?_, fun m m0 m1 => ?_⟩
  · by_cases e : m = k.toInt
    · subst e
      exact ⟨by rw [← hi, zg_eq]; exact zg_at ex, by rw [← hj, zg_eq]; exact zg_at ey⟩
    · rw [zg_ne (by omega) (by omega) (by omega), zg_ne (by omega) (by omega) (by omega)]; exact a m m0 (by omega)
  · rw [zg_ne (by omega) (by omega) (by omega), zg_ne (by omega) (by omega) (by omega)]; exact b m m0 m1
theorem zBk_h {S V L Z M P so va le mo ho pa fp en : Nat → Int32} {b q N C k k9 : Int} {x i : Int32} (h : zBk S V L Z M P so va le mo ho pa fp en b q N C k9) (ex : x = ho i.toNatClampNeg) (hi : i.toInt = b + k) (k0 : 1 ≤ k) (k1 : k < N) : 0 ≤ x.toInt ∧ x.toInt < k := by
  obtain ⟨E, G, h1, _⟩ := h
  have := zg_at2 ex hi
  have := (h1 k (by omega) k1).2.1.2.2.2 k0
  omega
def zMx (en : Nat → Int32) (a b s : Int) : Prop := (s = zg en a ∧ zg en b ≤ zg en a) ∨ (s = zg en b ∧ zg en a ≤ zg en b)
theorem zBk_w {S V L Z M P so va le mo ho pa fp en en' : Nat → Int32} {b q N C k' : Int} {k s x g i j : Int32} (h : zBk S V L Z M P so va le mo ho pa fp en b q N C k.toInt) (ex : x = ho i.toNatClampNeg) (e : en' = upd en g.toNatClampNeg s) (hm : zMx en g.toInt j.toInt s.toInt) (hi : i.toInt = b + k.toInt) (hj : j.toInt = b + k.toInt) (hg : g.toInt = b + x.toInt) (hb : 0 ≤ b) (k0 : 1 ≤ k.toInt) (k1 : k.toInt < N) (hk' : k' = k.toInt - 1) : zBk S V L Z M P so va le mo ho pa fp en' b q N C k' := by
  have q1 := zg_at2 ex hi
  have q2 := zBk_h h ex hi k0 k1
  subst e
  have g0 : 0 ≤ g.toInt := by omega
  refine zBk_step h k0 k1 hk' ?_ (fun j j0 j1 => zg_ne g0 (by omega) (by omega))
  rw [← q1, ← hg, zg_eq]
  unfold zMx at hm; rw [hj] at hm; omega
theorem zAll_put {it it' : Nat → Bool} {ma ca so va le mo ho pa en fp pb pe sz ps ma' ca' so' va' le' mo' ho' pa' en' fp' pb' pe' sz' ps' B E : Nat → Int32} {s n c : Int32} {k : Int} {z9 : Bool} (h : zAll it ma ca so va le mo ho pa en fp pb pe sz ps) (eit : it' = updB it s.toNatClampNeg z9) (ema : ma' = upd ma s.toNatClampNeg n) (eca : ca' = upd ca s.toNatClampNeg c) (o8 : zO8 so va le mo ho pa en fp so' va' le' mo' ho' pa' en' fp' (220 * s.toInt)) (cy : zCy B E pb pe pb' pe' (420 * s.toInt) k) (o1 : zOb sz sz' (220 * s.toInt)) (o2 : zOb ps ps' (220 * s.toInt)) (hs : zSl so' va' le' mo' ho' pa' en' fp' pb' pe' (220 * s.toInt) (420 * s.toInt) n.toInt c.toInt) (hm : zMs so' le' mo' en' sz' ps' (220 * s.toInt) 0 n.toInt) (s0 : 0 ≤ s.toInt ∧ s.toInt < 6) : zAll it' ma' ca' so' va' le' mo' ho' pa' en' fp' pb' pe' sz' ps' := by
  subst eit; subst ema; subst eca
  intro r r0 r1 hr
  by_cases e : r = s.toInt
  · subst e
    rw [zg_eq, zg_eq]; exact ⟨hs, hm⟩
  · rw [zg_ne s0.1 r0 e, zg_ne s0.1 r0 e]
    have hr' : it r.toNat = true := by
      have : updB it s.toNatClampNeg z9 r.toNat = it r.toNat := by
        show (if r.toNat = s.toInt.toNat then _ else _) = _
        rw [if_neg (by omega)]
      rw [← this]; exact hr
    obtain ⟨g1, g2⟩ := h r r0 r1 hr'
    obtain ⟨a1, a2, a3, a4, a5, a6, a7, a8⟩ := o8
    have hd : ∀ j : Int, 0 ≤ j → j < 220 → (220 * r + j < 220 * s.toInt ∨ 220 * s.toInt + 220 ≤ 220 * r + j) := fun j j0 j1 => by omega
    refine ⟨zSl_congr (fun j j0 j1 => ⟨a1 _ (by omega) (hd j j0 j1), a2 _ (by omega) (hd j j0 j1), a3 _ (by omega) (hd j j0 j1), a4 _ (by omega) (hd j j0 j1), a5 _ (by omega) (hd j j0 j1), a6 _ (by omega) (hd j j0 j1), a7 _ (by omega) (hd j j0 j1), a8 _ (by omega) (hd j j0 j1)⟩) (fun i i0 i1 => cy.2 _ (by omega) (by omega)) g1, ?_⟩
    have hn := zMn_of g1
    exact zMs_congr g1.2.1 (fun k k0 k1 => (hn k k0 k1).2.2.2.2.2.2) (fun j j0 j1 => ⟨a1 _ (by omega) (hd j j0 j1), a3 _ (by omega) (hd j j0 j1), a4 _ (by omega) (hd j j0 j1), a7 _ (by omega) (hd j j0 j1), o1 _ (by omega) (hd j j0 j1), o2 _ (by omega) (hd j j0 j1)⟩) g2
theorem zFn_p {S V L Z M P : Nat → Int32} {N p q : Int} {t x y a : Int32} (h : zFn S V L Z M P N p) (f7 : y = P t.toNatClampNeg) (e : x = a + y) (ha : a.toInt = q) (hq : 0 ≤ q ∧ q ≤ 2100) (ht : 0 ≤ t.toInt ∧ t.toInt < N) (hp : p ≤ 420) : zg S t.toInt = 2 → x.toInt = q + y.toInt := by
  intro z
  have w := (h t.toInt ht.1 ht.2).2.2.2.2.2.2.2.2.2.2.2 z
  have := zg_at f7
  have := i_add (a := a.toInt) (b := y.toInt) e rfl rfl (by omega) (by omega)
  omega
