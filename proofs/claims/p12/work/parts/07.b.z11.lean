def zcs (en sz : Nat → Int32) (b : Int) : Nat → Int → Int → Int
  | 0, _, _ => 0
  | m + 1, c, l => if c < l then zg sz (b + c) + zcs en sz b m (zg en (b + c)) l else 0
def zct (en sz : Nat → Int32) (b c l : Int) : Int := zcs en sz b (l - c).toNat c l
theorem zcs_fuel {en sz : Nat → Int32} {b l : Int} : ∀ {m m' : Nat} {c : Int}, (∀ k : Int, c ≤ k → k < l → k < zg en (b + k)) → l - c ≤ m → l - c ≤ m' → zcs en sz b m c l = zcs en sz b m' c l := by
  intro m; induction m with
  | zero =>
    intro m' c h h1 h2
    cases m' with
    | zero => rfl
    | succ m' => show 0 = if c < l then _ else 0; rw [if_neg (by omega)]
  | succ m ih =>
    intro m' c h h1 h2
    cases m' with
    | zero => show (if c < l then _ else 0) = 0; rw [if_neg (by omega)]
    | succ m' =>
      show (if c < l then _ else 0) = if c < l then _ else 0
      by_cases e : c < l
      · have := h c (Int.le_refl _) e
        rw [if_pos e, if_pos e, ih (m' := m') (fun k k0 k1 => h k (by omega) k1) (by omega) (by omega)]
      · rw [if_neg e, if_neg e]
theorem zct_end {en sz : Nat → Int32} {b c l : Int} (h : l ≤ c) : zct en sz b c l = 0 := by
  unfold zct; rw [show (l - c).toNat = 0 from by omega]; rfl
theorem zct_step {en sz : Nat → Int32} {b c l : Int} (h : ∀ k : Int, c ≤ k → k < l → k < zg en (b + k)) (hc : c < l) : zct en sz b c l = zg sz (b + c) + zct en sz b (zg en (b + c)) l := by
  unfold zct
  have e : (l - c).toNat = (l - c - 1).toNat + 1 := by omega
  have := h c (Int.le_refl _) hc
  rw [e]
  show (if c < l then _ else 0) = _
  rw [if_pos hc, zcs_fuel (m := (l - c - 1).toNat) (m' := (l - zg en (b + c)).toNat) (fun k k0 k1 => h k (by omega) k1) (by omega) (by omega)]
theorem zcs_congr {en sz en' sz' : Nat → Int32} {b l : Int} : ∀ {m : Nat} {c : Int}, (∀ k : Int, c ≤ k → k < l → zg en' (b + k) = zg en (b + k) ∧ zg sz' (b + k) = zg sz (b + k) ∧ k < zg en (b + k)) → zcs en' sz' b m c l = zcs en sz b m c l := by
  intro m; induction m with
  | zero => intro c _; rfl
  | succ m ih =>
    intro c h
    show (if c < l then _ else 0) = if c < l then _ else 0
    by_cases e : c < l
    · obtain ⟨e1, e2, e3⟩ := h c (Int.le_refl _) e
      rw [if_pos e, if_pos e, e1, e2, ih (fun k k0 k1 => h k (by omega) k1)]
    · rw [if_neg e, if_neg e]
def zby (so le mo : Nat → Int32) (g : Int) : Int := if zg so g = 7 then (if zg mo g = -1 then zg le g + 1 else if zg mo g < 1 then 1 else zg mo g) else 1
def zM1 (so le mo en sz ps : Nat → Int32) (b k : Int) : Prop := 1 ≤ zg sz (b + k) ∧ zg sz (b + k) ≤ 20000 ∧ 0 ≤ zg ps (b + k) ∧ zg ps (b + k) ≤ 20000 ∧ (zg sz (b + k) < 20000 → 1 + zby so le mo (b + k) * zct en sz b (k + 1) (zg en (b + k)) ≤ zg sz (b + k)) ∧ (zg so (b + k) ≤ 2 → 1 ≤ zg ps (b + k)) ∧ (2 < zg so (b + k) → zg ps (b + k) < 20000 → zby so le mo (b + k) * zct en ps b (k + 1) (zg en (b + k)) ≤ zg ps (b + k))
def zMs (so le mo en sz ps : Nat → Int32) (b lo n : Int) : Prop := ∀ k : Int, lo ≤ k → k < n → 0 ≤ k → zM1 so le mo en sz ps b k
def zSu (en sz : Nat → Int32) (b k l c s : Int) : Prop := 0 ≤ s ∧ s ≤ 20000 ∧ (s = 20000 ∨ zct en sz b (k + 1) l ≤ s + zct en sz b c l)
theorem zSu_0 {en sz : Nat → Int32} {b k l c : Int} (hc : c = k + 1) : zSu en sz b k l c (0 : Int32).toInt := ⟨by decide, by decide, Or.inr (by subst hc; show _ ≤ 0 + _; omega)⟩
theorem zSu_s {en sz : Nat → Int32} {b k l : Int} {c c' s s' x : Int} (h : zSu en sz b k l c s) (he : ∀ j : Int, c ≤ j → j < l → j < zg en (b + j)) (hc : c < l) (hx : x = zg sz (b + c)) (hx0 : 0 ≤ x) (hc' : c' = zg en (b + c)) (hs : (s' = s + x ∧ s + x ≤ 20000) ∨ (s' = 20000 ∧ 20000 < s + x)) : zSu en sz b k l c' s' := by
  obtain ⟨h1, h2, h3⟩ := h
  have q := zct_step (sz := sz) he hc
  subst hx; subst hc'
  refine ⟨by omega, by omega, ?_⟩
  omega
def zAll (it : Nat → Bool) (ma ca so va le mo ho pa en fp pb pe sz ps : Nat → Int32) : Prop := ∀ s : Int, 0 ≤ s → s < 6 → it s.toNat = true → zSl so va le mo ho pa en fp pb pe (220 * s) (420 * s) (zg ma s) (zg ca s) ∧ zMs so le mo en sz ps (220 * s) 0 (zg ma s)
theorem zNd_congr {so va le mo ho pa en fp so' va' le' mo' ho' pa' en' fp' : Nat → Int32} {b q n c p k : Int} (h : ∀ j : Int, 0 ≤ j → j < n → zg so' (b + j) = zg so (b + j) ∧ zg va' (b + j) = zg va (b + j) ∧ zg le' (b + j) = zg le (b + j) ∧ zg mo' (b + j) = zg mo (b + j) ∧ zg ho' (b + j) = zg ho (b + j) ∧ zg pa' (b + j) = zg pa (b + j) ∧ zg en' (b + j) = zg en (b + j) ∧ zg fp' (b + j) = zg fp (b + j)) (k0 : 0 ≤ k) (k1 : k < n) (hd : zNd so va le mo ho pa en fp b q n c p k) : zNd so' va' le' mo' ho' pa' en' fp' b q n c p k := by
  obtain ⟨e1, e2, e3, e4, e5, e6, e7, e8⟩ := h k k0 k1
  obtain ⟨d1, ⟨d2, d3, d4, d5, d6⟩, d7, d8, d9, d10⟩ := hd
  unfold zNd
  rw [e1, e2, e3, e4, e5, e6, e7, e8]
  refine ⟨d1, ⟨d2, d3, d4, d5, fun j j0 j1 => ?_⟩, d7, d8, fun z => ?_, fun j j0 j1 j2 j3 => ?_⟩
  · obtain ⟨_, _, _, _, f5, _, f7, _⟩ := h j (by omega) (by omega)
    rw [f5, f7]; exact d6 j j0 j1
  · have := d8 (by omega)
    obtain ⟨_, _, _, _, _, _, f7, _⟩ := h (k + 1) (by omega) (by omega)
    rw [f7]; exact d9 z
  · obtain ⟨f1, f2, _⟩ := h j j0 (by omega)
    rw [f1] at j2; rw [f2]; exact d10 j j0 j1 j2 j3
theorem zSl_congr {so va le mo ho pa en fp pb pe so' va' le' mo' ho' pa' en' fp' pb' pe' : Nat → Int32} {b q n c : Int} (h : ∀ j : Int, 0 ≤ j → j < 220 → zg so' (b + j) = zg so (b + j) ∧ zg va' (b + j) = zg va (b + j) ∧ zg le' (b + j) = zg le (b + j) ∧ zg mo' (b + j) = zg mo (b + j) ∧ zg ho' (b + j) = zg ho (b + j) ∧ zg pa' (b + j) = zg pa (b + j) ∧ zg en' (b + j) = zg en (b + j) ∧ zg fp' (b + j) = zg fp (b + j)) (hp : ∀ i : Int, 0 ≤ i → i < 420 → zg pb' (q + i) = zg pb (q + i) ∧ zg pe' (q + i) = zg pe (q + i)) (hs : zSl so va le mo ho pa en fp pb pe b q n c) : zSl so' va' le' mo' ho' pa' en' fp' pb' pe' b q n c := by
  obtain ⟨s1, s2, s3, s4, p, p0, p1, s5, s6, s7, s8, s9⟩ := hs
  have sumq : ∀ r : Int, r ≤ p → zsm (zvp pb' pe' q) r.toNat = zsm (zvp pb pe q) r.toNat := fun r hr => zsm_congr (fun k k0 k1 => by
    obtain ⟨c1, c2⟩ := hp k k0 (by omega)
    unfold zvp; rw [c1, c2])
  refine ⟨s1, s2, s3, s4, p, p0, p1, fun k k0 k1 => zNd_congr (fun j j0 j1 => h j j0 (by omega)) k0 k1 (s5 k k0 k1), fun i i0 i1 => ?_, ?_, ?_, ?_⟩
  · obtain ⟨c1, c2⟩ := hp i i0 (by omega)
    rw [c1, c2]; exact s6 i i0 i1
  · rw [zsm_congr (g := zv7 so b) (fun k k0 k1 => by unfold zv7; rw [(h k k0 (by omega)).1])]; exact s7
  · rw [zsm_congr (g := zvn so va b) (fun k k0 k1 => by unfold zvn; rw [(h k k0 (by omega)).1, (h k k0 (by omega)).2.1]), zsm_congr (f := zvr so' pa' fp' pb' pe' b q) (g := zvr so pa fp pb pe b q) (fun k k0 k1 => by
      obtain ⟨e1, e2, e3, e4, e5, e6, e7, e8⟩ := h k k0 (by omega)
      unfold zvr; rw [e1, e6, e8]
      by_cases e : zg so (b + k) = 2
      · rw [if_pos e, if_pos e]
        have z := (s5 k k0 (by omega)).1.2.2.2.2.2.2.2.2.2.2.2 e
        rw [sumq _ (by omega), sumq _ (by omega)]
      · rw [if_neg e, if_neg e])]; exact s8
  · rw [zsm_congr (g := zvs so va pa fp pb pe b q) (fun k k0 k1 => by
      obtain ⟨e1, e2, e3, e4, e5, e6, e7, e8⟩ := h k k0 (by omega)
      unfold zvs; rw [e1, e2, e6, e8]
      by_cases e : zg so (b + k) = 2
      · rw [if_pos e, if_pos e]
        have z := (s5 k k0 (by omega)).1.2.2.2.2.2.2.2.2.2.2.2 e
        rw [sumq _ (by omega), sumq _ (by omega)]
      · rw [if_neg e, if_neg e])]; exact s9
theorem zMs_congr {so le mo en sz ps so' le' mo' en' sz' ps' : Nat → Int32} {b lo n : Int} (hn : n ≤ 220) (he : ∀ k : Int, 0 ≤ k → k < n → k < zg en (b + k) ∧ zg en (b + k) ≤ n) (h : ∀ j : Int, 0 ≤ j → j < 220 → zg so' (b + j) = zg so (b + j) ∧ zg le' (b + j) = zg le (b + j) ∧ zg mo' (b + j) = zg mo (b + j) ∧ zg en' (b + j) = zg en (b + j) ∧ zg sz' (b + j) = zg sz (b + j) ∧ zg ps' (b + j) = zg ps (b + j)) (hm : zMs so le mo en sz ps b lo n) : zMs so' le' mo' en' sz' ps' b lo n := by
  intro k k2 k1 k0
  have q := hm k k2 k1 k0
  obtain ⟨e1, e2, e3, e4, e5, e6⟩ := h k k0 (by omega)
  have he1 := he k k0 k1
  have c1 : zct en' sz' b (k + 1) (zg en (b + k)) = zct en sz b (k + 1) (zg en (b + k)) := zcs_congr (fun j j0 j1 => ⟨(h j (by omega) (by omega)).2.2.2.1, (h j (by omega) (by omega)).2.2.2.2.1, (he j (by omega) (by omega)).1⟩)
  have c2 : zct en' ps' b (k + 1) (zg en (b + k)) = zct en ps b (k + 1) (zg en (b + k)) := zcs_congr (fun j j0 j1 => ⟨(h j (by omega) (by omega)).2.2.2.1, (h j (by omega) (by omega)).2.2.2.2.2, (he j (by omega) (by omega)).1⟩)
  unfold zM1 zby at *
  rw [e1, e2, e3, e4, e5, e6, c1, c2]; exact q
