def zln (sb : Nat → Bool) (l0 : Nat → Int32) (s : Int) : Int := if sb s.toNat = true then zg l0 s else 0
def zPt (sb : Nat → Bool) (l0 : Nat → Int32) (s n : Int) (sb' : Nat → Bool) (l0' : Nat → Int32) : Prop :=
  ((0 ≤ s ∧ s ≤ 3 ∧ 0 ≤ n ∧ n ≤ 4 ∧ zln sb l0 s + n ≤ 100) ∧ sb' s.toNat = true ∧ zg l0' s = zln sb l0 s + n ∧ ∀ j : Int, 0 ≤ j → j ≠ s → sb' j.toNat = sb j.toNat ∧ zg l0' j = zg l0 j) ∨
  (¬ (0 ≤ s ∧ s ≤ 3 ∧ 0 ≤ n ∧ n ≤ 4 ∧ zln sb l0 s + n ≤ 100) ∧ sb' = sb ∧ l0' = l0)
def zDr (sb : Nat → Bool) (l0 : Nat → Int32) (s r : Int) (sb' : Nat → Bool) : Prop :=
  ((s < 0 ∨ 3 < s) ∧ r = -2 ∧ sb' = sb) ∨ ((0 ≤ s ∧ s ≤ 3) ∧ sb s.toNat = false ∧ r = -3 ∧ sb' = sb) ∨ ((0 ≤ s ∧ s ≤ 3) ∧ sb s.toNat = true ∧ r = zg l0 s ∧ sb' s.toNat = false ∧ ∀ j : Int, 0 ≤ j → j ≠ s → sb' j.toNat = sb j.toNat)
theorem zPt_no {sb : Nat → Bool} {l0 : Nat → Int32} {s n : Int} (h : ¬ (0 ≤ s ∧ s ≤ 3 ∧ 0 ≤ n ∧ n ≤ 4)) : zPt sb l0 s n sb l0 := Or.inr ⟨fun z => h ⟨z.1, z.2.1, z.2.2.1, z.2.2.2.1⟩, rfl, rfl⟩
theorem zPt_full {sb : Nat → Bool} {l0 : Nat → Int32} {s n h : Int} (hl : h = zln sb l0 s) (hh : 100 < h + n) : zPt sb l0 s n sb l0 := Or.inr ⟨fun z => by have := z.2.2.2.2; omega, rfl, rfl⟩
theorem zupdB_eq {f g : Nat → Bool} {i : Int32} {b : Bool} (e : g = updB f i.toNatClampNeg b) : g i.toInt.toNat = b := by
  subst e; show (if i.toInt.toNat = i.toInt.toNat then b else _) = b; rw [if_pos rfl]
theorem zupdB_ne {f g : Nat → Bool} {i : Int32} {b : Bool} {j : Int} (e : g = updB f i.toNatClampNeg b) (h0 : 0 ≤ i.toInt) (hj : 0 ≤ j) (h : j ≠ i.toInt) : g j.toNat = f j.toNat := by
  subst e; show (if j.toNat = i.toInt.toNat then b else _) = _; rw [if_neg (by omega)]
theorem zPt_yes {sb sb' : Nat → Bool} {l0 l0' : Nat → Int32} {s x : Int32} {n h : Int} {b : Bool} (e1 : sb' = updB sb s.toNatClampNeg b) (hb : b = true) (e2 : l0' = upd l0 s.toNatClampNeg x) (hl : h = zln sb l0 s.toInt) (hx : x.toInt = h + n) (hh : h + n ≤ 100) (hs : 0 ≤ s.toInt ∧ s.toInt ≤ 3) (hn : 0 ≤ n ∧ n ≤ 4) : zPt sb l0 s.toInt n sb' l0' := by
  refine Or.inl ⟨⟨hs.1, hs.2, hn.1, hn.2, by omega⟩, by rw [zupdB_eq e1]; exact hb, ?_, fun j j0 j1 => ⟨zupdB_ne e1 hs.1 j0 j1, ?_⟩⟩
  · subst e2; rw [zg_eq]; omega
  · subst e2; exact zg_ne hs.1 j0 j1
theorem zln_t {sb : Nat → Bool} {l0 : Nat → Int32} {s x y : Int32} (ex : x = bz (sb s.toNatClampNeg)) (hx : x.toInt ≠ 0) (ey : y = l0 s.toNatClampNeg) : y.toInt = zln sb l0 s.toInt := by
  have := zbz_t ex hx
  unfold zln; rw [if_pos (show sb s.toInt.toNat = true from this)]; exact zg_at ey
theorem zln_f {sb : Nat → Bool} {l0 : Nat → Int32} {s x : Int32} (ex : x = bz (sb s.toNatClampNeg)) (hx : x.toInt = 0) : (0 : Int32).toInt = zln sb l0 s.toInt := by
  have := zbz_f ex hx
  unfold zln; rw [if_neg (by rw [show s.toInt.toNat = s.toNatClampNeg from rfl, this]; decide)]; rfl
theorem zDr_w {sb : Nat → Bool} {l0 : Nat → Int32} {s r : Int32} (h0 : r.toInt = 0 ∨ r.toInt = -2 ∨ r.toInt = -3) (hr : r.toInt ≠ 0) (h3 : r.toInt = -3 → (0 ≤ s.toInt ∧ s.toInt ≤ 3 ∧ sb s.toNatClampNeg = false)) (h2 : r.toInt = -2 → (s.toInt < 0 ∨ 3 < s.toInt)) : zDr sb l0 s.toInt r.toInt sb := by
  rcases h0 with h | h | h
  · exact absurd h hr
  · exact Or.inl ⟨h2 h, h, rfl⟩
  · obtain ⟨a, b, c⟩ := h3 h
    exact Or.inr (Or.inl ⟨⟨a, b⟩, c, h, rfl⟩)
theorem zDr_y {sb sb' : Nat → Bool} {l0 : Nat → Int32} {s x r : Int32} {b : Bool} (ht : r.toInt = 0 → sb s.toNatClampNeg = true) (hr : r.toInt = 0) (e1 : sb' = updB sb s.toNatClampNeg b) (hb : b = false) (ex : x = l0 s.toNatClampNeg) (hs : 0 ≤ s.toInt ∧ s.toInt ≤ 3) : zDr sb l0 s.toInt x.toInt sb' :=
  Or.inr (Or.inr ⟨hs, ht hr, zg_at ex, by rw [zupdB_eq e1]; exact hb, fun j j0 j1 => zupdB_ne e1 hs.1 j0 j1⟩)
theorem zAll_off {it it' : Nat → Bool} {ma ca so va le mo ho pa en fp pb pe sz ps : Nat → Int32} {s : Int32} {b : Bool} (h : zAll it ma ca so va le mo ho pa en fp pb pe sz ps) (e : it' = updB it s.toNatClampNeg b) (hb : b = false) (h0 : 0 ≤ s.toInt) : zAll it' ma ca so va le mo ho pa en fp pb pe sz ps := by
  intro r r0 r1 hr
  by_cases q : r = s.toInt
  · subst q; rw [zupdB_eq e, hb] at hr; exact absurd hr (by decide)
  · rw [zupdB_ne e h0 r0 q] at hr; exact h r r0 r1 hr
def zGo (ig : Bool) (it : Nat → Bool) (s : Int) : Prop := ig = true → it s.toNat = true
theorem zbz1 {b : Bool} (h : (bz b).toInt ≠ 0) : b = true := by
  cases b with
  | true => rfl
  | false => exact absurd rfl h
theorem zbz2 {b : Bool} {x : Int32} (h : b = true) (e : x = bz b) : x.toInt = 1 := by subst e; subst h; rfl
theorem zGo_off {ig ig' : Bool} {it it' : Nat → Bool} {s : Int32} {g : Int} {b : Bool} (h : zGo ig it g) (e : it' = updB it s.toNatClampNeg b) (h0 : 0 ≤ s.toInt) (hg : 0 ≤ g) (hi : ig' = true → ig = true ∧ g ≠ s.toInt) : zGo ig' it' g := by
  intro z
  obtain ⟨a, c⟩ := hi z
  rw [zupdB_ne e h0 hg c]; exact h a
theorem zRd_ok {φ : Int} {S V L Z F X M P B E : Nat → Int32} {t n p c : Int} (h : zRd φ S V L Z F X M P B E t n p c) (h0 : φ ≤ 0) : zOne S V F X t 0 n 0 c ∧ zFn S V L Z M P n p ∧ zFp B E p ∧ zCn S V M P B E 0 n p c 100 200 3224 := by
  rcases h with h | h
  · exact absurd h (by omega)
  · exact h
theorem zGo_put {ig ig' : Bool} {it it' : Nat → Bool} {s : Int32} {g : Int} (h : zGo ig it g) (e : ∀ j : Int, 0 ≤ j → j ≠ s.toInt → it' j.toNat = it j.toNat) (hg : 0 ≤ g) (hi : ig' = true → ig = true ∧ g ≠ s.toInt) : zGo ig' it' g := by
  intro z
  obtain ⟨a, c⟩ := hi z
  rw [e g hg c]; exact h a
theorem zGo_no {it : Nat → Bool} {g : Int} : zGo false it g := fun z => absurd z (by decide)
def zOff (it : Nat → Bool) (k : Int) : Prop := ∀ j : Int, 0 ≤ j → j < k → it j.toNat = false
theorem zOff_0 {it : Nat → Bool} : zOff it (0 : Int32).toInt := fun j j0 j1 => by have e : (0 : Int32).toInt = 0 := rfl
                                                                                  exact absurd j1 (by omega)
theorem zOff_s {it it' : Nat → Bool} {k k' : Int32} {b : Bool} (h : zOff it k.toInt) (e : it' = updB it k.toNatClampNeg b) (hb : b = false) (h0 : 0 ≤ k.toInt) (hk : k'.toInt = k.toInt + 1) : zOff it' k'.toInt := by
  intro j j0 j1
  by_cases q : j = k.toInt
  · subst q; rw [zupdB_eq e]; exact hb
  · rw [zupdB_ne e h0 j0 q]; exact h j j0 (by omega)
theorem zAll_no {it : Nat → Bool} {ma ca so va le mo ho pa en fp pb pe sz ps : Nat → Int32} {k : Int} (h : zOff it k) (hk : 6 ≤ k) : zAll it ma ca so va le mo ho pa en fp pb pe sz ps := by
  intro r r0 r1 hr
  rw [h r r0 (by omega)] at hr; exact absurd hr (by decide)
