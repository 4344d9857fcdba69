theorem zsm_c {f : Int → Int} {c : Int} : ∀ {m : Nat}, (∀ k : Int, 0 ≤ k → k < m → f k ≤ c) → zsm f m ≤ m * c := by
  intro m; induction m with
  | zero => intro _; show (0 : Int) ≤ _; rw [Int.natCast_zero, Int.zero_mul]; omega
  | succ m ih =>
    intro h
    have a := ih (fun k k0 k1 => h k k0 (by omega))
    have b := h m (by omega) (by omega)
    have e : zsm f (m + 1) = zsm f m + f m := rfl
    rw [e, Int.natCast_add, Int.add_mul]; omega
theorem zus_t {ac se : Nat → Int32} {sp : Int} : ∀ {n : Nat}, zsm (zu1 ac se sp) (101 * n) ≤ 101 * zsm (fun p => zh 1 (zg ac p)) n := by
  intro n; induction n with
  | zero => exact Int.le_refl _
  | succ n ih =>
    have e : zsm (fun p => zh 1 (zg ac p)) (n + 1) = zsm (fun p => zh 1 (zg ac p)) n + zh 1 (zg ac n) := rfl
    rw [e, show 101 * (n + 1) = 101 * n + 101 by omega, zsm_split]
    have c := zsm_c (f := fun k => zu1 ac se sp (k + ((101 * n : Nat) : Int))) (c := zh 1 (zg ac n)) (m := 101) (fun k k0 k1 => by
      show zu1 ac se sp (k + ((101 * n : Nat) : Int)) ≤ _
      unfold zu1; split
      · exact zh_b.1
      · rw [show (k + ((101 * n : Nat) : Int)) / 101 = n by omega]; exact Int.le_refl _)
    omega
theorem zus_w {ac se : Nat → Int32} {sp N : Int} (h : 0 ≤ N) : zus ac se sp N ≤ 101 * zWt ac N := by
  have := zus_t (ac := ac) (se := se) (sp := sp) (n := N.toNat)
  rw [show 101 * N.toNat = (101 * N).toNat by omega] at this
  exact this
theorem zWt_n {ac : Nat → Int32} : ∀ {n : Nat}, (n : Int) ≤ zsm (fun p => zh 1 (zg ac p)) n := by
  intro n; induction n with
  | zero => exact Int.le_refl _
  | succ n ih =>
    have e : zsm (fun p => zh 1 (zg ac p)) (n + 1) = zsm (fun p => zh 1 (zg ac p)) n + zh 1 (zg ac n) := rfl
    have z := (@zh_b 1 (zg ac n)).2.2 rfl
    rw [e]; omega
theorem zCo_w {so va ac aA aB la : Nat → Int32} {bs n φ N : Int} {C : Int → zT} (h : zPr so va ac aA aB la bs n φ N C) (hw : φ = 1 → zWt ac N ≤ 798) (e : φ = 1) : N ≤ 1000 ∧ ∀ (se : Nat → Int32) (sp : Int), zus ac se sp N ≤ 80598 := by
  have a := hw e
  have b := zWt_n (ac := ac) (n := N.toNat)
  have n1 := h.1.1
  have d : zWt ac N = zsm (fun p => zh 1 (zg ac p)) N.toNat := rfl
  refine ⟨by omega, fun se sp => ?_⟩
  have := zus_w (ac := ac) (se := se) (sp := sp) (N := N) (by omega)
  omega
theorem zG_ex {so va ac aA aB la : Nat → Int32} {bs n φ N : Int} {C : Int → zT} (h : zPr so va ac aA aB la bs n φ N C) : ∃ g : Int, zGg φ C N g := by
  obtain ⟨W, w1, w2⟩ := zW_ex (k := 1000) rfl
  refine ⟨3 * W + 3, by omega, fun p p0 p1 => ?_⟩
  have := w2 φ (C p) (zPr_at h p0 p1).2.2.1
  omega
def zFo (fo : Nat → Int32) (fr lg k : Int) : Prop := (∀ a : Int, 0 ≤ a → a < k → (-1 ≤ zg fo (2 * a) ∧ zg fo (2 * a) ≤ 100) ∧ (-1 ≤ zg fo (2 * a + 1) ∧ zg fo (2 * a + 1) ≤ 100) ∧ (zg fo (2 * a) < 0 ∨ (zg fo (2 * a) ≤ zg fo (2 * a + 1) ∧ zg fo (2 * a + 1) ≤ lg))) ∧ (1 ≤ k → fr ≤ zg fo 0 ∧ zg fo 0 ≤ zg fo 1 ∧ zg fo 1 ≤ lg)
theorem zFo_0 {fo : Nat → Int32} {fr lg : Int} : zFo fo fr lg 0 := ⟨fun a a0 a1 => by omega, fun z => by omega⟩
theorem zFo_s {fo fo1 fo2 : Nat → Int32} {fr lg k' : Int} {k i j x y : Int32} (h : zFo fo fr lg k.toInt) (e1 : fo1 = upd fo i.toNatClampNeg x) (e2 : fo2 = upd fo1 j.toNatClampNeg y) (hi : i.toInt = 2 * k.toInt) (hj : j.toInt = 2 * k.toInt + 1) (hk : 0 ≤ k.toInt) (hx : (-1 ≤ x.toInt ∧ x.toInt ≤ 100) ∧ (-1 ≤ y.toInt ∧ y.toInt ≤ 100) ∧ (x.toInt < 0 ∨ (x.toInt ≤ y.toInt ∧ y.toInt ≤ lg))) (h0 : k.toInt = 0 → fr ≤ x.toInt ∧ x.toInt ≤ y.toInt ∧ y.toInt ≤ lg) (hk' : k' = k.toInt + 1) : zFo fo2 fr lg k' := by
  subst hk'
  have y1 : zg fo2 (2 * k.toInt + 1) = y.toInt := by rw [e2, ← hj]; exact zg_eq
  have x1 : zg fo2 (2 * k.toInt) = x.toInt := by rw [e2, zg_ne (by omega) (by omega) (by omega), e1, ← hi]; exact zg_eq
  have ne : ∀ a : Int, 0 ≤ a → a < 2 * k.toInt → zg fo2 a = zg fo a := fun a a0 a1 => by rw [e2, zg_ne (by omega) a0 (by omega), e1]; exact zg_ne (by omega) a0 (by omega)
  refine ⟨fun a a0 a1 => ?_, fun _ => ?_⟩
  · by_cases q : a = k.toInt
    · rw [q, y1, x1]; exact hx
    · rw [ne (2 * a) (by omega) (by omega), ne (2 * a + 1) (by omega) (by omega)]; exact h.1 a a0 (by omega)
  · by_cases q : k.toInt = 0
    · have := h0 q
      rw [q] at y1 x1
      have x2 : zg fo2 0 = x.toInt := x1
      have y2 : zg fo2 1 = y.toInt := y1
      rw [x2, y2]; exact this
    · rw [ne 0 (by omega) (by omega), ne 1 (by omega) (by omega)]; exact h.2 (by omega)
theorem zFo_x {rg : Nat → Int32} {lg fr f sp c x y : Int} (hc : zCap (zG rg) lg ∧ f - 1 ≤ sp ∧ sp ≤ lg ∧ fr ≤ f - 1) (h1 : (c = 0 ∧ x = f - 1) ∨ (1 ≤ c ∧ x = zg rg c)) (h2 : (c = 0 ∧ y = sp) ∨ (1 ≤ c ∧ y = zg rg (10 + c))) (c9 : c ≤ 9) (hfr : 0 ≤ fr) (hl : lg ≤ 100) : ((-1 ≤ x ∧ x ≤ 100) ∧ (-1 ≤ y ∧ y ≤ 100) ∧ (x < 0 ∨ (x ≤ y ∧ y ≤ lg))) ∧ (c = 0 → fr ≤ x ∧ x ≤ y ∧ y ≤ lg) := by
  by_cases q : c = 0
  · refine ⟨by omega, fun _ => by omega⟩
  · have a := hc.1 c (by omega) c9
    rw [zG_at (show 0 ≤ c by omega), zG_at (show 0 ≤ 10 + c by omega)] at a
    have x1 : x = zg rg c := by omega
    have y1 : y = zg rg (10 + c) := by omega
    rw [x1, y1]; exact ⟨a, fun z => absurd z q⟩
