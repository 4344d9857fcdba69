def zcg (en : Nat → Int32) (b : Int) (Z : Int → Int) : Nat → Int → Int → Int
  | 0, _, _ => 0
  | m + 1, c, l => if c < l then Z c + zcg en b Z m (zg en (b + c)) l else 0
def zcz (en : Nat → Int32) (b : Int) (Z : Int → Int) (c l : Int) : Int := zcg en b Z (l - c).toNat c l
theorem zcg_fuel {en : Nat → Int32} {Z : Int → Int} {b l : Int} : ∀ {m m' : Nat} {c : Int}, (∀ k : Int, c ≤ k → k < l → k < zg en (b + k)) → l - c ≤ m → l - c ≤ m' → zcg en b Z m c l = zcg en b Z m' c l := by
  intro m; induction m with
  | zero =>
    intro m' c h h1 h2
    cases m' with
    | zero => rfl
    | succ m' => show 0 = if c < l then _ else 0; rw [if_neg (by omega)]
  | succ m ih =>
    intro m' c h h1 h2
    cases m' with
    | zero => show (if c < l then _ else 0) = 0; rw [if_neg (by omega)]
    | succ m' =>
      show (if c < l then _ else 0) = if c < l then _ else 0
      by_cases e : c < l
      · have := h c (Int.le_refl _) e
        rw [if_pos e, if_pos e, ih (m' := m') (fun k k0 k1 => h k (by omega) k1) (by omega) (by omega)]
      · rw [if_neg e, if_neg e]
theorem zcz_end {en : Nat → Int32} {Z : Int → Int} {b c l : Int} (h : l ≤ c) : zcz en b Z c l = 0 := by
  unfold zcz; rw [show (l - c).toNat = 0 from by omega]; rfl
theorem zcz_step {en : Nat → Int32} {Z : Int → Int} {b c l : Int} (h : ∀ k : Int, c ≤ k → k < l → k < zg en (b + k)) (hc : c < l) : zcz en b Z c l = Z c + zcz en b Z (zg en (b + c)) l := by
  unfold zcz
  have e : (l - c).toNat = (l - c - 1).toNat + 1 := by omega
  have := h c (Int.le_refl _) hc
  rw [e]
  show (if c < l then _ else 0) = _
  rw [if_pos hc, zcg_fuel (m := (l - c - 1).toNat) (m' := (l - zg en (b + c)).toNat) (fun k k0 k1 => h k (by omega) k1) (by omega) (by omega)]
theorem zcg_sz {en sz : Nat → Int32} {b : Int} : ∀ {m : Nat} {c l : Int}, zcg en b (fun c => zg sz (b + c)) m c l = zcs en sz b m c l := by
  intro m; induction m with
  | zero => intro c l; rfl
  | succ m ih => intro c l; show (if c < l then _ else 0) = if c < l then _ else 0; rw [ih]
theorem zcz_nf {en : Nat → Int32} {b l : Int} : ∀ {m : Nat} {c : Int}, l - c ≤ m → c ≤ l → (∀ j : Int, c ≤ j → j < l → j < zg en (b + j) ∧ zg en (b + j) ≤ l) → zcz en b (fun c => zg en (b + c) - c) c l = l - c := by
  intro m; induction m with
  | zero => intro c h1 h2 h; rw [zcz_end (by omega)]; omega
  | succ m ih =>
    intro c h1 h2 h
    by_cases e : c < l
    · have := h c (Int.le_refl _) e
      rw [zcz_step (fun k k0 k1 => (h k k0 k1).1) e, ih (by omega) (by omega) (fun j j0 j1 => h j (by omega) j1)]
      omega
    · rw [zcz_end (by omega)]; omega
def zZ (so le mo en : Nat → Int32) (b n φ : Int) (Z : Int → Int) : Prop := ∀ k : Int, 0 ≤ k → k < n → 1 ≤ Z k ∧ (Z k < 20000 → ((φ = 0 ∨ zg so (b + k) ≠ 7) → 1 + zcz en b Z (k + 1) (zg en (b + k)) ≤ Z k) ∧ (φ = 1 → zg so (b + k) = 7 → 1 + zby so le mo (b + k) * Z (k + 1) ≤ Z k))
theorem zZ_n {so va le mo ho pa en fp pb pe : Nat → Int32} {b q n c : Int} (h : zSl so va le mo ho pa en fp pb pe b q n c) : zZ so le mo en b n 0 (fun c => zg en (b + c) - c) := by
  intro k k0 k1
  obtain ⟨_, ⟨e1, e2⟩, _, _, _, _, _, e3⟩ := zNf h k0 k1
  refine ⟨by show 1 ≤ zg en (b + k) - k; omega, fun _ => ⟨fun _ => ?_, fun e => absurd e (by decide)⟩⟩
  rw [zcz_nf (m := (zg en (b + k) - (k + 1)).toNat) (by omega) (by omega) (fun j j0 j1 => ⟨(zNf h (show 0 ≤ j by omega) (by omega)).2.1.1, e3 j (by omega) j1⟩)]
  show 1 + (zg en (b + k) - (k + 1)) ≤ zg en (b + k) - k; omega
theorem zby_1 {so le mo : Nat → Int32} {g : Int} (h : zg so g ≠ 7) : zby so le mo g = 1 := if_neg h
theorem zZ_f {so va le mo ho pa en fp pb pe sz ps : Nat → Int32} {b q n c : Int} (h : zSl so va le mo ho pa en fp pb pe b q n c) (hM : zMs so le mo en sz ps b 0 n) : zZ so le mo en b n 1 (fun c => zg sz (b + c)) := by
  intro k k0 k1
  obtain ⟨m1, _, _, _, m5, _⟩ := hM k k0 k1 k0
  obtain ⟨_, ⟨e1, e2⟩, _, e6, e7, _, _, _⟩ := zNf h k0 k1
  refine ⟨m1, fun hs => ?_⟩
  have m5 := m5 hs
  have ec : zct en sz b (k + 1) (zg en (b + k)) = zcz en b (fun c => zg sz (b + c)) (k + 1) (zg en (b + k)) := zcg_sz.symm
  rw [ec] at m5
  refine ⟨fun z => ?_, fun _ z => ?_⟩
  · rcases z with z | z
    · exact absurd z (by decide)
    · rw [zby_1 z] at m5; show 1 + _ ≤ zg sz (b + k); omega
  · have a := e6 (by omega)
    have k1n : k + 1 < n := by omega
    have a2 := e7 (by omega)
    rw [zcz_step (fun j j0 j1 => (zNf h (show 0 ≤ j by omega) (by omega)).2.1.1) a, zcz_end (by omega), Int.add_zero] at m5
    exact m5
theorem zZ_1 {so va le mo ho pa en fp pb pe : Nat → Int32} {b q n c φ k : Int} {Z : Int → Int} (h : zSl so va le mo ho pa en fp pb pe b q n c) (hZ : zZ so le mo en b n φ Z) (k0 : 0 ≤ k) (k1 : k < n) (h7 : 7 ≤ zg so (b + k)) (hz : Z k < 20000) (hφ : φ = 0 ∨ zg so (b + k) ≠ 7) : 1 + Z (k + 1) ≤ Z k ∧ 1 ≤ Z (k + 1) ∧ k + 1 < n := by
  obtain ⟨_, ⟨e1, e2⟩, _, e6, e7, _, _, _⟩ := zNf h k0 k1
  have a := e6 (by omega)
  have a2 := e7 (by omega)
  have q := ((hZ k k0 k1).2 hz).1 hφ
  rw [zcz_step (fun j j0 j1 => (zNf h (show 0 ≤ j by omega) (by omega)).2.1.1) a, zcz_end (by omega)] at q
  exact ⟨by omega, (hZ (k + 1) (by omega) (by omega)).1, by omega⟩
def zND (so va le mo ho pa en fp pb pe ac aA aB la ta tA tB : Nat → Int32) (Z : Int → Int) (bs q n c φ N lb m : Int) (C Λ : Int → zT) (σ σ0 τ : zT) (k B1 B2 : Int) : Prop := ((φ = 0 ∨ φ = 1) ∧ (φ = 1 → zKb so bs n)) ∧ zSl so va le mo ho pa en fp pb pe bs q n c ∧ zZ so le mo en bs n φ Z ∧ Z k < 20000 ∧ zNt so va en bs n φ k σ0 τ ∧ zge φ σ σ0 ∧ zRg σ0 ∧ zRg τ ∧ zW so va en ac aA aB la ta tA tB Z bs n φ N lb m C Λ σ τ (-1) (-1) B1 B2
def zWp (so va en ac aA aB la ta tA tB : Nat → Int32) (Z : Int → Int) (bs n φ N lb m : Int) (C : Int → zT) (σ : zT) (k B1 B2 : Int) : Prop := ∃ (Λ : Int → zT) (B : Int), zW so va en ac aA aB la ta tA tB Z bs n φ N lb m C Λ σ σ (-1) (-1) (B1 + 12 * Z k - 5) B ∧ (φ = 1 → B ≤ B2 + 4 * Z k - 3)
theorem zW_o {so va en ac aA aB la ta tA tB : Nat → Int32} {Z : Int → Int} {bs n φ N lb m : Int} {C Λ : Int → zT} {σ ρ : zT} {k B1 B2 B1' B2' : Int} (h : zW so va en ac aA aB la ta tA tB Z bs n φ N lb m C Λ σ ρ (-1) (-1) B1' B2') (hg : zge φ σ ρ) (hB1 : B1' ≤ B1 + 12 * Z k - 5) (hB2 : φ = 1 → B2' ≤ B2 + 4 * Z k - 3) : zWp so va en ac aA aB la ta tA tB Z bs n φ N lb m C σ k B1 B2 := by
  obtain ⟨h1, h2, h3, h4, h5, h6⟩ := h
  exact ⟨Λ, B2', ⟨h1, h2, h3, zK_ge h4 hg, by omega, h6⟩, hB2⟩
theorem zge_sh {so va en : Nat → Int32} {bs n φ k p e u r x : Int} {σ0 τ : zT} (hN : zNt so va en bs n φ k σ0 τ) (he : e = zg en (bs + k)) (h : φ = 0 → u ≤ zhL so bs φ p - zhL so bs φ k ∧ r ≤ zhC so bs φ p - zhC so bs φ k ∧ x ≤ zhX φ p - zhX φ k) : zge φ σ0 (zsh so bs φ τ σ0.1 p e u r x) := by
  obtain ⟨_, _, _, n1, n2, n3⟩ := hN
  subst he
  refine ⟨rfl, fun z => ?_⟩
  obtain ⟨a, b, c⟩ := h z
  refine ⟨?_, ?_, ?_⟩
  · show τ.2.1 + _ - _ + _ ≤ σ0.2.1; omega
  · show τ.2.2.1 + _ - _ + _ ≤ σ0.2.2.1; omega
  · show τ.2.2.2 + _ - _ + _ ≤ σ0.2.2.2; omega
theorem zsh_e {so : Nat → Int32} {b φ e : Int} {τ : zT} : zsh so b φ τ τ.1 e e 0 0 0 = τ := by
  unfold zsh
  rw [show τ.2.1 + zhL so b φ e - zhL so b φ e + 0 = τ.2.1 by omega, show τ.2.2.1 + zhC so b φ e - zhC so b φ e + 0 = τ.2.2.1 by omega, show τ.2.2.2 + zhX φ e - zhX φ e + 0 = τ.2.2.2 by omega]
theorem zc1_n {Z : Int → Int} {a : Int} : zc1 Z 100 a = 12 * Z a - 4 := if_pos rfl
theorem zc1_o {Z : Int → Int} {o a : Int} (h : o ≠ 100) : zc1 Z o a = 1 := if_neg h
theorem zc2_n {Z : Int → Int} {a : Int} : zc2 Z 100 a = 4 * Z a - 3 := if_pos rfl
theorem zc2_l {Z : Int → Int} {a : Int} : zc2 Z 101 a = 0 := rfl
theorem zc2_o {Z : Int → Int} {o a : Int} (h : o ≤ 21) : zc2 Z o a ≤ (if o = 6 ∨ o = 7 then 2 else 1) := by
  unfold zc2; rw [if_neg (by omega), if_neg (by omega)]; unfold zh; rw [if_neg (by decide)]; exact Int.le_refl _
