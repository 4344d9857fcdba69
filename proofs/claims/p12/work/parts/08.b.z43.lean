theorem zv7_b {so : Nat → Int32} {b k : Int} : 0 ≤ zv7 so b k := by unfold zv7; split <;> omega
theorem zv8_b {so : Nat → Int32} {b k : Int} : 0 ≤ zv8 so b k := by unfold zv8; split <;> omega
theorem zC9 {so va le mo ho pa en fp pb pe : Nat → Int32} {b q n c : Int} (h : zSl so va le mo ho pa en fp pb pe b q n c) : ∀ {k : Nat}, (k : Int) ≤ n → zsm (zv8 so b) k ≤ 9 ∧ ∀ j : Int, k ≤ j → j < n → zg so (b + j) = 8 → zsm (zv8 so b) k + 1 ≤ zg va (b + j) := by
  intro k; induction k with
  | zero =>
    intro _
    refine ⟨by show (0 : Int) ≤ 9; omega, fun j j0 j1 j2 => ?_⟩
    obtain ⟨p, _, ⟨_, _, _, _, _, _, _, _, d9, _, d8, _⟩, _⟩ := zS_nd h (show 0 ≤ j by omega) j1
    have := d8 j2
    show (0 : Int) + 1 ≤ _; omega
  | succ k ih =>
    intro hk
    obtain ⟨i1, i2⟩ := ih (by omega)
    have e : zsm (zv8 so b) (k + 1) = zsm (zv8 so b) k + zv8 so b k := rfl
    rw [e]
    by_cases q : zg so (b + (k : Int)) = 8
    · have v : zv8 so b k = 1 := if_pos q
      have a := i2 k (Int.le_refl _) (by omega) q
      obtain ⟨p, _, ⟨_, _, _, _, _, _, _, _, d9, _⟩, _⟩ := zS_nd h (show 0 ≤ (k : Int) by omega) (by omega)
      have := d9 (by omega)
      refine ⟨by omega, fun j j0 j1 j2 => ?_⟩
      obtain ⟨p, _, _, _, _, _, _, d6⟩ := zS_nd h (show 0 ≤ j by omega) j1
      have := d6 k (by omega) (by omega) q j2
      omega
    · have v : zv8 so b k = 0 := if_neg q
      refine ⟨by omega, fun j j0 j1 j2 => ?_⟩
      have := i2 j (by omega) j1 j2
      omega
theorem zh_m {so va le mo ho pa en fp pb pe : Nat → Int32} {b q n c φ k e : Int} (h : zSl so va le mo ho pa en fp pb pe b q n c) (k0 : 0 ≤ k) (hk : k ≤ e) (he : e ≤ n) : (zhL so b φ k ≤ zhL so b φ e ∧ zhL so b φ e ≤ zhL so b φ k + 50) ∧ (zhC so b φ k ≤ zhC so b φ e ∧ zhC so b φ e ≤ zhC so b φ k + 27) ∧ (zhX φ k ≤ zhX φ e) ∧ (0 ≤ zhL so b φ k ∧ 0 ≤ zhC so b φ k ∧ 0 ≤ zhX φ k) := by
  have a1 := zsm_mono (f := zv7 so b) (fun _ => zv7_b) (show k.toNat ≤ e.toNat by omega)
  have a2 := zsm_mono (f := zv7 so b) (fun _ => zv7_b) (show e.toNat ≤ n.toNat by omega)
  have a3 := zsm_nn (f := zv7 so b) (fun _ => zv7_b) (n := k.toNat)
  have b1 := zsm_mono (f := zv8 so b) (fun _ => zv8_b) (show k.toNat ≤ e.toNat by omega)
  have b2 := (zC9 h (k := e.toNat) (by omega)).1
  have b3 := zsm_nn (f := zv8 so b) (fun _ => zv8_b) (n := k.toNat)
  obtain ⟨_, _, _, _, p, _, _, _, _, l50, _⟩ := h
  unfold zhL zhC zhX
  by_cases z : φ = 0
  · rw [if_pos z, if_pos z, if_pos z, if_pos z, if_pos z, if_pos z]; omega
  · rw [if_neg z, if_neg z, if_neg z, if_neg z, if_neg z, if_neg z]; omega
theorem zh_1 {so : Nat → Int32} {b φ k : Int} (k0 : 0 ≤ k) (hφ : φ = 0) : (zg so (b + k) = 7 → zhL so b φ k + 1 ≤ zhL so b φ (k + 1)) ∧ (zg so (b + k) = 8 → zhC so b φ k + 3 ≤ zhC so b φ (k + 1)) ∧ zhX φ (k + 1) = zhX φ k + 4 := by
  unfold zhL zhC zhX
  rw [if_pos hφ, if_pos hφ, if_pos hφ, if_pos hφ, if_pos hφ, if_pos hφ, zsm_s1 k0, zsm_s1 k0]
  refine ⟨fun e => ?_, fun e => ?_, by omega⟩
  · have : zv7 so b k = 1 := if_pos e
    omega
  · have : zv8 so b k = 1 := if_pos e
    omega
def zsh (so : Nat → Int32) (b φ : Int) (τ : zT) (G : List (Int × Int)) (p e : Int) (u r x : Int) : zT := (G, τ.2.1 + zhL so b φ e - zhL so b φ p + u, τ.2.2.1 + zhC so b φ e - zhC so b φ p + r, τ.2.2.2 + zhX φ e - zhX φ p + x)
theorem zNf {so va le mo ho pa en fp pb pe : Nat → Int32} {b q n c k : Int} (h : zSl so va le mo ho pa en fp pb pe b q n c) (k0 : 0 ≤ k) (k1 : k < n) : (0 ≤ zg so (b + k) ∧ zg so (b + k) ≤ 11) ∧ (k < zg en (b + k) ∧ zg en (b + k) ≤ n) ∧ (zg so (b + k) ≤ 4 → zg en (b + k) = k + 1) ∧ (6 ≤ zg so (b + k) → k + 1 < zg en (b + k)) ∧ (7 ≤ zg so (b + k) → zg en (b + (k + 1)) = zg en (b + k)) ∧ (zg so (b + k) ≠ 0 → 0 ≤ zg va (b + k) ∧ zg va (b + k) ≤ 9) ∧ (zg so (b + k) = 8 → 1 ≤ zg va (b + k)) ∧ (∀ j : Int, k < j → j < zg en (b + k) → zg en (b + j) ≤ zg en (b + k)) := by
  obtain ⟨p, _, ⟨d1, d2, _, _, _, _, d7, _, d9, _, d8, _⟩, ⟨_, _, e3, e4, e5⟩, f1, f2, f3, _⟩ := zS_nd h k0 k1
  exact ⟨⟨d1, d2⟩, ⟨e3, e4⟩, f1, f2, f3, fun z => ⟨d7, d9 z⟩, fun z => (d8 z).1, fun j j0 j1 => (e5 j j0 j1).2⟩
theorem zNt_c {so va le mo ho pa en fp pb pe : Nat → Int32} {b q n c φ k e u r x u' r' x' : Int} {τ : zT} {G : List (Int × Int)} (h : zSl so va le mo ho pa en fp pb pe b q n c) (hG : zCk so va b G k) (k0 : 0 ≤ k) (k1 : k < n) (h1 : u' ≤ u) (h2 : r' ≤ r) (h3 : x' ≤ x) : zNt so va en b n φ k (zsh so b φ τ G k e u r x) (zsh so b φ τ G (zg en (b + k)) e u' r' x') := by
  refine ⟨⟨k0, k1⟩, hG, rfl, ?_, ?_, ?_⟩
  · show τ.2.1 + _ - _ + _ + _ ≤ τ.2.1 + _ - _ + _ + _; omega
  · show τ.2.2.1 + _ - _ + _ + _ ≤ τ.2.2.1 + _ - _ + _ + _; omega
  · show τ.2.2.2 + _ - _ + _ + _ ≤ τ.2.2.2 + _ - _ + _ + _; omega
theorem zRg_sh {so va le mo ho pa en fp pb pe : Nat → Int32} {b q n c φ p e u r x k : Int} {τ : zT} {G : List (Int × Int)} (h : zSl so va le mo ho pa en fp pb pe b q n c) (hτ : zRg τ) (hG : zCk so va b G k) (hk : k ≤ n) (p0 : 0 ≤ p) (hp : p ≤ e) (he : e ≤ n) (u0 : 0 ≤ u) (r0 : 0 ≤ r) (x0 : 0 ≤ x) (hx : τ.2.2.2 + zhX φ e - zhX φ p + x ≤ 1000) : zRg (zsh so b φ τ G p e u r x) := by
  obtain ⟨⟨a1, _⟩, ⟨a2, _⟩, a3, _⟩ := zh_m (φ := φ) h p0 hp he
  obtain ⟨t1, t2, t3, t4, t5⟩ := hτ
  refine ⟨?_, ?_, ?_, hx, zCk_cx h hk hG⟩
  · show 0 ≤ τ.2.1 + _ - _ + _; omega
  · show 0 ≤ τ.2.2.1 + _ - _ + _; omega
  · show 0 ≤ τ.2.2.2 + _ - _ + _; omega
