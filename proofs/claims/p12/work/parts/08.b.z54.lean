def zHl (he en : Nat → Int32) (bs n c k e : Int) : Prop := (∀ i : Int, 0 ≤ i → i < n → k < zg he i ∧ zg he i < e ∧ zg en (bs + zg he i) = zhq he n c i) ∧ (1 ≤ n → zg he 0 = k + 1) ∧ (n = 0 → c = k + 1) ∧ 0 ≤ n ∧ k < c ∧ c ≤ e ∧ n ≤ c - k - 1
theorem zHl_0 {so va le mo ho pa en fp pb pe ac aA aB la ta tA tB he : Nat → Int32} {Z : Int → Int} {bs q n c φ N lb m x y : Int} {C Λ : Int → zT} {σ σ0 τ : zT} {k B1 B2 : Int} (h : zND so va le mo ho pa en fp pb pe ac aA aB la ta tA tB Z bs q n c φ N lb m C Λ σ σ0 τ k B1 B2) (hx : x = 0) (hy : y = k + 1) : zHl he en bs x y k (zg en (bs + k)) := by
  obtain ⟨_, hSl, _, _, hN, _⟩ := h
  obtain ⟨_, ⟨f1, f2⟩, _⟩ := zNf hSl hN.1.1 hN.1.2
  exact ⟨fun i i0 i1 => by omega, fun z => by omega, fun _ => hy, by omega, by omega, by omega, by omega⟩
theorem zHl_s {so va le mo ho pa en fp pb pe ac aA aB la ta tA tB he he' : Nat → Int32} {Z : Int → Int} {bs q n c φ N lb m x' : Int} {C Λ : Int → zT} {σ σ0 τ : zT} {k B1 B2 : Int} {i v y j : Int32} (h : zND so va le mo ho pa en fp pb pe ac aA aB la ta tA tB Z bs q n c φ N lb m C Λ σ σ0 τ k B1 B2) (hl : zHl he en bs i.toInt v.toInt k (zg en (bs + k))) (e : he' = upd he i.toNatClampNeg v) (ey : y = en j.toNatClampNeg) (hj : j.toInt = bs + v.toInt) (hv : v.toInt < zg en (bs + k)) (hx : x' = i.toInt + 1) : zHl he' en bs x' y.toInt k (zg en (bs + k)) ∧ v.toInt < y.toInt := by
  obtain ⟨l1, l2, l3, l4, l5, l6, l7⟩ := hl
  obtain ⟨_, hSl, _, _, hN, _⟩ := h
  obtain ⟨_, ⟨f1, f2⟩, _, _, _, _, _, fe⟩ := zNf hSl hN.1.1 hN.1.2
  have k0 := hN.1.1
  have ye := zg_at2 ey hj
  have fe := fe v.toInt (by omega) hv
  obtain ⟨_, ⟨g1, g2⟩, _⟩ := zNf hSl (show 0 ≤ v.toInt by omega) (show v.toInt < n by omega)
  subst hx
  have own : zg he' i.toInt = v.toInt := by rw [e]; exact zg_eq
  refine ⟨⟨fun a a0 a1 => ?_, fun _ => ?_, fun z => by omega, by omega, by omega, by omega, by omega⟩, by omega⟩
  · by_cases q : a = i.toInt
    · subst q; rw [own]
      refine ⟨l5, hv, ?_⟩
      unfold zhq; rw [if_pos rfl]; exact ye.symm
    · have ne : zg he' a = zg he a := by rw [e]; exact zg_ne l4 a0 q
      obtain ⟨b1, b2, b3⟩ := l1 a a0 (by omega)
      rw [ne]; refine ⟨b1, b2, ?_⟩
      rw [b3]; unfold zhq
      rw [if_neg (show ¬ (a + 1 = i.toInt + 1) by omega)]
      by_cases w : a + 1 = i.toInt
      · rw [if_pos w, w, own]
      · rw [if_neg w, e, zg_ne l4 (by omega) w]
  · by_cases q : i.toInt = 0
    · have := l3 q; rw [← q, own]; exact this
    · rw [e, zg_ne l4 (Int.le_refl _) (by omega)]; exact l2 (by omega)
theorem zHl_e {he en : Nat → Int32} {bs n c k e : Int} (h : zHl he en bs n c k e) (hc : e ≤ c) : zHe he en bs n k e := by
  obtain ⟨l1, l2, l3, l4, l5, l6, l7⟩ := h
  have ec : c = e := by omega
  subst ec
  exact ⟨l1, l2, l3, l4⟩
theorem zN_6 {so va le mo ho pa en fp pb pe ac aA aB la ta tA tB he : Nat → Int32} {Z : Int → Int} {bs q n c φ N lb m nn : Int} {C Λ : Int → zT} {σ σ0 τ : zT} {k B1 B2 : Int} (h : zND so va le mo ho pa en fp pb pe ac aA aB la ta tA tB Z bs q n c φ N lb m C Λ σ σ0 τ k B1 B2) (hH : zHe he en bs nn k (zg en (bs + k))) (hs : zg so (bs + k) = 6) : 1 ≤ nn := by
  obtain ⟨_, hSl, _, _, hN, _⟩ := h
  obtain ⟨_, _, _, f6, _⟩ := zNf hSl hN.1.1 hN.1.2
  have a := f6 (by omega)
  have b := hH.2.2.1
  have d := hH.2.2.2
  by_cases e : nn = 0
  · have := b e; omega
  · omega
theorem zN_r {so va le mo ho pa en fp pb pe ac aA aB la ta tA tB : Nat → Int32} {Z : Int → Int} {bs q n c φ N lb m : Int} {C Λ : Int → zT} {σ σ0 τ : zT} {k B1 B2 : Int} (h : zND so va le mo ho pa en fp pb pe ac aA aB la ta tA tB Z bs q n c φ N lb m C Λ σ σ0 τ k B1 B2) : (0 ≤ zg so (bs + k) ∧ zg so (bs + k) ≤ 11) ∧ (0 ≤ k ∧ k < zg en (bs + k) ∧ zg en (bs + k) ≤ 220) := by
  obtain ⟨_, hSl, _, _, hN, _⟩ := h
  obtain ⟨f0, ⟨f1, f2⟩, _⟩ := zNf hSl hN.1.1 hN.1.2
  exact ⟨f0, hN.1.1, f1, by have := hSl.2.1; omega⟩
