theorem zD_r {φ N fr lg b1 b2 g t m n s st Ψ r : Int} {ac aA rg to tl cs ca cp ct : Nat → Int32} {C : Int → zT} (h1 : zMa φ ac aA C N fr lg b1 b2 g rg to tl cs ca cp ct t m n s st Ψ 1) (h0 : zMa φ ac aA C N fr lg b1 b2 g rg to tl cs ca cp ct t m n s st Ψ 0) : zMa φ ac aA C N fr lg b1 b2 g rg to tl cs ca cp ct t m n s st Ψ r := by
  by_cases e : r = 0
  · rw [e]; exact h0
  · obtain ⟨S, a, b, c⟩ := h1
    exact ⟨S, by rw [if_neg e]; rw [if_neg (by decide)] at a; exact a, b, fun _ => c (by decide)⟩
theorem zIs {φ N fr lg b1 b2 g t m n s st Ψ bs n9 : Int} {ac aA rg to tl cs ca cp ct so va aB la : Nat → Int32} {C : Int → zT} (h : zMa φ ac aA C N fr lg b1 b2 g rg to tl cs ca cp ct t m n s st Ψ 1) (hP : zPr so va ac aA aB la bs n9 φ N C) : (0 ≤ zg ac n ∧ zg ac n ≤ 21) ∧ (zg ac n ≤ 2 → 0 ≤ zg aA n ∧ zg aA n < n9) ∧ (zg ac n = 0 → zg so (bs + zg aA n) ≤ 2) ∧ (zg ac n = 6 ∨ zg ac n = 7 → 1 ≤ zg aA n ∧ zg aA n ≤ 9) ∧ (8 ≤ zg ac n → zg ac n ≠ 19 → zg ac n ≠ 21 → 0 ≤ zg aA n ∧ zg aA n < n9) ∧ (zg ac n ≠ 19 → n + 1 < N) ∧ (φ = 0 ∨ φ = 1) ∧ n9 ≤ 220 := by
  obtain ⟨S, hS, hC, hI⟩ := h
  have hI := hI (by decide)
  obtain ⟨⟨s0, s1, s2, s3, s4, s5, s6, s7, s8, s9, _⟩, nx, r, nl, hφ⟩ := zPr_at hP hI.1.1 hI.1.2
  exact ⟨⟨s0.1, s0.2.1⟩, s1, s2, s6, fun a b c => (s9 a b).2 c, nl, hφ, hP.1.2.2.1⟩
theorem zIl {φ N fr lg b1 b2 g t m n s st Ψ bs n9 : Int} {ac aA rg to tl cs ca cp ct so va aB la : Nat → Int32} {C : Int → zT} (h : zMa φ ac aA C N fr lg b1 b2 g rg to tl cs ca cp ct t m n s st Ψ 1) (hP : zPr so va ac aA aB la bs n9 φ N C) : (3 ≤ zg ac n → zg ac n ≤ 5 → (0 ≤ zg aA n ∧ zg aA n < 3000) ∧ 0 ≤ zg la (zg aA n) ∧ zg la (zg aA n) < N) ∧ (zg ac n = 9 ∨ zg ac n = 10 → (0 ≤ zg aB n ∧ zg aB n < 3000) ∧ 0 ≤ zg la (zg aB n) ∧ zg la (zg aB n) < N) ∧ (zg ac n = 13 ∨ zg ac n = 15 ∨ zg ac n = 17 → zg aB n = -1 ∨ ((0 ≤ zg aB n ∧ zg aB n < 3000) ∧ 0 ≤ zg la (zg aB n) ∧ zg la (zg aB n) < N)) := by
  obtain ⟨S, hS, hC, hI⟩ := h
  have hI := hI (by decide)
  exact zPr_la hP hI.1.1 hI.1.2
theorem zIb {φ N fr lg b1 b2 g t m n s st Ψ bs n9 : Int} {ac aA rg to tl cs ca cp ct so va aB la : Nat → Int32} {C : Int → zT} {x : Int} (h : zMa φ ac aA C N fr lg b1 b2 g rg to tl cs ca cp ct t m n s st Ψ 1) (hP : zPr so va ac aA aB la bs n9 φ N C) (ho : zg ac n = 2) (hx : x = bs + zg aA n) (hl : lg ≤ 100) : zBq rg va x lg := by
  obtain ⟨S, hS, hC, hI⟩ := h
  have hI := hI (by decide)
  obtain ⟨⟨s0, s1, s2, s3, _⟩, nx, r, nl, hφ⟩ := zPr_at hP hI.1.1 hI.1.2
  obtain ⟨_, v0, v1⟩ := s3 ho
  subst hx
  have c := hI.2.2.1 _ v0 v1
  rw [zG_at v0, zG_at (show 0 ≤ 10 + zg va (bs + zg aA n) by omega)] at c
  exact ⟨⟨v0, v1⟩, c⟩
theorem zIk {φ N fr lg b1 b2 g t m n s st Ψ bs n9 : Int} {ac aA rg to tl cs ca cp ct so va aB la : Nat → Int32} {C : Int → zT} (h : zMa φ ac aA C N fr lg b1 b2 g rg to tl cs ca cp ct t m n s st Ψ 1) (hP : zPr so va ac aA aB la bs n9 φ N C) (hf : 0 ≤ fr) (ho : zg ac n = 12) : 0 ≤ zg rg (470 + zg aA n) ∧ zg rg (470 + zg aA n) ≤ m := by
  obtain ⟨S, hS, hC, hI⟩ := h
  have hI := hI (by decide)
  obtain ⟨⟨s0, s1, s2, s3, s4, s5, s6, s7, s8, s9, s10, s11, s12, s13, _⟩, nx, r, nl, hφ⟩ := zPr_at hP hI.1.1 hI.1.2
  have a := (s9 (by omega) (by omega)).2 (by omega)
  obtain ⟨G, eG⟩ := s13 ho
  have w := hI.2.1
  rw [eG] at w
  have e4 : zg rg (470 + zg aA n) = zG rg (470 + zg aA n) := (zG_at (by omega)).symm
  rw [e4]
  rcases w with ⟨z, _⟩ | ⟨_, w⟩ | ⟨z, _⟩
  · exact absurd z (by decide)
  · exact ⟨w.1, w.2.1⟩
  · exact absurd z (by decide)
theorem zS_s0 {so va le mo ho pa en fp pb pe : Nat → Int32} {b q n c k : Int} (h : zSl so va le mo ho pa en fp pb pe b q n c) (k0 : 0 ≤ k) (k1 : k < n) : 0 ≤ zg so (b + k) := by
  obtain ⟨p, hp, ⟨d, _⟩, _⟩ := zS_nd h k0 k1
  exact d
theorem zIa {φ N fr lg b1 b2 g t m n s st Ψ bs n9 : Int} {ac aA rg to tl cs ca cp ct so va aB la : Nat → Int32} {C : Int → zT} (h : zMa φ ac aA C N fr lg b1 b2 g rg to tl cs ca cp ct t m n s st Ψ 1) (hP : zPr so va ac aA aB la bs n9 φ N C) : 0 ≤ zg aA n ∧ zg aA n < 3000 := by
  obtain ⟨S, hS, hC, hI⟩ := h
  have hI := hI (by decide)
  exact (zPr_at hP hI.1.1 hI.1.2).1.1.2.2
