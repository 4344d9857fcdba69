theorem zge_zcn {φ N q : Int} {C : Int → zT} {σ υ : zT} (h : zge φ σ υ) : zge φ (zcn C N σ q) (zcn C N υ q) := by
  unfold zcn; split
  · exact h
  · exact zge_rfl
theorem zOp_L {so va : Nat → Int32} {bs n φ lb o a b : Int} {Λ Λ' : Int → zT} {σ τ : zT} (h : zOp so va bs n φ lb Λ o a b σ τ) (e : ∀ l : Int, 0 ≤ l → l < lb → zge φ (Λ l) (Λ' l)) : zOp so va bs n φ lb Λ' o a b σ τ := by
  obtain ⟨⟨s0, s1, s2, s3, s4, s5, s6, s7, s8, s9, s10, s11, s12, s13, s14, s15⟩, nx⟩ := h
  refine ⟨⟨s0, s1, s2, s3, fun z => ?_, s5, s6, s7, s8, s9, fun z => ?_, fun z => ?_, s12, s13, fun z => ?_, s15⟩, nx⟩
  · obtain ⟨q1, q2, q3⟩ := s4 z; exact ⟨q1, q2, zn_le q3 (e a q1 q2)⟩
  · obtain ⟨q1, q2, q3⟩ := s10 z; exact ⟨q1, q2, zn_le q3 (e b q1 q2)⟩
  · obtain ⟨q1, q2, q3⟩ := s11 z; exact ⟨q1, q2, zn_le q3 (e b q1 q2)⟩
  · obtain ⟨q1, q2, q3⟩ := s14 z
    refine ⟨q1, q2, ?_⟩
    rcases q3 with q3 | ⟨q3, q4, q5⟩
    · exact Or.inl q3
    · exact Or.inr ⟨q3, q4, zn_le q5 (e b q3 q4)⟩
theorem zLd_le {so va ac aA aB la ta tA : Nat → Int32} {bs n φ N lb m : Int} {C Λ : Int → zT} {σ υ : zT} {d1 d2 : Int} (h : zLd so va ac aA aB la ta tA bs n φ N lb m C Λ σ d1 d2) (h2 : zge φ σ υ) : zLd so va ac aA aB la ta tA bs n φ N lb m C Λ υ d1 d2 := by
  obtain ⟨l1, l2, l3, l4⟩ := h
  have z := zge_zcn (C := C) (N := N) (q := 0) h2
  refine ⟨fun p p0 p1 => ?_, fun l l0 lb0 => ?_, z.1.trans l3, fun e => by have := l4 e; have := z.2 e; omega⟩
  · obtain ⟨a, b⟩ := l1 p p0 p1
    exact ⟨zOp_le a (zge_zcn h2), b⟩
  · rcases l2 l l0 lb0 with w | w | ⟨q1, q2, q3, q4⟩
    · exact Or.inl w
    · exact Or.inr (Or.inl w)
    · exact Or.inr (Or.inr ⟨q1, q2, q3, zge_tr q4 (zge_zcn h2)⟩)
def zWt (ac : Nat → Int32) (N : Int) : Int := zsm (fun p => zh 1 (zg ac p)) N.toNat
def zCo (so va ac aA aB la : Nat → Int32) (bs n φ N : Int) : Prop := ∃ C : Int → zT, zPr so va ac aA aB la bs n φ N C ∧ zPq φ ac C N ∧ (φ = 1 → zWt ac N ≤ 798)
def zCS (so va en ac aA aB la ta tA tB : Nat → Int32) (Z : Int → Int) (bs n φ N lb m gm : Int) : Prop := ((m = 0 ∧ zCo so va ac aA aB la bs n φ N) ∨ ∃ (C Λ : Int → zT) (σ : zT) (B2 : Int), zW so va en ac aA aB la ta tA tB Z bs n φ N lb m C Λ σ σ (-1) (-1) gm B2 ∧ (φ = 1 → zWt ac N + B2 ≤ 798)) ∧ N + gm ≤ 2650 ∧ 0 ≤ N
theorem zCS_t {so va le mo ho pa en fp pb pe ac aA aB la ta tA tB : Nat → Int32} {Z : Int → Int} {bs q n c φ N lb m gm : Int} (h : zCS so va en ac aA aB la ta tA tB Z bs n φ N lb m gm) (hSl : zSl so va le mo ho pa en fp pb pe bs q n c) (hZ : zZ so le mo en bs n φ Z) (hm : 1 ≤ m) : ∃ (C Λ : Int → zT) (σ σ0 τ : zT) (B2 : Int), 0 ≤ lb ∧ zLd so va ac aA aB la ta tA bs n φ N lb m C Λ σ (-1) (-1) ∧ zge φ σ σ0 ∧ zRg σ0 ∧ zE so va en bs n φ lb Λ (zg ta (m - 1)) (zg tA (m - 1)) (zg tB (m - 1)) σ0 τ ∧ (m = 1 → zg ta (m - 1) = 19) ∧ zK so va en ta tA tB bs n φ lb Λ (m - 1).toNat τ ∧ lb + zsu (zc1 Z) ta tA (m - 1) + zc1 Z (zg ta (m - 1)) (zg tA (m - 1)) ≤ gm ∧ zsu (zc2 Z) ta tA (m - 1) + zc2 Z (zg ta (m - 1)) (zg tA (m - 1)) ≤ B2 ∧ (φ = 1 → zWt ac N + B2 ≤ 798) ∧ m - 1 ≤ zsu (zc1 Z) ta tA (m - 1) := by
  obtain ⟨h, hN⟩ := h
  rcases h with ⟨e, _⟩ | ⟨C, Λ, σ, B2, ⟨h1, h2, h3, h4, h5, h6⟩, h7⟩
  · omega
  · rw [show m.toNat = (m - 1).toNat + 1 by omega] at h4
    obtain ⟨σ0, τ, g1, g2, g3, g4, g5⟩ := h4
    have ei : (((m - 1).toNat : Nat) : Int) = m - 1 := by omega
    rw [ei] at g3 g4
    have s1 : zsu (zc1 Z) ta tA m = zsu (zc1 Z) ta tA (m - 1) + zc1 Z (zg ta (m - 1)) (zg tA (m - 1)) := by
      unfold zsu; rw [show m.toNat = ((m - 1) + 1).toNat by omega, zsm_add (by omega)]
    have s2 : zsu (zc2 Z) ta tA m = zsu (zc2 Z) ta tA (m - 1) + zc2 Z (zg ta (m - 1)) (zg tA (m - 1)) := by
      unfold zsu; rw [show m.toNat = ((m - 1) + 1).toNat by omega, zsm_add (by omega)]
    have k := zK_m (fun k k0 k1 => (hZ k k0 k1).1) g5
    exact ⟨C, Λ, σ, σ0, τ, B2, h2, h3, g1, g2, g3, fun z => g4 (by omega), g5, by omega, by omega, h7, by unfold zsu; omega⟩
theorem zCS_n {so va le mo ho pa en fp pb pe ac aA aB la ta tA tB : Nat → Int32} {Z : Int → Int} {bs q n c φ N lb m m' gm k : Int} (h : zCS so va en ac aA aB la ta tA tB Z bs n φ N lb m gm) (hSl : zSl so va le mo ho pa en fp pb pe bs q n c) (hZ : zZ so le mo en bs n φ Z) (hφ : (φ = 0 ∨ φ = 1) ∧ (φ = 1 → zKb so bs n)) (hm : 1 ≤ m) (h100 : zg ta (m - 1) = 100) (hk : k = zg tA (m - 1)) (hm' : m' = m - 1) : ∃ (C Λ : Int → zT) (σ σ0 τ : zT) (B1 B2 : Int), zND so va le mo ho pa en fp pb pe ac aA aB la ta tA tB Z bs q n c φ N lb m' C Λ σ σ0 τ k B1 B2 ∧ B1 + 12 * Z k - 4 ≤ gm ∧ (φ = 1 → zWt ac N + B2 + 4 * Z k - 3 ≤ 798) := by
  have hN := h.2
  obtain ⟨C, Λ, σ, σ0, τ, B2, lb0, hL, g1, g2, g3, g4, g5, b1, b2, b3, b4⟩ := zCS_t h hSl hZ hm
  subst hm'; subst hk
  rw [h100, zc1_n] at b1
  rw [h100, zc2_n] at b2
  have m1 : 1 ≤ m - 1 := by
    by_cases e : m = 1
    · have := g4 e; omega
    · omega
  have nt : zNt so va en bs n φ (zg tA (m - 1)) σ0 τ := by
    rcases g3 with ⟨_, z⟩ | ⟨z, _⟩ | ⟨⟨⟨z, _⟩, _⟩, _⟩
    · exact z
    · omega
    · omega
  have nt2 := nt
  obtain ⟨⟨k0, k1⟩, ck, e1, n1, n2, n3⟩ := nt2
  obtain ⟨_, ⟨f1, f2⟩, _⟩ := zNf hSl k0 k1
  obtain ⟨⟨y1, _⟩, ⟨y2, _⟩, y3, _⟩ := zh_m (φ := φ) hSl k0 (show zg tA (m - 1) ≤ zg en (bs + zg tA (m - 1)) by omega) f2
  have z1 := (hZ _ k0 k1).1
  have key : ∃ υ : zT, zNt so va en bs n φ (zg tA (m - 1)) σ0 υ ∧ zRg υ ∧ zK so va en ta tA tB bs n φ lb Λ (m - 1).toNat υ := by
    rcases hφ.1 with e | e
    · refine ⟨τ, nt, ?_, g5⟩
      rw [show (m - 1).toNat = (m - 2).toNat + 1 by omega] at g5
      obtain ⟨σ1, τ1, w1, w2, _⟩ := g5
      have w := w1.2 e
      exact ⟨by have := w2.1; omega, by have := w2.2.1; omega, by have := w2.2.2.1; omega, by have := g2.2.2.2.1; omega, by rw [e1]; exact g2.2.2.2.2⟩
    · have q : ∀ y : Int, zhL so bs φ y = 0 ∧ zhC so bs φ y = 0 ∧ zhX φ y = 0 := fun y => ⟨if_neg (by omega), if_neg (by omega), if_neg (by omega)⟩
      refine ⟨(σ0.1, 0, 0, 0), ⟨⟨k0, k1⟩, ck, rfl, ?_, ?_, ?_⟩, ⟨Int.le_refl _, Int.le_refl _, Int.le_refl _, (by show (0 : Int) ≤ 1000; omega), g2.2.2.2.2⟩, zK_ge g5 ⟨e1, fun z => by omega⟩⟩
      · rw [(q _).1, (q _).1]; have := g2.1; show 0 + 0 ≤ σ0.2.1 + 0; omega
      · rw [(q _).2.1, (q _).2.1]; have := g2.2.1; show 0 + 0 ≤ σ0.2.2.1 + 0; omega
      · rw [(q _).2.2, (q _).2.2]; have := g2.2.2.1; show 0 + 0 ≤ σ0.2.2.2 + 0; omega
  obtain ⟨υ, v1, v2, v3⟩ := key
  refine ⟨C, Λ, σ, σ0, υ, lb + zsu (zc1 Z) ta tA (m - 1), zsu (zc2 Z) ta tA (m - 1), ⟨hφ, hSl, hZ, by omega, v1, g1, g2, v2, m1, lb0, ?_, v3, Int.le_refl _, Int.le_refl _⟩, by omega, fun e => by have := b3 e; omega⟩
  obtain ⟨l1, l2, l3⟩ := hL
  refine ⟨l1, fun l l0 lb1 => ?_, l3⟩
  rcases l2 l l0 lb1 with w | ⟨i, i0, i1, i2, i3⟩ | ⟨q1, q2, q3, q4⟩
  · exact Or.inl w
  · refine Or.inr (Or.inl ⟨i, i0, ?_, i2, i3⟩)
    by_cases e : i = m - 1
    · rw [e] at i2; omega
    · omega
  · exact Or.inr (Or.inr ⟨q1, q2, fun z => by omega, q4⟩)
theorem zCS_w {so va en ac aA aB la ta tA tB : Nat → Int32} {Z : Int → Int} {bs n φ N lb m gm gm' k B1 B2 : Int} {C : Int → zT} {σ : zT} (h : zWp so va en ac aA aB la ta tA tB Z bs n φ N lb m C σ k B1 B2) (hB1 : B1 + 12 * Z k - 4 ≤ gm) (hB2 : φ = 1 → zWt ac N + B2 + 4 * Z k - 3 ≤ 798) (hN : N + gm ≤ 2650) (hN0 : 0 ≤ N) (hg : gm' = gm - 1) : zCS so va en ac aA aB la ta tA tB Z bs n φ N lb m gm' := by
  obtain ⟨Λ, B, ⟨h1, h2, h3, h4, h5, h6⟩, hB⟩ := h
  exact ⟨Or.inr ⟨C, Λ, σ, B, ⟨h1, h2, h3, h4, by omega, h6⟩, fun e => by have := hB e; have := hB2 e; omega⟩, by omega, hN0⟩
