def zHl (he en : Nat → Int32) (bs n c k e : Int) : Prop := (∀ i : Int, 0 ≤ i → i < n → k < zg he i ∧ zg he i < e ∧ zg en (bs + zg he i) = zhq he n c i) ∧ (1 ≤ n → zg he 0 = k + 1) ∧ (n = 0 → c = k + 1) ∧ 0 ≤ n ∧ k < c ∧ c ≤ e ∧ n ≤ c - k - 1
theorem zHl_0 {so va le mo ho pa en fp pb pe ac aA aB la ta tA tB he : Nat → Int32} {Z : Int → Int} {bs q n c φ N lb m x y : Int} {C Λ : Int → zT} {σ σ0 τ : zT} {k B1 B2 : Int} (h : zND so va le mo ho pa en fp pb pe ac aA aB la ta tA tB Z bs q n c φ N lb m C Λ σ σ0 τ k B1 B2) (hx : x = 0) (hy : y = k + 1) : zHl he en bs x y k (zg en (bs + k)) := by
  obtain ⟨_, hSl, _, _, hN, _⟩ := h
  obtain ⟨_, ⟨f1, f2⟩, _⟩ := zNf hSl hN.1.1 hN.1.2
  exact ⟨fun i i0 i1 => by omega, fun z => by omega, fun _ => hy, by omega, by omega, by omega, by omega⟩
theorem zHl_s {so va le mo ho pa en fp pb pe ac aA aB la ta tA tB he heω : Nat → Int32} {Z : Int → Int} {bs q n c φ N lb m x' : Int} {C Λ : Int → zT} {σ σ0 τ : zT} {k B1 B2 : Int} {i v y j : Int32} (h : zND so va le mo ho pa en fp pb pe ac aA aB la ta tA tB Z bs q n c φ N lb m C Λ σ σ0 τ k B1 B2) (hl : zHl he en bs i.toInt v.toInt k (zg en (bs + k))) (e : heω = upd he i.toNatClampNeg v) (ey : y = en j.toNatClampNeg) (hj : j.toInt = bs + v.toInt) (hv : v.toInt < zg en (bs + k)) (hx : x' = i.toInt + 1) : zHl heω en bs x' y.toInt k (zg en (bs + k)) ∧ v.toInt < y.toInt := by
  obtain ⟨l1, l2, l3, l4, l5, l6, l7⟩ := hl
  obtain ⟨_, hSl, _, _, hN, _⟩ := h
  obtain ⟨_, ⟨f1, f2⟩, _, _, _, _, _, fe⟩ := zNf hSl hN.1.1 hN.1.2
  have k0 := hN.1.1
  have ye := zg_at2 ey hj
  have fe := fe v.toInt (by omega) hv
  obtain ⟨_, ⟨g1, g2⟩, _⟩ := zNf hSl (show 0 ≤ v.toInt by omega) (show v.toInt < n by omega)
  subst hx
  have own : zg heω i.toInt = v.toInt := by rw [e]; exact zg_eq
  refine ⟨⟨fun a a0 a1 => ?_, fun _ => ?_, fun z => by omega, by omega, by omega, by omega, by omega⟩, by omega⟩
  · by_cases q : a = i.toInt
    · subst q; rw [own]
      refine ⟨l5, hv, ?_⟩
      unfold zhq; rw [if_pos rfl]; exact ye.symm
    · have ne : zg heω a = zg he a := by rw [e]; exact zg_ne l4 a0 q
      obtain ⟨b1, b2, b3⟩ := l1 a a0 (by omega)
      rw [ne]; refine ⟨b1, b2, ?_⟩
      rw [b3]; unfold zhq
      rw [if_neg (show ¬ (a + 1 = i.toInt + 1) by omega)]
      by_cases w : a + 1 = i.toInt
      · rw [if_pos w, w, own]
      · rw [if_neg w, e, zg_ne l4 (by omega) w]
  · by_cases q : i.toInt = 0
    · have := l3 q; rw [← q, own]; exact this
    · rw [e, zg_ne l4 (Int.le_refl _) (by omega)]; exact l2 (by omega)
theorem zHl_e {he en : Nat → Int32} {bs n c k e : Int} (h : zHl he en bs n c k e) (hc : e ≤ c) : zHe he en bs n k e := by
  obtain ⟨l1, l2, l3, l4, l5, l6, l7⟩ := h
  have ec : c = e := by omega
  subst ec
  exact ⟨l1, l2, l3, l4⟩
theorem zN_6 {so va le mo ho pa en fp pb pe ac aA aB la ta tA tB he : Nat → Int32} {Z : Int → Int} {bs q n c φ N lb m nn : Int} {C Λ : Int → zT} {σ σ0 τ : zT} {k B1 B2 : Int} (h : zND so va le mo ho pa en fp pb pe ac aA aB la ta tA tB Z bs q n c φ N lb m C Λ σ σ0 τ k B1 B2) (hH : zHe he en bs nn k (zg en (bs + k))) (hs : zg so (bs + k) = 6) : 1 ≤ nn := by
  obtain ⟨_, hSl, _, _, hN, _⟩ := h
  obtain ⟨_, _, _, f6, _⟩ := zNf hSl hN.1.1 hN.1.2
  have a := f6 (by omega)
  have b := hH.2.2.1
  have d := hH.2.2.2
  by_cases e : nn = 0
  · have := b e; omega
  · omega
theorem zN_r {so va le mo ho pa en fp pb pe ac aA aB la ta tA tB : Nat → Int32} {Z : Int → Int} {bs q n c φ N lb m : Int} {C Λ : Int → zT} {σ σ0 τ : zT} {k B1 B2 : Int} (h : zND so va le mo ho pa en fp pb pe ac aA aB la ta tA tB Z bs q n c φ N lb m C Λ σ σ0 τ k B1 B2) : (0 ≤ zg so (bs + k) ∧ zg so (bs + k) ≤ 11) ∧ (0 ≤ k ∧ k < zg en (bs + k) ∧ zg en (bs + k) ≤ 220) := by
  obtain ⟨_, hSl, _, _, hN, _⟩ := h
  obtain ⟨f0, ⟨f1, f2⟩, _⟩ := zNf hSl hN.1.1 hN.1.2
  exact ⟨f0, hN.1.1, f1, by have := hSl.2.1; omega⟩
theorem zge_zcn {φ N q : Int} {C : Int → zT} {σ υ : zT} (h : zge φ σ υ) : zge φ (zcn C N σ q) (zcn C N υ q) := by
  unfold zcn; split
  · exact h
  · exact zge_rfl
theorem zOp_L {so va : Nat → Int32} {bs n φ lb o a b : Int} {Λ Λ' : Int → zT} {σ τ : zT} (h : zOp so va bs n φ lb Λ o a b σ τ) (e : ∀ l : Int, 0 ≤ l → l < lb → zge φ (Λ l) (Λ' l)) : zOp so va bs n φ lb Λ' o a b σ τ := by
  obtain ⟨⟨s0, s1, s2, s3, s4, s5, s6, s7, s8, s9, s10, s11, s12, s13, s14, s15⟩, nx⟩ := h
  refine ⟨⟨s0, s1, s2, s3, fun z => ?_, s5, s6, s7, s8, s9, fun z => ?_, fun z => ?_, s12, s13, fun z => ?_, s15⟩, nx⟩
  · obtain ⟨q1, q2, q3⟩ := s4 z; exact ⟨q1, q2, zn_le q3 (e a q1 q2)⟩
  · obtain ⟨q1, q2, q3⟩ := s10 z; exact ⟨q1, q2, zn_le q3 (e b q1 q2)⟩
  · obtain ⟨q1, q2, q3⟩ := s11 z; exact ⟨q1, q2, zn_le q3 (e b q1 q2)⟩
  · obtain ⟨q1, q2, q3⟩ := s14 z
    refine ⟨q1, q2, ?_⟩
    rcases q3 with q3 | ⟨q3, q4, q5⟩
    · exact Or.inl q3
    · exact Or.inr ⟨q3, q4, zn_le q5 (e b q3 q4)⟩
theorem zLd_le {so va ac aA aB la ta tA : Nat → Int32} {bs n φ N lb m : Int} {C Λ : Int → zT} {σ υ : zT} {d1 d2 : Int} (h : zLd so va ac aA aB la ta tA bs n φ N lb m C Λ σ d1 d2) (h2 : zge φ σ υ) : zLd so va ac aA aB la ta tA bs n φ N lb m C Λ υ d1 d2 := by
  obtain ⟨l1, l2, l3, l4⟩ := h
  have z := zge_zcn (C := C) (N := N) (q := 0) h2
  refine ⟨fun p p0 p1 => ?_, fun l l0 lb0 => ?_, z.1.trans l3, fun e => by have := l4 e; have := z.2 e; omega⟩
  · obtain ⟨a, b⟩ := l1 p p0 p1
    exact ⟨zOp_le a (zge_zcn h2), b⟩
  · rcases l2 l l0 lb0 with w | w | ⟨q1, q2, q3, q4⟩
    · exact Or.inl w
    · exact Or.inr (Or.inl w)
    · exact Or.inr (Or.inr ⟨q1, q2, q3, zge_tr q4 (zge_zcn h2)⟩)
def zWt (ac : Nat → Int32) (N : Int) : Int := zsm (fun p => zh 1 (zg ac p)) N.toNat
def zCo (so va ac aA aB la : Nat → Int32) (bs n φ N : Int) : Prop := ∃ C : Int → zT, zPr so va ac aA aB la bs n φ N C ∧ zPq φ ac C N ∧ (φ = 1 → zWt ac N ≤ 798)
def zCS (so va en ac aA aB la ta tA tB : Nat → Int32) (Z : Int → Int) (bs n φ N lb m gm : Int) : Prop := ((m = 0 ∧ zCo so va ac aA aB la bs n φ N) ∨ ∃ (C Λ : Int → zT) (σ : zT) (B2 : Int), zW so va en ac aA aB la ta tA tB Z bs n φ N lb m C Λ σ σ (-1) (-1) gm B2 ∧ (φ = 1 → zWt ac N + B2 ≤ 798)) ∧ N + gm ≤ 2650 ∧ 0 ≤ N
theorem zCS_t {so va le mo ho pa en fp pb pe ac aA aB la ta tA tB : Nat → Int32} {Z : Int → Int} {bs q n c φ N lb m gm : Int} (h : zCS so va en ac aA aB la ta tA tB Z bs n φ N lb m gm) (hSl : zSl so va le mo ho pa en fp pb pe bs q n c) (hZ : zZ so le mo en bs n φ Z) (hm : 1 ≤ m) : ∃ (C Λ : Int → zT) (σ σ0 τ : zT) (B2 : Int), 0 ≤ lb ∧ zLd so va ac aA aB la ta tA bs n φ N lb m C Λ σ (-1) (-1) ∧ zge φ σ σ0 ∧ zRg σ0 ∧ zE so va en bs n φ lb Λ (zg ta (m - 1)) (zg tA (m - 1)) (zg tB (m - 1)) σ0 τ ∧ (m = 1 → zg ta (m - 1) = 19) ∧ zK so va en ta tA tB bs n φ lb Λ (m - 1).toNat τ ∧ lb + zsu (zc1 Z) ta tA (m - 1) + zc1 Z (zg ta (m - 1)) (zg tA (m - 1)) ≤ gm ∧ zsu (zc2 Z) ta tA (m - 1) + zc2 Z (zg ta (m - 1)) (zg tA (m - 1)) ≤ B2 ∧ (φ = 1 → zWt ac N + B2 ≤ 798) ∧ m - 1 ≤ zsu (zc1 Z) ta tA (m - 1) := by
  obtain ⟨h, hN⟩ := h
  rcases h with ⟨e, _⟩ | ⟨C, Λ, σ, B2, ⟨h1, h2, h3, h4, h5, h6⟩, h7⟩
  · omega
  · rw [show m.toNat = (m - 1).toNat + 1 by omega] at h4
    obtain ⟨σ0, τ, g1, g2, g3, g4, g5⟩ := h4
    have ei : (((m - 1).toNat : Nat) : Int) = m - 1 := by omega
    rw [ei] at g3 g4
    have s1 : zsu (zc1 Z) ta tA m = zsu (zc1 Z) ta tA (m - 1) + zc1 Z (zg ta (m - 1)) (zg tA (m - 1)) := by
      unfold zsu; rw [show m.toNat = ((m - 1) + 1).toNat by omega, zsm_add (by omega)]
    have s2 : zsu (zc2 Z) ta tA m = zsu (zc2 Z) ta tA (m - 1) + zc2 Z (zg ta (m - 1)) (zg tA (m - 1)) := by
      unfold zsu; rw [show m.toNat = ((m - 1) + 1).toNat by omega, zsm_add (by omega)]
    have k := zK_m (fun k k0 k1 => (hZ k k0 k1).1) g5
    exact ⟨C, Λ, σ, σ0, τ, B2, h2, h3, g1, g2, g3, fun z => g4 (by omega), g5, by omega, by omega, h7, by unfold zsu; omega⟩
theorem zCS_n {so va le mo ho pa en fp pb pe ac aA aB la ta tA tB : Nat → Int32} {Z : Int → Int} {bs q n c φ N lb m m' gm k : Int} (h : zCS so va en ac aA aB la ta tA tB Z bs n φ N lb m gm) (hSl : zSl so va le mo ho pa en fp pb pe bs q n c) (hZ : zZ so le mo en bs n φ Z) (hφ : (φ = 0 ∨ φ = 1) ∧ (φ = 1 → zKb so bs n)) (hm : 1 ≤ m) (h100 : zg ta (m - 1) = 100) (hk : k = zg tA (m - 1)) (hmω : m' = m - 1) : ∃ (C Λ : Int → zT) (σ σ0 τ : zT) (B1 B2 : Int), zND so va le mo ho pa en fp pb pe ac aA aB la ta tA tB Z bs q n c φ N lb m' C Λ σ σ0 τ k B1 B2 ∧ B1 + 12 * Z k - 4 ≤ gm ∧ (φ = 1 → zWt ac N + B2 + 4 * Z k - 3 ≤ 798) := by
  have hN := h.2
  obtain ⟨C, Λ, σ, σ0, τ, B2, lb0, hL, g1, g2, g3, g4, g5, b1, b2, b3, b4⟩ := zCS_t h hSl hZ hm
  subst hmω; subst hk
  rw [h100, zc1_n] at b1
  rw [h100, zc2_n] at b2
  have m1 : 1 ≤ m - 1 := by
    by_cases e : m = 1
    · have := g4 e; omega
    · omega
  have nt : zNt so va en bs n φ (zg tA (m - 1)) σ0 τ := by
    rcases g3 with ⟨_, z⟩ | ⟨z, _⟩ | ⟨⟨⟨z, _⟩, _⟩, _⟩
    · exact z
    · omega
    · omega
  have nt2 := nt
  obtain ⟨⟨k0, k1⟩, ck, e1, n1, n2, n3⟩ := nt2
  obtain ⟨_, ⟨f1, f2⟩, _⟩ := zNf hSl k0 k1
  obtain ⟨⟨y1, _⟩, ⟨y2, _⟩, y3, _⟩ := zh_m (φ := φ) hSl k0 (show zg tA (m - 1) ≤ zg en (bs + zg tA (m - 1)) by omega) f2
  have z1 := (hZ _ k0 k1).1
  have key : ∃ υ : zT, zNt so va en bs n φ (zg tA (m - 1)) σ0 υ ∧ zRg υ ∧ zK so va en ta tA tB bs n φ lb Λ (m - 1).toNat υ := by
    rcases hφ.1 with e | e
    · refine ⟨τ, nt, ?_, g5⟩
      rw [show (m - 1).toNat = (m - 2).toNat + 1 by omega] at g5
      obtain ⟨σ1, τ1, w1, w2, _⟩ := g5
      have w := w1.2 e
      exact ⟨by have := w2.1; omega, by have := w2.2.1; omega, by have := w2.2.2.1; omega, by have := g2.2.2.2.1; omega, by rw [e1]; exact g2.2.2.2.2⟩
    · have q : ∀ y : Int, zhL so bs φ y = 0 ∧ zhC so bs φ y = 0 ∧ zhX φ y = 0 := fun y => ⟨if_neg (by omega), if_neg (by omega), if_neg (by omega)⟩
      refine ⟨(σ0.1, 0, 0, 0), ⟨⟨k0, k1⟩, ck, rfl, ?_, ?_, ?_⟩, ⟨Int.le_refl _, Int.le_refl _, Int.le_refl _, (by show (0 : Int) ≤ 1000; omega), g2.2.2.2.2⟩, zK_ge g5 ⟨e1, fun z => by omega⟩⟩
      · rw [(q _).1, (q _).1]; have := g2.1; show 0 + 0 ≤ σ0.2.1 + 0; omega
      · rw [(q _).2.1, (q _).2.1]; have := g2.2.1; show 0 + 0 ≤ σ0.2.2.1 + 0; omega
      · rw [(q _).2.2, (q _).2.2]; have := g2.2.2.1; show 0 + 0 ≤ σ0.2.2.2 + 0; omega
  obtain ⟨υ, v1, v2, v3⟩ := key
  refine ⟨C, Λ, σ, σ0, υ, lb + zsu (zc1 Z) ta tA (m - 1), zsu (zc2 Z) ta tA (m - 1), ⟨hφ, hSl, hZ, by omega, v1, g1, g2, v2, m1, lb0, ?_, v3, Int.le_refl _, Int.le_refl _⟩, by omega, fun e => by have := b3 e; omega⟩
  obtain ⟨l1, l2, l3⟩ := hL
  refine ⟨l1, fun l l0 lb1 => ?_, l3⟩
  rcases l2 l l0 lb1 with w | ⟨i, i0, i1, i2, i3⟩ | ⟨q1, q2, q3, q4⟩
  · exact Or.inl w
  · refine Or.inr (Or.inl ⟨i, i0, ?_, i2, i3⟩)
    by_cases e : i = m - 1
    · rw [e] at i2; omega
    · omega
  · exact Or.inr (Or.inr ⟨q1, q2, fun z => by omega, q4⟩)
theorem zCS_w {so va en ac aA aB la ta tA tB : Nat → Int32} {Z : Int → Int} {bs n φ N lb m gm gmω k B1 B2 : Int} {C : Int → zT} {σ : zT} (h : zWp so va en ac aA aB la ta tA tB Z bs n φ N lb m C σ k B1 B2) (hB1 : B1 + 12 * Z k - 4 ≤ gm) (hB2 : φ = 1 → zWt ac N + B2 + 4 * Z k - 3 ≤ 798) (hN : N + gm ≤ 2650) (hN0 : 0 ≤ N) (hg : gmω = gm - 1) : zCS so va en ac aA aB la ta tA tB Z bs n φ N lb m gmω := by
  obtain ⟨Λ, B, ⟨h1, h2, h3, h4, h5, h6⟩, hB⟩ := h
  exact ⟨Or.inr ⟨C, Λ, σ, B, ⟨h1, h2, h3, h4, by omega, h6⟩, fun e => by have := hB e; have := hB2 e; omega⟩, by omega, hN0⟩
theorem zCS_l {so va le mo ho pa en fp pb pe ac aA aB la laω ta tA tB : Nat → Int32} {Z : Int → Int} {bs q n c φ N lb m m' gm gmω : Int} {i v : Int32} (h : zCS so va en ac aA aB la ta tA tB Z bs n φ N lb m gm) (hSl : zSl so va le mo ho pa en fp pb pe bs q n c) (hZ : zZ so le mo en bs n φ Z) (el : laω = upd la i.toNatClampNeg v) (hm : 1 ≤ m) (h101 : zg ta (m - 1) = 101) (hi : i.toInt = zg tA (m - 1)) (hv : v.toInt = N) (hmω : m' = m - 1) (hg : gmω = gm - 1) : zCS so va en ac aA aB laω ta tA tB Z bs n φ N lb m' gmω := by
  have hN := h.2
  obtain ⟨C, Λ, σ, σ0, τ, B2, lb0, hL, g1, g2, g3, g4, g5, b1, b2, b3, b4⟩ := zCS_t h hSl hZ hm
  subst hmω; subst hg
  have c1 : zc1 Z (zg ta (m - 1)) (zg tA (m - 1)) = 1 := zc1_o (by omega)
  have c2 : zc2 Z (zg ta (m - 1)) (zg tA (m - 1)) = 0 := by rw [h101]; rfl
  have m1 : 1 ≤ m - 1 := by
    by_cases e : m = 1
    · have := g4 e; omega
    · omega
  obtain ⟨a0, es, et⟩ : (0 ≤ zg tA (m - 1) ∧ zg tA (m - 1) < lb) ∧ σ0 = Λ (zg tA (m - 1)) ∧ τ = σ0 := by
    rcases g3 with ⟨z, _⟩ | ⟨_, z⟩ | ⟨⟨⟨z, _⟩, _⟩, _⟩
    · omega
    · exact z
    · omega
  subst et
  obtain ⟨l1, l2, l3⟩ := zLd_le hL g1
  refine ⟨Or.inr ⟨C, Λ, τ, B2, ⟨m1, lb0, ⟨l1, fun l l0 lb1 => ?_, l3⟩, g5, by omega, by omega⟩, b3⟩, by omega, hN.2⟩
  by_cases e : l = zg tA (m - 1)
  · refine Or.inr (Or.inr ?_)
    have le : zg laω l = N := by rw [el, e, ← hi, zg_eq]; exact hv
    rw [le]
    refine ⟨hN.2, Int.le_refl _, fun z => by omega, ?_⟩
    have ez : zcn C N τ N = τ := if_pos rfl
    rw [ez, e, ← es]; exact zge_rfl
  · rcases l2 l l0 lb1 with w | ⟨j, j0, j1, j2, j3⟩ | ⟨q1, q2, q3, q4⟩
    · exact Or.inl w
    · refine Or.inr (Or.inl ⟨j, j0, ?_, j2, j3⟩)
      by_cases w : j = m - 1
      · rw [w] at j3; exact absurd j3.symm e
      · omega
    · have le : zg laω l = zg la l := by rw [el]; exact zg_ne (by omega) l0 (by omega)
      rw [le]; exact Or.inr (Or.inr ⟨q1, q2, fun z => by omega, q4⟩)
theorem zCS_o {so va le mo ho pa en fp pb pe ac aA aB acω aAω aBω la ta tA tB : Nat → Int32} {Z : Int → Int} {bs q n c φ N Nω lb m m' gm gmω : Int} {j o a b : Int32} (h : zCS so va en ac aA aB la ta tA tB Z bs n φ N lb m gm) (hSl : zSl so va le mo ho pa en fp pb pe bs q n c) (hZ : zZ so le mo en bs n φ Z) (e1 : acω = upd ac j.toNatClampNeg o) (e2 : aAω = upd aA j.toNatClampNeg a) (e3 : aBω = upd aB j.toNatClampNeg b) (hφ : φ = 0 ∨ φ = 1) (hm : 1 ≤ m) (h100 : zg ta (m - 1) ≠ 100) (h101 : zg ta (m - 1) ≠ 101) (hj : j.toInt = N) (hoω : o.toInt = zg ta (m - 1)) (ha : a.toInt = zg tA (m - 1)) (hb : b.toInt = zg tB (m - 1)) (hNω : Nω = N + 1) (hmω : m' = m - 1) (hg : gmω = gm - 1) : zCS so va en acω aAω aBω la ta tA tB Z bs n φ Nω lb m' gmω := by
  have hN := h.2
  obtain ⟨C, Λ, σ, σ0, τ, B2, lb0, hL, g1, g2, g3, g4, g5, b1, b2, b3, b4⟩ := zCS_t h hSl hZ hm
  subst hmω; subst hg; subst hNω
  have c1 : zc1 Z (zg ta (m - 1)) (zg tA (m - 1)) = 1 := zc1_o h100
  obtain ⟨op, o19⟩ : zOp so va bs n φ lb Λ (zg ta (m - 1)) (zg tA (m - 1)) (zg tB (m - 1)) σ0 τ ∧ (zg ta (m - 1) = 19 → σ0.1 = []) := by
    rcases g3 with ⟨z, _⟩ | ⟨z, _⟩ | z
    · exact absurd z h100
    · exact absurd z h101
    · exact z
  have c2 : zc2 Z (zg ta (m - 1)) (zg tA (m - 1)) = zh 1 o.toInt := by unfold zc2; rw [if_neg h100, if_neg h101, hoω]
  obtain ⟨l1, l2, l3, l4⟩ := zLd_le hL g1
  have j0 : 0 ≤ j.toInt := by omega
  have wt : zWt acω (N + 1) = zWt ac N + zh 1 o.toInt := by
    unfold zWt; rw [zsm_add hN.2]
    have x1 : zg acω N = o.toInt := by rw [e1, ← hj]; exact zg_eq
    rw [x1]; congr 1
    exact zsm_congr (fun p p0 p1 => by rw [e1, zg_ne j0 p0 (by omega)])
  have C0 : ∀ p : Int, p < N + 1 → zcn (fun p => if p = N then σ0 else C p) (N + 1) τ p = zcn C N σ0 p := fun p hp => by
    unfold zcn; rw [if_neg (by omega)]
  have CN : ∀ p : Int, (fun p => if p = N then σ0 else C p) p = zcn C N σ0 p := fun p => rfl
  have A : ∀ p : Int, 0 ≤ p → p < N + 1 → zOp so va bs n φ lb Λ (zg acω p) (zg aAω p) (zg aBω p) ((fun p => if p = N then σ0 else C p) p) (zcn (fun p => if p = N then σ0 else C p) (N + 1) τ (p + 1)) ∧ zRg ((fun p => if p = N then σ0 else C p) p) ∧ (zg acω p = 19 → ((fun p => if p = N then σ0 else C p) p).1 = []) := fun p p0 p1 => by
    by_cases e : p = N
    · have y1 : zg acω p = zg ta (m - 1) := by rw [e1, e, ← hj, zg_eq]; exact hoω
      have y2 : zg aAω p = zg tA (m - 1) := by rw [e2, e, ← hj, zg_eq]; exact ha
      have y3 : zg aBω p = zg tB (m - 1) := by rw [e3, e, ← hj, zg_eq]; exact hb
      have y4 : (fun p => if p = N then σ0 else C p) p = σ0 := if_pos e
      have y5 : zcn (fun p => if p = N then σ0 else C p) (N + 1) τ (p + 1) = τ := if_pos (by omega)
      rw [y1, y2, y3, y4, y5]; exact ⟨op, g2, o19⟩
    · have y1 : zg acω p = zg ac p := by rw [e1]; exact zg_ne j0 p0 (by omega)
      have y2 : zg aAω p = zg aA p := by rw [e2]; exact zg_ne j0 p0 (by omega)
      have y3 : zg aBω p = zg aB p := by rw [e3]; exact zg_ne j0 p0 (by omega)
      have y4 : (fun p => if p = N then σ0 else C p) p = C p := if_neg e
      rw [y1, y2, y3, y4, C0 (p + 1) (by omega)]; exact l1 p p0 (by omega)
  have Bl : ∀ l : Int, 0 ≤ l → l < lb → (∃ i : Int, 0 ≤ i ∧ i < m - 1 ∧ zg ta i = 101 ∧ zg tA i = l) ∨ (0 ≤ zg la l ∧ zg la l ≤ N ∧ zge φ (Λ l) (zcn C N σ0 (zg la l))) := fun l l0 lb1 => by
    rcases l2 l l0 lb1 with w | ⟨i, i0, i1, i2, i3⟩ | ⟨q1, q2, q3, q4⟩
    · omega
    · refine Or.inl ⟨i, i0, ?_, i2, i3⟩
      by_cases w : i = m - 1
      · rw [w] at i2; exact absurd i2 h101
      · omega
    · exact Or.inr ⟨q1, q2, q4⟩
  refine ⟨?_, by omega, by omega⟩
  by_cases m0 : m - 1 = 0
  · refine Or.inl ⟨m0, (fun p => if p = N then σ0 else C p), ⟨⟨by omega, by omega, hSl.2.1, hφ⟩, lb, by omega, fun l l0 lb1 => ?_, fun p p0 p1 => ?_⟩, ⟨⟨?_, fun e => ?_⟩, fun p p0 p1 p2 => (A p p0 p1).2.2 p2⟩, fun e => ?_⟩
    · rcases Bl l l0 lb1 with ⟨i, i0, i1, _⟩ | ⟨q1, q2, _⟩
      · omega
      · exact ⟨q1, by omega⟩
    · obtain ⟨x1, x2, _⟩ := A p p0 p1
      have o9 := g4 (by omega)
      have x3 := zOp_L (Λ' := fun l => (fun p => if p = N then σ0 else C p) (zg la l)) x1 (fun l l0 lb1 => by
        rcases Bl l l0 lb1 with ⟨i, i0, i1, _⟩ | ⟨_, _, q3⟩
        · omega
        · exact q3)
      by_cases e : p = N
      · have y1 : zg acω p = 19 := by rw [e1, e, ← hj, zg_eq]; omega
        refine ⟨⟨x3.1, fun z => absurd y1 z.2.2.2.1⟩, x2, fun z => absurd y1 z⟩
      · refine ⟨?_, x2, fun _ => by omega⟩
        have y5 : zcn (fun p => if p = N then σ0 else C p) (N + 1) τ (p + 1) = (fun p => if p = N then σ0 else C p) (p + 1) := if_neg (by omega)
        rw [y5] at x3; exact x3
    · exact l3
    · exact l4 e
    · have := b3 e; have : 0 ≤ zsu (zc2 Z) ta tA (m - 1) := by
        unfold zsu; rw [m0]; exact Int.le_refl _
      rw [wt]; omega
  · refine Or.inr ⟨(fun p => if p = N then σ0 else C p), Λ, τ, B2 - zh 1 o.toInt, ⟨by omega, lb0, ⟨A, fun l l0 lb1 => ?_, ?_, fun e => ?_⟩, g5, by omega, by omega⟩, fun e => by have := b3 e; rw [wt]; omega⟩
    · rcases Bl l l0 lb1 with w | ⟨q1, q2, q3⟩
      · exact Or.inr (Or.inl w)
      · refine Or.inr (Or.inr ⟨q1, by omega, fun z => by omega, ?_⟩)
        rw [C0 _ (by omega)]; exact q3
    · rw [C0 0 (by omega)]; exact l3
    · rw [C0 0 (by omega)]; exact l4 e
theorem zCS_0 {so va le mo ho pa en fp pb pe ac aA aB la ta tA tB ta1 tA1 tB1 ta2 tA2 tB2 : Nat → Int32} {Z : Int → Int} {bs q n c φ N lb m gm : Int} {i1 i2 o1 a1 b1 o2 a2 b2 : Int32} (hSl : zSl so va le mo ho pa en fp pb pe bs q n c) (hZ : zZ so le mo en bs n φ Z) (e11 : ta1 = upd ta i1.toNatClampNeg o1) (e12 : tA1 = upd tA i1.toNatClampNeg a1) (e13 : tB1 = upd tB i1.toNatClampNeg b1) (e21 : ta2 = upd ta1 i2.toNatClampNeg o2) (e22 : tA2 = upd tA1 i2.toNatClampNeg a2) (e23 : tB2 = upd tB1 i2.toNatClampNeg b2) (ho1 : o1.toInt = 19) (ha1 : a1.toInt = 0) (ho2 : o2.toInt = 100) (ha2 : a2.toInt = 0) (hi1 : i1.toInt = 0) (hi2 : i2.toInt = 1) (hm : m = 2) (hN : N = 0) (hl : lb = 0) (hz : Z 0 ≤ 220) (hz2 : φ = 1 → Z 0 ≤ 200) (hg : gm = 12 * Z 0 - 3) : zCS so va en ac aA aB la ta2 tA2 tB2 Z bs n φ N lb m gm := by
  subst hm; subst hN; subst hl; subst hg
  have n1 := hSl.1
  have n2 := hSl.2.1
  obtain ⟨_, ⟨f1, f2⟩, _⟩ := zNf hSl (Int.le_refl 0) (by omega)
  obtain ⟨⟨y1, y4⟩, ⟨y2, y5⟩, y3, _⟩ := zh_m (φ := φ) hSl (Int.le_refl 0) (show 0 ≤ zg en (bs + 0) by omega) f2
  have hx : zhX φ (zg en (bs + 0)) ≤ 900 ∧ zhX φ 0 = 0 := by unfold zhX; split <;> omega
  have rt : zRg (([], 0, 0, 0) : zT) := ⟨Int.le_refl _, Int.le_refl _, Int.le_refl _, by show (0 : Int) ≤ 1000; omega, trivial⟩
  have rs : zRg (zsh so bs φ ([], 0, 0, 0) [] 0 (zg en (bs + 0)) 0 0 0) := zRg_sh (k := 0) hSl rt trivial (by omega) (Int.le_refl _) (by omega) f2 (Int.le_refl _) (Int.le_refl _) (Int.le_refl _) (by show (0 : Int) + _ - _ + 0 ≤ 1000; omega)
  have s1 := zsu_p (c := zc1 Z) e11 e12 (by omega) (show (1 : Int) = i1.toInt + 1 by omega)
  have s2 := zsu_p (c := zc1 Z) e21 e22 (by omega) (show (2 : Int) = i2.toInt + 1 by omega)
  have s3 := zsu_p (c := zc2 Z) e11 e12 (by omega) (show (1 : Int) = i1.toInt + 1 by omega)
  have s4 := zsu_p (c := zc2 Z) e21 e22 (by omega) (show (2 : Int) = i2.toInt + 1 by omega)
  rw [hi1, ho1] at s1 s3
  rw [hi2, ho2] at s2 s4
  have z0 : zsu (zc1 Z) ta tA 0 = 0 := rfl
  have z1 : zsu (zc2 Z) ta tA 0 = 0 := rfl
  rw [zc1_o (by decide), z0] at s1
  rw [zc1_n, ha2] at s2
  rw [zc2_n, ha2] at s4
  have z2 : zc2 Z 19 a1.toInt = 1 := rfl
  rw [z2, z1] at s3
  have w0 : zWt ac 0 = 0 := rfl
  refine ⟨Or.inr ⟨fun _ => ([], 0, 0, 0), fun _ => ([], 0, 0, 0), zsh so bs φ ([], 0, 0, 0) [] 0 (zg en (bs + 0)) 0 0 0, 4 * Z 0 - 2, ⟨by omega, Int.le_refl _, ⟨fun p p0 p1 => by omega, fun l l0 l1 => by omega, ?_, fun _ => ?_⟩, ?_, by omega, by omega⟩, fun e => by have := hz2 e; rw [w0]; omega⟩, by omega, Int.le_refl _⟩
  · show (zcn _ 0 _ 0).1 = []; unfold zcn; rw [if_pos rfl]; rfl
  · have ez : zcn (fun _ => (([], 0, 0, 0) : zT)) 0 (zsh so bs φ ([], 0, 0, 0) [] 0 (zg en (bs + 0)) 0 0 0) 0 = zsh so bs φ ([], 0, 0, 0) [] 0 (zg en (bs + 0)) 0 0 0 := if_pos rfl
    rw [ez]
    refine ⟨?_, ?_⟩
    · show (0 : Int) + _ - _ + 0 ≤ 60; omega
    · show (0 : Int) + _ - _ + 0 ≤ 60; omega
  · have x1 : zg ta2 ((1 : Nat) : Int) = 100 := by rw [e21, show ((1 : Nat) : Int) = i2.toInt from hi2.symm, zg_eq]; exact ho2
    have x2 : zg tA2 ((1 : Nat) : Int) = 0 := by rw [e22, show ((1 : Nat) : Int) = i2.toInt from hi2.symm, zg_eq]; exact ha2
    have x3 : zg ta2 ((0 : Nat) : Int) = 19 := by
      rw [e21, zg_ne (by omega) (by omega) (by omega), e11, show ((0 : Nat) : Int) = i1.toInt from hi1.symm, zg_eq]; exact ho1
    have x4 : zg tA2 ((0 : Nat) : Int) = 0 := by
      rw [e22, zg_ne (by omega) (by omega) (by omega), e12, show ((0 : Nat) : Int) = i1.toInt from hi1.symm, zg_eq]; exact ha1
    refine ⟨_, ([], 0, 0, 0), zge_rfl, rs, ?_, fun z => absurd z (by decide), ⟨([], 0, 0, 0), ([], 0, 0, 0), zge_rfl, rt, ?_, fun _ => x3, trivial⟩⟩
    · rw [x1, x2]
      refine Or.inl ⟨rfl, ⟨Int.le_refl _, by omega⟩, trivial, rfl, ?_, ?_, ?_⟩
      · show (0 : Int) + _ ≤ 0 + _ - _ + 0 + _; omega
      · show (0 : Int) + _ ≤ 0 + _ - _ + 0 + _; omega
      · show (0 : Int) + _ ≤ 0 + _ - _ + 0 + _; omega
    · rw [x3, x4]; exact zO_19 ⟨by decide, by decide⟩ rfl
theorem zCS_b {so va le mo ho pa en fp pb pe ac aA aB la ta tA tB : Nat → Int32} {Z : Int → Int} {bs q n c φ N lb m gm : Int} (h : zCS so va en ac aA aB la ta tA tB Z bs n φ N lb m gm) (hSl : zSl so va le mo ho pa en fp pb pe bs q n c) (hZ : zZ so le mo en bs n φ Z) (hm : 1 ≤ m) : 0 ≤ lb ∧ lb + m ≤ gm ∧ N + gm ≤ 2650 ∧ 0 ≤ N ∧ (zg ta (m - 1) = 101 → 0 ≤ zg tA (m - 1) ∧ zg tA (m - 1) < lb) := by
  obtain ⟨C, Λ, σ, σ0, τ, B2, lb0, hL, g1, g2, g3, g4, g5, b1, b2, b3, b4⟩ := zCS_t h hSl hZ hm
  have c1 : 1 ≤ zc1 Z (zg ta (m - 1)) (zg tA (m - 1)) := by
    unfold zc1; split
    · rename_i e
      rcases g3 with ⟨_, z⟩ | ⟨z, _⟩ | ⟨⟨⟨z, _⟩, _⟩, _⟩
      · have := (hZ _ z.1.1 z.1.2).1; omega
      · omega
      · omega
    · exact Int.le_refl _
  refine ⟨lb0, by omega, h.2.1, h.2.2, fun e => ?_⟩
  rcases g3 with ⟨z, _⟩ | ⟨_, z, _⟩ | ⟨⟨⟨z, _⟩, _⟩, _⟩
  · omega
  · exact z
  · omega
theorem zCS_e {so va en ac aA aB la ta tA tB : Nat → Int32} {Z : Int → Int} {bs n φ N lb m gm : Int} (h : zCS so va en ac aA aB la ta tA tB Z bs n φ N lb m gm) (hm : m ≤ 0) : zCo so va ac aA aB la bs n φ N := by
  obtain ⟨h, _⟩ := h
  rcases h with ⟨_, h⟩ | ⟨_, _, _, _, ⟨h, _⟩, _⟩
  · exact h
  · omega
theorem zsm_c {f : Int → Int} {c : Int} : ∀ {m : Nat}, (∀ k : Int, 0 ≤ k → k < m → f k ≤ c) → zsm f m ≤ m * c := by
  intro m; induction m with
  | zero => intro _; show (0 : Int) ≤ _; rw [Int.natCast_zero, Int.zero_mul]; omega
  | succ m ih =>
    intro h
    have a := ih (fun k k0 k1 => h k k0 (by omega))
    have b := h m (by omega) (by omega)
    have e : zsm f (m + 1) = zsm f m + f m := rfl
    rw [e, Int.natCast_add, Int.add_mul]; omega
theorem zus_t {ac se : Nat → Int32} {sp : Int} : ∀ {n : Nat}, zsm (zu1 ac se sp) (101 * n) ≤ 101 * zsm (fun p => zh 1 (zg ac p)) n := by
  intro n; induction n with
  | zero => exact Int.le_refl _
  | succ n ih =>
    have e : zsm (fun p => zh 1 (zg ac p)) (n + 1) = zsm (fun p => zh 1 (zg ac p)) n + zh 1 (zg ac n) := rfl
    rw [e, show 101 * (n + 1) = 101 * n + 101 by omega, zsm_split]
    have c := zsm_c (f := fun k => zu1 ac se sp (k + ((101 * n : Nat) : Int))) (c := zh 1 (zg ac n)) (m := 101) (fun k k0 k1 => by
      show zu1 ac se sp (k + ((101 * n : Nat) : Int)) ≤ _
      unfold zu1; split
      · exact zh_b.1
      · rw [show (k + ((101 * n : Nat) : Int)) / 101 = n by omega]; exact Int.le_refl _)
    omega
theorem zus_w {ac se : Nat → Int32} {sp N : Int} (h : 0 ≤ N) : zus ac se sp N ≤ 101 * zWt ac N := by
  have := zus_t (ac := ac) (se := se) (sp := sp) (n := N.toNat)
  rw [show 101 * N.toNat = (101 * N).toNat by omega] at this
  exact this
theorem zWt_n {ac : Nat → Int32} : ∀ {n : Nat}, (n : Int) ≤ zsm (fun p => zh 1 (zg ac p)) n := by
  intro n; induction n with
  | zero => exact Int.le_refl _
  | succ n ih =>
    have e : zsm (fun p => zh 1 (zg ac p)) (n + 1) = zsm (fun p => zh 1 (zg ac p)) n + zh 1 (zg ac n) := rfl
    have z := (@zh_b 1 (zg ac n)).2.2 rfl
    rw [e]; omega
theorem zCo_w {so va ac aA aB la : Nat → Int32} {bs n φ N : Int} {C : Int → zT} (h : zPr so va ac aA aB la bs n φ N C) (hw : φ = 1 → zWt ac N ≤ 798) (e : φ = 1) : N ≤ 1000 ∧ ∀ (se : Nat → Int32) (sp : Int), zus ac se sp N ≤ 80598 := by
  have a := hw e
  have b := zWt_n (ac := ac) (n := N.toNat)
  have n1 := h.1.1
  have d : zWt ac N = zsm (fun p => zh 1 (zg ac p)) N.toNat := rfl
  refine ⟨by omega, fun se sp => ?_⟩
  have := zus_w (ac := ac) (se := se) (sp := sp) (N := N) (by omega)
  omega
theorem zG_ex {so va ac aA aB la : Nat → Int32} {bs n φ N : Int} {C : Int → zT} (h : zPr so va ac aA aB la bs n φ N C) : ∃ g : Int, zGg φ C N g := by
  obtain ⟨W, w1, w2⟩ := zW_ex (k := 1000) rfl
  refine ⟨3 * W + 3, by omega, fun p p0 p1 => ?_⟩
  have := w2 φ (C p) (zPr_at h p0 p1).2.2.1
  omega
def zFo (fo : Nat → Int32) (fr lg k : Int) : Prop := (∀ a : Int, 0 ≤ a → a < k → (-1 ≤ zg fo (2 * a) ∧ zg fo (2 * a) ≤ 100) ∧ (-1 ≤ zg fo (2 * a + 1) ∧ zg fo (2 * a + 1) ≤ 100) ∧ (zg fo (2 * a) < 0 ∨ (zg fo (2 * a) ≤ zg fo (2 * a + 1) ∧ zg fo (2 * a + 1) ≤ lg))) ∧ (1 ≤ k → fr ≤ zg fo 0 ∧ zg fo 0 ≤ zg fo 1 ∧ zg fo 1 ≤ lg)
theorem zFo_0 {fo : Nat → Int32} {fr lg : Int} : zFo fo fr lg 0 := ⟨fun a a0 a1 => by omega, fun z => by omega⟩
theorem zFo_s {fo fo1 fo2 : Nat → Int32} {fr lg kω : Int} {k i j x y : Int32} (h : zFo fo fr lg k.toInt) (e1 : fo1 = upd fo i.toNatClampNeg x) (e2 : fo2 = upd fo1 j.toNatClampNeg y) (hi : i.toInt = 2 * k.toInt) (hj : j.toInt = 2 * k.toInt + 1) (hk : 0 ≤ k.toInt) (hx : (-1 ≤ x.toInt ∧ x.toInt ≤ 100) ∧ (-1 ≤ y.toInt ∧ y.toInt ≤ 100) ∧ (x.toInt < 0 ∨ (x.toInt ≤ y.toInt ∧ y.toInt ≤ lg))) (h0 : k.toInt = 0 → fr ≤ x.toInt ∧ x.toInt ≤ y.toInt ∧ y.toInt ≤ lg) (hkω : kω = k.toInt + 1) : zFo fo2 fr lg kω := by
  subst hkω
  have y1 : zg fo2 (2 * k.toInt + 1) = y.toInt := by rw [e2, ← hj]; exact zg_eq
  have x1 : zg fo2 (2 * k.toInt) = x.toInt := by rw [e2, zg_ne (by omega) (by omega) (by omega), e1, ← hi]; exact zg_eq
  have ne : ∀ a : Int, 0 ≤ a → a < 2 * k.toInt → zg fo2 a = zg fo a := fun a a0 a1 => by rw [e2, zg_ne (by omega) a0 (by omega), e1]; exact zg_ne (by omega) a0 (by omega)
  refine ⟨fun a a0 a1 => ?_, fun _ => ?_⟩
  · by_cases q : a = k.toInt
    · rw [q, y1, x1]; exact hx
    · rw [ne (2 * a) (by omega) (by omega), ne (2 * a + 1) (by omega) (by omega)]; exact h.1 a a0 (by omega)
  · by_cases q : k.toInt = 0
    · have := h0 q
      rw [q] at y1 x1
      have x2 : zg fo2 0 = x.toInt := x1
      have y2 : zg fo2 1 = y.toInt := y1
      rw [x2, y2]; exact this
    · rw [ne 0 (by omega) (by omega), ne 1 (by omega) (by omega)]; exact h.2 (by omega)
theorem zFo_x {rg : Nat → Int32} {lg fr f sp c x y : Int} (hc : zCap (zG rg) lg ∧ f - 1 ≤ sp ∧ sp ≤ lg ∧ fr ≤ f - 1) (h1 : (c = 0 ∧ x = f - 1) ∨ (1 ≤ c ∧ x = zg rg c)) (h2 : (c = 0 ∧ y = sp) ∨ (1 ≤ c ∧ y = zg rg (10 + c))) (c9 : c ≤ 9) (hfr : 0 ≤ fr) (hl : lg ≤ 100) : ((-1 ≤ x ∧ x ≤ 100) ∧ (-1 ≤ y ∧ y ≤ 100) ∧ (x < 0 ∨ (x ≤ y ∧ y ≤ lg))) ∧ (c = 0 → fr ≤ x ∧ x ≤ y ∧ y ≤ lg) := by
  by_cases q : c = 0
  · refine ⟨by omega, fun _ => by omega⟩
  · have a := hc.1 c (by omega) c9
    rw [zG_at (show 0 ≤ c by omega), zG_at (show 0 ≤ 10 + c by omega)] at a
    have x1 : x = zg rg c := by omega
    have y1 : y = zg rg (10 + c) := by omega
    rw [x1, y1]; exact ⟨a, fun z => absurd z q⟩
theorem zZ_r {so va le mo ho pa en fp pb pe : Nat → Int32} {b q n c : Int} (h : zSl so va le mo ho pa en fp pb pe b q n c) : (fun c => zg en (b + c) - c) 0 ≤ 220 := by
  have n1 := h.1
  have n2 := h.2.1
  obtain ⟨_, ⟨f1, f2⟩, _⟩ := zNf h (Int.le_refl 0) (by omega)
  show zg en (b + 0) - 0 ≤ 220; omega
def zGi (ig : Bool) (it : Nat → Bool) (l0 : Nat → Int32) (s k f st : Int) : Prop := ig = true → ((0 ≤ s ∧ s ≤ 5) ∧ it s.toNat = true) ∧ (0 ≤ k ∧ k ≤ 3) ∧ (0 ≤ f ∧ f ≤ zg l0 k) ∧ (1 ≤ st ∧ st ≤ 3000)
theorem zGi_n {ig : Bool} {it : Nat → Bool} {l0 : Nat → Int32} {s k f st : Int} (h : ig = false) : zGi ig it l0 s k f st := fun z => by rw [h] at z; exact absurd z (by decide)
def zfi (m : Int) : Int := if m ≤ 0 then 0 else 1
theorem zfi_0 {m : Int} (h : m ≤ 0) : zfi m = 0 := if_pos h
theorem zfi_1 {m : Int} (h : 1 ≤ m) : zfi m = 1 := if_neg (by omega)
def zzz (m : Int) (en sz : Nat → Int32) (b : Int) : Int → Int := fun c => if m ≤ 0 then zg en (b + c) - c else zg sz (b + c)
theorem zCm {so va le mo ho pa en fp pb pe sz ps : Nat → Int32} {b q n c m : Int} (h : zSl so va le mo ho pa en fp pb pe b q n c) (hM : zMs so le mo en sz ps b 0 n) (hk : 1 ≤ m → zKb so b n) (hs : 1 ≤ m → zg sz b ≤ 200) :
    zZ so le mo en b n (zfi m) (zzz m en sz b) ∧ zzz m en sz b 0 ≤ 220 ∧ (zfi m = 1 → zKb so b n ∧ zzz m en sz b 0 ≤ 200) := by
  by_cases hm : m ≤ 0
  · have e1 : zzz m en sz b = fun c => zg en (b + c) - c := funext fun c => if_pos hm
    rw [zfi_0 hm, e1]
    exact ⟨zZ_n h, zZ_r h, fun z => absurd z (by decide)⟩
  · have e1 : zzz m en sz b = fun c => zg sz (b + c) := funext fun c => if_neg hm
    rw [zfi_1 (by omega), e1]
    have s := hs (by omega)
    have s0 : (fun c => zg sz (b + c)) 0 = zg sz b := by show zg sz (b + 0) = _; rw [Int.add_zero]
    refine ⟨zZ_f h hM, by rw [s0]; omega, fun _ => ⟨hk (by omega), by rw [s0]; omega⟩⟩
def zFi (fi : Nat → Int32) (n lg : Int) : Prop := ∀ f : Int, 0 ≤ f → f < n → (∀ a : Int, 0 ≤ a → a < 10 → (-1 ≤ zg fi (20 * f + 2 * a) ∧ zg fi (20 * f + 2 * a) ≤ 100) ∧ (-1 ≤ zg fi (20 * f + 2 * a + 1) ∧ zg fi (20 * f + 2 * a + 1) ≤ 100) ∧ (zg fi (20 * f + 2 * a) < 0 ∨ (zg fi (20 * f + 2 * a) ≤ zg fi (20 * f + 2 * a + 1) ∧ zg fi (20 * f + 2 * a + 1) ≤ lg))) ∧ 0 ≤ zg fi (20 * f) ∧ zg fi (20 * f) ≤ zg fi (20 * f + 1) ∧ zg fi (20 * f + 1) ≤ lg
def zFk (fi0 fi fo : Nat → Int32) (m k : Int) : Prop := (∀ j : Int, 0 ≤ j → j < k → zg fi (20 * m + j) = zg fo j) ∧ (∀ j : Int, 0 ≤ j → j < 20 * m → zg fi j = zg fi0 j)
theorem zFi_0 {fi : Nat → Int32} {lg n : Int} (h : n ≤ 0) : zFi fi n lg := fun f f0 f1 => by omega
theorem zFk_0 {fi fo : Nat → Int32} {m k : Int} (h : k ≤ 0) : zFk fi fi fo m k := ⟨fun j j0 j1 => by omega, fun j _ _ => rfl⟩
theorem zFk_s {fi0 fi fi' fo : Nat → Int32} {m kω : Int} {i k v : Int32} (h : zFk fi0 fi fo m k.toInt) (e : fi' = upd fi i.toNatClampNeg v) (ev : v = fo k.toNatClampNeg) (hi : i.toInt = 20 * m + k.toInt) (hm : 0 ≤ m) (hk : 0 ≤ k.toInt) (hkω : kω = k.toInt + 1) : zFk fi0 fi' fo m kω := by
  subst hkω
  have en : ∀ j : Int, 0 ≤ j → j ≠ 20 * m + k.toInt → zg fi' j = zg fi j := fun j j0 jn => by rw [e]; exact zg_ne (by omega) j0 (by omega)
  refine ⟨fun j j0 j1 => ?_, fun j j0 j1 => ?_⟩
  · by_cases q : j = k.toInt
    · rw [q, ← hi, e, zg_eq]; exact zg_at ev
    · rw [en _ (by omega) (by omega)]; exact h.1 j j0 (by omega)
  · rw [en j j0 (by omega)]; exact h.2 j j0 j1
theorem zFi_s {fi0 fi fo : Nat → Int32} {m k lg fr m' : Int} (h : zFi fi0 m lg) (hk : zFk fi0 fi fo m k) (hf : zFo fo fr lg 10) (h20 : 20 ≤ k) (hm : 0 ≤ m) (hfr : 0 ≤ fr) (hmω : m' = m + 1) : zFi fi m' lg := by
  subst hmω
  intro f f0 f1
  by_cases q : f = m
  · subst q
    have g : ∀ j : Int, 0 ≤ j → j < 20 → zg fi (20 * f + j) = zg fo j := fun j j0 j1 => hk.1 j j0 (by omega)
    refine ⟨fun a a0 a1 => ?_, ?_⟩
    · rw [Int.add_assoc, g (2 * a) (by omega) (by omega), g (2 * a + 1) (by omega) (by omega)]
      exact hf.1 a a0 a1
    · have z := hf.2 (by omega)
      have g0 := g 0 (by omega) (by omega)
      rw [Int.add_zero] at g0
      rw [g0, g 1 (by omega) (by omega)]; omega
  · obtain ⟨h1, h2⟩ := h f f0 (by omega)
    have g : ∀ j : Int, 0 ≤ j → j < 20 → zg fi (20 * f + j) = zg fi0 (20 * f + j) := fun j j0 j1 => hk.2 _ (by omega) (by omega)
    refine ⟨fun a a0 a1 => ?_, ?_⟩
    · have z := h1 a a0 a1
      rw [Int.add_assoc] at z ⊢
      rw [g (2 * a) (by omega) (by omega), g (2 * a + 1) (by omega) (by omega)]; exact z
    · have g0 := g 0 (by omega) (by omega)
      rw [Int.add_zero] at g0
      rw [g0, g 1 (by omega) (by omega)]; exact h2
theorem zFi_0f {fi : Nat → Int32} {n lg f : Int} {i x : Int32} (h : zFi fi n lg) (ex : x = fi i.toNatClampNeg) (hi : i.toInt = 20 * f) (f0 : 0 ≤ f) (f1 : f < n) (hl : lg ≤ 100) : 0 ≤ x.toInt ∧ x.toInt ≤ 100 := by
  have z := (h f f0 f1).2
  rw [zg_at2 ex hi]; omega
theorem zFi_1f {fi : Nat → Int32} {n lg f : Int} {i x : Int32} (h : zFi fi n lg) (ex : x = fi i.toNatClampNeg) (hi : i.toInt = 20 * f + 1) (f0 : 0 ≤ f) (f1 : f < n) (hl : lg ≤ 100) : 0 ≤ x.toInt ∧ x.toInt ≤ 100 := by
  have z := (h f f0 f1).2
  rw [zg_at2 ex hi]; omega
theorem zFi_a {fi : Nat → Int32} {n lg f a : Int} {i x : Int32} (h : zFi fi n lg) (ex : x = fi i.toNatClampNeg) (hi : i.toInt = 20 * f + 2 * a) (f0 : 0 ≤ f) (f1 : f < n) (a0 : 0 ≤ a) (a1 : a < 10) : -1 ≤ x.toInt ∧ x.toInt ≤ 100 := by
  have z := (h f f0 f1).1 a a0 a1
  rw [zg_at2 ex hi]; omega
theorem zFi_b {fi : Nat → Int32} {n lg f a : Int} {i x : Int32} (h : zFi fi n lg) (ex : x = fi i.toNatClampNeg) (hi : i.toInt = 20 * f + 2 * a + 1) (f0 : 0 ≤ f) (f1 : f < n) (a0 : 0 ≤ a) (a1 : a < 10) : -1 ≤ x.toInt ∧ x.toInt ≤ 100 := by
  have z := (h f f0 f1).1 a a0 a1
  rw [zg_at2 ex hi]; omega
def zbt (b s : Int32) : Prop := (b >>> (s &&& 31)) &&& 1 = 1
def zBt (b : Int32) (P : Int32 → Prop) (k : Int) : Prop := ∀ s : Int32, 0 ≤ s.toInt → s.toInt < k → zbt b s → P s
theorem zBt_0 {b : Int32} {P : Int32 → Prop} {k : Int} (h : k ≤ 0) : zBt b P k := fun s s0 s1 => by omega
theorem zBt_s {b k : Int32} {P : Int32 → Prop} {kω : Int} (h : zBt b P k.toInt) (hP : zbt b k → P k) (hkω : kω = k.toInt + 1) : zBt b P kω := by
  intro s s0 s1 sb
  by_cases q : s.toInt = k.toInt
  · have e := Int32.toInt_inj.mp q
    rw [e] at sb ⊢; exact hP sb
  · exact h s s0 (by omega) sb
theorem zbt_y {b s x y : Int32} (ex : x = b >>> (s &&& 31)) (ey : y = x &&& 1) (h : y.toInt = 1) : zbt b s := by
  subst ex; exact ey.symm.trans (Int32.toInt_inj.mp (by rw [h]; rfl))
theorem zbt_n {b s x y : Int32} (ex : x = b >>> (s &&& 31)) (ey : y = x &&& 1) (h : y.toInt ≠ 1) : ¬ zbt b s := by
  intro z; subst ex; apply h; rw [ey, show (b >>> (s &&& 31)) &&& 1 = 1 from z]; rfl
def zwk (t : Nat → Int32) : Nat → Int
  | 0 => 0
  | i + 1 => if zg t (zwk t i) = 36 then zwk t i + 2 else zwk t i + 1
def zRq (t : Nat → Int32) (n : Int) : Prop := ∀ i : Nat, zwk t i < n → zg t (zwk t i) = 36 → zwk t i + 1 < n
def zRh (t : Nat → Int32) (n p : Int) : Prop := ∃ i : Nat, zwk t i = p ∧ ∀ j : Nat, j < i → zwk t j < n → zg t (zwk t j) = 36 → zwk t j + 1 < n
def zRv (t : Nat → Int32) (p : Int) : Prop := ∃ i : Nat, zwk t i = p
theorem zwk_s {t : Nat → Int32} {i : Nat} : zwk t i + 1 ≤ zwk t (i + 1) := by
  have e : zwk t (i + 1) = if zg t (zwk t i) = 36 then zwk t i + 2 else zwk t i + 1 := rfl
  rw [e]; split <;> omega
theorem zwk_m {t : Nat → Int32} {i : Nat} : ∀ k : Nat, zwk t i ≤ zwk t (i + k) := by
  intro k; induction k with
  | zero => exact Int.le_refl _
  | succ k ih => have := @zwk_s t (i + k); rw [← Nat.add_assoc]; omega
theorem zRh_0 {t : Nat → Int32} {n p : Int} (h : p = 0) : zRh t n p := ⟨0, h.symm, fun j j0 => absurd j0 (Nat.not_lt_zero _)⟩
theorem zRh_1 {t : Nat → Int32} {n pω : Int} {p c : Int32} (h : zRh t n p.toInt) (ec : c = t p.toNatClampNeg) (hc : c.toInt ≠ 36) (hp : pω = p.toInt + 1) : zRh t n pω := by
  obtain ⟨i, e, h⟩ := h
  have g := zg_at ec
  refine ⟨i + 1, ?_, fun j j1 a b => ?_⟩
  · show (if zg t (zwk t i) = 36 then zwk t i + 2 else zwk t i + 1) = _; rw [e, if_neg (by omega)]; omega
  · by_cases q : j = i
    · subst q; rw [e] at b; omega
    · exact h j (by omega) a b
theorem zRh_2 {t : Nat → Int32} {n pω : Int} {p c : Int32} (h : zRh t n p.toInt) (ec : c = t p.toNatClampNeg) (hc : c.toInt = 36) (hn : p.toInt + 1 < n) (hp : pω = p.toInt + 2) : zRh t n pω := by
  obtain ⟨i, e, h⟩ := h
  have g := zg_at ec
  refine ⟨i + 1, ?_, fun j j1 a b => ?_⟩
  · show (if zg t (zwk t i) = 36 then zwk t i + 2 else zwk t i + 1) = _; rw [e, if_pos (by omega)]; omega
  · by_cases q : j = i
    · subst q; rw [e]; exact hn
    · exact h j (by omega) a b
theorem zRh_e {t : Nat → Int32} {n p : Int} (h : zRh t n p) (hp : n ≤ p) : zRq t n := by
  obtain ⟨i, e, h⟩ := h
  intro j a b
  by_cases q : j < i
  · exact h j q a b
  · have := @zwk_m t i (j - i)
    rw [show i + (j - i) = j by omega] at this; omega
theorem zRv_0 {t : Nat → Int32} {p : Int} (h : p = 0) : zRv t p := ⟨0, h.symm⟩
theorem zRv_1 {t : Nat → Int32} {pω : Int} {p c : Int32} (h : zRv t p.toInt) (ec : c = t p.toNatClampNeg) (hc : c.toInt ≠ 36) (hp : pω = p.toInt + 1) : zRv t pω := by
  obtain ⟨i, e⟩ := h
  have g := zg_at ec
  refine ⟨i + 1, ?_⟩
  show (if zg t (zwk t i) = 36 then zwk t i + 2 else zwk t i + 1) = _; rw [e, if_neg (by omega)]; omega
theorem zRv_2 {t : Nat → Int32} {pω : Int} {p c : Int32} (h : zRv t p.toInt) (ec : c = t p.toNatClampNeg) (hc : c.toInt = 36) (hp : pω = p.toInt + 2) : zRv t pω := by
  obtain ⟨i, e⟩ := h
  have g := zg_at ec
  refine ⟨i + 1, ?_⟩
  show (if zg t (zwk t i) = 36 then zwk t i + 2 else zwk t i + 1) = _; rw [e, if_pos (by omega)]; omega
theorem zRv_q {t : Nat → Int32} {n : Int} {p c : Int32} (h : zRv t p.toInt) (hq : zRq t n) (ec : c = t p.toNatClampNeg) (hc : c.toInt = 36) (hp : p.toInt < n) : p.toInt + 1 < n := by
  obtain ⟨i, e⟩ := h
  have g := zg_at ec
  have := hq i (by omega) (by rw [e]; omega)
  omega
theorem zGi_put {ig igω : Bool} {it : Nat → Bool} {l0 l0ω : Nat → Int32} {s k f st : Int} {p v : Int32} (h : zGi ig it l0 s k f st) (e : l0ω = upd l0 p.toNatClampNeg v) (hp : 0 ≤ p.toInt) (hi : igω = true → ig = true ∧ k ≠ p.toInt) : zGi igω it l0ω s k f st := by
  intro z
  obtain ⟨z1, z2⟩ := hi z
  obtain ⟨h1, h2, h3, h4⟩ := h z1
  refine ⟨h1, h2, ?_, h4⟩
  rw [e, zg_ne hp h2.1 z2]; exact h3
theorem zGi_drop {ig igω : Bool} {it : Nat → Bool} {l0 : Nat → Int32} {s k f st : Int} (h : zGi ig it l0 s k f st) (hi : igω = true → ig = true) : zGi igω it l0 s k f st := fun z => h (hi z)
theorem zGi_go {ig igω : Bool} {it itω : Nat → Bool} {l0 : Nat → Int32} {s k f st : Int} (h : zGi ig it l0 s k f st) (hg : zGo igω itω s) (hi : (bz igω).toInt ≤ (bz ig).toInt) : zGi igω itω l0 s k f st := by
  intro z
  have : ig = true := by
    cases ig
    · subst z; exact absurd hi (by decide)
    · rfl
  obtain ⟨h1, h2⟩ := h this
  exact ⟨⟨h1.1, hg z⟩, h2⟩
theorem zl0 {l0 : Nat → Int32} {k : Int} (h : rp (fun k v => 0 ≤ v ∧ v ≤ 100) l0 0 4) (h0 : 0 ≤ k) (h1 : k ≤ 3) : 0 ≤ zg l0 k ∧ zg l0 k ≤ 100 := by
  have := h k.toNat (by omega) (by omega)
  exact this
def zc3 (P : Int → Int) (o a : Int) : Int := if o = 100 then P a else if o = 0 then 1 else 0
def zcE (ac : Nat → Int32) (N : Int) : Int := zsm (fun p => if zg ac p = 0 then 1 else 0) N.toNat
def zY (so le mo en : Nat → Int32) (b n : Int) (P : Int → Int) : Prop := ∀ k : Int, 0 ≤ k → k < n → 0 ≤ P k ∧ (zg so (b + k) ≤ 2 → 1 ≤ P k) ∧ (P k < 20000 → 2 < zg so (b + k) → zby so le mo (b + k) * zcz en b P (k + 1) (zg en (b + k)) ≤ P k)
theorem zY_m {so le mo en sz ps : Nat → Int32} {b n : Int} (h : zMs so le mo en sz ps b 0 n) : zY so le mo en b n (fun c => zg ps (b + c)) := by
  intro k k0 k1
  obtain ⟨_, _, m3, _, _, m6, m7⟩ := h k k0 k1 k0
  refine ⟨m3, m6, fun z1 z2 => ?_⟩
  have q := m7 z2 z1
  have ec : zct en ps b (k + 1) (zg en (b + k)) = zcz en b (fun c => zg ps (b + c)) (k + 1) (zg en (b + k)) := zcg_sz.symm
  rw [ec] at q
  exact q
def zE3 (P : Int → Int) (ta tA : Nat → Int32) (m B : Int) : Prop := (∀ i : Int, 0 ≤ i → i < m → 0 ≤ zc3 P (zg ta i) (zg tA i)) ∧ zsu (zc3 P) ta tA m ≤ B
def zEN (gE φ : Int) (so le mo en : Nat → Int32) (bs n : Int) (P : Int → Int) (ta tA : Nat → Int32) (m k B : Int) : Prop := gE = 1 → φ = 1 ∧ zY so le mo en bs n P ∧ zE3 P ta tA m (B - P k) ∧ P k < 20000
def zEQ (gE : Int) (P : Int → Int) (ta tA : Nat → Int32) (m B : Int) : Prop := gE = 1 → zE3 P ta tA m B
theorem zc3_n {P : Int → Int} {a : Int} : zc3 P 100 a = P a := if_pos rfl
theorem zc3_0 {P : Int → Int} {a : Int} : zc3 P 0 a = 1 := by unfold zc3; rw [if_neg (by decide), if_pos rfl]
theorem zc3_o {P : Int → Int} {o a : Int} (h : o ≠ 100) (h2 : o ≠ 0) : zc3 P o a = 0 := by unfold zc3; rw [if_neg h, if_neg h2]
theorem zE3_mono {P : Int → Int} {ta tA : Nat → Int32} {m B B' : Int} (h : zE3 P ta tA m B) (hB : B ≤ B') : zE3 P ta tA m B' := ⟨h.1, Int.le_trans h.2 hB⟩
theorem zE3_p {P : Int → Int} {ta tA taω tAω : Nat → Int32} {i o a : Int32} {m' B B' : Int} (h : zE3 P ta tA i.toInt B) (e1 : taω = upd ta i.toNatClampNeg o) (e2 : tAω = upd tA i.toNatClampNeg a) (h0 : 0 ≤ i.toInt) (hm : m' = i.toInt + 1) (hc : 0 ≤ zc3 P o.toInt a.toInt) (hB : B + zc3 P o.toInt a.toInt ≤ B') : zE3 P taω tAω m' B' := by
  refine ⟨fun j j0 j1 => ?_, ?_⟩
  · by_cases q : j = i.toInt
    · rw [q, e1, e2, zg_eq, zg_eq]; exact hc
    · rw [e1, e2, zg_ne h0 j0 q, zg_ne h0 j0 q]; exact h.1 j j0 (by omega)
  · rw [zsu_p e1 e2 h0 hm]; have := h.2; omega
theorem zE3_o {P : Int → Int} {ta tA taω tAω : Nat → Int32} {i o a : Int32} {m' B : Int} (h : zE3 P ta tA i.toInt B) (e1 : taω = upd ta i.toNatClampNeg o) (e2 : tAω = upd tA i.toNatClampNeg a) (h0 : 0 ≤ i.toInt) (hm : m' = i.toInt + 1) (ho : o.toInt ≠ 100) (ho2 : o.toInt ≠ 0) : zE3 P taω tAω m' B :=
  zE3_p h e1 e2 h0 hm (by rw [zc3_o ho ho2]; exact Int.le_refl _) (by rw [zc3_o ho ho2]; omega)
theorem zE3_n {P : Int → Int} {ta tA taω tAω : Nat → Int32} {i o a : Int32} {m' B B' : Int} (h : zE3 P ta tA i.toInt B) (e1 : taω = upd ta i.toNatClampNeg o) (e2 : tAω = upd tA i.toNatClampNeg a) (h0 : 0 ≤ i.toInt) (hm : m' = i.toInt + 1) (ho : o.toInt = 100) (hp : 0 ≤ P a.toInt) (hB : B + P a.toInt ≤ B') : zE3 P taω tAω m' B' :=
  zE3_p h e1 e2 h0 hm (by rw [ho, zc3_n]; exact hp) (by rw [ho, zc3_n]; exact hB)
theorem zEN_k {so va le mo ho pa en fp pb pe ac aA aB la ta tA tB : Nat → Int32} {Z P : Int → Int} {bs q n c φ N lb m : Int} {C Λ : Int → zT} {σ σ0 τ : zT} {k B1 B2 : Int} (h0 : zND so va le mo ho pa en fp pb pe ac aA aB la ta tA tB Z bs q n c φ N lb m C Λ σ σ0 τ k B1 B2) (hY : zY so le mo en bs n P) : (0 ≤ k ∧ k < n) ∧ 0 ≤ P k ∧ (∀ j : Int, k < j → j < zg en (bs + k) → 0 ≤ P j ∧ j < zg en (bs + j)) := by
  obtain ⟨_, hSl, _, _, hN, _⟩ := h0
  obtain ⟨_, ⟨f1, f2⟩, _⟩ := zNf hSl hN.1.1 hN.1.2
  have r := hN.1
  refine ⟨r, (hY k r.1 r.2).1, fun j j0 j1 => ⟨(hY j (by omega) (by omega)).1, (zNf hSl (show 0 ≤ j by omega) (by omega)).2.1.1⟩⟩
theorem zEN_c {so va le mo ho pa en fp pb pe ac aA aB la ta tA tB : Nat → Int32} {Z P : Int → Int} {bs q n c φ N lb m : Int} {C Λ : Int → zT} {σ σ0 τ : zT} {k B1 B2 : Int} (h0 : zND so va le mo ho pa en fp pb pe ac aA aB la ta tA tB Z bs q n c φ N lb m C Λ σ σ0 τ k B1 B2) (hY : zY so le mo en bs n P) (hk : P k < 20000) (hs : 2 < zg so (bs + k)) (h7 : zg so (bs + k) ≠ 7) : zcz en bs P (k + 1) (zg en (bs + k)) ≤ P k := by
  obtain ⟨r, _⟩ := zEN_k h0 hY
  have := (hY k r.1 r.2).2.2 hk hs
  rw [zby_1 h7] at this; omega
theorem zEN_1 {so va le mo ho pa en fp pb pe ac aA aB la ta tA tB : Nat → Int32} {Z P : Int → Int} {bs q n c φ N lb m : Int} {C Λ : Int → zT} {σ σ0 τ : zT} {k B1 B2 : Int} (h0 : zND so va le mo ho pa en fp pb pe ac aA aB la ta tA tB Z bs q n c φ N lb m C Λ σ σ0 τ k B1 B2) (hY : zY so le mo en bs n P) (h7 : 7 ≤ zg so (bs + k)) : zcz en bs P (k + 1) (zg en (bs + k)) = P (k + 1) ∧ 0 ≤ P (k + 1) := by
  have a := zEN_k h0 hY
  obtain ⟨_, hSl, _, _, hN, _⟩ := h0
  obtain ⟨_, ⟨f1, f2⟩, _, e6, e7, _⟩ := zNf hSl hN.1.1 hN.1.2
  have e6 := e6 (by omega)
  have e7 := e7 h7
  rw [zcz_step (fun j j0 j1 => (a.2.2 j (by omega) j1).2) e6, e7, zcz_end (Int.le_refl _)]
  exact ⟨Int.add_zero _, (a.2.2 (k + 1) (by omega) e6).1⟩
theorem zEQ_leaf {so va le mo ho pa en fp pb pe ac aA aB la ta tA tB taω tAω : Nat → Int32} {Z P : Int → Int} {bs q n c φ N lb m' gE B : Int} {C Λ : Int → zT} {σ σ0 τ : zT} {k B1 B2 : Int} {i o a : Int32} (h0 : zND so va le mo ho pa en fp pb pe ac aA aB la ta tA tB Z bs q n c φ N lb i.toInt C Λ σ σ0 τ k B1 B2) (hE : zEN gE φ so le mo en bs n P ta tA i.toInt k B) (e1 : taω = upd ta i.toNatClampNeg o) (e2 : tAω = upd tA i.toNatClampNeg a) (ho : o.toInt = 0) (hs : zg so (bs + k) ≤ 2) (hi : 0 ≤ i.toInt) (hm : m' = i.toInt + 1) : zEQ gE P taω tAω m' B := by
  intro z
  obtain ⟨_, hY, h3, _⟩ := hE z
  obtain ⟨r, _⟩ := zEN_k h0 hY
  have p1 := (hY k r.1 r.2).2.1 hs
  exact zE3_p h3 e1 e2 hi hm (by rw [ho, zc3_0]; decide) (by rw [ho, zc3_0]; omega)
theorem zEQ_edge {so va le mo ho pa en fp pb pe ac aA aB la ta tA tB taω tAω : Nat → Int32} {Z P : Int → Int} {bs q n c φ N lb m' gE B : Int} {C Λ : Int → zT} {σ σ0 τ : zT} {k B1 B2 : Int} {i o a : Int32} (h0 : zND so va le mo ho pa en fp pb pe ac aA aB la ta tA tB Z bs q n c φ N lb i.toInt C Λ σ σ0 τ k B1 B2) (hE : zEN gE φ so le mo en bs n P ta tA i.toInt k B) (e1 : taω = upd ta i.toNatClampNeg o) (e2 : tAω = upd tA i.toNatClampNeg a) (ho : o.toInt = 1 ∨ o.toInt = 2) (hi : 0 ≤ i.toInt) (hm : m' = i.toInt + 1) : zEQ gE P taω tAω m' B := by
  intro z
  obtain ⟨_, hY, h3, _⟩ := hE z
  obtain ⟨_, p0, _⟩ := zEN_k h0 hY
  exact zE3_o (zE3_mono h3 (by omega)) e1 e2 hi hm (by omega) (by omega)
theorem zEQ_case {so va le mo ho pa en fp pb pe ac aA aB la ta tA tB taω tAω : Nat → Int32} {Z P : Int → Int} {bs q n c φ N lb m' gE B : Int} {C Λ : Int → zT} {σ σ0 τ : zT} {k B1 B2 : Int} {i o a : Int32} (h0 : zND so va le mo ho pa en fp pb pe ac aA aB la ta tA tB Z bs q n c φ N lb i.toInt C Λ σ σ0 τ k B1 B2) (hE : zEN gE φ so le mo en bs n P ta tA i.toInt k B) (e1 : taω = upd ta i.toNatClampNeg o) (e2 : tAω = upd tA i.toNatClampNeg a) (ho : o.toInt = 100) (ha : a.toInt = k + 1) (hs : 8 ≤ zg so (bs + k)) (hi : 0 ≤ i.toInt) (hm : m' = i.toInt + 1) : zEQ gE P taω tAω m' B := by
  intro z
  obtain ⟨_, hY, h3, hk⟩ := hE z
  obtain ⟨x1, x2⟩ := zEN_1 h0 hY (by omega)
  have x3 := zEN_c h0 hY hk (by omega) (by omega)
  exact zE3_n h3 e1 e2 hi hm ho (by rw [ha]; exact x2) (by rw [ha]; omega)
theorem zEQ_cap {so va le mo ho pa en fp pb pe ac aA aB la ta tA tB ta1 tA1 ta2 tA2 ta3 tA3 : Nat → Int32} {Z P : Int → Int} {bs q n c φ N lb m' gE B : Int} {C Λ : Int → zT} {σ σ0 τ : zT} {k B1 B2 : Int} {i1 o1 a1 i2 o2 a2 i3 o3 a3 : Int32} (h0 : zND so va le mo ho pa en fp pb pe ac aA aB la ta tA tB Z bs q n c φ N lb i1.toInt C Λ σ σ0 τ k B1 B2) (hE : zEN gE φ so le mo en bs n P ta tA i1.toInt k B) (e1 : ta1 = upd ta i1.toNatClampNeg o1) (f1 : tA1 = upd tA i1.toNatClampNeg a1) (e2 : ta2 = upd ta1 i2.toNatClampNeg o2) (f2 : tA2 = upd tA1 i2.toNatClampNeg a2) (e3 : ta3 = upd ta2 i3.toNatClampNeg o3) (f3 : tA3 = upd tA2 i3.toNatClampNeg a3) (ho : o1.toInt = 7 ∧ o2.toInt = 100 ∧ o3.toInt = 6) (ha : a2.toInt = k + 1) (hs : zg so (bs + k) = 8) (hi : 0 ≤ i1.toInt) (hi2 : i2.toInt = i1.toInt + 1) (hi3 : i3.toInt = i2.toInt + 1) (hm : m' = i3.toInt + 1) : zEQ gE P ta3 tA3 m' B := by
  intro z
  obtain ⟨_, hY, h3, hk⟩ := hE z
  obtain ⟨x1, x2⟩ := zEN_1 h0 hY (by omega)
  have x3 := zEN_c h0 hY hk (by omega) (by omega)
  have s1 := zE3_o h3 e1 f1 hi hi2 (by omega) (by omega)
  have s2 := zE3_n (B' := B) s1 e2 f2 (by omega) hi3 ho.2.1 (by rw [ha]; exact x2) (by rw [ha]; omega)
  exact zE3_o s2 e3 f3 (by omega) hm (by omega) (by omega)
def zEr (gE : Int) (P : Int → Int) (en ta tA : Nat → Int32) (bs m k p e B : Int) : Prop := gE = 1 → zE3 P ta tA m (B - P k + zcz en bs P p e)
theorem zEr_0 {so le mo en ta tA : Nat → Int32} {bs n m k B e gE φ : Int} {P : Int → Int} (hE : zEN gE φ so le mo en bs n P ta tA m k B) : zEr gE P en ta tA bs m k e e B := by
  intro z
  obtain ⟨_, _, h3, _⟩ := hE z
  rw [zcz_end (Int.le_refl _)]; exact zE3_mono h3 (by omega)
theorem zEr_c {so va le mo ho pa en fp pb pe ac aA aB la ta tA tB he : Nat → Int32} {Z P : Int → Int} {bs q n c φ N lb m nn : Int} {C Λ : Int → zT} {σ σ0 τ : zT} {k B1 B2 : Int} {a j : Int32} (h0 : zND so va le mo ho pa en fp pb pe ac aA aB la ta tA tB Z bs q n c φ N lb m C Λ σ σ0 τ k B1 B2) (hY : zY so le mo en bs n P) (hH : zHe he en bs nn k (zg en (bs + k))) (ea : a = he j.toNatClampNeg) (j0 : 0 ≤ j.toInt) (j1 : j.toInt < nn) : 0 ≤ P a.toInt ∧ zcz en bs P a.toInt (zg en (bs + k)) = P a.toInt + zcz en bs P (zhq he nn (zg en (bs + k)) j.toInt) (zg en (bs + k)) := by
  obtain ⟨r, _, ch⟩ := zEN_k h0 hY
  obtain ⟨c1, c2, c3⟩ := hH.1 j.toInt j0 j1
  have ha := zg_at ea
  rw [← ha] at c1 c2 c3
  rw [zcz_step (fun x x0 x1 => (ch x (by omega) x1).2) c2, c3]
  exact ⟨(ch a.toInt c1 c2).1, rfl⟩
theorem zEr_s {so va le mo ho pa en fp pb pe ac aA aB la ta0 tA0 tB0 ta tA taω tAω he : Nat → Int32} {Z P : Int → Int} {bs q n c φ N lb m0 nn m' jω gE B : Int} {C Λ : Int → zT} {σ σ0 τ : zT} {k B1 B2 : Int} {i o a j : Int32} (h0 : zND so va le mo ho pa en fp pb pe ac aA aB la ta0 tA0 tB0 Z bs q n c φ N lb m0 C Λ σ σ0 τ k B1 B2) (hE : zEN gE φ so le mo en bs n P ta0 tA0 m0 k B) (hH : zHe he en bs nn k (zg en (bs + k))) (h : zEr gE P en ta tA bs i.toInt k (zhq he nn (zg en (bs + k)) j.toInt) (zg en (bs + k)) B) (e1 : taω = upd ta i.toNatClampNeg o) (e2 : tAω = upd tA i.toNatClampNeg a) (ea : a = he j.toNatClampNeg) (ho : o.toInt = 100) (hi : 0 ≤ i.toInt) (hm : m' = i.toInt + 1) (j0 : 0 ≤ j.toInt) (j1 : j.toInt < nn) (hj : jω = j.toInt - 1) : zEr gE P en taω tAω bs m' k (zhq he nn (zg en (bs + k)) jω) (zg en (bs + k)) B := by
  intro z
  obtain ⟨_, hY, _, _⟩ := hE z
  obtain ⟨x1, x2⟩ := zEr_c h0 hY hH ea j0 j1
  have ha := zg_at ea
  have ej : zhq he nn (zg en (bs + k)) jω = a.toInt := by
    subst hj; unfold zhq; rw [if_neg (by omega), show j.toInt - 1 + 1 = j.toInt by omega]; exact ha.symm
  rw [ej, x2]
  exact zE3_n (h z) e1 e2 hi hm ho x1 (by omega)
theorem zEr_e {so va le mo ho pa en fp pb pe ac aA aB la ta0 tA0 tB0 ta tA he : Nat → Int32} {Z P : Int → Int} {bs q n c φ N lb m0 m nn j gE B : Int} {C Λ : Int → zT} {σ σ0 τ : zT} {k B1 B2 : Int} (h0 : zND so va le mo ho pa en fp pb pe ac aA aB la ta0 tA0 tB0 Z bs q n c φ N lb m0 C Λ σ σ0 τ k B1 B2) (hE : zEN gE φ so le mo en bs n P ta0 tA0 m0 k B) (hH : zHe he en bs nn k (zg en (bs + k))) (h : zEr gE P en ta tA bs m k (zhq he nn (zg en (bs + k)) j) (zg en (bs + k)) B) (hj : j = -1) (hs : zg so (bs + k) = 5) : zEQ gE P ta tA m B := by
  intro z
  obtain ⟨_, hY, _, hk⟩ := hE z
  have x3 := zEN_c h0 hY hk (by omega) (by omega)
  have ep : zhq he nn (zg en (bs + k)) j = k + 1 := by
    unfold zhq
    by_cases e : nn = 0
    · rw [if_pos (by omega)]; exact hH.2.2.1 e
    · rw [if_neg (by omega), show j + 1 = 0 by omega]; exact hH.2.1 (by have := hH.2.2.2; omega)
  have h := h z
  rw [ep] at h
  exact zE3_mono h (by omega)
theorem zEc_0 {so va le mo ho pa en fp pb pe ac aA aB la ta tA tB ta1 tA1 ta2 tA2 he : Nat → Int32} {Z P : Int → Int} {bs q n c φ N lb nn m' gE B x : Int} {C Λ : Int → zT} {σ σ0 τ : zT} {k B1 B2 : Int} {i1 o1 a1 i2 o2 a2 j : Int32} (h0 : zND so va le mo ho pa en fp pb pe ac aA aB la ta tA tB Z bs q n c φ N lb i1.toInt C Λ σ σ0 τ k B1 B2) (hE : zEN gE φ so le mo en bs n P ta tA i1.toInt k B) (hH : zHe he en bs nn k (zg en (bs + k))) (e1 : ta1 = upd ta i1.toNatClampNeg o1) (f1 : tA1 = upd tA i1.toNatClampNeg a1) (e2 : ta2 = upd ta1 i2.toNatClampNeg o2) (f2 : tA2 = upd tA1 i2.toNatClampNeg a2) (ea : a2 = he j.toNatClampNeg) (hj : j.toInt = nn - 1) (hn : 1 ≤ nn) (ho1 : o1.toInt = 101) (ho2 : o2.toInt = 100) (hi : 0 ≤ i1.toInt) (hi2 : i2.toInt = i1.toInt + 1) (hm : m' = i2.toInt + 1) (hx : x = a2.toInt) : zEr gE P en ta2 tA2 bs m' k x (zg en (bs + k)) B := by
  intro z
  subst hx
  obtain ⟨_, hY, h3, _⟩ := hE z
  obtain ⟨x1, x2⟩ := zEr_c h0 hY hH ea (by omega) (by omega)
  have ez : zhq he nn (zg en (bs + k)) j.toInt = zg en (bs + k) := by unfold zhq; rw [if_pos (by omega)]
  rw [ez, zcz_end (Int.le_refl _)] at x2
  have s1 := zE3_o h3 e1 f1 hi hi2 (by omega) (by omega)
  exact zE3_n s1 e2 f2 (by omega) hm ho2 x1 (by omega)
theorem zEc_s {so va le mo ho pa en fp pb pe ac aA aB la ta0 tA0 tB0 ta tA ta1 tA1 ta2 tA2 ta3 tA3 ta4 tA4 he : Nat → Int32} {Z P : Int → Int} {bs q n c φ N lb m0 nn m' gE B x : Int} {C Λ : Int → zT} {σ σ0 τ : zT} {k B1 B2 : Int} {i1 o1 a1 i2 o2 a2 i3 o3 a3 i4 o4 a4 j : Int32} (h0 : zND so va le mo ho pa en fp pb pe ac aA aB la ta0 tA0 tB0 Z bs q n c φ N lb m0 C Λ σ σ0 τ k B1 B2) (hE : zEN gE φ so le mo en bs n P ta0 tA0 m0 k B) (hH : zHe he en bs nn k (zg en (bs + k))) (h : zEr gE P en ta tA bs i1.toInt k (zg he (j.toInt + 1)) (zg en (bs + k)) B) (e1 : ta1 = upd ta i1.toNatClampNeg o1) (f1 : tA1 = upd tA i1.toNatClampNeg a1) (e2 : ta2 = upd ta1 i2.toNatClampNeg o2) (f2 : tA2 = upd tA1 i2.toNatClampNeg a2) (e3 : ta3 = upd ta2 i3.toNatClampNeg o3) (f3 : tA3 = upd tA2 i3.toNatClampNeg a3) (e4 : ta4 = upd ta3 i4.toNatClampNeg o4) (f4 : tA4 = upd tA3 i4.toNatClampNeg a4) (ea : a3 = he j.toNatClampNeg) (ho1 : o1.toInt = 101) (ho2 : o2.toInt = 5) (ho3 : o3.toInt = 100) (ho4 : o4.toInt = 3) (j0 : 0 ≤ j.toInt) (j1 : j.toInt + 1 < nn) (hi : 0 ≤ i1.toInt) (hi2 : i2.toInt = i1.toInt + 1) (hi3 : i3.toInt = i2.toInt + 1) (hi4 : i4.toInt = i3.toInt + 1) (hm : m' = i4.toInt + 1) (hx : x = a3.toInt) : zEr gE P en ta4 tA4 bs m' k x (zg en (bs + k)) B := by
  intro z
  subst hx
  obtain ⟨_, hY, _, _⟩ := hE z
  obtain ⟨x1, x2⟩ := zEr_c h0 hY hH ea j0 (by omega)
  have ez : zhq he nn (zg en (bs + k)) j.toInt = zg he (j.toInt + 1) := by unfold zhq; rw [if_neg (by omega)]
  rw [ez] at x2
  have s1 := zE3_o (h z) e1 f1 hi hi2 (by omega) (by omega)
  have s2 := zE3_o s1 e2 f2 (by omega) hi3 (by omega) (by omega)
  have s3 := zE3_n (B' := B - P k + zcz en bs P a3.toInt (zg en (bs + k))) s2 e3 f3 (by omega) hi4 ho3 x1 (by omega)
  exact zE3_o s3 e4 f4 (by omega) hm (by omega) (by omega)
theorem zEc_e {en ta tA he : Nat → Int32} {P : Int → Int} {bs m nn j k B e gE : Int} (h : zEr gE P en ta tA bs m k (zg he (j + 1)) e B) (hH : zHe he en bs nn k e) (hn : 1 ≤ nn) (hj : j = -1) : zEr gE P en ta tA bs m k (k + 1) e B := by
  have e1 := hH.2.1 hn
  rw [show j + 1 = 0 by omega, e1] at h
  exact h
theorem zEc_f {so va le mo ho pa en fp pb pe ac aA aB la ta0 tA0 tB0 ta tA : Nat → Int32} {Z P : Int → Int} {bs q n c φ N lb m0 m gE B : Int} {C Λ : Int → zT} {σ σ0 τ : zT} {k B1 B2 : Int} (h0 : zND so va le mo ho pa en fp pb pe ac aA aB la ta0 tA0 tB0 Z bs q n c φ N lb m0 C Λ σ σ0 τ k B1 B2) (hE : zEN gE φ so le mo en bs n P ta0 tA0 m0 k B) (h : zEr gE P en ta tA bs m k (k + 1) (zg en (bs + k)) B) (hs : zg so (bs + k) = 6) : zEQ gE P ta tA m B := by
  intro z
  obtain ⟨_, hY, _, hk⟩ := hE z
  have x3 := zEN_c h0 hY hk (by omega) (by omega)
  exact zE3_mono (h z) (by omega)
theorem zEN_f {so va le mo ho pa en fp pb pe ac aA aB la ta tA tB taω tAω : Nat → Int32} {Z P : Int → Int} {bs q n c φ N lb m m' gE B : Int} {C Λ : Int → zT} {σ σ0 τ : zT} {k B1 B2 : Int} (h0 : zND so va le mo ho pa en fp pb pe ac aA aB la ta tA tB Z bs q n c φ N lb m C Λ σ σ0 τ k B1 B2) (hE : zEN gE φ so le mo en bs n P ta tA m k B) (hs : φ = 0 ∨ zg so (bs + k) = 9 ∨ zg so (bs + k) = 10 ∨ zg so (bs + k) = 4) : zEQ gE P taω tAω m' B := by
  intro z
  obtain ⟨p1, _⟩ := hE z
  obtain ⟨⟨_, hK⟩, _, _, _, hN, _⟩ := h0
  have := hK p1 k hN.1.1 hN.1.2
  omega
def zEp (gE : Int) (P : Int → Int) (ta tA : Nat → Int32) (m k t B : Int) : Prop := gE = 1 → zE3 P ta tA m (B - P k + t * P (k + 1))
theorem zEp_0 {so le mo en ta tA ta1 tA1 : Nat → Int32} {bs n k B gE φ m' : Int} {P : Int → Int} {i o a : Int32} (hE : zEN gE φ so le mo en bs n P ta tA i.toInt k B) (e1 : ta1 = upd ta i.toNatClampNeg o) (f1 : tA1 = upd tA i.toNatClampNeg a) (ho : o.toInt = 101) (hi : 0 ≤ i.toInt) (hm : m' = i.toInt + 1) : zEp gE P ta1 tA1 m' k 0 B := by
  intro z
  obtain ⟨_, _, h3, _⟩ := hE z
  exact zE3_o (zE3_mono h3 (by rw [Int.zero_mul]; omega)) e1 f1 hi hm (by omega) (by omega)
theorem zEp_t {gE : Int} {P : Int → Int} {ta tA : Nat → Int32} {m k t t' B : Int} (h : zEp gE P ta tA m k t B) (ht : t = t') : zEp gE P ta tA m k t' B := ht ▸ h
theorem zEp_n {so va le mo ho pa en fp pb pe ac aA aB la ta0 tA0 tB0 ta tA ta1 tA1 : Nat → Int32} {Z P : Int → Int} {bs q n c φ N lb m0 m' t t' gE B : Int} {C Λ : Int → zT} {σ σ0 τ : zT} {k B1 B2 : Int} {i o a : Int32} (h0 : zND so va le mo ho pa en fp pb pe ac aA aB la ta0 tA0 tB0 Z bs q n c φ N lb m0 C Λ σ σ0 τ k B1 B2) (hE : zEN gE φ so le mo en bs n P ta0 tA0 m0 k B) (h : zEp gE P ta tA i.toInt k t B) (e1 : ta1 = upd ta i.toNatClampNeg o) (f1 : tA1 = upd tA i.toNatClampNeg a) (hs : zg so (bs + k) = 7) (ho : o.toInt = 100) (ha : a.toInt = k + 1) (hi : 0 ≤ i.toInt) (hm : m' = i.toInt + 1) (ht : t' = t + 1) : zEp gE P ta1 tA1 m' k t' B := by
  intro z
  obtain ⟨_, hY, _, _⟩ := hE z
  obtain ⟨_, x2⟩ := zEN_1 h0 hY (by omega)
  subst ht
  exact zE3_n (h z) e1 f1 hi hm ho (by rw [ha]; exact x2) (by rw [ha, Int.add_mul, Int.one_mul]; omega)
theorem zEp_o {ta tA ta1 tA1 : Nat → Int32} {P : Int → Int} {k t B gE m' : Int} {i o a : Int32} (h : zEp gE P ta tA i.toInt k t B) (e1 : ta1 = upd ta i.toNatClampNeg o) (f1 : tA1 = upd tA i.toNatClampNeg a) (ho : o.toInt ≠ 100) (ho2 : o.toInt ≠ 0) (hi : 0 ≤ i.toInt) (hm : m' = i.toInt + 1) : zEp gE P ta1 tA1 m' k t B :=
  fun z => zE3_o (h z) e1 f1 hi hm ho ho2
theorem zEp_e {so va le mo ho pa en fp pb pe ac aA aB la ta0 tA0 tB0 ta tA : Nat → Int32} {Z P : Int → Int} {bs q n c φ N lb m0 m t gE B : Int} {C Λ : Int → zT} {σ σ0 τ : zT} {k B1 B2 : Int} (h0 : zND so va le mo ho pa en fp pb pe ac aA aB la ta0 tA0 tB0 Z bs q n c φ N lb m0 C Λ σ σ0 τ k B1 B2) (hE : zEN gE φ so le mo en bs n P ta0 tA0 m0 k B) (h : zEp gE P ta tA m k t B) (hs : zg so (bs + k) = 7) (ht : t = zT0 le mo (bs + k) + zg le (bs + k)) : zEQ gE P ta tA m B := by
  intro z
  obtain ⟨_, hY, _, hk⟩ := hE z
  obtain ⟨x1, x2⟩ := zEN_1 h0 hY (by omega)
  obtain ⟨r, _⟩ := zEN_k h0 hY
  obtain ⟨lm1, lm2, lm3⟩ := zN_lm h0
  have tb : t ≤ zby so le mo (bs + k) := by
    subst ht
    unfold zT0 zby
    rw [if_pos hs]
    by_cases e : zg mo (bs + k) = -1
    · rw [if_pos e, if_pos e]; omega
    · rw [if_neg e, if_neg e]; split <;> omega
  have y := (hY k r.1 r.2).2.2 hk (by omega)
  rw [x1] at y
  have y2 := Int.mul_le_mul_of_nonneg_right tb x2
  exact zE3_mono (h z) (by omega)
def zEC (gE : Int) (P : Int → Int) (ac ta tA : Nat → Int32) (N m : Int) : Prop := gE = 1 → zE3 P ta tA m (P 0 - zcE ac N)
theorem zcE_0 {ac : Nat → Int32} {N : Int} : 0 ≤ zcE ac N := zsm_nn (fun k => by split <;> decide)
theorem zcE_z {ac : Nat → Int32} {N : Int} (h : N ≤ 0) : zcE ac N = 0 := by unfold zcE; rw [show N.toNat = 0 by omega]; rfl
theorem zcE_s {ac acω : Nat → Int32} {i o : Int32} {Nω : Int} (e : acω = upd ac i.toNatClampNeg o) (h0 : 0 ≤ i.toInt) (hN : Nω = i.toInt + 1) : zcE acω Nω = zcE ac i.toInt + (if o.toInt = 0 then 1 else 0) := by
  subst hN
  unfold zcE
  rw [zsm_add h0]
  have c := zsm_congr (f := fun p => if zg acω p = 0 then 1 else 0) (g := fun p => if zg ac p = 0 then 1 else 0) (n := i.toInt.toNat) (fun k k0 k1 => by
    show (if zg acω k = 0 then (1 : Int) else 0) = if zg ac k = 0 then 1 else 0
    rw [e, zg_ne h0 k0 (by omega)])
  rw [c, show zg acω i.toInt = o.toInt by rw [e]; exact zg_eq]
theorem zsu_m {c : Int → Int → Int} {ta tA : Nat → Int32} {m : Int} (h : 1 ≤ m) : zsu c ta tA m = zsu c ta tA (m - 1) + c (zg ta (m - 1)) (zg tA (m - 1)) := by
  unfold zsu
  have := zsm_add (f := fun i => c (zg ta i) (zg tA i)) (a := m - 1) (by omega)
  rw [show m - 1 + 1 = m by omega] at this
  exact this
theorem zE3_nn {P : Int → Int} {ta tA : Nat → Int32} {m B : Int} (h : zE3 P ta tA m B) : 0 ≤ zsu (zc3 P) ta tA m := by
  have g : ∀ n : Nat, (n : Int) ≤ m → 0 ≤ zsm (fun i => zc3 P (zg ta i) (zg tA i)) n := by
    intro n; induction n with
    | zero => intro _; exact Int.le_refl _
    | succ n ih =>
      intro hn
      have a := ih (by omega)
      have b := h.1 n (by omega) (by omega)
      have e : zsm (fun i => zc3 P (zg ta i) (zg tA i)) (n + 1) = zsm (fun i => zc3 P (zg ta i) (zg tA i)) n + zc3 P (zg ta n) (zg tA n) := rfl
      rw [e]; omega
  by_cases q : 0 ≤ m
  · exact g m.toNat (by omega)
  · unfold zsu; rw [show m.toNat = 0 by omega]; exact Int.le_refl _
theorem zE3_pop {P : Int → Int} {ta tA : Nat → Int32} {m m' B : Int} (h : zE3 P ta tA m B) (h1 : 1 ≤ m) (hm : m' = m - 1) : zE3 P ta tA m' (B - zc3 P (zg ta (m - 1)) (zg tA (m - 1))) ∧ zc3 P (zg ta (m - 1)) (zg tA (m - 1)) ≤ B := by
  subst hm
  have e := zsu_m (c := zc3 P) (ta := ta) (tA := tA) h1
  have h2 := h.2
  have p : zE3 P ta tA (m - 1) (B - zc3 P (zg ta (m - 1)) (zg tA (m - 1))) := ⟨fun i i0 i1 => h.1 i i0 (by omega), by omega⟩
  have nn := zE3_nn p
  exact ⟨p, by omega⟩
theorem zEC_0 {so le mo en ac ta tA ta1 tA1 ta2 tA2 : Nat → Int32} {bs n gE φ N m' : Int} {P : Int → Int} {i1 o1 a1 i2 o2 a2 : Int32} (hE : gE = 1 → (φ = 1 ∧ zY so le mo en bs n P ∧ P 0 ≤ 60)) (e1 : ta1 = upd ta i1.toNatClampNeg o1) (f1 : tA1 = upd tA i1.toNatClampNeg a1) (e2 : ta2 = upd ta1 i2.toNatClampNeg o2) (f2 : tA2 = upd tA1 i2.toNatClampNeg a2) (ho1 : o1.toInt = 19) (ho2 : o2.toInt = 100) (ha2 : a2.toInt = 0) (hi1 : i1.toInt = 0) (hi2 : i2.toInt = 1) (hm : m' = 2) (hN : N ≤ 0) (hn : 1 ≤ n) : zEC gE P ac ta2 tA2 N m' := by
  intro z
  obtain ⟨_, hY, _⟩ := hE z
  have p0 := (hY 0 (Int.le_refl _) (by omega)).1
  have s0 : zE3 P ta tA i1.toInt 0 := ⟨fun i i0 i1' => by omega, by rw [hi1]; exact Int.le_refl _⟩
  have s1 := zE3_o s0 e1 f1 (by omega) (show i2.toInt = i1.toInt + 1 by omega) (by omega) (by omega)
  exact zE3_n s1 e2 f2 (by omega) (by omega) ho2 (by rw [ha2]; exact p0) (by rw [ha2, zcE_z hN]; omega)
theorem zEC_n {so le mo en ac ta tA : Nat → Int32} {bs n gE φ N m m' k : Int} {P : Int → Int} (h : zEC gE P ac ta tA N m) (hE : gE = 1 → (φ = 1 ∧ zY so le mo en bs n P ∧ P 0 ≤ 60)) (h1 : 1 ≤ m) (hm : m' = m - 1) (ht : zg ta (m - 1) = 100) (hk : k = zg tA (m - 1)) : zEN gE φ so le mo en bs n P ta tA m' k (P 0 - zcE ac N) := by
  intro z
  obtain ⟨p1, hY, p6⟩ := hE z
  obtain ⟨a, b⟩ := zE3_pop (h z) h1 hm
  rw [ht, ← hk, zc3_n] at a b
  have c0 := @zcE_0 ac N
  exact ⟨p1, hY, a, by omega⟩
theorem zEC_q {ac ta tA : Nat → Int32} {gE N m : Int} {P : Int → Int} (h : zEQ gE P ta tA m (P 0 - zcE ac N)) : zEC gE P ac ta tA N m := h
theorem zEC_l {ac ta tA : Nat → Int32} {gE N m m' : Int} {P : Int → Int} (h : zEC gE P ac ta tA N m) (h1 : 1 ≤ m) (hm : m' = m - 1) (ht : zg ta (m - 1) = 101) : zEC gE P ac ta tA N m' := by
  intro z
  obtain ⟨a, _⟩ := zE3_pop (h z) h1 hm
  rw [ht, zc3_o (by decide) (by decide)] at a
  exact zE3_mono a (by omega)
theorem zEC_o {ac acω ta tA : Nat → Int32} {gE Nω m m' : Int} {P : Int → Int} {i o : Int32} (h : zEC gE P ac ta tA i.toInt m) (e : acω = upd ac i.toNatClampNeg o) (h1 : 1 ≤ m) (hm : m' = m - 1) (ht : o.toInt = zg ta (m - 1)) (hn : o.toInt ≠ 100) (hi : 0 ≤ i.toInt) (hN : Nω = i.toInt + 1) : zEC gE P acω ta tA Nω m' := by
  intro z
  obtain ⟨a, _⟩ := zE3_pop (h z) h1 hm
  rw [zcE_s e hi hN]
  rw [← ht] at a
  by_cases q : o.toInt = 0
  · rw [if_pos q]; rw [q, zc3_0] at a; exact zE3_mono a (by omega)
  · rw [if_neg q]; rw [zc3_o hn q] at a; exact zE3_mono a (by omega)
theorem zEC_e {ac ta tA : Nat → Int32} {gE N m : Int} {P : Int → Int} (h : zEC gE P ac ta tA N m) (hm : m ≤ 0) : gE = 1 → zcE ac N ≤ P 0 := by
  intro z
  have a := (h z).2
  have e : zsu (zc3 P) ta tA m = 0 := by unfold zsu; rw [show m.toNat = 0 by omega]; rfl
  omega
