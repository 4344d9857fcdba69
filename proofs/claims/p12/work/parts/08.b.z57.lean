theorem zCS_0 {so va le mo ho pa en fp pb pe ac aA aB la ta tA tB ta1 tA1 tB1 ta2 tA2 tB2 : Nat → Int32} {Z : Int → Int} {bs q n c φ N lb m gm : Int} {i1 i2 o1 a1 b1 o2 a2 b2 : Int32} (hSl : zSl so va le mo ho pa en fp pb pe bs q n c) (hZ : zZ so le mo en bs n φ Z) (e11 : ta1 = upd ta i1.toNatClampNeg o1) (e12 : tA1 = upd tA i1.toNatClampNeg a1) (e13 : tB1 = upd tB i1.toNatClampNeg b1) (e21 : ta2 = upd ta1 i2.toNatClampNeg o2) (e22 : tA2 = upd tA1 i2.toNatClampNeg a2) (e23 : tB2 = upd tB1 i2.toNatClampNeg b2) (ho1 : o1.toInt = 19) (ha1 : a1.toInt = 0) (ho2 : o2.toInt = 100) (ha2 : a2.toInt = 0) (hi1 : i1.toInt = 0) (hi2 : i2.toInt = 1) (hm : m = 2) (hN : N = 0) (hl : lb = 0) (hz : Z 0 ≤ 220) (hz2 : φ = 1 → Z 0 ≤ 200) (hg : gm = 12 * Z 0 - 3) : zCS so va en ac aA aB la ta2 tA2 tB2 Z bs n φ N lb m gm := by
  subst hm; subst hN; subst hl; subst hg
  have n1 := hSl.1
  have n2 := hSl.2.1
  obtain ⟨_, ⟨f1, f2⟩, _⟩ := zNf hSl (Int.le_refl 0) (by omega)
  obtain ⟨⟨y1, y4⟩, ⟨y2, y5⟩, y3, _⟩ := zh_m (φ := φ) hSl (Int.le_refl 0) (show 0 ≤ zg en (bs + 0) by omega) f2
  have hx : zhX φ (zg en (bs + 0)) ≤ 900 ∧ zhX φ 0 = 0 := by unfold zhX; split <;> omega
  have rt : zRg (([], 0, 0, 0) : zT) := ⟨Int.le_refl _, Int.le_refl _, Int.le_refl _, by show (0 : Int) ≤ 1000; omega, trivial⟩
  have rs : zRg (zsh so bs φ ([], 0, 0, 0) [] 0 (zg en (bs + 0)) 0 0 0) := zRg_sh (k := 0) hSl rt trivial (by omega) (Int.le_refl _) (by omega) f2 (Int.le_refl _) (Int.le_refl _) (Int.le_refl _) (by show (0 : Int) + _ - _ + 0 ≤ 1000; omega)
  have s1 := zsu_p (c := zc1 Z) e11 e12 (by omega) (show (1 : Int) = i1.toInt + 1 by omega)
  have s2 := zsu_p (c := zc1 Z) e21 e22 (by omega) (show (2 : Int) = i2.toInt + 1 by omega)
  have s3 := zsu_p (c := zc2 Z) e11 e12 (by omega) (show (1 : Int) = i1.toInt + 1 by omega)
  have s4 := zsu_p (c := zc2 Z) e21 e22 (by omega) (show (2 : Int) = i2.toInt + 1 by omega)
  rw [hi1, ho1] at s1 s3
  rw [hi2, ho2] at s2 s4
  have z0 : zsu (zc1 Z) ta tA 0 = 0 := rfl
  have z1 : zsu (zc2 Z) ta tA 0 = 0 := rfl
  rw [zc1_o (by decide), z0] at s1
  rw [zc1_n, ha2] at s2
  rw [zc2_n, ha2] at s4
  have z2 : zc2 Z 19 a1.toInt = 1 := rfl
  rw [z2, z1] at s3
  have w0 : zWt ac 0 = 0 := rfl
  refine ⟨Or.inr ⟨fun _ => ([], 0, 0, 0), fun _ => ([], 0, 0, 0), zsh so bs φ ([], 0, 0, 0) [] 0 (zg en (bs + 0)) 0 0 0, 4 * Z 0 - 2, ⟨by omega, Int.le_refl _, ⟨fun p p0 p1 => by omega, fun l l0 l1 => by omega, ?_, fun _ => ?_⟩, ?_, by omega, by omega⟩, fun e => by have := hz2 e; rw [w0]; omega⟩, by omega, Int.le_refl _⟩
  · show (zcn _ 0 _ 0).1 = []; unfold zcn; rw [if_pos rfl]; rfl
  · have ez : zcn (fun _ => (([], 0, 0, 0) : zT)) 0 (zsh so bs φ ([], 0, 0, 0) [] 0 (zg en (bs + 0)) 0 0 0) 0 = zsh so bs φ ([], 0, 0, 0) [] 0 (zg en (bs + 0)) 0 0 0 := if_pos rfl
    rw [ez]
    refine ⟨?_, ?_⟩
    · show (0 : Int) + _ - _ + 0 ≤ 60; omega
    · show (0 : Int) + _ - _ + 0 ≤ 60; omega
  · have x1 : zg ta2 ((1 : Nat) : Int) = 100 := by rw [e21, show ((1 : Nat) : Int) = i2.toInt from hi2.symm, zg_eq]; exact ho2
    have x2 : zg tA2 ((1 : Nat) : Int) = 0 := by rw [e22, show ((1 : Nat) : Int) = i2.toInt from hi2.symm, zg_eq]; exact ha2
    have x3 : zg ta2 ((0 : Nat) : Int) = 19 := by
      rw [e21, zg_ne (by omega) (by omega) (by omega), e11, show ((0 : Nat) : Int) = i1.toInt from hi1.symm, zg_eq]; exact ho1
    have x4 : zg tA2 ((0 : Nat) : Int) = 0 := by
      rw [e22, zg_ne (by omega) (by omega) (by omega), e12, show ((0 : Nat) : Int) = i1.toInt from hi1.symm, zg_eq]; exact ha1
    refine ⟨_, ([], 0, 0, 0), zge_rfl, rs, ?_, fun z => absurd z (by decide), ⟨([], 0, 0, 0), ([], 0, 0, 0), zge_rfl, rt, ?_, fun _ => x3, trivial⟩⟩
    · rw [x1, x2]
      refine Or.inl ⟨rfl, ⟨Int.le_refl _, by omega⟩, trivial, rfl, ?_, ?_, ?_⟩
      · show (0 : Int) + _ ≤ 0 + _ - _ + 0 + _; omega
      · show (0 : Int) + _ ≤ 0 + _ - _ + 0 + _; omega
      · show (0 : Int) + _ ≤ 0 + _ - _ + 0 + _; omega
    · rw [x3, x4]; exact zO_19 ⟨by decide, by decide⟩ rfl
theorem zCS_b {so va le mo ho pa en fp pb pe ac aA aB la ta tA tB : Nat → Int32} {Z : Int → Int} {bs q n c φ N lb m gm : Int} (h : zCS so va en ac aA aB la ta tA tB Z bs n φ N lb m gm) (hSl : zSl so va le mo ho pa en fp pb pe bs q n c) (hZ : zZ so le mo en bs n φ Z) (hm : 1 ≤ m) : 0 ≤ lb ∧ lb + m ≤ gm ∧ N + gm ≤ 2650 ∧ 0 ≤ N ∧ (zg ta (m - 1) = 101 → 0 ≤ zg tA (m - 1) ∧ zg tA (m - 1) < lb) := by
  obtain ⟨C, Λ, σ, σ0, τ, B2, lb0, hL, g1, g2, g3, g4, g5, b1, b2, b3, b4⟩ := zCS_t h hSl hZ hm
  have c1 : 1 ≤ zc1 Z (zg ta (m - 1)) (zg tA (m - 1)) := by
    unfold zc1; split
    · rename_i e
      rcases g3 with ⟨_, z⟩ | ⟨z, _⟩ | ⟨⟨⟨z, _⟩, _⟩, _⟩
      · have := (hZ _ z.1.1 z.1.2).1; omega
      · omega
      · omega
    · exact Int.le_refl _
  refine ⟨lb0, by omega, h.2.1, h.2.2, fun e => ?_⟩
  rcases g3 with ⟨z, _⟩ | ⟨_, z, _⟩ | ⟨⟨⟨z, _⟩, _⟩, _⟩
  · omega
  · exact z
  · omega
theorem zCS_e {so va en ac aA aB la ta tA tB : Nat → Int32} {Z : Int → Int} {bs n φ N lb m gm : Int} (h : zCS so va en ac aA aB la ta tA tB Z bs n φ N lb m gm) (hm : m ≤ 0) : zCo so va ac aA aB la bs n φ N := by
  obtain ⟨h, _⟩ := h
  rcases h with ⟨_, h⟩ | ⟨_, _, _, _, ⟨h, _⟩, _⟩
  · exact h
  · omega
