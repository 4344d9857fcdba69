theorem zN_t {so va le mo ho pa en fp pb pe ac aA aB la ta tA tB ta1 tA1 tB1 ta2 tA2 tB2 ta3 tA3 tB3 : Nat → Int32} {Z : Int → Int} {bs q n c φ N lb m' : Int} {C Λ : Int → zT} {σ σ0 τ : zT} {k B1 B2 : Int} {i i1 i2 o1 a1 b1 o2 a2 b2 o3 a3 b3 : Int32} (h : zND so va le mo ho pa en fp pb pe ac aA aB la ta tA tB Z bs q n c φ N lb i.toInt C Λ σ σ0 τ k B1 B2) (e1 : ta1 = upd ta i.toNatClampNeg o1) (e2 : tA1 = upd tA i.toNatClampNeg a1) (e3 : tB1 = upd tB i.toNatClampNeg b1) (e4 : ta2 = upd ta1 i1.toNatClampNeg o2) (e5 : tA2 = upd tA1 i1.toNatClampNeg a2) (e6 : tB2 = upd tB1 i1.toNatClampNeg b2) (e7 : ta3 = upd ta2 i2.toNatClampNeg o3) (e8 : tA3 = upd tA2 i2.toNatClampNeg a3) (e9 : tB3 = upd tB2 i2.toNatClampNeg b3) (hs : zg so (bs + k) = 10) (ho1 : o1.toInt = 12) (ho2 : o2.toInt = 100) (ho3 : o3.toInt = 11) (ha1 : a1.toInt = k) (ha2 : a2.toInt = k + 1) (ha3 : a3.toInt = k) (hi1 : i1.toInt = i.toInt + 1) (hi2 : i2.toInt = i1.toInt + 1) (hm : m' = i2.toInt + 1) : zWp so va en ac aA aB la ta3 tA3 tB3 Z bs n φ N lb m' C σ k B1 B2 := by
  obtain ⟨⟨x0, x1, x2⟩, f7, f6, f2, m4, m5, m6, t0, s1⟩ := zN_1 h (by omega)
  obtain ⟨⟨hφ, hb⟩, hSl, hZ, hz, hN, hge, r0, rt, hW⟩ := h
  have hN2 := hN
  obtain ⟨⟨k0, k1⟩, ck, g1, n1, n2, n3⟩ := hN2
  have p0 : φ = 0 := by
    rcases hφ with e | e
    · exact e
    · exact absurd hs (hb e k k0 k1).2.2
  obtain ⟨q1, q2, q3, q4, q5⟩ := zh_q (φ := φ) hSl k0 k1 hφ
  obtain ⟨u0, u1, u2⟩ := @zqf_b φ
  have u2 := u2 p0
  obtain ⟨z1, z2, z3⟩ := zZ_1 hSl hZ k0 k1 (by omega) hz (Or.inr (by omega))
  have ck1 : zCk so va bs ((1, k) :: σ0.1) (k + 1) := ⟨Or.inr ⟨Or.inl rfl, k0, by omega⟩, zCk_m (by omega) ck⟩
  have p1 := zW_p (ρ' := zsh so bs φ τ ((1, k) :: σ0.1) (zg en (bs + k)) (zg en (bs + k)) 0 0 1) hW e1 e2 e3 (by
    rw [ho1, ha1]
    refine zO_12 ⟨by omega, by omega⟩ g1 (fun e => ⟨?_, ?_, ?_⟩) p0 ⟨k0, k1⟩ ⟨_, rfl⟩
    · show τ.2.1 ≤ τ.2.1 + _ - _ + 0 + 0; omega
    · show τ.2.2.1 ≤ τ.2.2.1 + _ - _ + 0 + 0; omega
    · show τ.2.2.2 ≤ τ.2.2.2 + _ - _ + 1 - 1; omega) (zRg_sh hSl rt ck1 (by omega) (by omega) (Int.le_refl _) f2 (by omega) (by omega) (by omega) (by omega)) (d1' := -1) (d2' := -1) (fun l l0 _ z => by omega) (m' := i1.toInt) (by omega) (Int.le_refl _) (Int.le_refl _)
  have p2 := zW_p (ρ' := zsh so bs φ τ ((1, k) :: σ0.1) (k + 1) (zg en (bs + k)) 0 0 1) p1 e4 e5 e6 (by
    rw [ho2, ha2]
    have := zNt_c (φ := φ) (τ := τ) (e := zg en (bs + k)) (u := 0) (r := 0) (x := 1) (u' := 0) (r' := 0) (x' := 1) hSl ck1 (by omega) x1 (Int.le_refl _) (Int.le_refl _) (Int.le_refl _)
    rw [f7] at this
    exact Or.inl ⟨rfl, this⟩) (zRg_sh hSl rt ck1 (by omega) (by omega) (by omega) f2 (by omega) (by omega) (by omega) (by omega)) (d1' := -1) (d2' := -1) (fun l l0 _ z => by omega) (m' := i2.toInt) (by omega) (Int.le_refl _) (Int.le_refl _)
  have p3 := zW_p (ρ' := σ0) p2 e7 e8 e9 (by
    rw [ho3, ha3]
    refine zO_11 ⟨by omega, by omega⟩ rfl (fun e => ⟨?_, ?_, ?_⟩) p0 ⟨k0, k1⟩ (zCk_nd hSl k1 (Or.inl rfl) k0 ck)
    · show τ.2.1 + _ - _ + 0 ≤ σ0.2.1 + 52; omega
    · show τ.2.2.1 + _ - _ + 0 ≤ σ0.2.2.1 + 32; omega
    · show τ.2.2.2 + _ - _ + 1 ≤ 1000; omega) r0 (d1' := -1) (d2' := -1) (fun l l0 _ z => by omega) hm (Int.le_refl _) (Int.le_refl _)
  have c1 : zc1 Z o1.toInt a1.toInt = 1 := zc1_o (by omega)
  have c3 : zc1 Z o3.toInt a3.toInt = 1 := zc1_o (by omega)
  have c2 : zc1 Z o2.toInt a2.toInt = 12 * Z (k + 1) - 4 := by rw [ho2, ha2]; exact zc1_n
  exact zW_o p3 hge (by omega) (fun e => by omega)
theorem zN_s {so va le mo ho pa en fp pb pe ac aA aB la ta tA tB ta0 tA0 tB0 ta1 tA1 tB1 ta2 tA2 tB2 ta3 tA3 tB3 : Nat → Int32} {Z : Int → Int} {bs q n c φ N lb lb' m' : Int} {C Λ : Int → zT} {σ σ0 τ : zT} {k B1 B2 : Int} {i i0 i1 i2 o0 a0 b0 o1 a1 b1 o2 a2 b2 o3 a3 b3 : Int32} (h : zND so va le mo ho pa en fp pb pe ac aA aB la ta tA tB Z bs q n c φ N lb i0.toInt C Λ σ σ0 τ k B1 B2) (w1 : ta0 = upd ta i0.toNatClampNeg o0) (w2 : tA0 = upd tA i0.toNatClampNeg a0) (w3 : tB0 = upd tB i0.toNatClampNeg b0) (e1 : ta1 = upd ta0 i.toNatClampNeg o1) (e2 : tA1 = upd tA0 i.toNatClampNeg a1) (e3 : tB1 = upd tB0 i.toNatClampNeg b1) (e4 : ta2 = upd ta1 i1.toNatClampNeg o2) (e5 : tA2 = upd tA1 i1.toNatClampNeg a2) (e6 : tB2 = upd tB1 i1.toNatClampNeg b2) (e7 : ta3 = upd ta2 i2.toNatClampNeg o3) (e8 : tA3 = upd tA2 i2.toNatClampNeg a3) (e9 : tB3 = upd tB2 i2.toNatClampNeg b3) (hs : zg so (bs + k) = 9) (ho0 : o0.toInt = 101) (ho1 : o1.toInt = 14 ∨ o1.toInt = 16 ∨ o1.toInt = 18 ∨ o1.toInt = 20) (ho2 : o2.toInt = 100) (ho3 : o3.toInt = 13 ∨ o3.toInt = 15 ∨ o3.toInt = 17) (ha0 : a0.toInt = lb) (ha1 : a1.toInt = k) (ha2 : a2.toInt = k + 1) (ha3 : a3.toInt = k) (hb3 : b3.toInt = -1 ∨ b3.toInt = lb) (hl : lb' = lb + 1) (hi0 : i.toInt = i0.toInt + 1) (hi1 : i1.toInt = i.toInt + 1) (hi2 : i2.toInt = i1.toInt + 1) (hm : m' = i2.toInt + 1) : zWp so va en ac aA aB la ta3 tA3 tB3 Z bs n φ N lb' m' C σ k B1 B2 := by
  obtain ⟨⟨x0, x1, x2⟩, f7, f6, f2, m4, m5, m6, t0, s1⟩ := zN_1 h (by omega)
  obtain ⟨⟨hφ, hb⟩, hSl, hZ, hz, hN, hge, r0, rt, hW⟩ := h
  have hN2 := hN
  obtain ⟨⟨k0, k1⟩, ck, g1, n1, n2, n3⟩ := hN2
  have p0 : φ = 0 := by
    rcases hφ with e | e
    · exact e
    · exact absurd hs (hb e k k0 k1).2.1
  obtain ⟨q1, q2, q3, q4, q5⟩ := zh_q (φ := φ) hSl k0 k1 hφ
  obtain ⟨u0, u1, u2⟩ := @zqf_b φ
  have u2 := u2 p0
  have lb0 : 0 ≤ lb := hW.2.1
  obtain ⟨z1, z2, z3⟩ := zZ_1 hSl hZ k0 k1 (by omega) hz (Or.inr (by omega))
  have ck1 : zCk so va bs ((2, k) :: σ0.1) (k + 1) := ⟨Or.inr ⟨Or.inr rfl, k0, by omega⟩, zCk_m (by omega) ck⟩
  have p9 := zW_n hW τ hl (d1' := lb) (d2' := -1) (fun l l0 z => by omega) (Int.le_refl _)
  have el : (fun l => if l = lb then τ else Λ l) lb = τ := if_pos rfl
  have p8 := zW_p (ρ' := τ) p9 w1 w2 w3 (by rw [ho0, ha0]; exact Or.inr (Or.inl ⟨rfl, ⟨lb0, by omega⟩, el.symm, rfl⟩)) rt (d1' := -1) (d2' := -1) (fun l l0 _ z => by omega) (m' := i.toInt) (by omega) (Int.le_refl _) (Int.le_refl _)
  have p1 := zW_p (ρ' := zsh so bs φ τ ((2, k) :: σ0.1) (zg en (bs + k)) (zg en (bs + k)) 0 0 1) p8 e1 e2 e3 (by
    have y : φ = 0 → τ.2.1 ≤ (zsh so bs φ τ ((2, k) :: σ0.1) (zg en (bs + k)) (zg en (bs + k)) 0 0 1).2.1 + 0 ∧ τ.2.2.1 ≤ (zsh so bs φ τ ((2, k) :: σ0.1) (zg en (bs + k)) (zg en (bs + k)) 0 0 1).2.2.1 + 0 ∧ τ.2.2.2 ≤ (zsh so bs φ τ ((2, k) :: σ0.1) (zg en (bs + k)) (zg en (bs + k)) 0 0 1).2.2.2 - 1 := by
      intro e; refine ⟨?_, ?_, ?_⟩
      · show τ.2.1 ≤ τ.2.1 + _ - _ + 0 + 0; omega
      · show τ.2.2.1 ≤ τ.2.2.1 + _ - _ + 0 + 0; omega
      · show τ.2.2.2 ≤ τ.2.2.2 + _ - _ + 1 - 1; omega
    rw [ha1]
    rcases ho1 with e | e | e | e <;> rw [e]
    · exact zO_14 ⟨by omega, by omega⟩ g1 y p0 ⟨k0, k1⟩ ⟨_, rfl⟩
    · exact zO_16 ⟨by omega, by omega⟩ p0 ⟨k0, k1⟩ ⟨_, rfl⟩
    · exact zO_18 ⟨by omega, by omega⟩ g1 y p0 ⟨k0, k1⟩ ⟨_, rfl⟩
    · exact zO_20 ⟨by omega, by omega⟩ p0 ⟨k0, k1⟩ ⟨_, rfl⟩) (zRg_sh hSl rt ck1 (by omega) (by omega) (Int.le_refl _) f2 (by omega) (by omega) (by omega) (by omega)) (d1' := -1) (d2' := -1) (fun l l0 _ z => by omega) (m' := i1.toInt) (by omega) (Int.le_refl _) (Int.le_refl _)
  have p2 := zW_p (ρ' := zsh so bs φ τ ((2, k) :: σ0.1) (k + 1) (zg en (bs + k)) 0 0 1) p1 e4 e5 e6 (by
    rw [ho2, ha2]
    have := zNt_c (φ := φ) (τ := τ) (e := zg en (bs + k)) (u := 0) (r := 0) (x := 1) (u' := 0) (r' := 0) (x' := 1) hSl ck1 (by omega) x1 (Int.le_refl _) (Int.le_refl _) (Int.le_refl _)
    rw [f7] at this
    exact Or.inl ⟨rfl, this⟩) (zRg_sh hSl rt ck1 (by omega) (by omega) (by omega) f2 (by omega) (by omega) (by omega) (by omega)) (d1' := -1) (d2' := -1) (fun l l0 _ z => by omega) (m' := i2.toInt) (by omega) (Int.le_refl _) (Int.le_refl _)
  have p3 := zW_p (ρ' := σ0) p2 e7 e8 e9 (by
    have y1 : (zsh so bs φ τ ((2, k) :: σ0.1) (k + 1) (zg en (bs + k)) 0 0 1).2.1 ≤ σ0.2.1 + 50 := by show τ.2.1 + _ - _ + 0 ≤ _; omega
    have y2 : (zsh so bs φ τ ((2, k) :: σ0.1) (k + 1) (zg en (bs + k)) 0 0 1).2.2.1 ≤ σ0.2.2.1 + 30 := by show τ.2.2.1 + _ - _ + 0 ≤ _; omega
    have y3 : (zsh so bs φ τ ((2, k) :: σ0.1) (k + 1) (zg en (bs + k)) 0 0 1).2.2.2 ≤ 1000 := by show τ.2.2.2 + _ - _ + 1 ≤ _; omega
    have hf : zFree (470 + k) σ0.1 ∧ zFree (690 + k) σ0.1 ∧ (b3.toInt = -1 ∨ (0 ≤ b3.toInt ∧ b3.toInt < lb' ∧ zn φ σ0.1 ((fun l => if l = lb then τ else Λ l) b3.toInt) (σ0.2.1 + 50) (σ0.2.2.1 + 30) 1000)) := by
      refine ⟨zCk_nd hSl k1 (Or.inl rfl) k0 ck, zCk_nd hSl k1 (Or.inr rfl) k0 ck, ?_⟩
      rcases hb3 with e | e
      · exact Or.inl e
      · refine Or.inr ⟨by omega, by omega, ?_⟩
        rw [e, el]; exact ⟨g1, fun _ => ⟨by omega, by omega, rt.2.2.2.1⟩⟩
    rw [ha3]
    rcases ho3 with e | e | e <;> rw [e]
    · exact zO_13 ⟨by omega, by omega⟩ rfl (fun _ => ⟨by omega, by omega, y3⟩) p0 ⟨k0, k1⟩ hf
    · exact zO_15 ⟨by omega, by omega⟩ rfl (fun _ => ⟨by omega, by omega, y3⟩) p0 ⟨k0, k1⟩ hf
    · exact zO_17 ⟨by omega, by omega⟩ rfl (fun _ => ⟨by omega, by omega, y3⟩) p0 ⟨k0, k1⟩ hf) r0 (d1' := -1) (d2' := -1) (fun l l0 _ z => by omega) hm (Int.le_refl _) (Int.le_refl _)
  have c0 : zc1 Z o0.toInt a0.toInt = 1 := zc1_o (by omega)
  have c1 : zc1 Z o1.toInt a1.toInt = 1 := zc1_o (by omega)
  have c3 : zc1 Z o3.toInt a3.toInt = 1 := zc1_o (by omega)
  have c2 : zc1 Z o2.toInt a2.toInt = 12 * Z (k + 1) - 4 := by rw [ho2, ha2]; exact zc1_n
  exact zW_o p3 hge (by omega) (fun e => by omega)
