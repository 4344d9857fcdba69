def zqf (φ : Int) : Int := if φ = 0 then 1 else 0
theorem zqf_b {φ : Int} : 0 ≤ zqf φ ∧ zqf φ ≤ 1 ∧ (φ = 0 → zqf φ = 1) := by unfold zqf; split <;> omega
theorem zh_q {so va le mo ho pa en fp pb pe : Nat → Int32} {b q n c φ k : Int} (h : zSl so va le mo ho pa en fp pb pe b q n c) (k0 : 0 ≤ k) (k1 : k < n) (hφ : φ = 0 ∨ φ = 1) : (zg so (b + k) = 7 → zhL so b φ k + zqf φ ≤ zhL so b φ (k + 1)) ∧ (zg so (b + k) = 8 → zhC so b φ k + 3 * zqf φ ≤ zhC so b φ (k + 1)) ∧ zhX φ (k + 1) = zhX φ k + 4 * zqf φ ∧ zhL so b φ k ≤ zhL so b φ (k + 1) ∧ zhC so b φ k ≤ zhC so b φ (k + 1) := by
  obtain ⟨⟨m1, _⟩, ⟨m2, _⟩, m3, _⟩ := zh_m (φ := φ) h k0 (show k ≤ k + 1 by omega) (by omega)
  rcases hφ with e | e
  · have q1 : zqf φ = 1 := if_pos e
    obtain ⟨a1, a2, a3⟩ := zh_1 (so := so) (b := b) k0 e
    exact ⟨fun z => by have := a1 z; omega, fun z => by have := a2 z; omega, by omega, m1, m2⟩
  · have q1 : zqf φ = 0 := if_neg (by omega)
    have e1 : zhX φ (k + 1) = 0 := if_neg (by omega)
    have e2 : zhX φ k = 0 := if_neg (by omega)
    exact ⟨fun z => by omega, fun z => by omega, by omega, m1, m2⟩
theorem zN_1 {so va le mo ho pa en fp pb pe ac aA aB la ta tA tB : Nat → Int32} {Z : Int → Int} {bs q n c φ N lb m : Int} {C Λ : Int → zT} {σ σ0 τ : zT} {k B1 B2 : Int} (h : zND so va le mo ho pa en fp pb pe ac aA aB la ta tA tB Z bs q n c φ N lb m C Λ σ σ0 τ k B1 B2) (h7 : 7 ≤ zg so (bs + k)) : (0 ≤ k ∧ k + 1 < n ∧ n ≤ 220) ∧ zg en (bs + (k + 1)) = zg en (bs + k) ∧ k + 1 < zg en (bs + k) ∧ zg en (bs + k) ≤ n ∧ (zhL so bs φ (k + 1) ≤ zhL so bs φ (zg en (bs + k)) ∧ zhL so bs φ (zg en (bs + k)) ≤ zhL so bs φ (k + 1) + 50) ∧ (zhC so bs φ (k + 1) ≤ zhC so bs φ (zg en (bs + k)) ∧ zhC so bs φ (zg en (bs + k)) ≤ zhC so bs φ (k + 1) + 27) ∧ zhX φ (k + 1) ≤ zhX φ (zg en (bs + k)) ∧ (0 ≤ τ.2.1 ∧ 0 ≤ τ.2.2.1 ∧ 0 ≤ τ.2.2.2) ∧ σ0.2.2.2 ≤ 1000 := by
  obtain ⟨⟨hφ, hb⟩, hSl, hZ, hz, hN, hge, r0, rt, hW⟩ := h
  obtain ⟨⟨k0, k1⟩, ck, g1, n1, n2, n3⟩ := hN
  obtain ⟨_, ⟨f1, f2⟩, _, f6, f7, fv, _, _⟩ := zNf hSl k0 k1
  have f6 := f6 (by omega)
  have f7 := f7 (by omega)
  obtain ⟨m4, m5, m6, _⟩ := zh_m (φ := φ) hSl (show 0 ≤ k + 1 by omega) (show k + 1 ≤ zg en (bs + k) by omega) (by omega)
  exact ⟨⟨k0, by omega, hSl.2.1⟩, f7, f6, f2, m4, m5, m6, ⟨rt.1, rt.2.1, rt.2.2.1⟩, r0.2.2.2.1⟩
theorem zN_k {so va le mo ho pa en fp pb pe ac aA aB la ta tA tB ta1 tA1 tB1 ta2 tA2 tB2 ta3 tA3 tB3 : Nat → Int32} {Z : Int → Int} {bs q n c φ N lb m' : Int} {C Λ : Int → zT} {σ σ0 τ : zT} {k B1 B2 : Int} {i i1 i2 o1 a1 b1 o2 a2 b2 o3 a3 b3 : Int32} (h : zND so va le mo ho pa en fp pb pe ac aA aB la ta tA tB Z bs q n c φ N lb i.toInt C Λ σ σ0 τ k B1 B2) (e1 : ta1 = upd ta i.toNatClampNeg o1) (e2 : tA1 = upd tA i.toNatClampNeg a1) (e3 : tB1 = upd tB i.toNatClampNeg b1) (e4 : ta2 = upd ta1 i1.toNatClampNeg o2) (e5 : tA2 = upd tA1 i1.toNatClampNeg a2) (e6 : tB2 = upd tB1 i1.toNatClampNeg b2) (e7 : ta3 = upd ta2 i2.toNatClampNeg o3) (e8 : tA3 = upd tA2 i2.toNatClampNeg a3) (e9 : tB3 = upd tB2 i2.toNatClampNeg b3) (hs : zg so (bs + k) = 8) (ho1 : o1.toInt = 7) (ho2 : o2.toInt = 100) (ho3 : o3.toInt = 6) (ha1 : a1.toInt = zg va (bs + k)) (ha2 : a2.toInt = k + 1) (ha3 : a3.toInt = zg va (bs + k)) (hi1 : i1.toInt = i.toInt + 1) (hi2 : i2.toInt = i1.toInt + 1) (hm : m' = i2.toInt + 1) : zWp so va en ac aA aB la ta3 tA3 tB3 Z bs n φ N lb m' C σ k B1 B2 := by
  obtain ⟨⟨x0, x1, x2⟩, f7, f6, f2, m4, m5, m6, t0, s1⟩ := zN_1 h (by omega)
  obtain ⟨⟨hφ, hb⟩, hSl, hZ, hz, hN, hge, r0, rt, hW⟩ := h
  have hN2 := hN
  obtain ⟨⟨k0, k1⟩, ck, g1, n1, n2, n3⟩ := hN2
  obtain ⟨_, _, _, _, _, fv, fc, _⟩ := zNf hSl k0 k1
  have fv := fv (by omega)
  have fc := fc hs
  obtain ⟨q1, q2, q3, q4, q5⟩ := zh_q (φ := φ) hSl k0 k1 hφ
  have q2 := q2 hs
  obtain ⟨u0, u1, u2⟩ := @zqf_b φ
  obtain ⟨z1, z2, z3⟩ := zZ_1 hSl hZ k0 k1 (by omega) hz (Or.inr (by omega))
  have ck1 : zCk so va bs ((0, zg va (bs + k)) :: σ0.1) (k + 1) := ⟨Or.inl ⟨rfl, k, k0, by omega, hs, rfl⟩, zCk_m (by omega) ck⟩
  have p1 := zW_p (ρ' := zsh so bs φ τ ((0, zg va (bs + k)) :: σ0.1) (zg en (bs + k)) (zg en (bs + k)) 0 (2 * zqf φ) (zqf φ)) hW e1 e2 e3 (by
    rw [ho1, ha1]
    refine zO_7 ⟨by omega, by omega⟩ g1 (fun e => ⟨?_, ?_, ?_⟩) ⟨by omega, by omega⟩ ⟨_, rfl⟩
    · show τ.2.1 ≤ τ.2.1 + _ - _ + 0 + 0; omega
    · have := u2 e; show τ.2.2.1 ≤ τ.2.2.1 + _ - _ + 2 * zqf φ + (-2); omega
    · have := u2 e; show τ.2.2.2 ≤ τ.2.2.2 + _ - _ + zqf φ - 1; omega) (zRg_sh hSl rt ck1 (by omega) (by omega) (Int.le_refl _) f2 (by omega) (by omega) (by omega) (by omega)) (d1' := -1) (d2' := -1) (fun l l0 _ z => by omega) (m' := i1.toInt) (by omega) (Int.le_refl _) (Int.le_refl _)
  have p2 := zW_p (ρ' := zsh so bs φ τ ((0, zg va (bs + k)) :: σ0.1) (k + 1) (zg en (bs + k)) 0 (2 * zqf φ) (zqf φ)) p1 e4 e5 e6 (by
    rw [ho2, ha2]
    have := zNt_c (φ := φ) (τ := τ) (e := zg en (bs + k)) (u := 0) (r := 2 * zqf φ) (x := zqf φ) (u' := 0) (r' := 2 * zqf φ) (x' := zqf φ) hSl ck1 (by omega) x1 (Int.le_refl _) (Int.le_refl _) (Int.le_refl _)
    rw [f7] at this
    exact Or.inl ⟨rfl, this⟩) (zRg_sh hSl rt ck1 (by omega) (by omega) (by omega) f2 (by omega) (by omega) (by omega) (by omega)) (d1' := -1) (d2' := -1) (fun l l0 _ z => by omega) (m' := i2.toInt) (by omega) (Int.le_refl _) (Int.le_refl _)
  have p3 := zW_p (ρ' := σ0) p2 e7 e8 e9 (by
    rw [ho3, ha3]
    refine zO_6 ⟨by omega, by omega⟩ rfl (fun e => ⟨?_, ?_, ?_⟩) ⟨by omega, by omega⟩ (zCk_cp hSl k0 k1 hs ck)
    · show τ.2.1 + _ - _ + 0 ≤ σ0.2.1 + 0; omega
    · have := u2 e; show τ.2.2.1 + _ - _ + 2 * zqf φ ≤ σ0.2.2.1 + (-1); omega
    · have := u2 e; show τ.2.2.2 + _ - _ + zqf φ ≤ σ0.2.2.2 - 1; omega) r0 (d1' := -1) (d2' := -1) (fun l l0 _ z => by omega) hm (Int.le_refl _) (Int.le_refl _)
  have c1 : zc1 Z o1.toInt a1.toInt = 1 := zc1_o (by omega)
  have c3 : zc1 Z o3.toInt a3.toInt = 1 := zc1_o (by omega)
  have c2 : zc1 Z o2.toInt a2.toInt = 12 * Z (k + 1) - 4 := by rw [ho2, ha2]; exact zc1_n
  have d2 : zc2 Z o2.toInt a2.toInt = 4 * Z (k + 1) - 3 := by rw [ho2, ha2]; exact zc2_n
  have d1 : zc2 Z o1.toInt a1.toInt = 2 := by rw [ho1]; rfl
  have d3 : zc2 Z o3.toInt a3.toInt = 2 := by rw [ho3]; rfl
  exact zW_o p3 hge (by omega) (fun _ => by omega)
