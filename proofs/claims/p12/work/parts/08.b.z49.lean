def zL6 (so va en ac aA aB la ta tA tB : Nat → Int32) (Z : Int → Int) (bs n φ N lb m : Int) (C : Int → zT) (σ σ0 τ : zT) (k B1 : Int) : Prop := ∃ (Λ : Int → zT) (B2 : Int), zW so va en ac aA aB la ta tA tB Z bs n φ N (lb + 2) m C Λ σ (zsh so bs φ τ (zGc va bs k σ0.1) (zg en (bs + k)) (zg en (bs + k)) 1 0 (zcx va bs k + 2)) (-1) (-1) (B1 + 12 * Z (k + 1) + 4) B2
set_option maxHeartbeats 1000000 in
theorem zJ_3 {so va le mo ho pa en fp pb pe ac aA aB la ta tA tB ta0 tA0 tB0 ta1 tA1 tB1 ta2 tA2 tB2 ta3 tA3 tB3 ta4 tA4 tB4 ta5 tA5 tB5 ta6 tA6 tB6 : Nat → Int32} {Z : Int → Int} {bs q n c φ N lb m0 m' : Int} {C Λ : Int → zT} {σ σ0 τ : zT} {k B1 B2 : Int} {i1 i2 i3 i4 i5 i6 o1 a1 b1 o2 a2 b2 o3 a3 b3 o4 a4 b4 o5 a5 b5 o6 a6 b6 : Int32} (h0 : zND so va le mo ho pa en fp pb pe ac aA aB la ta0 tA0 tB0 Z bs q n c φ N lb m0 C Λ σ σ0 τ k B1 B2) (h : zL4 so va en ac aA aB la ta tA tB Z bs n φ N lb i1.toInt C σ σ0 τ k B1 B2) (e11 : ta1 = upd ta i1.toNatClampNeg o1) (e12 : tA1 = upd tA i1.toNatClampNeg a1) (e13 : tB1 = upd tB i1.toNatClampNeg b1) (e21 : ta2 = upd ta1 i2.toNatClampNeg o2) (e22 : tA2 = upd tA1 i2.toNatClampNeg a2) (e23 : tB2 = upd tB1 i2.toNatClampNeg b2) (e31 : ta3 = upd ta2 i3.toNatClampNeg o3) (e32 : tA3 = upd tA2 i3.toNatClampNeg a3) (e33 : tB3 = upd tB2 i3.toNatClampNeg b3) (e41 : ta4 = upd ta3 i4.toNatClampNeg o4) (e42 : tA4 = upd tA3 i4.toNatClampNeg a4) (e43 : tB4 = upd tB3 i4.toNatClampNeg b4) (e51 : ta5 = upd ta4 i5.toNatClampNeg o5) (e52 : tA5 = upd tA4 i5.toNatClampNeg a5) (e53 : tB5 = upd tB4 i5.toNatClampNeg b5) (e61 : ta6 = upd ta5 i6.toNatClampNeg o6) (e62 : tA6 = upd tA5 i6.toNatClampNeg a6) (e63 : tB6 = upd tB5 i6.toNatClampNeg b6) (hs : zg so (bs + k) = 7) (p0 : φ = 0) (ho : o1.toInt = 101 ∧ o2.toInt = 10 ∧ o3.toInt = 100 ∧ o4.toInt = 9 ∧ o5.toInt = 101 ∧ o6.toInt = 8) (ha : a1.toInt = lb + 1 ∧ a2.toInt = k ∧ a3.toInt = k + 1 ∧ a4.toInt = k ∧ a5.toInt = lb ∧ a6.toInt = k) (hb : b2.toInt = lb ∧ b4.toInt = lb + 1) (hi : i2.toInt = i1.toInt + 1 ∧ i3.toInt = i2.toInt + 1 ∧ i4.toInt = i3.toInt + 1 ∧ i5.toInt = i4.toInt + 1 ∧ i6.toInt = i5.toInt + 1 ∧ m' = i6.toInt + 1) : zL6 so va en ac aA aB la ta6 tA6 tB6 Z bs n φ N lb m' C σ σ0 τ k B1 := by
  obtain ⟨Λ2, l1, l2, hW⟩ := h
  obtain ⟨ck, cc, t1, t2, t3, t9, _, _, lb0, _, g1⟩ := zJ_f h0 hs p0
  obtain ⟨⟨x0, x1, x2⟩, f7, f6, f2, m4, m5, m6, t0, s1⟩ := zN_1 h0 (by omega)
  obtain ⟨_, hSl, _, _, hN, _, _, rt, _⟩ := h0
  obtain ⟨ho1, ho2, ho3, ho4, ho5, ho6⟩ := ho
  obtain ⟨ha1, ha2, ha3, ha4, ha5, ha6⟩ := ha
  obtain ⟨hb2, hb4⟩ := hb
  obtain ⟨hi2, hi3, hi4, hi5, hi6, hm⟩ := hi
  have rg : ∀ p u x : Int, (p = k + 1 ∨ p = zg en (bs + k)) → 0 ≤ u → 0 ≤ x → x ≤ 3 → zRg (zsh so bs φ τ (zGc va bs k σ0.1) p (zg en (bs + k)) u 0 x) := fun p u x hp u0 x0 x3 => by
    rcases hp with e | e <;> subst e
    · exact zRg_sh hSl rt ck (by omega) (by omega) (by omega) f2 u0 (by omega) x0 (by omega)
    · exact zRg_sh hSl rt ck (by omega) (by omega) (by omega) f2 u0 (by omega) x0 (by omega)
  have p1 := zW_p hW e11 e12 e13 (by rw [ho1, ha1]; exact Or.inr (Or.inl ⟨rfl, ⟨by omega, by omega⟩, l2.symm, rfl⟩)) (rg _ _ _ (Or.inr rfl) (Int.le_refl _) cc.1 (by omega)) (d1' := lb) (d2' := -1) (fun l l0 _ z => by omega) (m' := i2.toInt) (by omega) (Int.le_refl _) (Int.le_refl _)
  have p2 := zW_p (ρ' := zsh so bs φ τ (zGc va bs k σ0.1) (zg en (bs + k)) (zg en (bs + k)) 1 0 (zcx va bs k + 2)) p1 e21 e22 e23 (by
    rw [ho2, ha2, hb2]
    refine zO_10 ⟨by omega, by omega⟩ p0 ⟨by omega, by omega⟩ ⟨by omega, by omega, ?_⟩
    rw [l1]; refine ⟨rfl, fun _ => ⟨Int.le_refl _, Int.le_refl _, ?_⟩⟩
    show τ.2.2.2 + _ - _ + (zcx va bs k + 1) ≤ τ.2.2.2 + _ - _ + (zcx va bs k + 2) - 1; omega) (rg _ _ _ (Or.inr rfl) (by omega) (by omega) (by omega)) (d1' := lb) (d2' := -1) (fun l l0 _ z => Or.inl z) (m' := i3.toInt) (by omega) (Int.le_refl _) (Int.le_refl _)
  have p3 := zW_p (ρ' := zsh so bs φ τ (zGc va bs k σ0.1) (k + 1) (zg en (bs + k)) 1 0 (zcx va bs k + 2)) p2 e31 e32 e33 (by
    rw [ho3, ha3]
    have := zNt_c (φ := φ) (τ := τ) (e := zg en (bs + k)) (u := 1) (r := 0) (x := zcx va bs k + 2) (u' := 1) (r' := 0) (x' := zcx va bs k + 2) hSl ck (by omega) x1 (Int.le_refl _) (Int.le_refl _) (Int.le_refl _)
    rw [f7] at this
    exact Or.inl ⟨rfl, this⟩) (rg _ _ _ (Or.inl rfl) (by omega) (by omega) (by omega)) (d1' := lb) (d2' := -1) (fun l l0 _ z => Or.inl z) (m' := i4.toInt) (by omega) (Int.le_refl _) (Int.le_refl _)
  have p4 := zW_p (ρ' := zsh so bs φ τ (zGc va bs k σ0.1) (zg en (bs + k)) (zg en (bs + k)) 1 0 (zcx va bs k + 1)) p3 e41 e42 e43 (by
    rw [ho4, ha4, hb4]
    refine zO_9 ⟨by omega, by omega⟩ rfl (fun _ => ⟨?_, ?_, ?_⟩) p0 ⟨by omega, by omega⟩ ⟨by omega, by omega, ?_⟩
    · show τ.2.1 + _ - _ + 1 ≤ τ.2.1 + _ - _ + 1 + 51; omega
    · show τ.2.2.1 + _ - _ + 0 ≤ τ.2.2.1 + _ - _ + 0 + 30; omega
    · show τ.2.2.2 + _ - _ + (zcx va bs k + 2) ≤ 1000; omega
    · rw [l2]; refine ⟨rfl, fun _ => ⟨?_, Int.le_refl _, ?_⟩⟩
      · show τ.2.1 + _ - _ + 0 ≤ τ.2.1 + _ - _ + 1 - 1; omega
      · show τ.2.2.2 + _ - _ + zcx va bs k ≤ τ.2.2.2 + _ - _ + (zcx va bs k + 1) - 1; omega) (rg _ _ _ (Or.inr rfl) (by omega) (by omega) (by omega)) (d1' := lb) (d2' := -1) (fun l l0 _ z => Or.inl z) (m' := i5.toInt) (by omega) (Int.le_refl _) (Int.le_refl _)
  have p5 := zW_p p4 e51 e52 e53 (by rw [ho5, ha5]; exact Or.inr (Or.inl ⟨rfl, ⟨by omega, by omega⟩, l1.symm, rfl⟩)) (rg _ _ _ (Or.inr rfl) (by omega) (by omega) (by omega)) (d1' := -1) (d2' := -1) (fun l l0 _ z => by omega) (m' := i6.toInt) (by omega) (Int.le_refl _) (Int.le_refl _)
  have c1 : zc1 Z o1.toInt a1.toInt = 1 := zc1_o (by omega)
  have c2 : zc1 Z o2.toInt a2.toInt = 1 := zc1_o (by omega)
  have c3 : zc1 Z o3.toInt a3.toInt = 12 * Z (k + 1) - 4 := by rw [ho3, ha3]; exact zc1_n
  have c4 : zc1 Z o4.toInt a4.toInt = 1 := zc1_o (by omega)
  have c5 : zc1 Z o5.toInt a5.toInt = 1 := zc1_o (by omega)
  have c6 : zc1 Z o6.toInt a6.toInt = 1 := zc1_o (by omega)
  refine ⟨Λ2, _, zW_p p5 e61 e62 e63 ?_ (rg _ _ _ (Or.inr rfl) (by omega) (by omega) (by omega)) (fun l l0 _ z => Or.inl z) hm (by omega) (Int.le_refl _)⟩
  rw [ho6, ha6]
  refine zO_8 ⟨by omega, by omega⟩ rfl (fun _ => ⟨?_, ?_, ?_⟩) p0 ⟨by omega, by omega⟩
  · show τ.2.1 + _ - _ + 1 ≤ τ.2.1 + _ - _ + 1 + 0; omega
  · show τ.2.2.1 + _ - _ + 0 ≤ τ.2.2.1 + _ - _ + 0 + 0; omega
  · show τ.2.2.2 + _ - _ + (zcx va bs k + 1) ≤ τ.2.2.2 + _ - _ + (zcx va bs k + 2) - 1; omega
theorem zJ_4 {so va le mo ho pa en fp pb pe ac aA aB la ta tA tB ta0 tA0 tB0 : Nat → Int32} {Z : Int → Int} {bs q n c φ N lb lb' m0 m : Int} {C Λ : Int → zT} {σ σ0 τ : zT} {k B1 B2 : Int} (h0 : zND so va le mo ho pa en fp pb pe ac aA aB la ta0 tA0 tB0 Z bs q n c φ N lb m0 C Λ σ σ0 τ k B1 B2) (h : zL6 so va en ac aA aB la ta tA tB Z bs n φ N lb m C σ σ0 τ k B1) (hs : zg so (bs + k) = 7) (p0 : φ = 0) (hv : zg va (bs + k) ≠ 2) (hl : lb' = lb + 2) : zWp so va en ac aA aB la ta tA tB Z bs n φ N lb' m C σ k B1 B2 := by
  obtain ⟨Λ2, B, hW⟩ := h
  obtain ⟨ck, cc, t1, t2, t3, t9, z1, z2, lb0, _, g1⟩ := zJ_f h0 hs p0
  obtain ⟨⟨x0, x1, x2⟩, f7, f6, f2, m4, m5, m6, t0, s1⟩ := zN_1 h0 (by omega)
  obtain ⟨_, _, _, _, hN, hge, _⟩ := h0
  have eG : zGc va bs k σ0.1 = σ0.1 := if_neg hv
  have ec : zcx va bs k = 0 := if_neg hv
  subst hl
  refine zW_o hW (zge_tr hge ?_) (by omega) (fun e => by omega)
  rw [eG, ec]
  refine ⟨rfl, fun _ => ⟨?_, ?_, ?_⟩⟩
  · show τ.2.1 + _ - _ + 1 ≤ σ0.2.1; omega
  · show τ.2.2.1 + _ - _ + 0 ≤ σ0.2.2.1; omega
  · show τ.2.2.2 + _ - _ + (0 + 2) ≤ σ0.2.2.2; omega
theorem zJ_5 {so va le mo ho pa en fp pb pe ac aA aB la ta tA tB ta0 tA0 tB0 ta1 tA1 tB1 : Nat → Int32} {Z : Int → Int} {bs q n c φ N lb lb' m0 m' : Int} {C Λ : Int → zT} {σ σ0 τ : zT} {k B1 B2 : Int} {i o1 a1 b1 : Int32} (h0 : zND so va le mo ho pa en fp pb pe ac aA aB la ta0 tA0 tB0 Z bs q n c φ N lb m0 C Λ σ σ0 τ k B1 B2) (h : zL6 so va en ac aA aB la ta tA tB Z bs n φ N lb i.toInt C σ σ0 τ k B1) (e1 : ta1 = upd ta i.toNatClampNeg o1) (e2 : tA1 = upd tA i.toNatClampNeg a1) (e3 : tB1 = upd tB i.toNatClampNeg b1) (hs : zg so (bs + k) = 7) (p0 : φ = 0) (hv : zg va (bs + k) = 2) (hl : lb' = lb + 2) (ho1 : o1.toInt = 11) (ha1 : a1.toInt = k) (hm : m' = i.toInt + 1) : zWp so va en ac aA aB la ta1 tA1 tB1 Z bs n φ N lb' m' C σ k B1 B2 := by
  obtain ⟨Λ2, B, hW⟩ := h
  obtain ⟨ck, cc, t1, t2, t3, t9, z1, z2, lb0, ck0, g1⟩ := zJ_f h0 hs p0
  obtain ⟨⟨x0, x1, x2⟩, f7, f6, f2, m4, m5, m6, t0, s1⟩ := zN_1 h0 (by omega)
  obtain ⟨_, hSl, _, _, hN, hge, r0, _⟩ := h0
  have eG : zGc va bs k σ0.1 = (1, k) :: σ0.1 := if_pos hv
  have c1 : zc1 Z o1.toInt a1.toInt = 1 := zc1_o (by omega)
  subst hl
  refine zW_o (zW_p (ρ' := σ0) hW e1 e2 e3 ?_ r0 (d1' := -1) (d2' := -1) (fun l l0 _ z => Or.inl z) hm (Int.le_refl _) (Int.le_refl _)) hge (by omega) (fun e => by omega)
  rw [ho1, ha1]
  refine zO_11 ⟨by omega, by omega⟩ ?_ (fun _ => ⟨?_, ?_, ?_⟩) p0 ⟨by omega, by omega⟩ (zCk_nd hSl (by omega) (Or.inl rfl) (by omega) ck0)
  · show zGc va bs k σ0.1 = _; exact eG
  · show τ.2.1 + _ - _ + 1 ≤ σ0.2.1 + 52; omega
  · show τ.2.2.1 + _ - _ + 0 ≤ σ0.2.2.1 + 32; omega
  · show τ.2.2.2 + _ - _ + (zcx va bs k + 2) ≤ 1000; omega
