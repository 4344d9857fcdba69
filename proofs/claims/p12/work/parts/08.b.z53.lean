def zT0 (le mo : Nat → Int32) (g : Int) : Int := if zg mo g = -1 then 1 else zg mo g - zg le g
def zT1 (mo : Nat → Int32) (g : Int) : Int := if zg mo g = -1 then 1 else 0
def zCp (so va en ac aA aB la ta tA tB : Nat → Int32) (Z : Int → Int) (bs n φ N lb m : Int) (C : Int → zT) (σ τ : zT) (ll k t B1 B2 : Int) : Prop := ∃ (Λ : Int → zT) (B : Int), Λ ll = τ ∧ (0 ≤ ll ∧ ll < lb) ∧ zW so va en ac aA aB la ta tA tB Z bs n φ N lb m C Λ σ τ (-1) (-1) (B1 + 6 + 12 * (t * Z (k + 1))) B ∧ B ≤ B2 + 4 * (t * Z (k + 1))
theorem zN_lm {so va le mo ho pa en fp pb pe ac aA aB la ta tA tB : Nat → Int32} {Z : Int → Int} {bs q n c φ N lb m : Int} {C Λ : Int → zT} {σ σ0 τ : zT} {k B1 B2 : Int} (h : zND so va le mo ho pa en fp pb pe ac aA aB la ta tA tB Z bs q n c φ N lb m C Λ σ σ0 τ k B1 B2) : (0 ≤ zg le (bs + k) ∧ zg le (bs + k) ≤ 20) ∧ (-1 ≤ zg mo (bs + k) ∧ zg mo (bs + k) ≤ 20) ∧ (zg mo (bs + k) = -1 ∨ zg le (bs + k) ≤ zg mo (bs + k)) := by
  obtain ⟨_, hSl, _, _, hN, _⟩ := h
  obtain ⟨p, _, ⟨_, _, d3, d4, d5, d6, _⟩, _⟩ := zS_nd hSl hN.1.1 hN.1.2
  exact ⟨⟨d3, d4⟩, ⟨d5, d6.1⟩, d6.2⟩
theorem zNt_f {so va le mo ho pa en fp pb pe ac aA aB la ta tA tB : Nat → Int32} {Z : Int → Int} {bs q n c φ N lb m : Int} {C Λ : Int → zT} {σ σ0 τ : zT} {k B1 B2 : Int} (h : zND so va le mo ho pa en fp pb pe ac aA aB la ta tA tB Z bs q n c φ N lb m C Λ σ σ0 τ k B1 B2) (hs : zg so (bs + k) = 7) (p1 : φ = 1) : zNt so va en bs n φ (k + 1) τ τ ∧ zRg τ ∧ 1 ≤ Z (k + 1) ∧ 1 + zby so le mo (bs + k) * Z (k + 1) ≤ Z k ∧ zge φ σ τ ∧ 0 ≤ lb ∧ n ≤ 220 ∧ (0 ≤ k ∧ k + 1 < n) := by
  obtain ⟨⟨x0, x1, x2⟩, _⟩ := zN_1 h (by omega)
  obtain ⟨_, hSl, hZ, hz, hN, hge, r0, rt, hW⟩ := h
  obtain ⟨⟨k0, k1⟩, ck, g1, n1, n2, n3⟩ := hN
  have q : ∀ y : Int, zhL so bs φ y = 0 ∧ zhC so bs φ y = 0 ∧ zhX φ y = 0 := fun y => ⟨if_neg (by omega), if_neg (by omega), if_neg (by omega)⟩
  refine ⟨⟨⟨by omega, x1⟩, by rw [g1]; exact zCk_m (by omega) ck, rfl, ?_, ?_, ?_⟩, rt, (hZ _ (by omega) x1).1, ((hZ k k0 k1).2 hz).2 p1 hs, zge_tr hge ⟨g1, fun e => by omega⟩, hW.2.1, x2, ⟨x0, x1⟩⟩
  · rw [(q _).1, (q _).1]; omega
  · rw [(q _).2.1, (q _).2.1]; omega
  · rw [(q _).2.2, (q _).2.2]; omega
theorem zCp_0 {so va le mo ho pa en fp pb pe ac aA aB la ta tA tB ta1 tA1 tB1 : Nat → Int32} {Z : Int → Int} {bs q n c φ N lb lb' m' ll : Int} {C Λ : Int → zT} {σ σ0 τ : zT} {k t B1 B2 : Int} {i o1 a1 b1 : Int32} (h : zND so va le mo ho pa en fp pb pe ac aA aB la ta tA tB Z bs q n c φ N lb i.toInt C Λ σ σ0 τ k B1 B2) (e1 : ta1 = upd ta i.toNatClampNeg o1) (e2 : tA1 = upd tA i.toNatClampNeg a1) (e3 : tB1 = upd tB i.toNatClampNeg b1) (hs : zg so (bs + k) = 7) (p1 : φ = 1) (ho1 : o1.toInt = 101) (ha1 : a1.toInt = lb) (hl : lb' = lb + 1) (hm : m' = i.toInt + 1) (hll : ll = lb) (ht : t = 0) : ∃ (Λ : Int → zT) (B : Int), Λ ll = τ ∧ (0 ≤ ll ∧ ll < lb') ∧ zW so va en ac aA aB la ta1 tA1 tB1 Z bs n φ N lb' m' C Λ σ τ (-1) (-1) (B1 + 2 + 12 * (t * Z (k + 1))) B ∧ B ≤ B2 + 4 * (t * Z (k + 1)) := by
  obtain ⟨_, rt, _, _, _, lb0, _⟩ := zNt_f h hs p1
  obtain ⟨_, _, _, _, _, _, _, _, hW⟩ := h
  subst hll; subst ht
  rw [Int.zero_mul]
  have p9 := zW_n hW τ hl (d1' := ll) (d2' := -1) (fun l l0 z => by omega) (Int.le_refl _)
  have el : (fun l => if l = ll then τ else Λ l) ll = τ := if_pos rfl
  have d3 : zc2 Z o1.toInt a1.toInt = 0 := by rw [ho1]; rfl
  have d1 : zc1 Z o1.toInt a1.toInt = 1 := zc1_o (by omega)
  exact ⟨_, B2 + zc2 Z o1.toInt a1.toInt, el, ⟨lb0, by omega⟩, zW_p p9 e1 e2 e3 (by rw [ho1, ha1]; exact Or.inr (Or.inl ⟨rfl, ⟨lb0, by omega⟩, el.symm, rfl⟩)) rt (fun l l0 _ z => by omega) hm (by omega) (Int.le_refl _), by omega⟩
theorem zCp_n {so va le mo ho pa en fp pb pe ac aA aB la ta tA tB ta0 tA0 tB0 ta1 tA1 tB1 : Nat → Int32} {Z : Int → Int} {bs q n c φ N lb lb0 m0 m' ll : Int} {C Λ : Int → zT} {σ σ0 τ : zT} {k t t' B1 B2 : Int} {i o1 a1 b1 : Int32} (h0 : zND so va le mo ho pa en fp pb pe ac aA aB la ta0 tA0 tB0 Z bs q n c φ N lb0 m0 C Λ σ σ0 τ k B1 B2) (h : zCp so va en ac aA aB la ta tA tB Z bs n φ N lb i.toInt C σ τ ll k t B1 B2) (e1 : ta1 = upd ta i.toNatClampNeg o1) (e2 : tA1 = upd tA i.toNatClampNeg a1) (e3 : tB1 = upd tB i.toNatClampNeg b1) (hs : zg so (bs + k) = 7) (p1 : φ = 1) (ho1 : o1.toInt = 100) (ha1 : a1.toInt = k + 1) (hm : m' = i.toInt + 1) (ht : t' = t + 1) : zCp so va en ac aA aB la ta1 tA1 tB1 Z bs n φ N lb m' C σ τ ll k t' B1 B2 := by
  obtain ⟨nt, rt, z1, _⟩ := zNt_f h0 hs p1
  obtain ⟨Λ1, B, l1, l2, hW, hB⟩ := h
  subst ht
  rw [zCp, Int.add_mul, Int.one_mul]
  have d1 : zc1 Z o1.toInt a1.toInt = 12 * Z (k + 1) - 4 := by rw [ho1, ha1]; exact zc1_n
  have d2 : zc2 Z o1.toInt a1.toInt = 4 * Z (k + 1) - 3 := by rw [ho1, ha1]; exact zc2_n
  exact ⟨Λ1, B + zc2 Z o1.toInt a1.toInt, l1, l2, zW_p hW e1 e2 e3 (by rw [ho1, ha1]; exact Or.inl ⟨rfl, nt⟩) rt (fun l l0 _ z => Or.inl z) hm (by omega) (Int.le_refl _), by omega⟩
theorem zCp_s {so va le mo ho pa en fp pb pe ac aA aB la ta tA tB ta0 tA0 tB0 ta1 tA1 tB1 ta2 tA2 tB2 : Nat → Int32} {Z : Int → Int} {bs q n c φ N lb lb0 m0 m' ll : Int} {C Λ : Int → zT} {σ σ0 τ : zT} {k t t' B1 B2 : Int} {i i2 o1 a1 b1 o2 a2 b2 : Int32} (h0 : zND so va le mo ho pa en fp pb pe ac aA aB la ta0 tA0 tB0 Z bs q n c φ N lb0 m0 C Λ σ σ0 τ k B1 B2) (h : zCp so va en ac aA aB la ta tA tB Z bs n φ N lb i.toInt C σ τ ll k t B1 B2) (e1 : ta1 = upd ta i.toNatClampNeg o1) (e2 : tA1 = upd tA i.toNatClampNeg a1) (e3 : tB1 = upd tB i.toNatClampNeg b1) (e4 : ta2 = upd ta1 i2.toNatClampNeg o2) (e5 : tA2 = upd tA1 i2.toNatClampNeg a2) (e6 : tB2 = upd tB1 i2.toNatClampNeg b2) (hs : zg so (bs + k) = 7) (p1 : φ = 1) (ho1 : o1.toInt = 100) (ho2 : o2.toInt = 3 ∨ o2.toInt = 4) (ha1 : a1.toInt = k + 1) (ha2 : a2.toInt = ll) (hi : i2.toInt = i.toInt + 1) (hm : m' = i2.toInt + 1) (hlb : lb < 3000) (ht : t' = t + 1) : zCp so va en ac aA aB la ta2 tA2 tB2 Z bs n φ N lb m' C σ τ ll k t' B1 B2 := by
  obtain ⟨nt, rt, z1, _⟩ := zNt_f h0 hs p1
  obtain ⟨Λ1, B, l1, l2, hW, hB⟩ := h
  subst ht
  rw [zCp, Int.add_mul, Int.one_mul]
  have d1 : zc1 Z o1.toInt a1.toInt = 12 * Z (k + 1) - 4 := by rw [ho1, ha1]; exact zc1_n
  have d2 : zc2 Z o1.toInt a1.toInt = 4 * Z (k + 1) - 3 := by rw [ho1, ha1]; exact zc2_n
  have d3 : zc1 Z o2.toInt a2.toInt = 1 := zc1_o (by omega)
  have d4 := zc2_o (Z := Z) (a := a2.toInt) (show o2.toInt ≤ 21 by omega)
  rw [if_neg (by omega)] at d4
  have p1' := zW_p (ρ' := τ) hW e1 e2 e3 (by rw [ho1, ha1]; exact Or.inl ⟨rfl, nt⟩) rt (d1' := -1) (d2' := -1) (fun l l0 _ z => Or.inl z) (m' := i2.toInt) (by omega) (Int.le_refl _) (Int.le_refl _)
  refine ⟨Λ1, B + zc2 Z o1.toInt a1.toInt + zc2 Z o2.toInt a2.toInt, l1, l2, zW_p (ρ' := τ) p1' e4 e5 e6 ?_ rt (fun l l0 _ z => Or.inl z) hm (by omega) (Int.le_refl _), by omega⟩
  rw [ha2]
  rcases ho2 with e | e <;> rw [e]
  · exact zO_3 ⟨by omega, by omega⟩ rfl (fun z => by omega) ⟨l2.1, l2.2, by rw [l1]; exact ⟨rfl, fun z => by omega⟩⟩
  · exact zO_4 ⟨by omega, by omega⟩ rfl (fun z => by omega) ⟨l2.1, l2.2, by rw [l1]; exact ⟨rfl, fun z => by omega⟩⟩ p1
theorem zCp_a {so va le mo ho pa en fp pb pe ac aA aB la ta tA tB ta0 tA0 tB0 ta1 tA1 tB1 ta2 tA2 tB2 ta3 tA3 tB3 ta4 tA4 tB4 : Nat → Int32} {Z : Int → Int} {bs q n c φ N lb lb' lb0 m0 m' ll : Int} {C Λ : Int → zT} {σ σ0 τ : zT} {k t t' B1 B2 : Int} {i1 i2 i3 i4 o1 a1 b1 o2 a2 b2 o3 a3 b3 o4 a4 b4 : Int32} (h0 : zND so va le mo ho pa en fp pb pe ac aA aB la ta0 tA0 tB0 Z bs q n c φ N lb0 m0 C Λ σ σ0 τ k B1 B2) (h : ∃ (Λ : Int → zT) (B : Int), Λ ll = τ ∧ (0 ≤ ll ∧ ll < lb) ∧ zW so va en ac aA aB la ta tA tB Z bs n φ N lb i1.toInt C Λ σ τ (-1) (-1) (B1 + 2 + 12 * (t * Z (k + 1))) B ∧ B ≤ B2 + 4 * (t * Z (k + 1))) (e11 : ta1 = upd ta i1.toNatClampNeg o1) (e12 : tA1 = upd tA i1.toNatClampNeg a1) (e13 : tB1 = upd tB i1.toNatClampNeg b1) (e21 : ta2 = upd ta1 i2.toNatClampNeg o2) (e22 : tA2 = upd tA1 i2.toNatClampNeg a2) (e23 : tB2 = upd tB1 i2.toNatClampNeg b2) (e31 : ta3 = upd ta2 i3.toNatClampNeg o3) (e32 : tA3 = upd tA2 i3.toNatClampNeg a3) (e33 : tB3 = upd tB2 i3.toNatClampNeg b3) (e41 : ta4 = upd ta3 i4.toNatClampNeg o4) (e42 : tA4 = upd tA3 i4.toNatClampNeg a4) (e43 : tB4 = upd tB3 i4.toNatClampNeg b4) (hs : zg so (bs + k) = 7) (p1 : φ = 1) (ho : o1.toInt = 5 ∧ o2.toInt = 100 ∧ (o3.toInt = 3 ∨ o3.toInt = 4) ∧ o4.toInt = 101) (ha : a1.toInt = lb ∧ a2.toInt = k + 1 ∧ a3.toInt = ll ∧ a4.toInt = lb) (hl : lb' = lb + 1) (hi : i2.toInt = i1.toInt + 1 ∧ i3.toInt = i2.toInt + 1 ∧ i4.toInt = i3.toInt + 1 ∧ m' = i4.toInt + 1) (hlb : lb + 1 < 3000) (ht0 : t = 0) (ht : t' = 1) : zCp so va en ac aA aB la ta4 tA4 tB4 Z bs n φ N lb' m' C σ τ ll k t' B1 B2 := by
  obtain ⟨nt, rt, z1, _⟩ := zNt_f h0 hs p1
  obtain ⟨Λ1, B, l1, l2, hW, hB⟩ := h
  obtain ⟨ho1, ho2, ho3, ho4⟩ := ho
  obtain ⟨ha1, ha2, ha3, ha4⟩ := ha
  obtain ⟨hi2, hi3, hi4, hm⟩ := hi
  subst ht; subst ht0
  rw [Int.zero_mul] at hW hB
  rw [zCp, Int.one_mul]
  have p9 := zW_n hW τ hl (d1' := lb) (d2' := -1) (fun l l0 z => by omega) (Int.le_refl _)
  have el : (fun l => if l = lb then τ else Λ1 l) lb = τ := if_pos rfl
  have ell : (fun l => if l = lb then τ else Λ1 l) ll = τ := by show (if ll = lb then _ else _) = _; rw [if_neg (by omega)]; exact l1
  have q1 := zW_p (ρ' := τ) p9 e11 e12 e13 (by rw [ho1, ha1]; exact zO_5 ⟨by omega, by omega⟩ ⟨by omega, by omega, by rw [if_pos rfl]; exact ⟨rfl, fun z => by omega⟩⟩) rt (d1' := lb) (d2' := -1) (fun l l0 _ z => Or.inl z) (m' := i2.toInt) (by omega) (Int.le_refl _) (Int.le_refl _)
  have q2 := zW_p (ρ' := τ) q1 e21 e22 e23 (by rw [ho2, ha2]; exact Or.inl ⟨rfl, nt⟩) rt (d1' := lb) (d2' := -1) (fun l l0 _ z => Or.inl z) (m' := i3.toInt) (by omega) (Int.le_refl _) (Int.le_refl _)
  have q3 := zW_p (ρ' := τ) q2 e31 e32 e33 (by
    rw [ha3]
    have hz : zn φ τ.1 ((fun l => if l = lb then τ else Λ1 l) ll) τ.2.1 τ.2.2.1 (τ.2.2.2 - 1) := by rw [ell]; exact ⟨rfl, fun z => by omega⟩
    rcases ho3 with e | e <;> rw [e]
    · exact zO_3 ⟨by omega, by omega⟩ rfl (fun z => by omega) ⟨l2.1, by omega, hz⟩
    · exact zO_4 ⟨by omega, by omega⟩ rfl (fun z => by omega) ⟨l2.1, by omega, hz⟩ p1) rt (d1' := lb) (d2' := -1) (fun l l0 _ z => Or.inl z) (m' := i4.toInt) (by omega) (Int.le_refl _) (Int.le_refl _)
  have d1 : zc1 Z o1.toInt a1.toInt = 1 := zc1_o (by omega)
  have d2 : zc1 Z o2.toInt a2.toInt = 12 * Z (k + 1) - 4 := by rw [ho2, ha2]; exact zc1_n
  have d3 : zc1 Z o3.toInt a3.toInt = 1 := zc1_o (by omega)
  have d4 : zc1 Z o4.toInt a4.toInt = 1 := zc1_o (by omega)
  have f1 : zc2 Z o1.toInt a1.toInt = 1 := by rw [ho1]; rfl
  have f2 : zc2 Z o2.toInt a2.toInt = 4 * Z (k + 1) - 3 := by rw [ho2, ha2]; exact zc2_n
  have f3 := zc2_o (Z := Z) (a := a3.toInt) (show o3.toInt ≤ 21 by omega)
  rw [if_neg (by omega)] at f3
  have f4 : zc2 Z o4.toInt a4.toInt = 0 := by rw [ho4]; rfl
  exact ⟨_, B + zc2 Z o1.toInt a1.toInt + zc2 Z o2.toInt a2.toInt + zc2 Z o3.toInt a3.toInt + zc2 Z o4.toInt a4.toInt, ell, ⟨by omega, by omega⟩, zW_p (ρ' := τ) q3 e41 e42 e43 (by rw [ho4, ha4]; exact Or.inr (Or.inl ⟨rfl, ⟨by omega, by omega⟩, el.symm, rfl⟩)) rt (fun l l0 _ z => by omega) hm (by omega) (Int.le_refl _), by omega⟩
theorem zCp_w {so va en ac aA aB la ta tA tB : Nat → Int32} {Z : Int → Int} {bs n φ N lb m : Int} {C : Int → zT} {σ τ : zT} {ll k t B1 B2 : Int} (h : ∃ (Λ : Int → zT) (B : Int), Λ ll = τ ∧ (0 ≤ ll ∧ ll < lb) ∧ zW so va en ac aA aB la ta tA tB Z bs n φ N lb m C Λ σ τ (-1) (-1) (B1 + 2 + 12 * (t * Z (k + 1))) B ∧ B ≤ B2 + 4 * (t * Z (k + 1))) : zCp so va en ac aA aB la ta tA tB Z bs n φ N lb m C σ τ ll k t B1 B2 := by
  obtain ⟨Λ1, B, l1, l2, ⟨h1, h2, h3, h4, h5, h6⟩, hB⟩ := h
  exact ⟨Λ1, B, l1, l2, ⟨h1, h2, h3, h4, by omega, h6⟩, hB⟩
theorem zCp_e {so va le mo ho pa en fp pb pe ac aA aB la ta tA tB ta0 tA0 tB0 : Nat → Int32} {Z : Int → Int} {bs q n c φ N lb lb0 m0 m ll : Int} {C Λ : Int → zT} {σ σ0 τ : zT} {k t B1 B2 : Int} (h0 : zND so va le mo ho pa en fp pb pe ac aA aB la ta0 tA0 tB0 Z bs q n c φ N lb0 m0 C Λ σ σ0 τ k B1 B2) (h : zCp so va en ac aA aB la ta tA tB Z bs n φ N lb m C σ τ ll k t B1 B2) (hs : zg so (bs + k) = 7) (p1 : φ = 1) (ht : t = zT0 le mo (bs + k) + zg le (bs + k)) : zWp so va en ac aA aB la ta tA tB Z bs n φ N lb m C σ k B1 B2 := by
  obtain ⟨_, _, z1, zz, hge, _⟩ := zNt_f h0 hs p1
  obtain ⟨lm1, lm2, lm3⟩ := zN_lm h0
  obtain ⟨Λ1, B, _, _, hW, hB⟩ := h
  have tb : t ≤ zby so le mo (bs + k) := by
    subst ht
    unfold zT0 zby
    rw [if_pos hs]
    split
    · omega
    · split <;> omega
  have mm : t * Z (k + 1) ≤ zby so le mo (bs + k) * Z (k + 1) := Int.mul_le_mul_of_nonneg_right tb (by omega)
  exact zW_o hW hge (by omega) (fun _ => by omega)
theorem zT_e {le mo : Nat → Int32} {g L L' : Int} (h : L = zg le g ∨ L ≤ zg mo g) (h1 : zg le g ≤ L) (h2 : zg mo g ≤ L) (h3 : zg mo g = -1 ∨ zg le g ≤ zg mo g) (h4 : 0 ≤ zg le g) (h5 : L' = 0) : zT1 mo g + (L - zg le g) = zT0 le mo g + L' := by
  unfold zT1 zT0
  by_cases e : zg mo g = -1
  · rw [if_pos e, if_pos e]; omega
  · rw [if_neg e, if_neg e]; omega
