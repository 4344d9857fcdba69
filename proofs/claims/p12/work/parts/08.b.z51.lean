def zCi (so va en ac aA aB la ta tA tB : Nat → Int32) (Z : Int → Int) (bs n φ N lb m : Int) (C : Int → zT) (σ : zT) (τ : zT) (G : List (Int × Int)) (ll p e B1 B2 : Int) : Prop := ∃ (Λ : Int → zT) (B : Int), Λ ll = τ ∧ (0 ≤ ll ∧ ll < lb) ∧ zW so va en ac aA aB la ta tA tB Z bs n φ N lb m C Λ σ (zsh so bs φ τ G p e (zqf φ) 0 (2 * zqf φ)) (-1) (-1) (B1 - 2 + 12 * zcz en bs Z p e) B ∧ (φ = 1 → B ≤ B2 - 3 + 4 * zcz en bs Z p e)
theorem zHe_c {so va le mo ho pa en fp pb pe ac aA aB la ta tA tB he : Nat → Int32} {Z : Int → Int} {bs q n c φ N lb m nn : Int} {C Λ : Int → zT} {σ σ0 τ : zT} {k B1 B2 : Int} {a j : Int32} (h0 : zND so va le mo ho pa en fp pb pe ac aA aB la ta tA tB Z bs q n c φ N lb m C Λ σ σ0 τ k B1 B2) (hH : zHe he en bs nn k (zg en (bs + k))) (ea : a = he j.toNatClampNeg) (j0 : 0 ≤ j.toInt) (j1 : j.toInt < nn) : (k < a.toInt ∧ a.toInt < zg en (bs + k) ∧ zg en (bs + k) ≤ n ∧ n ≤ 220) ∧ zg en (bs + a.toInt) = zhq he nn (zg en (bs + k)) j.toInt ∧ (a.toInt < zg en (bs + a.toInt) ∧ zg en (bs + a.toInt) ≤ zg en (bs + k)) ∧ zcz en bs Z a.toInt (zg en (bs + k)) = Z a.toInt + zcz en bs Z (zg en (bs + a.toInt)) (zg en (bs + k)) ∧ zCk so va bs σ0.1 a.toInt ∧ (zhL so bs φ k ≤ zhL so bs φ a.toInt ∧ zhC so bs φ k ≤ zhC so bs φ a.toInt ∧ zhX φ k + 4 * zqf φ ≤ zhX φ a.toInt) ∧ zRg (zsh so bs φ τ σ0.1 a.toInt (zg en (bs + k)) (zqf φ) 0 (2 * zqf φ)) ∧ zRg (zsh so bs φ τ σ0.1 a.toInt (zg en (bs + k)) 0 0 (zqf φ)) ∧ zRg (zsh so bs φ τ σ0.1 (zg en (bs + a.toInt)) (zg en (bs + k)) 0 0 (zqf φ)) := by
  obtain ⟨hh, _⟩ := hH
  obtain ⟨c1, c2, c3⟩ := hh j.toInt j0 j1
  have ha := zg_at ea
  obtain ⟨⟨hφ, _⟩, hSl, hZ, _, hN, _, r0, rt, _⟩ := h0
  obtain ⟨⟨k0, k1⟩, ck, g1, n1, n2, n3⟩ := hN
  obtain ⟨_, ⟨f1, f2⟩, _, _, _, _, _, fe⟩ := zNf hSl k0 k1
  rw [← ha] at c1 c2 c3
  have fe := fe a.toInt (by omega) (by omega)
  obtain ⟨_, ⟨g2, g3⟩, _⟩ := zNf hSl (show 0 ≤ a.toInt by omega) (show a.toInt < n by omega)
  have ckm := zCk_m (show k ≤ a.toInt by omega) ck
  obtain ⟨u0, u1, u2⟩ := @zqf_b φ
  obtain ⟨_, _, q3, q4, q5⟩ := zh_q (φ := φ) hSl k0 k1 hφ
  obtain ⟨⟨m1, _⟩, ⟨m2, _⟩, m3, _⟩ := zh_m (φ := φ) hSl (show 0 ≤ k + 1 by omega) (show k + 1 ≤ a.toInt by omega) (by omega)
  obtain ⟨⟨m4, _⟩, ⟨m5, _⟩, m6, _⟩ := zh_m (φ := φ) hSl (show 0 ≤ a.toInt by omega) (show a.toInt ≤ zg en (bs + a.toInt) by omega) (by omega)
  have s1 := r0.2.2.2.1
  refine ⟨⟨c1, c2, f2, hSl.2.1⟩, c3, ⟨g2, fe⟩, zcz_step (fun x x0 x1 => (zNf hSl (show 0 ≤ x by omega) (by omega)).2.1.1) (by omega), ckm, ⟨by omega, by omega, by omega⟩, zRg_sh hSl rt ckm (by omega) (by omega) (by omega) f2 u0 (Int.le_refl _) (by omega) (by omega), zRg_sh hSl rt ckm (by omega) (by omega) (by omega) f2 (Int.le_refl _) (Int.le_refl _) u0 (by omega), zRg_sh hSl rt ckm (by omega) (by omega) fe f2 (Int.le_refl _) (Int.le_refl _) u0 (by omega)⟩
theorem zCi_0 {so va le mo ho pa en fp pb pe ac aA aB la ta tA tB ta1 tA1 tB1 ta2 tA2 tB2 he : Nat → Int32} {Z : Int → Int} {bs q n c φ N lb lb' m' nn p ll : Int} {C Λ : Int → zT} {σ σ0 τ : zT} {k B1 B2 : Int} {i1 i2 o1 a1 b1 o2 a2 b2 j : Int32} (h0 : zND so va le mo ho pa en fp pb pe ac aA aB la ta tA tB Z bs q n c φ N lb i1.toInt C Λ σ σ0 τ k B1 B2) (hH : zHe he en bs nn k (zg en (bs + k))) (e11 : ta1 = upd ta i1.toNatClampNeg o1) (e12 : tA1 = upd tA i1.toNatClampNeg a1) (e13 : tB1 = upd tB i1.toNatClampNeg b1) (e21 : ta2 = upd ta1 i2.toNatClampNeg o2) (e22 : tA2 = upd tA1 i2.toNatClampNeg a2) (e23 : tB2 = upd tB1 i2.toNatClampNeg b2) (ea : a2 = he j.toNatClampNeg) (hj : j.toInt = nn - 1) (hn1 : 1 ≤ nn) (ho1 : o1.toInt = 101) (ho2 : o2.toInt = 100) (ha1 : a1.toInt = lb) (hl : lb' = lb + 1) (hi2 : i2.toInt = i1.toInt + 1) (hm : m' = i2.toInt + 1) (hp : p = a2.toInt) (hll : ll = lb) : zCi so va en ac aA aB la ta2 tA2 tB2 Z bs n φ N lb' m' C σ τ σ0.1 ll p (zg en (bs + k)) B1 B2 := by
  obtain ⟨⟨c1, c2, c3, c4⟩, ce, cf, cz, ck, cm, r1, r2, r3⟩ := zHe_c h0 hH ea (by omega) (by omega)
  obtain ⟨⟨hφ, _⟩, hSl, hZ, _, hN, _, r0, rt, hW⟩ := h0
  obtain ⟨⟨k0, k1⟩, _, g1, _⟩ := hN
  have lb0 := hW.2.1
  have ee : zhq he nn (zg en (bs + k)) j.toInt = zg en (bs + k) := if_pos (by omega)
  rw [ee] at ce
  rw [ce, zcz_end (Int.le_refl _)] at cz
  obtain ⟨u0, u1, u2⟩ := @zqf_b φ
  subst hp; subst hll
  have p9 := zW_n hW τ hl (d1' := ll) (d2' := -1) (fun l l0 z => by omega) (Int.le_refl _)
  have el : (fun l => if l = ll then τ else Λ l) ll = τ := if_pos rfl
  have p8 := zW_p (ρ' := τ) p9 e11 e12 e13 (by rw [ho1, ha1]; exact Or.inr (Or.inl ⟨rfl, ⟨lb0, by omega⟩, el.symm, rfl⟩)) rt (d1' := -1) (d2' := -1) (fun l l0 _ z => by omega) (m' := i2.toInt) (by omega) (Int.le_refl _) (Int.le_refl _)
  have nt := zNt_c (φ := φ) (τ := τ) (e := zg en (bs + k)) (u := zqf φ) (r := 0) (x := 2 * zqf φ) (u' := 0) (r' := 0) (x' := 0) hSl ck (by omega) (by omega) (by omega) (Int.le_refl _) (by omega)
  rw [ce, ← g1, zsh_e, g1] at nt
  have d1 : zc1 Z o1.toInt a1.toInt = 1 := zc1_o (by omega)
  have d2 : zc1 Z o2.toInt a2.toInt = 12 * Z a2.toInt - 4 := by rw [ho2]; exact zc1_n
  have d3 : zc2 Z o1.toInt a1.toInt = 0 := by rw [ho1]; rfl
  have d4 : zc2 Z o2.toInt a2.toInt = 4 * Z a2.toInt - 3 := by rw [ho2]; exact zc2_n
  exact ⟨_, B2 + zc2 Z o1.toInt a1.toInt + zc2 Z o2.toInt a2.toInt, el, ⟨lb0, by omega⟩, zW_p p8 e21 e22 e23 (by rw [ho2]; exact Or.inl ⟨rfl, nt⟩) r1 (fun l l0 _ z => Or.inl z) hm (by omega) (Int.le_refl _), fun _ => by omega⟩
set_option maxHeartbeats 1000000 in
/- one more of a choice -/
theorem zCi_s {so va le mo ho pa en fp pb pe ac aA aB la ta tA tB ta0 tA0 tB0 ta1 tA1 tB1 ta2 tA2 tB2 ta3 tA3 tB3 ta4 tA4 tB4 he : Nat → Int32} {Z : Int → Int} {bs q n c φ N lb lb' lb0' m0 m' nn p p' ll : Int} {C Λ : Int → zT} {σ σ0 τ : zT} {k B1 B2 : Int} {i1 i2 i3 i4 o1 a1 b1 o2 a2 b2 o3 a3 b3 o4 a4 b4 j : Int32} (h0 : zND so va le mo ho pa en fp pb pe ac aA aB la ta0 tA0 tB0 Z bs q n c φ N lb0' m0 C Λ σ σ0 τ k B1 B2) (hH : zHe he en bs nn k (zg en (bs + k))) (h : zCi so va en ac aA aB la ta tA tB Z bs n φ N lb i1.toInt C σ τ σ0.1 ll p (zg en (bs + k)) B1 B2) (e11 : ta1 = upd ta i1.toNatClampNeg o1) (e12 : tA1 = upd tA i1.toNatClampNeg a1) (e13 : tB1 = upd tB i1.toNatClampNeg b1) (e21 : ta2 = upd ta1 i2.toNatClampNeg o2) (e22 : tA2 = upd tA1 i2.toNatClampNeg a2) (e23 : tB2 = upd tB1 i2.toNatClampNeg b2) (e31 : ta3 = upd ta2 i3.toNatClampNeg o3) (e32 : tA3 = upd tA2 i3.toNatClampNeg a3) (e33 : tB3 = upd tB2 i3.toNatClampNeg b3) (e41 : ta4 = upd ta3 i4.toNatClampNeg o4) (e42 : tA4 = upd tA3 i4.toNatClampNeg a4) (e43 : tB4 = upd tB3 i4.toNatClampNeg b4) (ea : a3 = he j.toNatClampNeg) (j0 : 0 ≤ j.toInt) (j1 : j.toInt + 1 < nn) (hpp : p = zg he (j.toInt + 1)) (ho : o1.toInt = 101 ∧ o2.toInt = 5 ∧ o3.toInt = 100 ∧ o4.toInt = 3) (ha : a1.toInt = lb ∧ a2.toInt = ll ∧ a4.toInt = lb) (hl : lb' = lb + 1) (hi : i2.toInt = i1.toInt + 1 ∧ i3.toInt = i2.toInt + 1 ∧ i4.toInt = i3.toInt + 1 ∧ m' = i4.toInt + 1) (hp : p' = a3.toInt) (hlb : lb + 1 < 3000) : zCi so va en ac aA aB la ta4 tA4 tB4 Z bs n φ N lb' m' C σ τ σ0.1 ll p' (zg en (bs + k)) B1 B2 := by
  obtain ⟨⟨c1, c2, c3, c4⟩, ce, cf, cz, ck, cm, r1, r2, r3⟩ := zHe_c h0 hH ea j0 (by omega)
  obtain ⟨⟨hφ, _⟩, hSl, hZ, _, hN, _, r0, rt, _⟩ := h0
  obtain ⟨⟨k0, k1⟩, _, g1, _⟩ := hN
  obtain ⟨Λ1, B, l1, l2, hW, hB⟩ := h
  have ee : zhq he nn (zg en (bs + k)) j.toInt = p := by unfold zhq; rw [if_neg (by omega)]; exact hpp.symm
  rw [ee] at ce
  obtain ⟨u0, u1, u2⟩ := @zqf_b φ
  obtain ⟨ho1, ho2, ho3, ho4⟩ := ho
  obtain ⟨ha1, ha2, ha4⟩ := ha
  obtain ⟨hi2, hi3, hi4, hm⟩ := hi
  rw [ce] at cf cz r3
  obtain ⟨⟨m4, _⟩, ⟨m5, _⟩, m6, _⟩ := zh_m (φ := φ) hSl (show 0 ≤ a3.toInt by omega) (show a3.toInt ≤ p by omega) (show p ≤ n by omega)
  obtain ⟨⟨m7, _⟩, ⟨m8, _⟩, m9, _⟩ := zh_m (φ := φ) hSl (show 0 ≤ p by omega) (show p ≤ zg en (bs + k) by omega) (by omega)
  have hx : φ = 0 → zhX φ a3.toInt + 4 ≤ zhX φ p := fun e => by
    have x1 : zhX φ a3.toInt = 4 * a3.toInt := if_pos e
    have x2 : zhX φ p = 4 * p := if_pos e
    omega
  have rp : zRg (zsh so bs φ τ σ0.1 p (zg en (bs + k)) (zqf φ) 0 (2 * zqf φ)) := by
    obtain ⟨y1, y2, y3, y4, y5⟩ := r1
    refine ⟨?_, ?_, ?_, ?_, y5⟩
    · have := rt.1; show 0 ≤ τ.2.1 + _ - _ + zqf φ; omega
    · have := rt.2.1; show 0 ≤ τ.2.2.1 + _ - _ + 0; omega
    · have := rt.2.2.1; show 0 ≤ τ.2.2.2 + _ - _ + 2 * zqf φ; omega
    · have y4 : τ.2.2.2 + zhX φ (zg en (bs + k)) - zhX φ a3.toInt + 2 * zqf φ ≤ 1000 := y4
      show τ.2.2.2 + _ - _ + 2 * zqf φ ≤ 1000; omega
  have p9 := zW_n hW (zsh so bs φ τ σ0.1 p (zg en (bs + k)) (zqf φ) 0 (2 * zqf φ)) hl (d1' := lb) (d2' := -1) (fun l l0 z => by omega) (Int.le_refl _)
  have el : (fun l => if l = lb then zsh so bs φ τ σ0.1 p (zg en (bs + k)) (zqf φ) 0 (2 * zqf φ) else Λ1 l) lb = zsh so bs φ τ σ0.1 p (zg en (bs + k)) (zqf φ) 0 (2 * zqf φ) := if_pos rfl
  have ell : (fun l => if l = lb then zsh so bs φ τ σ0.1 p (zg en (bs + k)) (zqf φ) 0 (2 * zqf φ) else Λ1 l) ll = τ := by show (if ll = lb then _ else _) = _; rw [if_neg (by omega)]; exact l1
  have p1 := zW_p p9 e11 e12 e13 (by rw [ho1, ha1]; exact Or.inr (Or.inl ⟨rfl, ⟨by omega, by omega⟩, el.symm, rfl⟩)) rp (d1' := -1) (d2' := -1) (fun l l0 _ z => by omega) (m' := i2.toInt) (by omega) (Int.le_refl _) (Int.le_refl _)
  have p2 := zW_p (ρ' := zsh so bs φ τ σ0.1 p (zg en (bs + k)) 0 0 (zqf φ)) p1 e21 e22 e23 (by
    rw [ho2, ha2]
    refine zO_5 ⟨by omega, by omega⟩ ⟨by omega, by omega, ?_⟩
    rw [if_neg (show ¬ (ll = lb) by omega), l1]; refine ⟨g1, fun e => ⟨?_, ?_, ?_⟩⟩
    · show τ.2.1 ≤ τ.2.1 + _ - _ + 0; omega
    · show τ.2.2.1 ≤ τ.2.2.1 + _ - _ + 0; omega
    · have := u2 e; show τ.2.2.2 ≤ τ.2.2.2 + _ - _ + zqf φ - 1; omega) r3 (d1' := -1) (d2' := -1) (fun l l0 _ z => Or.inl z) (m' := i3.toInt) (by omega) (Int.le_refl _) (Int.le_refl _)
  have nt := zNt_c (φ := φ) (τ := τ) (e := zg en (bs + k)) (u := 0) (r := 0) (x := zqf φ) (u' := 0) (r' := 0) (x' := zqf φ) hSl ck (by omega) (by omega) (Int.le_refl _) (Int.le_refl _) (Int.le_refl _)
  rw [ce] at nt
  have p3 := zW_p (ρ' := zsh so bs φ τ σ0.1 a3.toInt (zg en (bs + k)) 0 0 (zqf φ)) p2 e31 e32 e33 (by rw [ho3]; exact Or.inl ⟨rfl, nt⟩) r2 (d1' := -1) (d2' := -1) (fun l l0 _ z => Or.inl z) (m' := i4.toInt) (by omega) (Int.le_refl _) (Int.le_refl _)
  have d1 : zc1 Z o1.toInt a1.toInt = 1 := zc1_o (by omega)
  have d2 : zc1 Z o2.toInt a2.toInt = 1 := zc1_o (by omega)
  have d3 : zc1 Z o3.toInt a3.toInt = 12 * Z a3.toInt - 4 := by rw [ho3]; exact zc1_n
  have d4 : zc1 Z o4.toInt a4.toInt = 1 := zc1_o (by omega)
  have f1 : zc2 Z o1.toInt a1.toInt = 0 := by rw [ho1]; rfl
  have f2 : zc2 Z o2.toInt a2.toInt = 1 := by rw [ho2]; rfl
  have f3 : zc2 Z o3.toInt a3.toInt = 4 * Z a3.toInt - 3 := by rw [ho3]; exact zc2_n
  have f4 : zc2 Z o4.toInt a4.toInt = 1 := by rw [ho4]; rfl
  subst hp
  refine ⟨_, B + zc2 Z o1.toInt a1.toInt + zc2 Z o2.toInt a2.toInt + zc2 Z o3.toInt a3.toInt + zc2 Z o4.toInt a4.toInt, ell, ⟨by omega, by omega⟩, zW_p p3 e41 e42 e43 ?_ r1 (fun l l0 _ z => Or.inl z) hm (by omega) (Int.le_refl _), fun e => by have := hB e; omega⟩
  rw [ho4, ha4]
  refine zO_3 ⟨by omega, by omega⟩ rfl (fun e => ⟨?_, ?_, ?_⟩) ⟨by omega, by omega, ?_⟩
  · have := u2 e; show τ.2.1 + _ - _ + 0 ≤ τ.2.1 + _ - _ + zqf φ + (-1); omega
  · show τ.2.2.1 + _ - _ + 0 ≤ τ.2.2.1 + _ - _ + 0 + 0; omega
  · have := u2 e; show τ.2.2.2 + _ - _ + zqf φ ≤ τ.2.2.2 + _ - _ + 2 * zqf φ - 1; omega
  · rw [if_pos rfl]; refine ⟨rfl, fun e => ⟨?_, ?_, ?_⟩⟩
    · show τ.2.1 + _ - _ + zqf φ ≤ τ.2.1 + _ - _ + zqf φ; omega
    · show τ.2.2.1 + _ - _ + 0 ≤ τ.2.2.1 + _ - _ + 0; omega
    · have := hx e; show τ.2.2.2 + _ - _ + 2 * zqf φ ≤ τ.2.2.2 + _ - _ + 2 * zqf φ - 1; omega
