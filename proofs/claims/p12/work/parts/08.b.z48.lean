def zGc (va : Nat → Int32) (bs k : Int) (G : List (Int × Int)) : List (Int × Int) := if zg va (bs + k) = 2 then (1, k) :: G else G
def zcx (va : Nat → Int32) (bs k : Int) : Int := if zg va (bs + k) = 2 then 1 else 0
def zL4 (so va en ac aA aB la ta tA tB : Nat → Int32) (Z : Int → Int) (bs n φ N lb m : Int) (C : Int → zT) (σ σ0 τ : zT) (k B1 B2 : Int) : Prop := ∃ Λ : Int → zT, Λ lb = zsh so bs φ τ (zGc va bs k σ0.1) (zg en (bs + k)) (zg en (bs + k)) 1 0 (zcx va bs k + 1) ∧ Λ (lb + 1) = zsh so bs φ τ (zGc va bs k σ0.1) (zg en (bs + k)) (zg en (bs + k)) 0 0 (zcx va bs k) ∧ zW so va en ac aA aB la ta tA tB Z bs n φ N (lb + 2) m C Λ σ (zsh so bs φ τ (zGc va bs k σ0.1) (zg en (bs + k)) (zg en (bs + k)) 0 0 (zcx va bs k)) lb (lb + 1) (B1 + 3) (B2 + 1)
theorem zJ_f {so va le mo ho pa en fp pb pe ac aA aB la ta tA tB : Nat → Int32} {Z : Int → Int} {bs q n c φ N lb m : Int} {C Λ : Int → zT} {σ σ0 τ : zT} {k B1 B2 : Int} (h : zND so va le mo ho pa en fp pb pe ac aA aB la ta tA tB Z bs q n c φ N lb m C Λ σ σ0 τ k B1 B2) (hs : zg so (bs + k) = 7) (p0 : φ = 0) : zCk so va bs (zGc va bs k σ0.1) (k + 1) ∧ (0 ≤ zcx va bs k ∧ zcx va bs k ≤ 1) ∧ τ.2.1 + 1 ≤ σ0.2.1 ∧ τ.2.2.1 ≤ σ0.2.2.1 ∧ τ.2.2.2 + zhX φ (zg en (bs + k)) - zhX φ (k + 1) + 4 ≤ σ0.2.2.2 ∧ τ.2.2.2 + 8 ≤ 1000 ∧ 1 + Z (k + 1) ≤ Z k ∧ 1 ≤ Z (k + 1) ∧ 0 ≤ lb ∧ zCk so va bs σ0.1 k ∧ τ.1 = σ0.1 := by
  obtain ⟨⟨x0, x1, x2⟩, f7, f6, f2, m4, m5, m6, t0, s1⟩ := zN_1 h (by omega)
  obtain ⟨⟨hφ, hb⟩, hSl, hZ, hz, hN, hge, r0, rt, hW⟩ := h
  obtain ⟨⟨k0, k1⟩, ck, g1, n1, n2, n3⟩ := hN
  obtain ⟨q1, q2, q3, q4, q5⟩ := zh_q (φ := φ) hSl k0 k1 hφ
  have q1 := q1 hs
  obtain ⟨u0, u1, u2⟩ := @zqf_b φ
  have u2 := u2 p0
  obtain ⟨z1, z2, z3⟩ := zZ_1 hSl hZ k0 k1 (by omega) hz (Or.inl p0)
  have cc : 0 ≤ zcx va bs k ∧ zcx va bs k ≤ 1 := by unfold zcx; split <;> omega
  have hx : zhX φ (zg en (bs + k)) = 4 * zg en (bs + k) ∧ zhX φ (k + 1) = 4 * (k + 1) := ⟨if_pos p0, if_pos p0⟩
  refine ⟨?_, cc, by omega, by omega, by omega, by omega, z1, z2, hW.2.1, ck, g1⟩
  unfold zGc; split
  · exact ⟨Or.inr ⟨Or.inl rfl, k0, by omega⟩, zCk_m (by omega) ck⟩
  · exact zCk_m (by omega) ck
theorem zJ_0 {so va le mo ho pa en fp pb pe ac aA aB la ta tA tB : Nat → Int32} {Z : Int → Int} {bs q n c φ N lb m : Int} {C Λ : Int → zT} {σ σ0 τ : zT} {k B1 B2 : Int} (h : zND so va le mo ho pa en fp pb pe ac aA aB la ta tA tB Z bs q n c φ N lb m C Λ σ σ0 τ k B1 B2) (hs : zg so (bs + k) = 7) (p0 : φ = 0) : ∃ Λ2 : Int → zT, Λ2 lb = zsh so bs φ τ (zGc va bs k σ0.1) (zg en (bs + k)) (zg en (bs + k)) 1 0 (zcx va bs k + 1) ∧ Λ2 (lb + 1) = zsh so bs φ τ (zGc va bs k σ0.1) (zg en (bs + k)) (zg en (bs + k)) 0 0 (zcx va bs k) ∧ zW so va en ac aA aB la ta tA tB Z bs n φ N (lb + 2) m C Λ2 σ τ lb (lb + 1) (B1 + 2) B2 := by
  obtain ⟨_, _, _, _, _, _, _, _, lb0, _⟩ := zJ_f h hs p0
  obtain ⟨_, _, _, _, _, _, _, _, hW⟩ := h
  have p9 := zW_n hW (zsh so bs φ τ (zGc va bs k σ0.1) (zg en (bs + k)) (zg en (bs + k)) 1 0 (zcx va bs k + 1)) (lb' := lb + 1) rfl (d1' := lb) (d2' := -1) (fun l l0 z => by omega) (Int.le_refl _)
  have p8 := zW_n p9 (zsh so bs φ τ (zGc va bs k σ0.1) (zg en (bs + k)) (zg en (bs + k)) 0 0 (zcx va bs k)) (lb' := lb + 2) (by omega) (d1' := lb) (d2' := lb + 1) (fun l l0 z => by omega) (B1' := B1 + 2) (by omega)
  refine ⟨_, ?_, ?_, p8⟩
  · show (if lb = lb + 1 then _ else if lb = lb then _ else _) = _
    rw [if_neg (by omega), if_pos rfl]
  · show (if lb + 1 = lb + 1 then _ else _) = _
    rw [if_pos rfl]
theorem zJ_1 {so va le mo ho pa en fp pb pe ac aA aB la ta tA tB : Nat → Int32} {Z : Int → Int} {bs q n c φ N lb m : Int} {C Λ : Int → zT} {σ σ0 τ : zT} {k B1 B2 : Int} (h : zND so va le mo ho pa en fp pb pe ac aA aB la ta tA tB Z bs q n c φ N lb m C Λ σ σ0 τ k B1 B2) (hs : zg so (bs + k) = 7) (p0 : φ = 0) (hv : zg va (bs + k) ≠ 2) : zL4 so va en ac aA aB la ta tA tB Z bs n φ N lb m C σ σ0 τ k B1 B2 := by
  obtain ⟨Λ2, e1, e2, p8⟩ := zJ_0 h hs p0
  obtain ⟨_, _, _, _, _, _, _, _, _, _, g1⟩ := zJ_f h hs p0
  refine ⟨Λ2, e1, e2, ?_⟩
  have eG : zGc va bs k σ0.1 = τ.1 := by unfold zGc; rw [if_neg hv]; exact g1.symm
  have ec : zcx va bs k = 0 := if_neg hv
  rw [eG, ec, zsh_e]
  obtain ⟨h1, h2, h3, h4, h5, h6⟩ := p8
  exact ⟨h1, h2, h3, h4, by omega, by omega⟩
theorem zJ_2 {so va le mo ho pa en fp pb pe ac aA aB la ta tA tB ta1 tA1 tB1 : Nat → Int32} {Z : Int → Int} {bs q n c φ N lb m' : Int} {C Λ : Int → zT} {σ σ0 τ : zT} {k B1 B2 : Int} {i o1 a1 b1 : Int32} (h : zND so va le mo ho pa en fp pb pe ac aA aB la ta tA tB Z bs q n c φ N lb i.toInt C Λ σ σ0 τ k B1 B2) (e1 : ta1 = upd ta i.toNatClampNeg o1) (e2 : tA1 = upd tA i.toNatClampNeg a1) (e3 : tB1 = upd tB i.toNatClampNeg b1) (hs : zg so (bs + k) = 7) (p0 : φ = 0) (hv : zg va (bs + k) = 2) (ho1 : o1.toInt = 12) (ha1 : a1.toInt = k) (hm : m' = i.toInt + 1) : zL4 so va en ac aA aB la ta1 tA1 tB1 Z bs n φ N lb m' C σ σ0 τ k B1 B2 := by
  obtain ⟨Λ2, l1, l2, p8⟩ := zJ_0 h hs p0
  obtain ⟨ck, cc, _, _, _, t9, _, _, _, _, g1⟩ := zJ_f h hs p0
  obtain ⟨⟨x0, x1, x2⟩, f7, f6, f2, m4, m5, m6, t0, s1⟩ := zN_1 h (by omega)
  obtain ⟨_, hSl, _, _, hN, _, _, rt, _⟩ := h
  refine ⟨Λ2, l1, l2, ?_⟩
  have eG : zGc va bs k σ0.1 = (1, k) :: σ0.1 := if_pos hv
  refine zW_p p8 e1 e2 e3 ?_ (zRg_sh hSl rt ck (by omega) (by omega) (Int.le_refl _) f2 (by omega) (by omega) (by omega) (by omega)) (fun l l0 _ z => Or.inl z) hm (by rw [zc1_o (by omega)]; omega) (by rw [ho1]; show B2 + 1 ≤ B2 + 1; omega)
  rw [ho1, ha1, eG]
  have ec : zcx va bs k = 1 := if_pos hv
  refine zO_12 ⟨by omega, by omega⟩ g1 (fun e => ⟨?_, ?_, ?_⟩) p0 ⟨by omega, by omega⟩ ⟨_, rfl⟩
  · show τ.2.1 ≤ τ.2.1 + _ - _ + 0 + 0; omega
  · show τ.2.2.1 ≤ τ.2.2.1 + _ - _ + 0 + 0; omega
  · show τ.2.2.2 ≤ τ.2.2.2 + _ - _ + zcx va bs k - 1; omega
