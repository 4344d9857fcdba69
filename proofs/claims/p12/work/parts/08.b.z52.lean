theorem zCi_e {so va en ac aA aB la ta tA tB he : Nat → Int32} {Z : Int → Int} {bs n φ N lb m nn j k : Int} {C : Int → zT} {σ τ : zT} {G : List (Int × Int)} {ll e B1 B2 : Int} (h : zCi so va en ac aA aB la ta tA tB Z bs n φ N lb m C σ τ G ll (zg he (j + 1)) e B1 B2) (hH : zHe he en bs nn k e) (hn : 1 ≤ nn) (hj : j = -1) : zCi so va en ac aA aB la ta tA tB Z bs n φ N lb m C σ τ G ll (k + 1) e B1 B2 := by
  have e1 := hH.2.1 hn
  rw [show j + 1 = 0 by omega, e1] at h
  exact h
theorem zC_f {so va le mo ho pa en fp pb pe ac aA aB la ta tA tB ta0 tA0 tB0 : Nat → Int32} {Z : Int → Int} {bs q n c φ N lb0 lb m0 m ll : Int} {C Λ : Int → zT} {σ σ0 τ : zT} {k B1 B2 : Int} (h0 : zND so va le mo ho pa en fp pb pe ac aA aB la ta0 tA0 tB0 Z bs q n c φ N lb0 m0 C Λ σ σ0 τ k B1 B2) (h : zCi so va en ac aA aB la ta tA tB Z bs n φ N lb m C σ τ σ0.1 ll (k + 1) (zg en (bs + k)) B1 B2) (hs : zg so (bs + k) = 6) (p1 : φ = 1) : zWp so va en ac aA aB la ta tA tB Z bs n φ N lb m C σ k B1 B2 := by
  obtain ⟨Λ1, B, _, _, hW, hB⟩ := h
  obtain ⟨⟨hφ, _⟩, hSl, hZ, hz, hN, hge, r0, rt, _⟩ := h0
  have zz := ((hZ k hN.1.1 hN.1.2).2 hz).1 (Or.inr (by omega))
  have hB := hB p1
  exact zW_o hW (zge_tr hge ⟨rfl, fun e => by omega⟩) (by omega) (fun _ => by omega)
theorem zC_n {so va le mo ho pa en fp pb pe ac aA aB la ta tA tB ta0 tA0 tB0 ta1 tA1 tB1 : Nat → Int32} {Z : Int → Int} {bs q n c φ N lb0 lb m0 m' ll : Int} {C Λ : Int → zT} {σ σ0 τ : zT} {k B1 B2 : Int} {i o1 a1 b1 : Int32} (h0 : zND so va le mo ho pa en fp pb pe ac aA aB la ta0 tA0 tB0 Z bs q n c φ N lb0 m0 C Λ σ σ0 τ k B1 B2) (h : zCi so va en ac aA aB la ta tA tB Z bs n φ N lb i.toInt C σ τ σ0.1 ll (k + 1) (zg en (bs + k)) B1 B2) (e1 : ta1 = upd ta i.toNatClampNeg o1) (e2 : tA1 = upd tA i.toNatClampNeg a1) (e3 : tB1 = upd tB i.toNatClampNeg b1) (hs : zg so (bs + k) = 6) (p0 : φ = 0) (ho1 : o1.toInt = 21) (ha1 : a1.toInt = 0) (hm : m' = i.toInt + 1) : zWp so va en ac aA aB la ta1 tA1 tB1 Z bs n φ N lb m' C σ k B1 B2 := by
  obtain ⟨Λ1, B, _, _, hW, hB⟩ := h
  obtain ⟨⟨hφ, _⟩, hSl, hZ, hz, hN, hge, r0, rt, _⟩ := h0
  obtain ⟨⟨k0, k1⟩, ck, g1, n1, n2, n3⟩ := hN
  have zz := ((hZ k k0 k1).2 hz).1 (Or.inr (by omega))
  obtain ⟨q1, q2, q3, q4, q5⟩ := zh_q (φ := φ) hSl k0 k1 hφ
  obtain ⟨u0, u1, u2⟩ := @zqf_b φ
  have u2 := u2 p0
  have c1 : zc1 Z o1.toInt a1.toInt = 1 := zc1_o (by omega)
  have s1 := r0.2.2.2.1
  refine zW_o (zW_p (ρ' := σ0) hW e1 e2 e3 ?_ r0 (d1' := -1) (d2' := -1) (fun l l0 _ z => Or.inl z) hm (Int.le_refl _) (Int.le_refl _)) hge (by omega) (fun e => by omega)
  rw [ho1, ha1]
  refine zO_21 ⟨by omega, by omega⟩ rfl (fun _ => ⟨?_, ?_, ?_⟩) p0
  · show τ.2.1 + _ - _ + zqf φ ≤ σ0.2.1 + 52; omega
  · show τ.2.2.1 + _ - _ + 0 ≤ σ0.2.2.1 + 33; omega
  · show τ.2.2.2 + _ - _ + 2 * zqf φ ≤ 1000; omega
