theorem zr0 {a b : Int} (h : a ≤ b) : a ≤ b + 0 := by omega
theorem zN_l {so va le mo ho pa en fp pb pe ac aA aB la ta tA tB ta' tA' tB' : Nat → Int32} {Z : Int → Int} {bs q n c φ N lb m' : Int} {C Λ : Int → zT} {σ σ0 τ : zT} {k B1 B2 : Int} {i o a b : Int32} (h : zND so va le mo ho pa en fp pb pe ac aA aB la ta tA tB Z bs q n c φ N lb i.toInt C Λ σ σ0 τ k B1 B2) (e1 : ta' = upd ta i.toNatClampNeg o) (e2 : tA' = upd tA i.toNatClampNeg a) (e3 : tB' = upd tB i.toNatClampNeg b) (ho' : (o.toInt = 0 ∧ zg so (bs + k) ≤ 2) ∨ o.toInt = 1 ∨ (o.toInt = 2 ∧ zg so (bs + k) = 4)) (ha : a.toInt = k) (hs : zg so (bs + k) ≤ 4) (hm : m' = i.toInt + 1) : zWp so va en ac aA aB la ta' tA' tB' Z bs n φ N lb m' C σ k B1 B2 := by
  obtain ⟨⟨hφ, hb⟩, hSl, hZ, hz, hN, hge, r0, rt, hW⟩ := h
  have hN2 := hN
  obtain ⟨⟨k0, k1⟩, ck, g1, n1, n2, n3⟩ := hN2
  obtain ⟨_, ⟨f1, f2⟩, _, _, _, fv, _, _⟩ := zNf hSl k0 k1
  obtain ⟨⟨m1, _⟩, ⟨m2, _⟩, m3, _⟩ := zh_m (φ := φ) hSl k0 (show k ≤ zg en (bs + k) by omega) f2
  have n22 := hSl.2.1
  have z1 := (hZ k k0 k1).1
  have hn : φ = 0 → τ.2.1 ≤ σ0.2.1 + 0 ∧ τ.2.2.1 ≤ σ0.2.2.1 + 0 ∧ τ.2.2.2 ≤ 1000 := fun _ => ⟨by omega, by omega, rt.2.2.2.1⟩
  have hE : zE so va en bs n φ lb Λ o.toInt a.toInt b.toInt σ0 τ := by
    rw [ha]
    rcases ho' with ⟨e, e'⟩ | e | ⟨e, e'⟩ <;> rw [e]
    · exact zO_0 ⟨k0, by omega⟩ g1 hn ⟨k0, k1⟩ e'
    · exact zO_1 ⟨k0, by omega⟩ g1 hn ⟨k0, k1⟩
    · refine zO_2 ⟨k0, by omega⟩ g1 hn ⟨k0, k1⟩ ⟨?_, fv (by omega)⟩
      rcases hφ with p | p
      · exact p
      · exact absurd e' (hb p k k0 k1).1
  have c1 : zc1 Z o.toInt a.toInt = 1 := zc1_o (by omega)
  have c2 := zc2_o (Z := Z) (a := a.toInt) (show o.toInt ≤ 21 by omega)
  rw [if_neg (by omega)] at c2
  exact zW_o (zW_p hW e1 e2 e3 hE r0 (fun l l0 _ z => by omega) hm (Int.le_refl _) (Int.le_refl _)) hge (by omega) (fun _ => by omega)
theorem zN_c {so va le mo ho pa en fp pb pe ac aA aB la ta tA tB ta' tA' tB' : Nat → Int32} {Z : Int → Int} {bs q n c φ N lb m' : Int} {C Λ : Int → zT} {σ σ0 τ : zT} {k B1 B2 : Int} {i o a b : Int32} (h : zND so va le mo ho pa en fp pb pe ac aA aB la ta tA tB Z bs q n c φ N lb i.toInt C Λ σ σ0 τ k B1 B2) (e1 : ta' = upd ta i.toNatClampNeg o) (e2 : tA' = upd tA i.toNatClampNeg a) (e3 : tB' = upd tB i.toNatClampNeg b) (ho' : o.toInt = 100) (ha : a.toInt = k + 1) (hs : zg so (bs + k) = 11) (hm : m' = i.toInt + 1) : zWp so va en ac aA aB la ta' tA' tB' Z bs n φ N lb m' C σ k B1 B2 := by
  obtain ⟨⟨hφ, hb⟩, hSl, hZ, hz, hN, hge, r0, rt, hW⟩ := h
  have hN2 := hN
  obtain ⟨⟨k0, k1⟩, ck, g1, n1, n2, n3⟩ := hN2
  obtain ⟨_, ⟨f1, f2⟩, _, f6, f7, fv, _, _⟩ := zNf hSl k0 k1
  have f6 := f6 (by omega)
  have f7 := f7 (by omega)
  obtain ⟨⟨m1, _⟩, ⟨m2, _⟩, m3, _⟩ := zh_m (φ := φ) hSl k0 (show k ≤ k + 1 by omega) (by omega)
  obtain ⟨⟨m4, _⟩, ⟨m5, _⟩, m6, _⟩ := zh_m (φ := φ) hSl (show 0 ≤ k + 1 by omega) (show k + 1 ≤ zg en (bs + k) by omega) (by omega)
  obtain ⟨z1, z2, z3⟩ := zZ_1 hSl hZ k0 k1 (by omega) hz (Or.inr (by omega))
  have hE : zE so va en bs n φ lb Λ o.toInt a.toInt b.toInt σ0 τ := by
    rw [ha, ho']
    refine Or.inl ⟨rfl, ⟨by omega, z3⟩, zCk_m (by omega) ck, g1, ?_, ?_, ?_⟩
    · rw [f7]; omega
    · rw [f7]; omega
    · rw [f7]; omega
  have c1 : zc1 Z o.toInt a.toInt = 12 * Z (k + 1) - 4 := by rw [ho', ha]; exact zc1_n
  have c2 : zc2 Z o.toInt a.toInt = 4 * Z (k + 1) - 3 := by rw [ho', ha]; exact zc2_n
  exact zW_o (zW_p hW e1 e2 e3 hE r0 (fun l l0 _ z => by omega) hm (Int.le_refl _) (Int.le_refl _)) hge (by omega) (fun _ => by omega)
