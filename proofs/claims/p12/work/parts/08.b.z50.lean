def zhq (he : Nat → Int32) (n e i : Int) : Int := if i + 1 = n then e else zg he (i + 1)
def zHe (he en : Nat → Int32) (bs n k e : Int) : Prop := (∀ i : Int, 0 ≤ i → i < n → k < zg he i ∧ zg he i < e ∧ zg en (bs + zg he i) = zhq he n e i) ∧ (1 ≤ n → zg he 0 = k + 1) ∧ (n = 0 → e = k + 1) ∧ 0 ≤ n
theorem zK_m {so va en ta tA tB : Nat → Int32} {bs n φ lb : Int} {Λ : Int → zT} {Z : Int → Int} (hZ : ∀ k : Int, 0 ≤ k → k < n → 1 ≤ Z k) : ∀ {m : Nat} {σ : zT}, zK so va en ta tA tB bs n φ lb Λ m σ → (m : Int) ≤ zsm (fun i => zc1 Z (zg ta i) (zg tA i)) m := by
  intro m; induction m with
  | zero => intro σ _; exact Int.le_refl _
  | succ m ih =>
    intro σ h
    obtain ⟨σ0, τ, h1, h2, h3, h4, h5⟩ := h
    have a := ih h5
    have e : zsm (fun i => zc1 Z (zg ta i) (zg tA i)) (m + 1) = zsm (fun i => zc1 Z (zg ta i) (zg tA i)) m + zc1 Z (zg ta m) (zg tA m) := rfl
    have c : 1 ≤ zc1 Z (zg ta m) (zg tA m) := by
      unfold zc1; split
      · rename_i q
        rcases h3 with ⟨_, g⟩ | ⟨g, _⟩ | ⟨⟨⟨g, _⟩, _⟩, _⟩
        · have := hZ _ g.1.1 g.1.2; omega
        · omega
        · omega
      · exact Int.le_refl _
    rw [e]; omega
theorem zW_m {so va le mo en ac aA aB la ta tA tB : Nat → Int32} {Z : Int → Int} {bs n φ N lb m : Int} {C Λ : Int → zT} {σ ρ : zT} {d1 d2 B1 B2 : Int} (h : zW so va en ac aA aB la ta tA tB Z bs n φ N lb m C Λ σ ρ d1 d2 B1 B2) (hZ : zZ so le mo en bs n φ Z) : lb + m ≤ B1 := by
  obtain ⟨h1, h2, h3, h4, h5, h6⟩ := h
  have := zK_m (fun k k0 k1 => (hZ k k0 k1).1) h4
  have e : zsu (zc1 Z) ta tA m = zsm (fun i => zc1 Z (zg ta i) (zg tA i)) m.toNat := rfl
  omega
def zRo (so va en ac aA aB la ta tA tB : Nat → Int32) (Z : Int → Int) (bs n φ N lb m : Int) (C Λ : Int → zT) (σ : zT) (τ : zT) (G : List (Int × Int)) (p e B1 B2 : Int) : Prop := zW so va en ac aA aB la ta tA tB Z bs n φ N lb m C Λ σ (zsh so bs φ τ G p e 0 0 0) (-1) (-1) (B1 + 12 * zcz en bs Z p e) (B2 + 4 * zcz en bs Z p e)
theorem zRo_0 {so va le mo ho pa en fp pb pe ac aA aB la ta tA tB : Nat → Int32} {Z : Int → Int} {bs q n c φ N lb m : Int} {C Λ : Int → zT} {σ σ0 τ : zT} {k B1 B2 : Int} (h : zND so va le mo ho pa en fp pb pe ac aA aB la ta tA tB Z bs q n c φ N lb m C Λ σ σ0 τ k B1 B2) : zRo so va en ac aA aB la ta tA tB Z bs n φ N lb m C Λ σ τ σ0.1 (zg en (bs + k)) (zg en (bs + k)) B1 B2 := by
  obtain ⟨_, _, _, _, hN, _, _, _, hW⟩ := h
  unfold zRo
  rw [← hN.2.2.1, zsh_e, zcz_end (Int.le_refl _)]
  obtain ⟨h1, h2, h3, h4, h5, h6⟩ := hW
  exact ⟨h1, h2, h3, h4, by omega, by omega⟩
theorem zRo_s {so va le mo ho pa en fp pb pe ac aA aB la ta tA tB ta0 tA0 tB0 ta1 tA1 tB1 he : Nat → Int32} {Z : Int → Int} {bs q n c φ N lb m0 m' nn j' : Int} {C Λ : Int → zT} {σ σ0 τ : zT} {k B1 B2 : Int} {i o1 a1 b1 j : Int32} (h0 : zND so va le mo ho pa en fp pb pe ac aA aB la ta0 tA0 tB0 Z bs q n c φ N lb m0 C Λ σ σ0 τ k B1 B2) (hH : zHe he en bs nn k (zg en (bs + k))) (h : zRo so va en ac aA aB la ta tA tB Z bs n φ N lb i.toInt C Λ σ τ σ0.1 (zhq he nn (zg en (bs + k)) j.toInt) (zg en (bs + k)) B1 B2) (e1 : ta1 = upd ta i.toNatClampNeg o1) (e2 : tA1 = upd tA i.toNatClampNeg a1) (e3 : tB1 = upd tB i.toNatClampNeg b1) (ea : a1 = he j.toNatClampNeg) (ho1 : o1.toInt = 100) (j0 : 0 ≤ j.toInt) (j1 : j.toInt < nn) (hm : m' = i.toInt + 1) (hj' : j' = j.toInt - 1) : zRo so va en ac aA aB la ta1 tA1 tB1 Z bs n φ N lb m' C Λ σ τ σ0.1 (zhq he nn (zg en (bs + k)) j') (zg en (bs + k)) B1 B2 := by
  subst hj'
  obtain ⟨hh, _⟩ := hH
  obtain ⟨c1, c2, c3⟩ := hh j.toInt j0 j1
  have ha := zg_at ea
  obtain ⟨⟨hφ, _⟩, hSl, hZ, _, hN, _, r0, rt, _⟩ := h0
  obtain ⟨⟨k0, k1⟩, ck, g1, n1, n2, n3⟩ := hN
  obtain ⟨_, ⟨f1, f2⟩, _, _, _, _, _, _⟩ := zNf hSl k0 k1
  have ep : zhq he nn (zg en (bs + k)) (j.toInt - 1) = a1.toInt := by
    unfold zhq; rw [if_neg (by omega), ha, show j.toInt - 1 + 1 = j.toInt by omega]
  rw [ep]
  have en1 : zg en (bs + a1.toInt) = zhq he nn (zg en (bs + k)) j.toInt := by rw [ha]; exact c3
  obtain ⟨_, ⟨g2, g3⟩, _⟩ := zNf hSl (show 0 ≤ a1.toInt by omega) (show a1.toInt < n by omega)
  have st := zcz_step (en := en) (Z := Z) (b := bs) (c := a1.toInt) (l := zg en (bs + k)) (fun x x0 x1 => (zNf hSl (show 0 ≤ x by omega) (by omega)).2.1.1) (by omega)
  have ckm := zCk_m (show k ≤ a1.toInt by omega) ck
  obtain ⟨⟨m1, _⟩, ⟨m2, _⟩, m3, _⟩ := zh_m (φ := φ) hSl k0 (show k ≤ a1.toInt by omega) (by omega)
  unfold zRo at h ⊢
  rw [← en1] at h
  have nt := zNt_c (φ := φ) (τ := τ) (e := zg en (bs + k)) (u := 0) (r := 0) (x := 0) (u' := 0) (r' := 0) (x' := 0) hSl ckm (by omega) (by omega) (Int.le_refl _) (Int.le_refl _) (Int.le_refl _)
  refine zW_p h e1 e2 e3 (by rw [ho1]; exact Or.inl ⟨rfl, nt⟩) (zRg_sh hSl rt ckm (by omega) (by omega) (by omega) f2 (by omega) (by omega) (by omega) (by have := r0.2.2.2.1; omega)) (fun l l0 _ z => Or.inl z) hm ?_ ?_
  · rw [ho1, zc1_n, st]; omega
  · rw [ho1, zc2_n, st]; omega
theorem zRo_e {so va le mo ho pa en fp pb pe ac aA aB la ta tA tB ta0 tA0 tB0 he : Nat → Int32} {Z : Int → Int} {bs q n c φ N lb m0 m nn j : Int} {C Λ : Int → zT} {σ σ0 τ : zT} {k B1 B2 : Int} (h0 : zND so va le mo ho pa en fp pb pe ac aA aB la ta0 tA0 tB0 Z bs q n c φ N lb m0 C Λ σ σ0 τ k B1 B2) (hH : zHe he en bs nn k (zg en (bs + k))) (h : zRo so va en ac aA aB la ta tA tB Z bs n φ N lb m C Λ σ τ σ0.1 (zhq he nn (zg en (bs + k)) j) (zg en (bs + k)) B1 B2) (hj : j = -1) (hs : zg so (bs + k) = 5) : zWp so va en ac aA aB la ta tA tB Z bs n φ N lb m C σ k B1 B2 := by
  obtain ⟨hh, h1, h2, h3⟩ := hH
  have ep : zhq he nn (zg en (bs + k)) j = k + 1 := by
    unfold zhq
    by_cases e : nn = 0
    · rw [if_pos (by omega)]; exact h2 e
    · rw [if_neg (by omega), show j + 1 = 0 by omega]; exact h1 (by omega)
  rw [ep] at h
  obtain ⟨⟨hφ, _⟩, hSl, hZ, hz, hN, hge, r0, rt, _⟩ := h0
  have hN2 := hN
  obtain ⟨⟨k0, k1⟩, ck, g1, n1, n2, n3⟩ := hN2
  have zz := ((hZ k k0 k1).2 hz).1 (Or.inr (by omega))
  obtain ⟨_, ⟨f1, f2⟩, _⟩ := zNf hSl k0 k1
  obtain ⟨⟨m1, _⟩, ⟨m2, _⟩, m3, _⟩ := zh_m (φ := φ) hSl k0 (show k ≤ k + 1 by omega) (by omega)
  exact zW_o h (zge_tr hge (zge_sh hN rfl (fun _ => ⟨by omega, by omega, by omega⟩))) (by omega) (fun _ => by omega)
