def zc3 (P : Int → Int) (o a : Int) : Int := if o = 100 then P a else if o = 0 then 1 else 0
def zcE (ac : Nat → Int32) (N : Int) : Int := zsm (fun p => if zg ac p = 0 then 1 else 0) N.toNat
def zY (so le mo en : Nat → Int32) (b n : Int) (P : Int → Int) : Prop := ∀ k : Int, 0 ≤ k → k < n → 0 ≤ P k ∧ (zg so (b + k) ≤ 2 → 1 ≤ P k) ∧ (P k < 20000 → 2 < zg so (b + k) → zby so le mo (b + k) * zcz en b P (k + 1) (zg en (b + k)) ≤ P k)
theorem zY_m {so le mo en sz ps : Nat → Int32} {b n : Int} (h : zMs so le mo en sz ps b 0 n) : zY so le mo en b n (fun c => zg ps (b + c)) := by
  intro k k0 k1
  obtain ⟨_, _, m3, _, _, m6, m7⟩ := h k k0 k1 k0
  refine ⟨m3, m6, fun z1 z2 => ?_⟩
  have q := m7 z2 z1
  have ec : zct en ps b (k + 1) (zg en (b + k)) = zcz en b (fun c => zg ps (b + c)) (k + 1) (zg en (b + k)) := zcg_sz.symm
  rw [ec] at q
  exact q
def zE3 (P : Int → Int) (ta tA : Nat → Int32) (m B : Int) : Prop := (∀ i : Int, 0 ≤ i → i < m → 0 ≤ zc3 P (zg ta i) (zg tA i)) ∧ zsu (zc3 P) ta tA m ≤ B
def zEN (gE φ : Int) (so le mo en : Nat → Int32) (bs n : Int) (P : Int → Int) (ta tA : Nat → Int32) (m k B : Int) : Prop := gE = 1 → φ = 1 ∧ zY so le mo en bs n P ∧ zE3 P ta tA m (B - P k) ∧ P k < 20000
def zEQ (gE : Int) (P : Int → Int) (ta tA : Nat → Int32) (m B : Int) : Prop := gE = 1 → zE3 P ta tA m B
theorem zc3_n {P : Int → Int} {a : Int} : zc3 P 100 a = P a := if_pos rfl
theorem zc3_0 {P : Int → Int} {a : Int} : zc3 P 0 a = 1 := by unfold zc3; rw [if_neg (by decide), if_pos rfl]
theorem zc3_o {P : Int → Int} {o a : Int} (h : o ≠ 100) (h2 : o ≠ 0) : zc3 P o a = 0 := by unfold zc3; rw [if_neg h, if_neg h2]
theorem zE3_mono {P : Int → Int} {ta tA : Nat → Int32} {m B B' : Int} (h : zE3 P ta tA m B) (hB : B ≤ B') : zE3 P ta tA m B' := ⟨h.1, Int.le_trans h.2 hB⟩
theorem zE3_p {P : Int → Int} {ta tA ta' tA' : Nat → Int32} {i o a : Int32} {m' B B' : Int} (h : zE3 P ta tA i.toInt B) (e1 : ta' = upd ta i.toNatClampNeg o) (e2 : tA' = upd tA i.toNatClampNeg a) (h0 : 0 ≤ i.toInt) (hm : m' = i.toInt + 1) (hc : 0 ≤ zc3 P o.toInt a.toInt) (hB : B + zc3 P o.toInt a.toInt ≤ B') : zE3 P ta' tA' m' B' := by
  refine ⟨fun j j0 j1 => ?_, ?_⟩
  · by_cases q : j = i.toInt
    · rw [q, e1, e2, zg_eq, zg_eq]; exact hc
    · rw [e1, e2, zg_ne h0 j0 q, zg_ne h0 j0 q]; exact h.1 j j0 (by omega)
  · rw [zsu_p e1 e2 h0 hm]; have := h.2; omega
theorem zE3_o {P : Int → Int} {ta tA ta' tA' : Nat → Int32} {i o a : Int32} {m' B : Int} (h : zE3 P ta tA i.toInt B) (e1 : ta' = upd ta i.toNatClampNeg o) (e2 : tA' = upd tA i.toNatClampNeg a) (h0 : 0 ≤ i.toInt) (hm : m' = i.toInt + 1) (ho : o.toInt ≠ 100) (ho2 : o.toInt ≠ 0) : zE3 P ta' tA' m' B :=
  zE3_p h e1 e2 h0 hm (by rw [zc3_o ho ho2]; exact Int.le_refl _) (by rw [zc3_o ho ho2]; omega)
theorem zE3_n {P : Int → Int} {ta tA ta' tA' : Nat → Int32} {i o a : Int32} {m' B B' : Int} (h : zE3 P ta tA i.toInt B) (e1 : ta' = upd ta i.toNatClampNeg o) (e2 : tA' = upd tA i.toNatClampNeg a) (h0 : 0 ≤ i.toInt) (hm : m' = i.toInt + 1) (ho : o.toInt = 100) (hp : 0 ≤ P a.toInt) (hB : B + P a.toInt ≤ B') : zE3 P ta' tA' m' B' :=
  zE3_p h e1 e2 h0 hm (by rw [ho, zc3_n]; exact hp) (by rw [ho, zc3_n]; exact hB)
theorem zEN_k {so va le mo ho pa en fp pb pe ac aA aB la ta tA tB : Nat → Int32} {Z P : Int → Int} {bs q n c φ N lb m : Int} {C Λ : Int → zT} {σ σ0 τ : zT} {k B1 B2 : Int} (h0 : zND so va le mo ho pa en fp pb pe ac aA aB la ta tA tB Z bs q n c φ N lb m C Λ σ σ0 τ k B1 B2) (hY : zY so le mo en bs n P) : (0 ≤ k ∧ k < n) ∧ 0 ≤ P k ∧ (∀ j : Int, k < j → j < zg en (bs + k) → 0 ≤ P j ∧ j < zg en (bs + j)) := by
  obtain ⟨_, hSl, _, _, hN, _⟩ := h0
  obtain ⟨_, ⟨f1, f2⟩, _⟩ := zNf hSl hN.1.1 hN.1.2
  have r := hN.1
  refine ⟨r, (hY k r.1 r.2).1, fun j j0 j1 => ⟨(hY j (by omega) (by omega)).1, (zNf hSl (show 0 ≤ j by omega) (by omega)).2.1.1⟩⟩
theorem zEN_c {so va le mo ho pa en fp pb pe ac aA aB la ta tA tB : Nat → Int32} {Z P : Int → Int} {bs q n c φ N lb m : Int} {C Λ : Int → zT} {σ σ0 τ : zT} {k B1 B2 : Int} (h0 : zND so va le mo ho pa en fp pb pe ac aA aB la ta tA tB Z bs q n c φ N lb m C Λ σ σ0 τ k B1 B2) (hY : zY so le mo en bs n P) (hk : P k < 20000) (hs : 2 < zg so (bs + k)) (h7 : zg so (bs + k) ≠ 7) : zcz en bs P (k + 1) (zg en (bs + k)) ≤ P k := by
  obtain ⟨r, _⟩ := zEN_k h0 hY
  have := (hY k r.1 r.2).2.2 hk hs
  rw [zby_1 h7] at this; omega
theorem zEN_1 {so va le mo ho pa en fp pb pe ac aA aB la ta tA tB : Nat → Int32} {Z P : Int → Int} {bs q n c φ N lb m : Int} {C Λ : Int → zT} {σ σ0 τ : zT} {k B1 B2 : Int} (h0 : zND so va le mo ho pa en fp pb pe ac aA aB la ta tA tB Z bs q n c φ N lb m C Λ σ σ0 τ k B1 B2) (hY : zY so le mo en bs n P) (h7 : 7 ≤ zg so (bs + k)) : zcz en bs P (k + 1) (zg en (bs + k)) = P (k + 1) ∧ 0 ≤ P (k + 1) := by
  have a := zEN_k h0 hY
  obtain ⟨_, hSl, _, _, hN, _⟩ := h0
  obtain ⟨_, ⟨f1, f2⟩, _, e6, e7, _⟩ := zNf hSl hN.1.1 hN.1.2
  have e6 := e6 (by omega)
  have e7 := e7 h7
  rw [zcz_step (fun j j0 j1 => (a.2.2 j (by omega) j1).2) e6, e7, zcz_end (Int.le_refl _)]
  exact ⟨Int.add_zero _, (a.2.2 (k + 1) (by omega) e6).1⟩
theorem zEQ_leaf {so va le mo ho pa en fp pb pe ac aA aB la ta tA tB ta' tA' : Nat → Int32} {Z P : Int → Int} {bs q n c φ N lb m' gE B : Int} {C Λ : Int → zT} {σ σ0 τ : zT} {k B1 B2 : Int} {i o a : Int32} (h0 : zND so va le mo ho pa en fp pb pe ac aA aB la ta tA tB Z bs q n c φ N lb i.toInt C Λ σ σ0 τ k B1 B2) (hE : zEN gE φ so le mo en bs n P ta tA i.toInt k B) (e1 : ta' = upd ta i.toNatClampNeg o) (e2 : tA' = upd tA i.toNatClampNeg a) (ho : o.toInt = 0) (hs : zg so (bs + k) ≤ 2) (hi : 0 ≤ i.toInt) (hm : m' = i.toInt + 1) : zEQ gE P ta' tA' m' B := by
  intro z
  obtain ⟨_, hY, h3, _⟩ := hE z
  obtain ⟨r, _⟩ := zEN_k h0 hY
  have p1 := (hY k r.1 r.2).2.1 hs
  exact zE3_p h3 e1 e2 hi hm (by rw [ho, zc3_0]; decide) (by rw [ho, zc3_0]; omega)
theorem zEQ_edge {so va le mo ho pa en fp pb pe ac aA aB la ta tA tB ta' tA' : Nat → Int32} {Z P : Int → Int} {bs q n c φ N lb m' gE B : Int} {C Λ : Int → zT} {σ σ0 τ : zT} {k B1 B2 : Int} {i o a : Int32} (h0 : zND so va le mo ho pa en fp pb pe ac aA aB la ta tA tB Z bs q n c φ N lb i.toInt C Λ σ σ0 τ k B1 B2) (hE : zEN gE φ so le mo en bs n P ta tA i.toInt k B) (e1 : ta' = upd ta i.toNatClampNeg o) (e2 : tA' = upd tA i.toNatClampNeg a) (ho : o.toInt = 1 ∨ o.toInt = 2) (hi : 0 ≤ i.toInt) (hm : m' = i.toInt + 1) : zEQ gE P ta' tA' m' B := by
  intro z
  obtain ⟨_, hY, h3, _⟩ := hE z
  obtain ⟨_, p0, _⟩ := zEN_k h0 hY
  exact zE3_o (zE3_mono h3 (by omega)) e1 e2 hi hm (by omega) (by omega)
theorem zEQ_case {so va le mo ho pa en fp pb pe ac aA aB la ta tA tB ta' tA' : Nat → Int32} {Z P : Int → Int} {bs q n c φ N lb m' gE B : Int} {C Λ : Int → zT} {σ σ0 τ : zT} {k B1 B2 : Int} {i o a : Int32} (h0 : zND so va le mo ho pa en fp pb pe ac aA aB la ta tA tB Z bs q n c φ N lb i.toInt C Λ σ σ0 τ k B1 B2) (hE : zEN gE φ so le mo en bs n P ta tA i.toInt k B) (e1 : ta' = upd ta i.toNatClampNeg o) (e2 : tA' = upd tA i.toNatClampNeg a) (ho : o.toInt = 100) (ha : a.toInt = k + 1) (hs : 8 ≤ zg so (bs + k)) (hi : 0 ≤ i.toInt) (hm : m' = i.toInt + 1) : zEQ gE P ta' tA' m' B := by
  intro z
  obtain ⟨_, hY, h3, hk⟩ := hE z
  obtain ⟨x1, x2⟩ := zEN_1 h0 hY (by omega)
  have x3 := zEN_c h0 hY hk (by omega) (by omega)
  exact zE3_n h3 e1 e2 hi hm ho (by rw [ha]; exact x2) (by rw [ha]; omega)
theorem zEQ_cap {so va le mo ho pa en fp pb pe ac aA aB la ta tA tB ta1 tA1 ta2 tA2 ta3 tA3 : Nat → Int32} {Z P : Int → Int} {bs q n c φ N lb m' gE B : Int} {C Λ : Int → zT} {σ σ0 τ : zT} {k B1 B2 : Int} {i1 o1 a1 i2 o2 a2 i3 o3 a3 : Int32} (h0 : zND so va le mo ho pa en fp pb pe ac aA aB la ta tA tB Z bs q n c φ N lb i1.toInt C Λ σ σ0 τ k B1 B2) (hE : zEN gE φ so le mo en bs n P ta tA i1.toInt k B) (e1 : ta1 = upd ta i1.toNatClampNeg o1) (f1 : tA1 = upd tA i1.toNatClampNeg a1) (e2 : ta2 = upd ta1 i2.toNatClampNeg o2) (f2 : tA2 = upd tA1 i2.toNatClampNeg a2) (e3 : ta3 = upd ta2 i3.toNatClampNeg o3) (f3 : tA3 = upd tA2 i3.toNatClampNeg a3) (ho : o1.toInt = 7 ∧ o2.toInt = 100 ∧ o3.toInt = 6) (ha : a2.toInt = k + 1) (hs : zg so (bs + k) = 8) (hi : 0 ≤ i1.toInt) (hi2 : i2.toInt = i1.toInt + 1) (hi3 : i3.toInt = i2.toInt + 1) (hm : m' = i3.toInt + 1) : zEQ gE P ta3 tA3 m' B := by
  intro z
  obtain ⟨_, hY, h3, hk⟩ := hE z
  obtain ⟨x1, x2⟩ := zEN_1 h0 hY (by omega)
  have x3 := zEN_c h0 hY hk (by omega) (by omega)
  have s1 := zE3_o h3 e1 f1 hi hi2 (by omega) (by omega)
  have s2 := zE3_n (B' := B) s1 e2 f2 (by omega) hi3 ho.2.1 (by rw [ha]; exact x2) (by rw [ha]; omega)
  exact zE3_o s2 e3 f3 (by omega) hm (by omega) (by omega)
def zEr (gE : Int) (P : Int → Int) (en ta tA : Nat → Int32) (bs m k p e B : Int) : Prop := gE = 1 → zE3 P ta tA m (B - P k + zcz en bs P p e)
theorem zEr_0 {so le mo en ta tA : Nat → Int32} {bs n m k B e gE φ : Int} {P : Int → Int} (hE : zEN gE φ so le mo en bs n P ta tA m k B) : zEr gE P en ta tA bs m k e e B := by
  intro z
  obtain ⟨_, _, h3, _⟩ := hE z
  rw [zcz_end (Int.le_refl _)]; exact zE3_mono h3 (by omega)
theorem zEr_c {so va le mo ho pa en fp pb pe ac aA aB la ta tA tB he : Nat → Int32} {Z P : Int → Int} {bs q n c φ N lb m nn : Int} {C Λ : Int → zT} {σ σ0 τ : zT} {k B1 B2 : Int} {a j : Int32} (h0 : zND so va le mo ho pa en fp pb pe ac aA aB la ta tA tB Z bs q n c φ N lb m C Λ σ σ0 τ k B1 B2) (hY : zY so le mo en bs n P) (hH : zHe he en bs nn k (zg en (bs + k))) (ea : a = he j.toNatClampNeg) (j0 : 0 ≤ j.toInt) (j1 : j.toInt < nn) : 0 ≤ P a.toInt ∧ zcz en bs P a.toInt (zg en (bs + k)) = P a.toInt + zcz en bs P (zhq he nn (zg en (bs + k)) j.toInt) (zg en (bs + k)) := by
  obtain ⟨r, _, ch⟩ := zEN_k h0 hY
  obtain ⟨c1, c2, c3⟩ := hH.1 j.toInt j0 j1
  have ha := zg_at ea
  rw [← ha] at c1 c2 c3
  rw [zcz_step (fun x x0 x1 => (ch x (by omega) x1).2) c2, c3]
  exact ⟨(ch a.toInt c1 c2).1, rfl⟩
theorem zEr_s {so va le mo ho pa en fp pb pe ac aA aB la ta0 tA0 tB0 ta tA ta' tA' he : Nat → Int32} {Z P : Int → Int} {bs q n c φ N lb m0 nn m' j' gE B : Int} {C Λ : Int → zT} {σ σ0 τ : zT} {k B1 B2 : Int} {i o a j : Int32} (h0 : zND so va le mo ho pa en fp pb pe ac aA aB la ta0 tA0 tB0 Z bs q n c φ N lb m0 C Λ σ σ0 τ k B1 B2) (hE : zEN gE φ so le mo en bs n P ta0 tA0 m0 k B) (hH : zHe he en bs nn k (zg en (bs + k))) (h : zEr gE P en ta tA bs i.toInt k (zhq he nn (zg en (bs + k)) j.toInt) (zg en (bs + k)) B) (e1 : ta' = upd ta i.toNatClampNeg o) (e2 : tA' = upd tA i.toNatClampNeg a) (ea : a = he j.toNatClampNeg) (ho : o.toInt = 100) (hi : 0 ≤ i.toInt) (hm : m' = i.toInt + 1) (j0 : 0 ≤ j.toInt) (j1 : j.toInt < nn) (hj : j' = j.toInt - 1) : zEr gE P en ta' tA' bs m' k (zhq he nn (zg en (bs + k)) j') (zg en (bs + k)) B := by
  intro z
  obtain ⟨_, hY, _, _⟩ := hE z
  obtain ⟨x1, x2⟩ := zEr_c h0 hY hH ea j0 j1
  have ha := zg_at ea
  have ej : zhq he nn (zg en (bs + k)) j' = a.toInt := by
    subst hj; unfold zhq; rw [if_neg (by omega), show j.toInt - 1 + 1 = j.toInt by omega]; exact ha.symm
  rw [ej, x2]
  exact zE3_n (h z) e1 e2 hi hm ho x1 (by omega)
theorem zEr_e {so va le mo ho pa en fp pb pe ac aA aB la ta0 tA0 tB0 ta tA he : Nat → Int32} {Z P : Int → Int} {bs q n c φ N lb m0 m nn j gE B : Int} {C Λ : Int → zT} {σ σ0 τ : zT} {k B1 B2 : Int} (h0 : zND so va le mo ho pa en fp pb pe ac aA aB la ta0 tA0 tB0 Z bs q n c φ N lb m0 C Λ σ σ0 τ k B1 B2) (hE : zEN gE φ so le mo en bs n P ta0 tA0 m0 k B) (hH : zHe he en bs nn k (zg en (bs + k))) (h : zEr gE P en ta tA bs m k (zhq he nn (zg en (bs + k)) j) (zg en (bs + k)) B) (hj : j = -1) (hs : zg so (bs + k) = 5) : zEQ gE P ta tA m B := by
  intro z
  obtain ⟨_, hY, _, hk⟩ := hE z
  have x3 := zEN_c h0 hY hk (by omega) (by omega)
  have ep : zhq he nn (zg en (bs + k)) j = k + 1 := by
    unfold zhq
    by_cases e : nn = 0
    · rw [if_pos (by omega)]; exact hH.2.2.1 e
    · rw [if_neg (by omega), show j + 1 = 0 by omega]; exact hH.2.1 (by have := hH.2.2.2; omega)
  have h := h z
  rw [ep] at h
  exact zE3_mono h (by omega)
theorem zEc_0 {so va le mo ho pa en fp pb pe ac aA aB la ta tA tB ta1 tA1 ta2 tA2 he : Nat → Int32} {Z P : Int → Int} {bs q n c φ N lb nn m' gE B x : Int} {C Λ : Int → zT} {σ σ0 τ : zT} {k B1 B2 : Int} {i1 o1 a1 i2 o2 a2 j : Int32} (h0 : zND so va le mo ho pa en fp pb pe ac aA aB la ta tA tB Z bs q n c φ N lb i1.toInt C Λ σ σ0 τ k B1 B2) (hE : zEN gE φ so le mo en bs n P ta tA i1.toInt k B) (hH : zHe he en bs nn k (zg en (bs + k))) (e1 : ta1 = upd ta i1.toNatClampNeg o1) (f1 : tA1 = upd tA i1.toNatClampNeg a1) (e2 : ta2 = upd ta1 i2.toNatClampNeg o2) (f2 : tA2 = upd tA1 i2.toNatClampNeg a2) (ea : a2 = he j.toNatClampNeg) (hj : j.toInt = nn - 1) (hn : 1 ≤ nn) (ho1 : o1.toInt = 101) (ho2 : o2.toInt = 100) (hi : 0 ≤ i1.toInt) (hi2 : i2.toInt = i1.toInt + 1) (hm : m' = i2.toInt + 1) (hx : x = a2.toInt) : zEr gE P en ta2 tA2 bs m' k x (zg en (bs + k)) B := by
  intro z
  subst hx
  obtain ⟨_, hY, h3, _⟩ := hE z
  obtain ⟨x1, x2⟩ := zEr_c h0 hY hH ea (by omega) (by omega)
  have ez : zhq he nn (zg en (bs + k)) j.toInt = zg en (bs + k) := by unfold zhq; rw [if_pos (by omega)]
  rw [ez, zcz_end (Int.le_refl _)] at x2
  have s1 := zE3_o h3 e1 f1 hi hi2 (by omega) (by omega)
  exact zE3_n s1 e2 f2 (by omega) hm ho2 x1 (by omega)
theorem zEc_s {so va le mo ho pa en fp pb pe ac aA aB la ta0 tA0 tB0 ta tA ta1 tA1 ta2 tA2 ta3 tA3 ta4 tA4 he : Nat → Int32} {Z P : Int → Int} {bs q n c φ N lb m0 nn m' gE B x : Int} {C Λ : Int → zT} {σ σ0 τ : zT} {k B1 B2 : Int} {i1 o1 a1 i2 o2 a2 i3 o3 a3 i4 o4 a4 j : Int32} (h0 : zND so va le mo ho pa en fp pb pe ac aA aB la ta0 tA0 tB0 Z bs q n c φ N lb m0 C Λ σ σ0 τ k B1 B2) (hE : zEN gE φ so le mo en bs n P ta0 tA0 m0 k B) (hH : zHe he en bs nn k (zg en (bs + k))) (h : zEr gE P en ta tA bs i1.toInt k (zg he (j.toInt + 1)) (zg en (bs + k)) B) (e1 : ta1 = upd ta i1.toNatClampNeg o1) (f1 : tA1 = upd tA i1.toNatClampNeg a1) (e2 : ta2 = upd ta1 i2.toNatClampNeg o2) (f2 : tA2 = upd tA1 i2.toNatClampNeg a2) (e3 : ta3 = upd ta2 i3.toNatClampNeg o3) (f3 : tA3 = upd tA2 i3.toNatClampNeg a3) (e4 : ta4 = upd ta3 i4.toNatClampNeg o4) (f4 : tA4 = upd tA3 i4.toNatClampNeg a4) (ea : a3 = he j.toNatClampNeg) (ho1 : o1.toInt = 101) (ho2 : o2.toInt = 5) (ho3 : o3.toInt = 100) (ho4 : o4.toInt = 3) (j0 : 0 ≤ j.toInt) (j1 : j.toInt + 1 < nn) (hi : 0 ≤ i1.toInt) (hi2 : i2.toInt = i1.toInt + 1) (hi3 : i3.toInt = i2.toInt + 1) (hi4 : i4.toInt = i3.toInt + 1) (hm : m' = i4.toInt + 1) (hx : x = a3.toInt) : zEr gE P en ta4 tA4 bs m' k x (zg en (bs + k)) B := by
  intro z
  subst hx
  obtain ⟨_, hY, _, _⟩ := hE z
  obtain ⟨x1, x2⟩ := zEr_c h0 hY hH ea j0 (by omega)
  have ez : zhq he nn (zg en (bs + k)) j.toInt = zg he (j.toInt + 1) := by unfold zhq; rw [if_neg (by omega)]
  rw [ez] at x2
  have s1 := zE3_o (h z) e1 f1 hi hi2 (by omega) (by omega)
  have s2 := zE3_o s1 e2 f2 (by omega) hi3 (by omega) (by omega)
  have s3 := zE3_n (B' := B - P k + zcz en bs P a3.toInt (zg en (bs + k))) s2 e3 f3 (by omega) hi4 ho3 x1 (by omega)
  exact zE3_o s3 e4 f4 (by omega) hm (by omega) (by omega)
theorem zEc_e {en ta tA he : Nat → Int32} {P : Int → Int} {bs m nn j k B e gE : Int} (h : zEr gE P en ta tA bs m k (zg he (j + 1)) e B) (hH : zHe he en bs nn k e) (hn : 1 ≤ nn) (hj : j = -1) : zEr gE P en ta tA bs m k (k + 1) e B := by
  have e1 := hH.2.1 hn
  rw [show j + 1 = 0 by omega, e1] at h
  exact h
theorem zEc_f {so va le mo ho pa en fp pb pe ac aA aB la ta0 tA0 tB0 ta tA : Nat → Int32} {Z P : Int → Int} {bs q n c φ N lb m0 m gE B : Int} {C Λ : Int → zT} {σ σ0 τ : zT} {k B1 B2 : Int} (h0 : zND so va le mo ho pa en fp pb pe ac aA aB la ta0 tA0 tB0 Z bs q n c φ N lb m0 C Λ σ σ0 τ k B1 B2) (hE : zEN gE φ so le mo en bs n P ta0 tA0 m0 k B) (h : zEr gE P en ta tA bs m k (k + 1) (zg en (bs + k)) B) (hs : zg so (bs + k) = 6) : zEQ gE P ta tA m B := by
  intro z
  obtain ⟨_, hY, _, hk⟩ := hE z
  have x3 := zEN_c h0 hY hk (by omega) (by omega)
  exact zE3_mono (h z) (by omega)
theorem zEN_f {so va le mo ho pa en fp pb pe ac aA aB la ta tA tB ta' tA' : Nat → Int32} {Z P : Int → Int} {bs q n c φ N lb m m' gE B : Int} {C Λ : Int → zT} {σ σ0 τ : zT} {k B1 B2 : Int} (h0 : zND so va le mo ho pa en fp pb pe ac aA aB la ta tA tB Z bs q n c φ N lb m C Λ σ σ0 τ k B1 B2) (hE : zEN gE φ so le mo en bs n P ta tA m k B) (hs : φ = 0 ∨ zg so (bs + k) = 9 ∨ zg so (bs + k) = 10 ∨ zg so (bs + k) = 4) : zEQ gE P ta' tA' m' B := by
  intro z
  obtain ⟨p1, _⟩ := hE z
  obtain ⟨⟨_, hK⟩, _, _, _, hN, _⟩ := h0
  have := hK p1 k hN.1.1 hN.1.2
  omega
def zEp (gE : Int) (P : Int → Int) (ta tA : Nat → Int32) (m k t B : Int) : Prop := gE = 1 → zE3 P ta tA m (B - P k + t * P (k + 1))
theorem zEp_0 {so le mo en ta tA ta1 tA1 : Nat → Int32} {bs n k B gE φ m' : Int} {P : Int → Int} {i o a : Int32} (hE : zEN gE φ so le mo en bs n P ta tA i.toInt k B) (e1 : ta1 = upd ta i.toNatClampNeg o) (f1 : tA1 = upd tA i.toNatClampNeg a) (ho : o.toInt = 101) (hi : 0 ≤ i.toInt) (hm : m' = i.toInt + 1) : zEp gE P ta1 tA1 m' k 0 B := by
  intro z
  obtain ⟨_, _, h3, _⟩ := hE z
  exact zE3_o (zE3_mono h3 (by rw [Int.zero_mul]; omega)) e1 f1 hi hm (by omega) (by omega)
theorem zEp_t {gE : Int} {P : Int → Int} {ta tA : Nat → Int32} {m k t t' B : Int} (h : zEp gE P ta tA m k t B) (ht : t = t') : zEp gE P ta tA m k t' B := ht ▸ h
theorem zEp_n {so va le mo ho pa en fp pb pe ac aA aB la ta0 tA0 tB0 ta tA ta1 tA1 : Nat → Int32} {Z P : Int → Int} {bs q n c φ N lb m0 m' t t' gE B : Int} {C Λ : Int → zT} {σ σ0 τ : zT} {k B1 B2 : Int} {i o a : Int32} (h0 : zND so va le mo ho pa en fp pb pe ac aA aB la ta0 tA0 tB0 Z bs q n c φ N lb m0 C Λ σ σ0 τ k B1 B2) (hE : zEN gE φ so le mo en bs n P ta0 tA0 m0 k B) (h : zEp gE P ta tA i.toInt k t B) (e1 : ta1 = upd ta i.toNatClampNeg o) (f1 : tA1 = upd tA i.toNatClampNeg a) (hs : zg so (bs + k) = 7) (ho : o.toInt = 100) (ha : a.toInt = k + 1) (hi : 0 ≤ i.toInt) (hm : m' = i.toInt + 1) (ht : t' = t + 1) : zEp gE P ta1 tA1 m' k t' B := by
  intro z
  obtain ⟨_, hY, _, _⟩ := hE z
  obtain ⟨_, x2⟩ := zEN_1 h0 hY (by omega)
  subst ht
  exact zE3_n (h z) e1 f1 hi hm ho (by rw [ha]; exact x2) (by rw [ha, Int.add_mul, Int.one_mul]; omega)
theorem zEp_o {ta tA ta1 tA1 : Nat → Int32} {P : Int → Int} {k t B gE m' : Int} {i o a : Int32} (h : zEp gE P ta tA i.toInt k t B) (e1 : ta1 = upd ta i.toNatClampNeg o) (f1 : tA1 = upd tA i.toNatClampNeg a) (ho : o.toInt ≠ 100) (ho2 : o.toInt ≠ 0) (hi : 0 ≤ i.toInt) (hm : m' = i.toInt + 1) : zEp gE P ta1 tA1 m' k t B :=
  fun z => zE3_o (h z) e1 f1 hi hm ho ho2
theorem zEp_e {so va le mo ho pa en fp pb pe ac aA aB la ta0 tA0 tB0 ta tA : Nat → Int32} {Z P : Int → Int} {bs q n c φ N lb m0 m t gE B : Int} {C Λ : Int → zT} {σ σ0 τ : zT} {k B1 B2 : Int} (h0 : zND so va le mo ho pa en fp pb pe ac aA aB la ta0 tA0 tB0 Z bs q n c φ N lb m0 C Λ σ σ0 τ k B1 B2) (hE : zEN gE φ so le mo en bs n P ta0 tA0 m0 k B) (h : zEp gE P ta tA m k t B) (hs : zg so (bs + k) = 7) (ht : t = zT0 le mo (bs + k) + zg le (bs + k)) : zEQ gE P ta tA m B := by
  intro z
  obtain ⟨_, hY, _, hk⟩ := hE z
  obtain ⟨x1, x2⟩ := zEN_1 h0 hY (by omega)
  obtain ⟨r, _⟩ := zEN_k h0 hY
  obtain ⟨lm1, lm2, lm3⟩ := zN_lm h0
  have tb : t ≤ zby so le mo (bs + k) := by
    subst ht
    unfold zT0 zby
    rw [if_pos hs]
    by_cases e : zg mo (bs + k) = -1
    · rw [if_pos e, if_pos e]; omega
    · rw [if_neg e, if_neg e]; split <;> omega
  have y := (hY k r.1 r.2).2.2 hk (by omega)
  rw [x1] at y
  have y2 := Int.mul_le_mul_of_nonneg_right tb x2
  exact zE3_mono (h z) (by omega)
def zEC (gE : Int) (P : Int → Int) (ac ta tA : Nat → Int32) (N m : Int) : Prop := gE = 1 → zE3 P ta tA m (P 0 - zcE ac N)
theorem zcE_0 {ac : Nat → Int32} {N : Int} : 0 ≤ zcE ac N := zsm_nn (fun k => by split <;> decide)
theorem zcE_z {ac : Nat → Int32} {N : Int} (h : N ≤ 0) : zcE ac N = 0 := by unfold zcE; rw [show N.toNat = 0 by omega]; rfl
theorem zcE_s {ac ac' : Nat → Int32} {i o : Int32} {N' : Int} (e : ac' = upd ac i.toNatClampNeg o) (h0 : 0 ≤ i.toInt) (hN : N' = i.toInt + 1) : zcE ac' N' = zcE ac i.toInt + (if o.toInt = 0 then 1 else 0) := by
  subst hN
  unfold zcE
  rw [zsm_add h0]
  have c := zsm_congr (f := fun p => if zg ac' p = 0 then 1 else 0) (g := fun p => if zg ac p = 0 then 1 else 0) (n := i.toInt.toNat) (fun k k0 k1 => by
    show (if zg ac' k = 0 then (1 : Int) else 0) = if zg ac k = 0 then 1 else 0
    rw [e, zg_ne h0 k0 (by omega)])
  rw [c, show zg ac' i.toInt = o.toInt by rw [e]; exact zg_eq]
theorem zsu_m {c : Int → Int → Int} {ta tA : Nat → Int32} {m : Int} (h : 1 ≤ m) : zsu c ta tA m = zsu c ta tA (m - 1) + c (zg ta (m - 1)) (zg tA (m - 1)) := by
  unfold zsu
  have := zsm_add (f := fun i => c (zg ta i) (zg tA i)) (a := m - 1) (by omega)
  rw [show m - 1 + 1 = m by omega] at this
  exact this
theorem zE3_nn {P : Int → Int} {ta tA : Nat → Int32} {m B : Int} (h : zE3 P ta tA m B) : 0 ≤ zsu (zc3 P) ta tA m := by
  have g : ∀ n : Nat, (n : Int) ≤ m → 0 ≤ zsm (fun i => zc3 P (zg ta i) (zg tA i)) n := by
    intro n; induction n with
    | zero => intro _; exact Int.le_refl _
    | succ n ih =>
      intro hn
      have a := ih (by omega)
      have b := h.1 n (by omega) (by omega)
      have e : zsm (fun i => zc3 P (zg ta i) (zg tA i)) (n + 1) = zsm (fun i => zc3 P (zg ta i) (zg tA i)) n + zc3 P (zg ta n) (zg tA n) := rfl
      rw [e]; omega
  by_cases q : 0 ≤ m
  · exact g m.toNat (by omega)
  · unfold zsu; rw [show m.toNat = 0 by omega]; exact Int.le_refl _
theorem zE3_pop {P : Int → Int} {ta tA : Nat → Int32} {m m' B : Int} (h : zE3 P ta tA m B) (h1 : 1 ≤ m) (hm : m' = m - 1) : zE3 P ta tA m' (B - zc3 P (zg ta (m - 1)) (zg tA (m - 1))) ∧ zc3 P (zg ta (m - 1)) (zg tA (m - 1)) ≤ B := by
  subst hm
  have e := zsu_m (c := zc3 P) (ta := ta) (tA := tA) h1
  have h2 := h.2
  have p : zE3 P ta tA (m - 1) (B - zc3 P (zg ta (m - 1)) (zg tA (m - 1))) := ⟨fun i i0 i1 => h.1 i i0 (by omega), by omega⟩
  have nn := zE3_nn p
  exact ⟨p, by omega⟩
theorem zEC_0 {so le mo en ac ta tA ta1 tA1 ta2 tA2 : Nat → Int32} {bs n gE φ N m' : Int} {P : Int → Int} {i1 o1 a1 i2 o2 a2 : Int32} (hE : gE = 1 → (φ = 1 ∧ zY so le mo en bs n P ∧ P 0 ≤ 60)) (e1 : ta1 = upd ta i1.toNatClampNeg o1) (f1 : tA1 = upd tA i1.toNatClampNeg a1) (e2 : ta2 = upd ta1 i2.toNatClampNeg o2) (f2 : tA2 = upd tA1 i2.toNatClampNeg a2) (ho1 : o1.toInt = 19) (ho2 : o2.toInt = 100) (ha2 : a2.toInt = 0) (hi1 : i1.toInt = 0) (hi2 : i2.toInt = 1) (hm : m' = 2) (hN : N ≤ 0) (hn : 1 ≤ n) : zEC gE P ac ta2 tA2 N m' := by
  intro z
  obtain ⟨_, hY, _⟩ := hE z
  have p0 := (hY 0 (Int.le_refl _) (by omega)).1
  have s0 : zE3 P ta tA i1.toInt 0 := ⟨fun i i0 i1' => by omega, by rw [hi1]; exact Int.le_refl _⟩
  have s1 := zE3_o s0 e1 f1 (by omega) (show i2.toInt = i1.toInt + 1 by omega) (by omega) (by omega)
  exact zE3_n s1 e2 f2 (by omega) (by omega) ho2 (by rw [ha2]; exact p0) (by rw [ha2, zcE_z hN]; omega)
theorem zEC_n {so le mo en ac ta tA : Nat → Int32} {bs n gE φ N m m' k : Int} {P : Int → Int} (h : zEC gE P ac ta tA N m) (hE : gE = 1 → (φ = 1 ∧ zY so le mo en bs n P ∧ P 0 ≤ 60)) (h1 : 1 ≤ m) (hm : m' = m - 1) (ht : zg ta (m - 1) = 100) (hk : k = zg tA (m - 1)) : zEN gE φ so le mo en bs n P ta tA m' k (P 0 - zcE ac N) := by
  intro z
  obtain ⟨p1, hY, p6⟩ := hE z
  obtain ⟨a, b⟩ := zE3_pop (h z) h1 hm
  rw [ht, ← hk, zc3_n] at a b
  have c0 := @zcE_0 ac N
  exact ⟨p1, hY, a, by omega⟩
theorem zEC_q {ac ta tA : Nat → Int32} {gE N m : Int} {P : Int → Int} (h : zEQ gE P ta tA m (P 0 - zcE ac N)) : zEC gE P ac ta tA N m := h
theorem zEC_l {ac ta tA : Nat → Int32} {gE N m m' : Int} {P : Int → Int} (h : zEC gE P ac ta tA N m) (h1 : 1 ≤ m) (hm : m' = m - 1) (ht : zg ta (m - 1) = 101) : zEC gE P ac ta tA N m' := by
  intro z
  obtain ⟨a, _⟩ := zE3_pop (h z) h1 hm
  rw [ht, zc3_o (by decide) (by decide)] at a
  exact zE3_mono a (by omega)
theorem zEC_o {ac ac' ta tA : Nat → Int32} {gE N' m m' : Int} {P : Int → Int} {i o : Int32} (h : zEC gE P ac ta tA i.toInt m) (e : ac' = upd ac i.toNatClampNeg o) (h1 : 1 ≤ m) (hm : m' = m - 1) (ht : o.toInt = zg ta (m - 1)) (hn : o.toInt ≠ 100) (hi : 0 ≤ i.toInt) (hN : N' = i.toInt + 1) : zEC gE P ac' ta tA N' m' := by
  intro z
  obtain ⟨a, _⟩ := zE3_pop (h z) h1 hm
  rw [zcE_s e hi hN]
  rw [← ht] at a
  by_cases q : o.toInt = 0
  · rw [if_pos q]; rw [q, zc3_0] at a; exact zE3_mono a (by omega)
  · rw [if_neg q]; rw [zc3_o hn q] at a; exact zE3_mono a (by omega)
theorem zEC_e {ac ta tA : Nat → Int32} {gE N m : Int} {P : Int → Int} (h : zEC gE P ac ta tA N m) (hm : m ≤ 0) : gE = 1 → zcE ac N ≤ P 0 := by
  intro z
  have a := (h z).2
  have e : zsu (zc3 P) ta tA m = 0 := by unfold zsu; rw [show m.toNat = 0 by omega]; rfl
  omega
