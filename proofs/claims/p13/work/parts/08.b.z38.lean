theorem zB_c {P : Int → Int → Int → (Int → Int) → Int → Int → Prop} {w : Int → Int → Int} {to tl cs ca cp ct : Nat → Int32} {t m S : Int} {f : Int → Int} {x i : Int32} (h : zCs P w to tl cs ca cp ct t m f S) (ex : x = ct i.toNatClampNeg) (hi : i.toInt = m - 1) (hm : 1 ≤ m) : 0 ≤ x.toInt ∧ x.toInt ≤ t := by
  have e := zg_at2 ex hi
  have := h.1 (m - 1) (by omega) (by omega)
  rw [e]; exact ⟨this.1, this.2.1⟩
theorem zB_r {P : Int → Int → Int → (Int → Int) → Int → Int → Prop} {w : Int → Int → Int} {rg rg' to tl cs ca cp ct : Nat → Int32} {t t' m S : Int} {x y i c : Int32} {j : Int32} (h : zCs P w to tl cs ca cp ct t m (zG rg) S) (ex : x = to i.toNatClampNeg) (ey : y = tl i.toNatClampNeg) (e : rg' = upd rg x.toNatClampNeg y) (ec : c = ct j.toNatClampNeg) (hj : j.toInt = m - 1) (hi : i.toInt = t - 1) (hx : 0 ≤ x.toInt) (ht : t' = i.toInt) (hl : c.toInt < t) : zCs P w to tl cs ca cp ct t' m (zG rg') S := by
  have q := zCs_back h (fun _ => by have := zg_at2 ec hj; omega)
  have e1 := zg_at2 ex hi
  have e2 := zg_at2 ey hi
  rw [e, zG_upd hx, e1, e2, ht, hi]; exact q
theorem zB_t {P : Int → Int → Int → (Int → Int) → Int → Int → Prop} {w : Int → Int → Int} {to tl cs ca cp ct : Nat → Int32} {t m m' S : Int} {f : Int → Int} {c j : Int32} (h : zCs P w to tl cs ca cp ct t m f S) (ec : c = ct j.toNatClampNeg) (hw : ∀ s a : Int, 0 ≤ w s a) (hj : j.toInt = m - 1) (hm : 1 ≤ m) (hl : t ≤ c.toInt) (hm' : m' = m - 1) : P (zg cs m') (zg ca m') (zg cp m') f m' t ∧ zCs P w to tl cs ca cp ct t m' f (S - w (zg cs m') (zg ca m')) := by
  have e := zg_at2 ec hj
  have := (h.1 (m - 1) (by omega) (by omega)).2.1
  subst hm'
  exact zCs_top h hw hm (by omega)
theorem zP_r {so va ac aA aB la : Nat → Int32} {bs n9 φ N fr lg B1 B2 s a p i t : Int} {f : Int → Int} {C : Int → zT} (h : zP φ ac aA C N fr lg B1 B2 s a p f i t) (hP : zPr so va ac aA aB la bs n9 φ N C) (hf : 0 ≤ fr) : (0 ≤ a ∧ a < N ∧ N ≤ 2999) ∧ (0 ≤ p ∧ p ≤ lg) ∧ (s = 1 → 0 ≤ zg aA a ∧ zg aA a < 220) ∧ (s = 2 → (0 ≤ zg aA a ∧ zg aA a < 220) ∧ 1 ≤ f (910 + zg aA a) ∧ f (910 + zg aA a) ≤ lg) := by
  have n22 := hP.1
  have hp : 0 ≤ p ∧ p ≤ lg := by
    rcases h with ⟨_, h⟩ | ⟨_, _, h⟩ | ⟨_, _, _, h, _⟩
    · have := zWf_le hf h.2.1; omega
    · have := zWf_le hf h.2.1; omega
    · have := zWf_le hf h.2.1; omega
  rcases h with ⟨e, h⟩ | ⟨e, o, h⟩ | ⟨e, o, a0, h, h1, h2⟩
  · exact ⟨⟨h.1.1, h.1.2, n22.2.1⟩, hp, fun z => by omega, fun z => by omega⟩
  · have q := (zSd_a (zPr_at hP h.1.1 h.1.2).1 (by omega) (by omega)).2 (by omega)
    exact ⟨⟨h.1.1, h.1.2, n22.2.1⟩, hp, fun z => ⟨q.1, by omega⟩, fun z => by omega⟩
  · have h9 := h.1
    have q := (zSd_a (zPr_at hP a0 (show a < N by omega)).1 (by omega) (by omega)).2 (by omega)
    exact ⟨⟨a0, by omega, n22.2.1⟩, hp, fun z => by omega, fun z => ⟨⟨q.1, by omega⟩, h1, h2⟩⟩
theorem zB_0 {φ N fr lg b1 b2 g st Ψ t m S a p so : Int} {ac aA rg to tl cs ca cp ct : Nat → Int32} {C : Int → zT} (hS : S ≤ Ψ + g * zk φ st) (hp : zP φ ac aA C N fr lg (52 * zk φ st + b1) (33 * zk φ st + b2) so a p (zG rg) m t) (hC : zCs (zP φ ac aA C N fr lg (52 * zk φ st + b1) (33 * zk φ st + b2)) (zOm φ C) to tl cs ca cp ct t m (zG rg) (S - zOm φ C so a)) (h1 : so ≠ 1) (h2 : so ≠ 2) : zMa φ ac aA C N fr lg b1 b2 g rg to tl cs ca cp ct t m a p st Ψ 1 := by
  rcases hp with ⟨e, h⟩ | ⟨e, _⟩ | ⟨e, _⟩
  · have om : zOm φ C so a = zw φ (C a) := by unfold zOm; rw [if_pos e]
    rw [om] at hC
    exact ⟨_, by rw [if_neg (by decide)]; omega, hC, fun _ => h⟩
  · exact absurd e h1
  · exact absurd e h2
theorem zB_1 {so va : Nat → Int32} {aB la : Nat → Int32} {φ N fr lg b1 b2 g st st' Ψ t t' m n' S a p s9 k bs n9 : Int} {ac aA rg rg' to tl to' tl' cs ca cp ct : Nat → Int32} {C : Int → zT} {o : Bool} (hP : zPr so va ac aA aB la bs n9 φ N C) (hS : S ≤ Ψ + g * zk φ st) (hp : zP φ ac aA C N fr lg (52 * zk φ st + b1) (33 * zk φ st + b2) s9 a p (zG rg) m t) (hb : zBT (zP φ ac aA C N fr lg (52 * zk φ (st + 1) + b1) (33 * zk φ (st + 1) + b2)) (zOm φ C) rg to tl rg' to' tl' cs ca cp ct t t' m k a n' p (S - zOm φ C s9 a) o) (hG : zGg φ C N g) (h1 : s9 = 1) (hk : k = zg aA a) (hst : o = true ∨ st' = st + 1) : o = true ∨ zMa φ ac aA C N fr lg b1 b2 g rg' to' tl' cs ca cp ct t' m n' p st' Ψ 1 := by
  rcases hb with hb | ⟨o1, e1, e2, e3, hC, v, ev⟩
  · exact Or.inl hb
  have st1 : st' = st + 1 := by rcases hst with z | z
                                · rw [z] at o1; exact absurd o1 (by decide)
                                · exact z
  rcases hp with ⟨e, _⟩ | ⟨e, ho, hI⟩ | ⟨e, _⟩
  · omega
  · obtain ⟨hn, hw, hc, q1, q2⟩ := hI
    obtain ⟨sd, nx, r, nl, hφ⟩ := zPr_at hP hn.1 hn.2
    have sa := zSd_a sd (by omega) (by omega)
    have a2 := sa.2 (by omega)
    have n22 := hP.1.2.2.1
    have x := nx (by unfold zFa; omega)
    have nl := nl (by omega)
    have x2 := x.2 sa.1
    have eG : zGn (zg ac a) (zg aA a) (C a).1 = (C a).1 := by rw [ho]; rfl
    have d1 : zdu (zg ac a) = 51 := by rw [ho]; rfl
    have d2 : zdr (zg ac a) = 30 := by rw [ho]; rfl
    obtain ⟨u1, u2, u3⟩ := zTu (v := v) (q := p) hw r.2.2.2.2 hc a2.1 (show zg aA a < 220 by omega)
    have kk : zk φ (st + 1) = zk φ st + 1 := by rw [sa.1, zk_0, zk_0]
    have kg : g * zk φ (st + 1) = g * zk φ st + g := by rw [sa.1, zk_0, zk_0, Int.mul_add]; omega
    have zu : ∀ τ : zT, zU φ τ = τ.2.1 := fun τ => by rw [sa.1]; exact zU_0
    have zr : ∀ τ : zT, zR φ τ = τ.2.2.1 := fun τ => by rw [sa.1]; exact zR_0
    rw [zu] at q1; rw [zr] at q2
    have w1 := hG.2 (a + 1) (by omega) nl
    have w2 := @zw_1 φ (C (a + 1))
    have w3 := @zOm_1 φ C s9 a
    subst st1; subst e1; subst hk
    refine Or.inr ⟨_, ?_, hC, fun _ => ?_⟩
    · rw [if_neg (by decide)]; omega
    · rw [ev]; exact ⟨⟨by omega, nl⟩, by rw [x.1, eG]; exact u1, u2, by rw [zu]; omega, by rw [zr]; omega⟩
  · omega
theorem zB_i {so va : Nat → Int32} {aB la : Nat → Int32} {φ N fr lg b1 b2 st t t' m m' a p q bs n9 : Int} {ac aA : Nat → Int32} {f : Int → Int} {C : Int → zT} (hP : zPr so va ac aA aB la bs n9 φ N C) (hI : zIn φ C N fr lg (52 * zk φ st + b1) (33 * zk φ st + b2) f (a + 1) p m t) (ho : zg ac a = 17) (a0 : 0 ≤ a) (q0 : 0 ≤ q) (q1 : q ≤ lg) (hf : 0 ≤ fr) (m1 : m ≤ m') (m2 : m' ≤ m + 1) (ht : t' ≤ t + 1) : zIn φ C N fr lg (52 * zk φ (st + 1) + b1) (33 * zk φ (st + 1) + b2) (zfs f (910 + zg aA a) q) (a + 1) q m' t' ∧ zIn φ C N fr lg (52 * zk φ (st + 1) + b1) (33 * zk φ (st + 1) + b2) (zfs f (910 + zg aA a) q) (a + 1) p m' t' := by
  obtain ⟨hn, hw, hc, q1', q2'⟩ := hI
  obtain ⟨sd, nx, r, nl, hφ⟩ := zPr_at hP a0 (show a < N by omega)
  have sa := zSd_a sd (by omega) (by omega)
  have a2 := sa.2 (by omega)
  have n22 := hP.1.2.2.1
  have x := nx (by unfold zFa; omega)
  have r1 := (zPr_at hP hn.1 hn.2).2.2.1
  have eG : (C (a + 1)).1 = (2, zg aA a) :: (C a).1 := by rw [x.1, ho]; rfl
  have cx := r1.2.2.2.2
  rw [eG] at cx hw
  have kk : zk φ (st + 1) = zk φ st + 1 := by rw [sa.1, zk_0, zk_0]
  have w1 := zWf_loose (v := q) (r := 910 + zg aA a) (Or.inr (Or.inr (by omega))) cx (zWf_mono hf (Int.le_refl _) (zWf_le hf hw).2.1 m1 hw)
  have w2 : zWf fr lg (zfs f (910 + zg aA a) q) ((2, zg aA a) :: (C a).1) q m' := by
    rcases w1 with ⟨z, _⟩ | ⟨z, _⟩ | ⟨z, z1, z2, z3⟩
    · exact absurd z (by decide)
    · exact absurd z (by decide)
    · exact Or.inr (Or.inr ⟨z, q0, q1, z3⟩)
  have y1 := zCap_o (v := q) (r := 910 + zg aA a) hc (by omega)
  have y2 := zNz_o (f := f) (v := q) (r := 910 + zg aA a) (by omega)
  exact ⟨⟨hn, by rw [eG]; exact w2, y1, by omega, by omega⟩, ⟨hn, by rw [eG]; exact w1, y1, by omega, by omega⟩⟩
theorem zB_2 {so va : Nat → Int32} {aB la : Nat → Int32} {φ N fr lg b1 b2 g st st' Ψ t t' m m' n' s' S a p q s9 k bs n9 : Int} {ac aA rg rg' to' tl' cs' ca' cp' ct' : Nat → Int32} {C : Int → zT} {o : Bool} (hP : zPr so va ac aA aB la bs n9 φ N C) (hS : S ≤ Ψ + g * zk φ st) (hp : zP φ ac aA C N fr lg (52 * zk φ st + b1) (33 * zk φ st + b2) s9 a p (zG rg) m t) (hb : zTB (zP φ ac aA C N fr lg (52 * zk φ (st + 1) + b1) (33 * zk φ (st + 1) + b2)) (zOm φ C) rg rg' to' tl' cs' ca' cp' ct' t t' m m' k q a n' s' (S - zOm φ C s9 a) o) (hG : zGg φ C N g) (hf : 0 ≤ fr) (h1 : s9 = 2) (hk : k = zg aA a) (q0 : 0 ≤ q) (q1 : q ≤ lg) (hst : o = true ∨ st' = st + 1) : o = true ∨ zMa φ ac aA C N fr lg b1 b2 g rg' to' tl' cs' ca' cp' ct' t' m' n' s' st' Ψ 1 := by
  rcases hb with hb | ⟨o1, e1, e2, e3, e4, e5, e6, e7, hC⟩
  · exact Or.inl hb
  have st1 : st' = st + 1 := by rcases hst with z | z
                                · rw [z] at o1; exact absurd o1 (by decide)
                                · exact z
  rcases hp with ⟨e, _⟩ | ⟨e, ho, hI⟩ | ⟨e, ho, a0, hI, v1, v2⟩
  · omega
  · omega
  · have i9 := (zB_i (q := q) (m' := m') (t' := t') hP hI ho a0 q0 q1 hf e3 e4 (by omega)).1
    have hn := hI.1
    have sa := zSd_a (zPr_at hP a0 (show a < N by omega)).1 (by omega) (by omega)
    have kg : g * zk φ (st + 1) = g * zk φ st + g := by rw [sa.1, zk_0, zk_0, Int.mul_add]; omega
    have w1 := hG.2 (a + 1) (by omega) hn.2
    have w2 := @zw_1 φ (C (a + 1))
    have w3 := @zOm_1 φ C s9 a
    have om : zOm φ C 2 a = 1 := by unfold zOm; rw [if_neg (by decide)]
    rw [om] at hC
    subst st1; subst e1; subst hk; subst e2
    refine Or.inr ⟨S - zOm φ C s9 a + 1, ?_, ?_, fun _ => ?_⟩
    · rw [if_neg (by decide)]; omega
    · rcases hC with ⟨_, z⟩ | ⟨_, z⟩
      · exact zCs_mono z (fun _ _ _ _ _ _ z => z) (by omega)
      · exact z
    · rw [e7]; exact i9
theorem zB_p {so va : Nat → Int32} {aB la : Nat → Int32} {φ N fr lg b1 b2 st t t9 m a p q s9 k bs n9 : Int} {ac aA rg : Nat → Int32} {C : Int → zT} (hP : zPr so va ac aA aB la bs n9 φ N C) (hp : zP φ ac aA C N fr lg (52 * zk φ st + b1) (33 * zk φ st + b2) s9 a p (zG rg) m t) (hf : 0 ≤ fr) (h1 : s9 = 2) (hk : k = zg aA a) (q0 : 0 < q) (q1 : q ≤ lg) (ht : t9 ≤ t + 1) : zP φ ac aA C N fr lg (52 * zk φ (st + 1) + b1) (33 * zk φ (st + 1) + b2) 2 a p (zfs (zG rg) (910 + k) q) m t9 := by
  rcases hp with ⟨e, _⟩ | ⟨e, ho, hI⟩ | ⟨e, ho, a0, hI, v1, v2⟩
  · omega
  · omega
  · subst hk
    have i9 := (zB_i (q := q) (m' := m) (t' := t9) hP hI ho a0 (by omega) q1 hf (Int.le_refl _) (by omega) ht).2
    have e9 : zfs (zG rg) (910 + zg aA a) q (910 + zg aA a) = q := if_pos rfl
    exact Or.inr (Or.inr ⟨rfl, ho, a0, i9, by omega, by omega⟩)
