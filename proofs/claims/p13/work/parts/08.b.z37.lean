theorem zL0 {φ N fr lg b1 b2 g t m n s st Ψ bs n9 : Int} {ac aA rg to tl cs ca cp ct so va aB la : Nat → Int32} {C : Int → zT} (h : zMa φ ac aA C N fr lg b1 b2 g rg to tl cs ca cp ct t m n s st Ψ 1) (hP : zPr so va ac aA aB la bs n9 φ N C) (ho : zg ac n = 13 ∨ zg ac n = 15 ∨ zg ac n = 17) : ∃ S : Int, S + zw φ (C n) ≤ Ψ + g * zk φ st ∧ zCs (zP φ ac aA C N fr lg (52 * zk φ st + b1) (33 * zk φ st + b2)) (zOm φ C) to tl cs ca cp ct t m (zG rg) S ∧ zIn φ C N fr lg (52 * zk φ st + b1) (33 * zk φ st + b2) (zG rg) n s m t ∧ φ = 0 ∧ (0 ≤ zg aA n ∧ zg aA n < 220) ∧ zFree (470 + zg aA n) (C n).1 ∧ zFree (690 + zg aA n) (C n).1 ∧ n + 1 < N ∧ (C (n + 1)).1 = (2, zg aA n) :: (C n).1 ∧ (C (n + 1)).2.1 ≤ (C n).2.1 + 51 ∧ (zg ac n = 17 → (C (n + 1)).2.1 ≤ (C n).2.1 + 50) ∧ (C (n + 1)).2.2.1 ≤ (C n).2.2.1 + 30 ∧ zRg (C n) ∧ zRg (C (n + 1)) ∧ (zg aB n = -1 ∨ ((0 ≤ zg la (zg aB n) ∧ zg la (zg aB n) < N) ∧ (C (zg la (zg aB n))).1 = (C n).1 ∧ (C (zg la (zg aB n))).2.1 ≤ (C n).2.1 + 50 ∧ (C (zg la (zg aB n))).2.2.1 ≤ (C n).2.2.1 + 30)) := by
  obtain ⟨S, hS, hC, hI⟩ := h
  rw [if_neg (by decide)] at hS
  have hI := hI (by decide)
  have hn := hI.1
  obtain ⟨sd, nx, r, nl, hφ⟩ := zPr_at hP hI.1.1 hI.1.2
  have a := zSd_a sd (by omega) (by omega)
  have a2 := a.2 (by omega)
  have n22 := hP.1.2.2.1
  have l := (zPr_la hP hI.1.1 hI.1.2).2.2 ho
  have k := zSd_k sd ho
  have x := nx (by unfold zFa; omega)
  have nl := nl (by omega)
  have x2 := x.2 a.1
  have eG : zGn (zg ac n) (zg aA n) (C n).1 = (2, zg aA n) :: (C n).1 := by rcases ho with e | e | e <;> rw [e] <;> rfl
  have d1 : zdu (zg ac n) ≤ 51 ∧ (zg ac n = 17 → zdu (zg ac n) = 50) := by
    rcases ho with e | e | e <;> rw [e]
    · exact ⟨by decide, by decide⟩
    · exact ⟨by decide, by decide⟩
    · exact ⟨by decide, fun _ => rfl⟩
  have d2 : zdr (zg ac n) = 30 := by rcases ho with e | e | e <;> rw [e] <;> rfl
  refine ⟨S, hS, hC, hI, a.1, ⟨a2.1, by omega⟩, k.1, k.2.1, nl, x.1.trans eG, by omega, fun z => by have := d1.2 z; omega, by omega, r, (zPr_at hP (show 0 ≤ n + 1 by omega) nl).2.2.1, ?_⟩
  rcases l with l | l
  · exact Or.inl l
  · rcases k.2.2 with q | ⟨q1, q2, q3⟩
    · exact Or.inl q
    · have q4 := q3.2 a.1
      exact Or.inr ⟨l.2, q3.1, q4.1, q4.2.1⟩
theorem zL_f {fr lg p c k : Int} {f : Int → Int} {G : List (Int × Int)} (hf : 0 ≤ fr) (hw : zWf fr lg f G p c) (hc : zCap f lg) (h1 : zFree (470 + k) G) (h2 : zFree (690 + k) G) (k0 : 0 ≤ k) (k1 : k < 220) : zWf fr lg (zfs (zfs f (470 + k) c) (690 + k) p) ((2, k) :: G) p c ∧ zWf fr lg (zfs (zfs f (470 + k) c) (690 + k) p) G p c ∧ zCap (zfs (zfs f (470 + k) c) (690 + k) p) lg ∧ zNz (zfs (zfs f (470 + k) c) (690 + k) p) = zNz f :=
  ⟨zWf_look hf hw h1 h2, zWf_set h2 (zWf_set h1 hw), zCap_o (zCap_o hc (by omega)) (by omega), by rw [zNz_o (by omega), zNz_o (by omega)]⟩
def zL5 (P : Int → Int → Int → (Int → Int) → Int → Int → Prop) (w : Int → Int → Int) (to tl cs ca cp ct : Nat → Int32) (t m m' : Int) (f : Int → Int) (S g : Int) : Prop := ∃ W : Int, 0 ≤ W ∧ 3 * W ≤ g ∧ m ≤ m' ∧ m' ≤ m + 1 ∧ zCs P w to tl cs ca cp ct t m' f (S + W)
theorem zL_c {φ N fr lg b1 b2 g n st Ψ bs n9 t0 m' S : Int} {ac aA rg rg2 to tl cs ca cp ct to2 tl2 cs' ca' cp' ct' so va aB la : Nat → Int32} {C : Int → zT} {t2 m s z a : Int32} (h : zMa φ ac aA C N fr lg b1 b2 g rg to tl cs ca cp ct t0 m.toInt n s.toInt st Ψ 1) (hP : zPr so va ac aA aB la bs n9 φ N C) (hC : zCs (zP φ ac aA C N fr lg (52 * zk φ (st + 1) + b1) (33 * zk φ (st + 1) + b2)) (zOm φ C) to2 tl2 cs ca cp ct t2.toInt m.toInt (zG rg2) S) (er : zG rg2 = zfs (zfs (zG rg) (470 + zg aA n) m.toInt) (690 + zg aA n) s.toInt) (e1 : cs' = upd cs m.toNatClampNeg z) (e2 : ca' = upd ca m.toNatClampNeg a) (e3 : cp' = upd cp m.toNatClampNeg s) (e4 : ct' = upd ct m.toNatClampNeg t2) (hG : zGg φ C N g) (hf : 0 ≤ fr) (ho : zg ac n = 13 ∨ zg ac n = 15 ∨ zg ac n = 17) (hb : zg aB n ≠ -1) (hz : z.toInt = 0) (ha : a.toInt = zg la (zg aB n)) (ht0 : 0 ≤ t2.toInt) (ht : t2.toInt ≤ t0 + 2) (hm0 : 0 ≤ m.toInt) (hm : m' = m.toInt + 1) : zL5 (zP φ ac aA C N fr lg (52 * zk φ (st + 1) + b1) (33 * zk φ (st + 1) + b2)) (zOm φ C) to2 tl2 cs' ca' cp' ct' t2.toInt m.toInt m' (zG rg2) S g := by
  obtain ⟨S1, _, _, hI, p0, a2, f1, f2, nl, eG, u1, _, r1, rn, rn1, l⟩ := zL0 h hP ho
  obtain ⟨_, hw, hc, h1, h2⟩ := hI
  obtain ⟨y1, y2, y3, y4⟩ := zL_f hf hw hc f1 f2 a2.1 a2.2
  have kk : zk φ (st + 1) = zk φ st + 1 := by rw [p0, zk_0, zk_0]
  have zu : ∀ τ : zT, zU φ τ = τ.2.1 := fun τ => by rw [p0]; exact zU_0
  have zr : ∀ τ : zT, zR φ τ = τ.2.2.1 := fun τ => by rw [p0]; exact zR_0
  rw [zu] at h1; rw [zr] at h2
  rcases l with l | ⟨l1, l2, l3, l4⟩
  · exact absurd l hb
  · have w9 := hG.2 _ l1.1 l1.2
    have w8 := @zw_1 φ (C (zg la (zg aB n)))
    have om : zOm φ C z.toInt a.toInt = zw φ (C a.toInt) := by unfold zOm; rw [if_pos hz]
    have hC1 := zCs_ch hC e1 e2 e3 e4 ht0 hm0 (Or.inl ⟨hz, by
      rw [ha, er]
      refine ⟨l1, by rw [l2]; exact y2, y3, by rw [zu]; omega, by rw [zr, y4]; omega⟩⟩) hm
    rw [om, ha] at hC1
    exact ⟨_, by omega, by omega, by omega, by omega, hC1⟩
theorem zL_0 {P : Int → Int → Int → (Int → Int) → Int → Int → Prop} {w : Int → Int → Int} {to tl cs ca cp ct : Nat → Int32} {t m m' : Int} {f : Int → Int} {S g : Int} (h : zCs P w to tl cs ca cp ct t m f S) (hg : 0 ≤ g) (hm : m' = m) : zL5 P w to tl cs ca cp ct t m m' f S g := by
  subst hm; exact ⟨0, by omega, by omega, by omega, by omega, by rw [Int.add_zero]; exact h⟩
theorem zL_n {φ N fr lg b1 b2 b1' b2' g t t2 m m' n n' s st st' Ψ Ψ' bs n9 S : Int} {ac aA rg rg2 to tl cs ca cp ct to2 tl2 cs' ca' cp' ct' so va aB la : Nat → Int32} {C : Int → zT} (h : zMa φ ac aA C N fr lg b1 b2 g rg to tl cs ca cp ct t m n s st Ψ 1) (hP : zPr so va ac aA aB la bs n9 φ N C) (h5 : zL5 (zP φ ac aA C N fr lg (52 * zk φ (st + 1) + b1) (33 * zk φ (st + 1) + b2)) (zOm φ C) to2 tl2 cs' ca' cp' ct' t2 m m' (zG rg2) S g) (hS : S + zw φ (C n) ≤ Ψ + g * zk φ st) (er : zG rg2 = zfs (zfs (zG rg) (470 + zg aA n) m) (690 + zg aA n) s) (hG : zGg φ C N g) (hf : 0 ≤ fr) (ho : zg ac n = 13 ∨ zg ac n = 15) (ht : t2 ≤ t + 2) (hn' : n' = n + 1) (hst : st' = st + 1) (eb1 : b1' = b1 + zh φ (zg ac n)) (eb2 : b2' = b2 + zh φ (zg ac n)) (hΨ : Ψ' = Ψ - 1 + 2 * φ) : zMa φ ac aA C N fr lg b1' b2' g rg2 to2 tl2 cs' ca' cp' ct' t2 m' n' s st' Ψ' 1 := by
  obtain ⟨S1, _, _, hI, p0, a2, f1, f2, nl, eG, u1, _, r1, rn, rn1, l⟩ := zL0 h hP (by omega)
  obtain ⟨y1, y2, y3, y4⟩ := zL_f hf hI.2.1 hI.2.2.1 f1 f2 a2.1 a2.2
  obtain ⟨W, W0, W1, m1, m2, hC⟩ := h5
  have d1 : zdu (zg ac n) = 51 := by rcases ho with e | e <;> rw [e] <;> rfl
  have d2 : zdr (zg ac n) = 30 := by rcases ho with e | e <;> rw [e] <;> rfl
  have e9 : zGn (zg ac n) (zg aA n) (C n).1 = (2, zg aA n) :: (C n).1 := by rcases ho with e | e <;> rw [e] <;> rfl
  refine zD_s (rg := rg) (t := t) (m := m) (W := W) (S := S) hS hC hI hP hG (by omega) hn' hst ?_ ?_ (by omega) ?_ (by omega) eb1 eb2 hΨ
  · rw [e9, er]; exact zWf_mono hf (Int.le_refl _) (zWf_le hf y1).2.1 m1 y1
  · rw [er]; exact y3
  · rw [er, y4]; omega
theorem zL_i {φ N fr lg b1 b2 g t t2 m m' n s q st Ψ bs n9 B1 B2 : Int} {ac aA rg rg2 to tl cs ca cp ct so va aB la : Nat → Int32} {C : Int → zT} (h : zMa φ ac aA C N fr lg b1 b2 g rg to tl cs ca cp ct t m n s st Ψ 1) (hP : zPr so va ac aA aB la bs n9 φ N C) (er : zG rg2 = zfs (zfs (zG rg) (470 + zg aA n) m) (690 + zg aA n) s) (hf : 0 ≤ fr) (ho : zg ac n = 17) (q0 : 0 ≤ q) (q1 : q ≤ lg) (ht : t2 ≤ t + 3) (m1 : m ≤ m') (m2 : m' ≤ m + 2) (hB1 : 52 * zk φ st + b1 + 52 ≤ B1) (hB2 : 33 * zk φ st + b2 + 33 ≤ B2) : zIn φ C N fr lg B1 B2 (zfs (zG rg2) (910 + zg aA n) q) (n + 1) q m' t2 := by
  obtain ⟨S1, _, _, hI, p0, a2, f1, f2, nl, eG, _, u1, r1, rn, rn1, l⟩ := zL0 h hP (by omega)
  obtain ⟨y1, y2, y3, y4⟩ := zL_f hf hI.2.1 hI.2.2.1 f1 f2 a2.1 a2.2
  have u1 := u1 ho
  obtain ⟨hn, _, _, h1, h2⟩ := hI
  subst p0
  rw [zU_0] at h1; rw [zR_0] at h2
  have cx := rn1.2.2.2.2
  rw [eG] at cx
  have w1 : zWf fr lg (zfs (zG rg2) (910 + zg aA n) q) ((2, zg aA n) :: (C n).1) s m' := by
    rw [er]; exact zWf_loose (Or.inr (Or.inr (by omega))) cx (zWf_mono hf (Int.le_refl _) (zWf_le hf y1).2.1 m1 y1)
  have w2 : zWf fr lg (zfs (zG rg2) (910 + zg aA n) q) ((2, zg aA n) :: (C n).1) q m' := by
    rcases w1 with ⟨z, _⟩ | ⟨z, _⟩ | ⟨z, z1, z2, z3⟩
    · exact absurd z (by decide)
    · exact absurd z (by decide)
    · exact Or.inr (Or.inr ⟨z, q0, q1, z3⟩)
  refine ⟨⟨by omega, nl⟩, by rw [eG]; exact w2, by rw [er]; exact zCap_o y3 (by omega), by rw [zU_0]; omega, ?_⟩
  rw [zR_0, zNz_o (by omega), er, y4]; omega
theorem zL_b {φ N fr lg b1 b2 b1' b2' g t t2 t' m m2 m' n n' s s' st st' Ψ Ψ' bs n9 S W : Int} {ac aA rg rg2 rg' to tl cs ca cp ct to' tl' cs' ca' cp' ct' so va aB la : Nat → Int32} {C : Int → zT} {o : Bool} (h : zMa φ ac aA C N fr lg b1 b2 g rg to tl cs ca cp ct t m n s st Ψ 1) (hP : zPr so va ac aA aB la bs n9 φ N C) (hb : zTB (zP φ ac aA C N fr lg (52 * zk φ (st + 2) + b1) (33 * zk φ (st + 2) + b2)) (zOm φ C) rg2 rg' to' tl' cs' ca' cp' ct' t2 t' m2 m' (zg aA n) s n n' s' (S + W) o) (hS : S + zw φ (C n) ≤ Ψ + g * zk φ st) (er : zG rg2 = zfs (zfs (zG rg) (470 + zg aA n) m) (690 + zg aA n) s) (hG : zGg φ C N g) (hf : 0 ≤ fr) (ho : zg ac n = 17) (ht : t2 ≤ t + 2) (hm1 : m ≤ m2) (hm2 : m2 ≤ m + 1) (hW : 3 * W ≤ g) (hst : o = true ∨ st' = st + 2) (eb1 : b1' = b1 + zh φ (zg ac n)) (eb2 : b2' = b2 + zh φ (zg ac n)) (hΨ : Ψ' = Ψ - 1 + 2 * φ) : o = true ∨ zMa φ ac aA C N fr lg b1' b2' g rg' to' tl' cs' ca' cp' ct' t' m' n' s' st' Ψ' 1 := by
  rcases hb with hb | ⟨o1, e1, e2, e3, e4, e5, e6, e7, hC⟩
  · exact Or.inl hb
  · have st1 : st' = st + 2 := by rcases hst with z | z
                                  · rw [z] at o1; exact absurd o1 (by decide)
                                  · exact z
    have q := (zL0 h hP (by omega))
    obtain ⟨S1, _, _, hI, p0, a2, f1, f2, nl, _⟩ := q
    have le := zWf_le hf hI.2.1
    have hn := hI.1
    have i9 := zL_i (q := s) (t2 := t') (m' := m') (B1 := 52 * zk φ (st + 2) + b1) (B2 := 33 * zk φ (st + 2) + b2) h hP er hf ho (by omega) (by omega) (by omega) (by omega) (by omega) (by subst p0; rw [zk_0, zk_0]; omega) (by subst p0; rw [zk_0, zk_0]; omega)
    have w1 := hG.2 (n + 1) (by omega) nl
    have w3 := @zw_1 φ (C (n + 1))
    have w2 := @zw_1 φ (C n)
    have om : zOm φ C 2 n = 1 := by unfold zOm; rw [if_neg (by decide)]
    rw [om] at hC
    subst e2; subst e1; subst st1
    have hC2 : zCs (zP φ ac aA C N fr lg (52 * zk φ (st + 2) + b1) (33 * zk φ (st + 2) + b2)) (zOm φ C) to' tl' cs' ca' cp' ct' t' m' (zG rg') (S + W + 1) := by
      rcases hC with ⟨_, z⟩ | ⟨_, z⟩
      · exact zCs_mono z (fun _ _ _ _ _ _ z => z) (by omega)
      · exact z
    have kg : g * zk φ (st + 2) = g * zk φ st + 2 * g := by rw [p0, zk_0, zk_0, Int.mul_add]; omega
    have zz : zh φ (zg ac n) = 0 := by rw [p0]; exact zh_0
    refine Or.inr (zMa_go (st := st) hS (b1 := b1) (b2 := b2) (zCs_mono hC2 (zP_m (by omega) (by omega)) (Int.le_refl _)) (by rw [e7]; exact zIn_m i9 (by omega) (by omega) (Int.le_refl _)) (by omega) hΨ)
