theorem zD_s {φ N fr lg b1 b2 b1' b2' g t t' m m' n n' s s' st st' Ψ Ψ' bs n9 W S : Int} {ac aA rg rg' to' tl' cs' ca' cp' ct' so va aB la : Nat → Int32} {C : Int → zT} (hS : S + zw φ (C n) ≤ Ψ + g * zk φ st) (hC : zCs (zP φ ac aA C N fr lg (52 * zk φ (st + 1) + b1) (33 * zk φ (st + 1) + b2)) (zOm φ C) to' tl' cs' ca' cp' ct' t' m' (zG rg') (S + W)) (hI : zIn φ C N fr lg (52 * zk φ st + b1) (33 * zk φ st + b2) (zG rg) n s m t) (hP : zPr so va ac aA aB la bs n9 φ N C) (hG : zGg φ C N g) (ho : zg ac n = 9 ∨ zg ac n = 11 ∨ zg ac n = 13 ∨ zg ac n = 15 ∨ zg ac n = 17) (hn' : n' = n + 1) (hst : st' = st + 1) (hw : zWf fr lg (zG rg') (zGn (zg ac n) (zg aA n) (C n).1) s' m') (hc : zCap (zG rg') lg) (hm : m' + zdu (zg ac n) ≤ m + 52) (ht : t' + zNz (zG rg') + zdr (zg ac n) ≤ t + zNz (zG rg) + 33) (hW : 2 * W ≤ g) (eb1 : b1' = b1 + zh φ (zg ac n)) (eb2 : b2' = b2 + zh φ (zg ac n)) (hΨ : Ψ' = Ψ - 1 + 2 * φ) : zMa φ ac aA C N fr lg b1' b2' g rg' to' tl' cs' ca' cp' ct' t' m' n' s' st' Ψ' 1 := by
  obtain ⟨hn, _, _, h1, h2⟩ := hI
  obtain ⟨sd, nx, r, nl, hφ⟩ := zPr_at hP hn.1 hn.2
  have x := nx (by unfold zFa; omega)
  have nl := nl (by omega)
  have p0 := (zSd_a sd (by omega) (by omega)).1
  clear nx sd
  have w1 := hG.2 (n + 1) (by omega) nl
  have w2 := @zw_1 φ (C n)
  have w3 := @zw_1 φ (C (n + 1))
  obtain ⟨k1, k2⟩ := @zg_s g φ st hφ
  subst hn'; subst hst; subst p0
  rw [if_pos rfl] at k1 k2
  rw [zh_0] at eb1 eb2
  have q := x.2 rfl
  rw [zU_0] at h1
  rw [zR_0] at h2
  refine zMa_go hS (b1 := b1) (b2 := b2) (zCs_mono hC (zP_m (by omega) (by omega)) (Int.le_refl _)) ⟨⟨by omega, nl⟩, by rw [x.1]; exact hw, hc, by rw [zU_0]; omega, by rw [zR_0]; omega⟩ (by omega) hΨ
theorem zD_kb {φ N fr lg b1 b2 b1' b2' g m n n' s st st' Ψ Ψ' bs n9 t t' : Int} {ac aA rg to tl rg' to' tl' cs ca cp ct so va aB la : Nat → Int32} {C : Int → zT} {r9 v9 : Int32} (h : zMa φ ac aA C N fr lg b1 b2 g rg to tl cs ca cp ct t m n s st Ψ 1) (hP : zPr so va ac aA aB la bs n9 φ N C) (hs : zST rg to tl rg' to' tl' t t' r9 v9) (hG : zGg φ C N g) (hf : 0 ≤ fr) (h0 : 0 ≤ st) (ho : zg ac n = 11) (hn' : n' = n + 1) (hst : st' = st + 1) (ht0 : 0 ≤ t) (ht1 : t' ≤ t + 1) (hr : r9.toInt = 470 + zg aA n) (hv : v9.toInt = m) (eb1 : b1' = b1 + zh φ (zg ac n)) (eb2 : b2' = b2 + zh φ (zg ac n)) (hΨ : Ψ' = Ψ - 1 + 2 * φ) : zMa φ ac aA C N fr lg b1' b2' g rg' to' tl' cs ca cp ct t' m n' s st' Ψ' 1 := by
  obtain ⟨S, hS, hC, hI⟩ := h
  rw [if_neg (by decide)] at hS
  have hI := hI (by decide)
  obtain ⟨sd, nx, r, nl, hφ⟩ := zPr_at hP hI.1.1 hI.1.2
  have a := (zSd_a sd (by omega) (by omega)).2 (by omega)
  have fr9 := zSd_11 sd ho
  clear nx sd
  obtain ⟨hC', e⟩ := zCs_st hC hs ht0 (by omega)
  rw [hr, hv] at e
  have k := zk_le (φ := φ) (show st ≤ st + 1 by omega) h0
  have d1 : zdu (zg ac n) = 52 := by rw [ho]; rfl
  have d2 : zdr (zg ac n) = 32 := by rw [ho]; rfl
  refine zD_s (rg := rg) (t := t) (m := m) (W := 0) (s' := s) hS (zCs_mono hC' (zP_m (by omega) (by omega)) (by omega)) hI hP hG (by omega) hn' hst ?_ ?_ (by omega) ?_ (by have := hG.1; omega) eb1 eb2 hΨ
  · rw [e, ho]; exact zWf_cut hf hI.2.1 fr9
  · rw [e]; exact zCap_o hI.2.2.1 (by omega)
  · rw [e, zNz_o (by omega)]; omega
theorem zTu {fr lg p c k v q : Int} {f : Int → Int} {G : List (Int × Int)} (hw : zWf fr lg f G p c) (hx : zCx G) (hc : zCap f lg) (k0 : 0 ≤ k) (k1 : k < 220) : zWf fr lg (zfs (zfs f (30 + k) v) (250 + k) q) G p c ∧ zCap (zfs (zfs f (30 + k) v) (250 + k) q) lg ∧ zNz (zfs (zfs f (30 + k) v) (250 + k) q) ≤ zNz f + 1 := by
  refine ⟨zWf_loose (Or.inr (Or.inl (by omega))) hx (zWf_loose (Or.inr (Or.inl (by omega))) hx hw), zCap_o (zCap_o hc (by omega)) (by omega), ?_⟩
  rw [zNz_o (by omega)]; exact zNz_1 (by omega)
theorem zTl {φ N fr lg b1 b2 g t m n s st Ψ bs n9 : Int} {ac aA rg to tl cs ca cp ct so va aB la : Nat → Int32} {C : Int → zT} (h : zMa φ ac aA C N fr lg b1 b2 g rg to tl cs ca cp ct t m n s st Ψ 1) (hP : zPr so va ac aA aB la bs n9 φ N C) (ho : zg ac n = 9) : ∃ S : Int, S + zw φ (C n) ≤ Ψ + g * zk φ st ∧ zCs (zP φ ac aA C N fr lg (52 * zk φ st + b1) (33 * zk φ st + b2)) (zOm φ C) to tl cs ca cp ct t m (zG rg) S ∧ zIn φ C N fr lg (52 * zk φ st + b1) (33 * zk φ st + b2) (zG rg) n s m t ∧ φ = 0 ∧ (0 ≤ zg aA n ∧ zg aA n < 220) ∧ zn φ (C n).1 (C (zg la (zg aB n))) ((C n).2.1 - 1) (C n).2.2.1 ((C n).2.2.2 - 1) ∧ zRg (C n) ∧ (0 ≤ zg la (zg aB n) ∧ zg la (zg aB n) < N) := by
  obtain ⟨S, hS, hC, hI⟩ := h
  rw [if_neg (by decide)] at hS
  have hI := hI (by decide)
  obtain ⟨sd, nx, r, nl, hφ⟩ := zPr_at hP hI.1.1 hI.1.2
  have a := zSd_a sd (by omega) (by omega)
  have a2 := a.2 (by omega)
  have n22 := hP.1.2.2.1
  have l := (zPr_la hP hI.1.1 hI.1.2).2.1 (Or.inl ho)
  exact ⟨S, hS, hC, hI, a.1, ⟨a2.1, by omega⟩, (zSd_9 sd ho).2.2, r, l.2⟩
theorem zT_a {φ N fr lg b1 b2 b1' b2' g t t' m n n' s st st' Ψ Ψ' bs n9 S k : Int} {ac aA rg rg' to tl to' tl' cs ca cp ct so va aB la : Nat → Int32} {C : Int → zT} {o : Bool} (h : zMa φ ac aA C N fr lg b1 b2 g rg to tl cs ca cp ct t m n s st Ψ 1) (hP : zPr so va ac aA aB la bs n9 φ N C) (hb : zBT (zP φ ac aA C N fr lg (52 * zk φ (st + 1) + b1) (33 * zk φ (st + 1) + b2)) (zOm φ C) rg to tl rg' to' tl' cs ca cp ct t t' m k n n' s S o) (hS : S + zw φ (C n) ≤ Ψ + g * zk φ st) (hG : zGg φ C N g) (ho : zg ac n = 9) (hk : k = zg aA n) (hst : o = true ∨ st' = st + 1) (eb1 : b1' = b1 + zh φ (zg ac n)) (eb2 : b2' = b2 + zh φ (zg ac n)) (hΨ : Ψ' = Ψ - 1 + 2 * φ) : o = true ∨ zMa φ ac aA C N fr lg b1' b2' g rg' to' tl' cs ca cp ct t' m n' s st' Ψ' 1 := by
  rcases hb with hb | ⟨o1, e1, e2, e3, hC, v, ev⟩
  · exact Or.inl hb
  · obtain ⟨S2, _, _, hI, p0, a2, xx, r, l⟩ := zTl h hP ho
    have d1 : zdu (zg ac n) = 51 := by rw [ho]; rfl
    have d2 : zdr (zg ac n) = 30 := by rw [ho]; rfl
    have st1 : st' = st + 1 := by rcases hst with z | z
                                  · rw [z] at o1; exact absurd o1 (by decide)
                                  · exact z
    obtain ⟨u1, u2, u3⟩ := zTu (v := v) (q := s) hI.2.1 r.2.2.2.2 hI.2.2.1 a2.1 a2.2
    rw [hk] at ev
    refine Or.inr (zD_s (rg := rg) (t := t) (m := m) (W := 0) (S := S) hS (zCs_mono hC (fun _ _ _ _ _ _ z => z) (by omega)) hI hP hG (Or.inl ho) e1 st1 ?_ ?_ (by omega) ?_ (by have := hG.1; omega) eb1 eb2 hΨ)
    · rw [ev, ho]; exact u1
    · rw [ev]; exact u2
    · rw [ev]; omega
theorem zT_x {φ N fr lg b1 b2 g t m n s st Ψ bs n9 : Int} {ac aA rg to tl cs ca cp ct so va aB la : Nat → Int32} {C : Int → zT} (h : zMa φ ac aA C N fr lg b1 b2 g rg to tl cs ca cp ct t m n s st Ψ 1) (hP : zPr so va ac aA aB la bs n9 φ N C) (ho : zg ac n = 9) : zIn φ C N fr lg (52 * zk φ st + b1) (33 * zk φ st + b2) (zG rg) (zg la (zg aB n)) s m t ∧ m + 1 + zU φ (C (zg la (zg aB n))) ≤ 52 * zk φ st + b1 ∧ zw φ (C (zg la (zg aB n))) + 2 ≤ zw φ (C n) := by
  obtain ⟨S, hS, hC, hI, p0, a2, xx, r, l⟩ := zTl h hP ho
  obtain ⟨hn, hw, hc, h1, h2⟩ := hI
  have x := xx.2 p0
  have r2 := (zPr_at hP l.1 l.2).2.2.1
  have w := zw_3 (φ := φ) (σ := C n) (τ := C (zg la (zg aB n))) (fun _ => by omega) r2.2.2.1 (Or.inl p0)
  subst p0
  rw [zU_0] at h1; rw [zR_0] at h2
  exact ⟨⟨l, by rw [xx.1]; exact hw, hc, by rw [zU_0]; omega, by rw [zR_0]; omega⟩, by rw [zU_0]; omega, by omega⟩
theorem zT_d {φ N fr lg b1 b2 b1' b2' g t m n n' s st Ψ Ψ' bs n9 : Int} {ac aA rg to tl cs ca cp ct so va aB la : Nat → Int32} {C : Int → zT} (h : zMa φ ac aA C N fr lg b1 b2 g rg to tl cs ca cp ct t m n s st Ψ 1) (hP : zPr so va ac aA aB la bs n9 φ N C) (ho : zg ac n = 9) (hn' : n' = zg la (zg aB n)) (eb1 : b1' = b1 + zh φ (zg ac n)) (eb2 : b2' = b2 + zh φ (zg ac n)) (hΨ : Ψ' = Ψ - 1 + 2 * φ) : zMa φ ac aA C N fr lg b1' b2' g rg to tl cs ca cp ct t m n' s st Ψ' 1 := by
  obtain ⟨i1, i2, i3⟩ := zT_x h hP ho
  obtain ⟨S, hS, hC, hI, p0, a2, xx, r, l⟩ := zTl h hP ho
  subst hn'; subst p0
  rw [zh_0] at eb1 eb2
  refine zMa_go hS (S' := S) (b1 := b1) (b2 := b2) (zCs_mono hC (zP_m (by omega) (by omega)) (Int.le_refl _)) (zIn_m i1 (by omega) (by omega) (Int.le_refl _)) (by omega) hΨ
theorem zT_c {φ N fr lg b1 b2 b1' b2' g n n' st Ψ Ψ' bs n9 m' : Int} {ac aA rg to tl cs ca cp ct cs' ca' cp' ct' so va aB la : Nat → Int32} {C : Int → zT} {t m s z a : Int32} (h : zMa φ ac aA C N fr lg b1 b2 g rg to tl cs ca cp ct t.toInt m.toInt n s.toInt st Ψ 1) (hP : zPr so va ac aA aB la bs n9 φ N C) (e1 : cs' = upd cs m.toNatClampNeg z) (e2 : ca' = upd ca m.toNatClampNeg a) (e3 : cp' = upd cp m.toNatClampNeg s) (e4 : ct' = upd ct m.toNatClampNeg t) (ho : zg ac n = 9) (hf : 0 ≤ fr) (hz : z.toInt = 1) (ha : a.toInt = n) (ht0 : 0 ≤ t.toInt) (hm0 : 0 ≤ m.toInt) (hm : m' = m.toInt + 1) (hn' : n' = zg la (zg aB n)) (eb1 : b1' = b1 + zh φ (zg ac n)) (eb2 : b2' = b2 + zh φ (zg ac n)) (hΨ : Ψ' = Ψ - 1 + 2 * φ) : zMa φ ac aA C N fr lg b1' b2' g rg to tl cs' ca' cp' ct' t.toInt m' n' s.toInt st Ψ' 1 := by
  obtain ⟨i1, i2, i3⟩ := zT_x h hP ho
  obtain ⟨S, hS, hC, hI, p0, a2, xx, r, l⟩ := zTl h hP ho
  have hC1 := zCs_ch hC e1 e2 e3 e4 ht0 hm0 (Or.inr (Or.inl ⟨hz, by rw [ha]; exact ho, by rw [ha]; exact hI⟩)) hm
  have om : zOm φ C z.toInt a.toInt = 1 := by unfold zOm; rw [if_neg (by omega)]
  rw [om] at hC1
  subst hn'; subst p0
  rw [zh_0] at eb1 eb2
  refine zMa_go hS (b1 := b1) (b2 := b2) (zCs_mono hC1 (zP_m (by omega) (by omega)) (Int.le_refl _)) ⟨i1.1, zWf_mono hf (Int.le_refl _) (zWf_le hf i1.2.1).2.1 (by omega) i1.2.1, i1.2.2.1, by omega, by have := i1.2.2.2.2; omega⟩ (by omega) hΨ
theorem zT_b {φ N fr lg b1 b2 b1' b2' g n n' st st' Ψ Ψ' bs n9 S k t' : Int} {ac aA rg rg' to tl to' tl' cs ca cp ct cs1 ca1 cp1 ct1 so va aB la : Nat → Int32} {C : Int → zT} {o : Bool} {t m m1 s z a : Int32} (h : zMa φ ac aA C N fr lg b1 b2 g rg to tl cs ca cp ct t.toInt m.toInt n s.toInt st Ψ 1) (hP : zPr so va ac aA aB la bs n9 φ N C) (hb : zBT (zP φ ac aA C N fr lg (52 * zk φ (st + 1) + b1) (33 * zk φ (st + 1) + b2)) (zOm φ C) rg to tl rg' to' tl' cs1 ca1 cp1 ct1 t.toInt t' m1.toInt k n n' s.toInt (S + zOm φ C z.toInt a.toInt) o) (hS : S + zw φ (C n) ≤ Ψ + g * zk φ st) (hG : zGg φ C N g) (hf : 0 ≤ fr) (ho : zg ac n = 9) (hk : k = zg aA n) (hz : z.toInt = 0) (ha : a.toInt = zg la (zg aB n)) (hm : m1.toInt = m.toInt + 1) (hst : o = true ∨ st' = st + 1) (eb1 : b1' = b1 + zh φ (zg ac n)) (eb2 : b2' = b2 + zh φ (zg ac n)) (hΨ : Ψ' = Ψ - 1 + 2 * φ) : o = true ∨ zMa φ ac aA C N fr lg b1' b2' g rg' to' tl' cs1 ca1 cp1 ct1 t' m1.toInt n' s.toInt st' Ψ' 1 := by
  rcases hb with hb | ⟨o1, e1, e2, e3, hC, v, ev⟩
  · exact Or.inl hb
  · obtain ⟨S2, _, _, hI, p0, a2, xx, r, l⟩ := zTl h hP ho
    have d1 : zdu (zg ac n) = 51 := by rw [ho]; rfl
    have d2 : zdr (zg ac n) = 30 := by rw [ho]; rfl
    have st1 : st' = st + 1 := by rcases hst with z | z
                                  · rw [z] at o1; exact absurd o1 (by decide)
                                  · exact z
    obtain ⟨u1, u2, u3⟩ := zTu (v := v) (q := s.toInt) hI.2.1 r.2.2.2.2 hI.2.2.1 a2.1 a2.2
    rw [hk] at ev
    have om : zOm φ C z.toInt a.toInt = zw φ (C a.toInt) := by unfold zOm; rw [if_pos hz]
    rw [om, ha] at hC
    have w9 := hG.2 _ l.1 l.2
    have w8 := @zw_1 φ (C (zg la (zg aB n)))
    refine Or.inr (zD_s (rg := rg) (t := t.toInt) (m := m.toInt) (W := zw φ (C (zg la (zg aB n)))) (S := S) hS hC hI hP hG (Or.inl ho) e1 st1 ?_ ?_ (by omega) ?_ (by omega) eb1 eb2 hΨ)
    · rw [ev, ho]; exact zWf_mono hf (Int.le_refl _) (zWf_le hf u1).2.1 (by omega) u1
    · rw [ev]; exact u2
    · rw [ev]; omega
theorem zov {o : Bool} {a b : Int} (h : (bz o).toInt = 1 ∨ a = b) : o = true ∨ a = b := by
  rcases h with h | h
  · exact Or.inl (zbz1 (by omega))
  · exact Or.inr h
