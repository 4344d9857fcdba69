theorem zSd_l {so va : Nat → Int32} {bs n φ lb o a b : Int} {Λ : Int → zT} {σ : zT} (h : zSd so va bs n φ lb Λ o a b σ) (e : o = 3 ∨ o = 4 ∨ o = 5) : 0 ≤ a ∧ a < lb ∧ zn φ σ.1 (Λ a) σ.2.1 σ.2.2.1 (σ.2.2.2 - 1) := h.2.2.2.2.1 e
theorem zSd_4 {so va : Nat → Int32} {bs n φ lb o a b : Int} {Λ : Int → zT} {σ : zT} (h : zSd so va bs n φ lb Λ o a b σ) (e : o = 4) : φ = 1 := h.2.2.2.2.2.1 e
theorem zSd_a {so va : Nat → Int32} {bs n φ lb o a b : Int} {Λ : Int → zT} {σ : zT} (h : zSd so va bs n φ lb Λ o a b σ) (e : 8 ≤ o) (e2 : o ≠ 19) : φ = 0 ∧ (o ≠ 21 → 0 ≤ a ∧ a < n) := h.2.2.2.2.2.2.2.2.2.1 e e2
theorem zSd_9 {so va : Nat → Int32} {bs n φ lb o a b : Int} {Λ : Int → zT} {σ : zT} (h : zSd so va bs n φ lb Λ o a b σ) (e : o = 9) : 0 ≤ b ∧ b < lb ∧ zn φ σ.1 (Λ b) (σ.2.1 - 1) σ.2.2.1 (σ.2.2.2 - 1) := h.2.2.2.2.2.2.2.2.2.2.1 e
theorem zSd_11 {so va : Nat → Int32} {bs n φ lb o a b : Int} {Λ : Int → zT} {σ : zT} (h : zSd so va bs n φ lb Λ o a b σ) (e : o = 11) : zFree (470 + a) σ.1 := h.2.2.2.2.2.2.2.2.2.2.2.2.1 e
theorem zSd_k {so va : Nat → Int32} {bs n φ lb o a b : Int} {Λ : Int → zT} {σ : zT} (h : zSd so va bs n φ lb Λ o a b σ) (e : o = 13 ∨ o = 15 ∨ o = 17) : zFree (470 + a) σ.1 ∧ zFree (690 + a) σ.1 ∧ (b = -1 ∨ (0 ≤ b ∧ b < lb ∧ zn φ σ.1 (Λ b) (σ.2.1 + 50) (σ.2.2.1 + 30) 1000)) := h.2.2.2.2.2.2.2.2.2.2.2.2.2.2.1 e
theorem zSd_e {so va : Nat → Int32} {bs n φ lb o a b : Int} {Λ : Int → zT} {σ : zT} (h : zSd so va bs n φ lb Λ o a b σ) (e : o = 14 ∨ o = 16 ∨ o = 18 ∨ o = 20) : ∃ G, σ.1 = (2, a) :: G := h.2.2.2.2.2.2.2.2.2.2.2.2.2.2.2 e
theorem zD_ls {φ N fr lg b1 b2 b1' b2' g m n n' s st Ψ Ψ' bs n9 t t' : Int} {ac aA rg to tl rg' to' tl' cs ca cp ct so va aB la : Nat → Int32} {C : Int → zT} {r9 v9 : Int32} (h : zMa φ ac aA C N fr lg b1 b2 g rg to tl cs ca cp ct t m n s st Ψ 1) (hP : zPr so va ac aA aB la bs n9 φ N C) (hs : zST rg to tl rg' to' tl' t t' r9 v9) (ho : zg ac n = 8) (hn' : n' = n + 1) (ht0 : 0 ≤ t) (hr : r9.toInt = 30 + zg aA n) (hv : v9.toInt = 0) (eb1 : b1' = b1 + zh φ (zg ac n)) (eb2 : b2' = b2 + zh φ (zg ac n)) (hΨ : Ψ' = Ψ - 1 + 2 * φ) : zMa φ ac aA C N fr lg b1' b2' g rg' to' tl' cs ca cp ct t' m n' s st Ψ' 1 := by
  obtain ⟨S, hS, hC, hI⟩ := h
  rw [if_neg (by decide)] at hS
  have hI := hI (by decide)
  obtain ⟨sd, nx, r, nl, hφ⟩ := zPr_at hP hI.1.1 hI.1.2
  obtain ⟨s0, s1, s2, s3, s4, s5, s6, s7, s8, s9, s10, s11, s12, s13, s14, s15⟩ := sd
  have a := (s9 (by omega) (by omega)).2 (by omega)
  have n22 := hP.1.2.2.1
  obtain ⟨hC', e⟩ := zCs_st hC hs ht0 (by omega)
  have dr : zdr (zg ac n) = 0 := by rw [ho]; rfl
  rw [hr, hv] at e
  refine zD_f (rg := rg) (t := t) (d := 0) hS hC' hI hP hn' (by omega) (by omega) ?_ ?_ (Int.le_refl _) ?_ eb1 eb2 hΨ
  · rw [e, ho]; exact zWf_loose (Or.inr (Or.inl (by omega))) r.2.2.2.2 hI.2.1
  · rw [e]; exact zCap_o hI.2.2.1 (by omega)
  · rw [e]
    rcases hs with ⟨q1, q2, q3, q4, q5⟩ | ⟨q1, q2, _⟩
    · have z : zfs (zG rg) (30 + zg aA n) 0 = zG rg := by
        funext j; unfold zfs
        by_cases q : j = 30 + zg aA n
        · rw [if_pos q, q, zG_at (by omega), ← hr, q5, hv]
        · rw [if_neg q]
      rw [z]; omega
    · have := zNz_0 (f := zG rg) (r := 30 + zg aA n) (by omega) (by rw [zG_at (by omega), ← hr]; omega)
      omega
theorem zD_ke {φ N fr lg b1 b2 b1' b2' g n n' s st Ψ Ψ' bs n9 t m m' : Int} {ac aA rg to tl cs ca cp ct so va aB la : Nat → Int32} {C : Int → zT} (h : zMa φ ac aA C N fr lg b1 b2 g rg to tl cs ca cp ct t m n s st Ψ 1) (hP : zPr so va ac aA aB la bs n9 φ N C) (hf : 0 ≤ fr) (ho : zg ac n = 12) (hn' : n' = n + 1) (hm : m' = zg rg (470 + zg aA n)) (eb1 : b1' = b1 + zh φ (zg ac n)) (eb2 : b2' = b2 + zh φ (zg ac n)) (hΨ : Ψ' = Ψ - 1 + 2 * φ) : zMa φ ac aA C N fr lg b1' b2' g rg to tl cs ca cp ct t m' n' s st Ψ' 1 := by
  obtain ⟨S, hS, hC, hI⟩ := h
  rw [if_neg (by decide)] at hS
  have hI := hI (by decide)
  obtain ⟨sd, nx, r, nl, hφ⟩ := zPr_at hP hI.1.1 hI.1.2
  obtain ⟨s0, s1, s2, s3, s4, s5, s6, s7, s8, s9, s10, s11, s12, s13, s14, s15⟩ := sd
  have a := (s9 (by omega) (by omega)).2 (by omega)
  obtain ⟨G, eG⟩ := s13 ho
  have w := hI.2.1
  rw [eG] at w
  have dr : zdr (zg ac n) = 0 := by rw [ho]; rfl
  rw [← zG_at (by omega)] at hm
  have w2 : 0 ≤ zG rg (470 + zg aA n) ∧ zG rg (470 + zg aA n) ≤ m ∧ zWf fr lg (zG rg) G s (zG rg (470 + zg aA n)) := by
    rcases w with ⟨z, _⟩ | ⟨_, w⟩ | ⟨z, _⟩
    · exact absurd z (by decide)
    · exact w
    · exact absurd z (by decide)
  refine zD_f (rg := rg) (t := t) (m := m) (m' := m') (d := 0) hS hC hI hP hn' (by omega) (by omega) ?_ hI.2.2.1 (by omega) (by omega) eb1 eb2 hΨ
  rw [ho, eG, hm]; exact w2.2.2
theorem zD_lk {φ N fr lg b1 b2 g n s st Ψ bs n9 t m : Int} {ac aA rg to tl cs ca cp ct so va aB la : Nat → Int32} {C : Int → zT} (h : zMa φ ac aA C N fr lg b1 b2 g rg to tl cs ca cp ct t m n s st Ψ 1) (hP : zPr so va ac aA aB la bs n9 φ N C) (hf : 0 ≤ fr) (ho : zg ac n = 14 ∨ zg ac n = 16 ∨ zg ac n = 18 ∨ zg ac n = 20) : (0 ≤ zg rg (470 + zg aA n) ∧ zg rg (470 + zg aA n) ≤ m) ∧ (0 ≤ zg rg (690 + zg aA n) ∧ zg rg (690 + zg aA n) ≤ lg) ∧ zWf fr lg (zG rg) (C n).1.tail (zg rg (690 + zg aA n)) (zg rg (470 + zg aA n)) := by
  obtain ⟨S, hS, hC, hI⟩ := h
  have hI := hI (by decide)
  obtain ⟨sd, nx, r, nl, hφ⟩ := zPr_at hP hI.1.1 hI.1.2
  clear nx nl
  have a := (zSd_a sd (by omega) (by omega)).2 (by omega)
  obtain ⟨G, eG⟩ := zSd_e sd ho
  have w := hI.2.1
  rw [eG] at w
  have e4 : zg rg (470 + zg aA n) = zG rg (470 + zg aA n) := (zG_at (by omega)).symm
  have e5 : zg rg (690 + zg aA n) = zG rg (690 + zg aA n) := (zG_at (by omega)).symm
  rw [e4, e5, eG]
  rcases w with ⟨z, _⟩ | ⟨z, _⟩ | ⟨_, w⟩
  · exact absurd z (by decide)
  · exact absurd z (by decide)
  · have := zWf_le hf w.2.2.2.2
    exact ⟨⟨w.2.2.1, w.2.2.2.1⟩, ⟨by omega, by omega⟩, w.2.2.2.2⟩
theorem zD_le {φ N fr lg b1 b2 b1' b2' g n n' s s' st Ψ Ψ' bs n9 t m m' : Int} {ac aA rg to tl cs ca cp ct so va aB la : Nat → Int32} {C : Int → zT} (h : zMa φ ac aA C N fr lg b1 b2 g rg to tl cs ca cp ct t m n s st Ψ 1) (hP : zPr so va ac aA aB la bs n9 φ N C) (hf : 0 ≤ fr) (ho : zg ac n = 14 ∨ zg ac n = 18) (hn' : n' = n + 1) (hm : m' = zg rg (470 + zg aA n)) (hs : s' = zg rg (690 + zg aA n)) (eb1 : b1' = b1 + zh φ (zg ac n)) (eb2 : b2' = b2 + zh φ (zg ac n)) (hΨ : Ψ' = Ψ - 1 + 2 * φ) : zMa φ ac aA C N fr lg b1' b2' g rg to tl cs ca cp ct t m' n' s' st Ψ' 1 := by
  obtain ⟨k1, k2, k3⟩ := zD_lk h hP hf (by omega)
  obtain ⟨S, hS, hC, hI⟩ := h
  rw [if_neg (by decide)] at hS
  have hI := hI (by decide)
  have dr : zdr (zg ac n) = 0 := by rcases ho with e | e <;> rw [e] <;> rfl
  refine zD_f (rg := rg) (t := t) (m := m) (m' := m') (d := 0) hS hC hI hP hn' (by omega) (by omega) ?_ hI.2.2.1 (by omega) (by omega) eb1 eb2 hΨ
  have e : zGn (zg ac n) (zg aA n) (C n).1 = (C n).1.tail := by rcases ho with e | e <;> rw [e] <;> rfl
  rw [e, hm, hs]; exact k3

set_option maxHeartbeats 4000000 in
theorem zD_sp {φ N fr lg b1 b2 b1' b2' g n n' st Ψ Ψ' bs n9 m' : Int} {ac aA rg to tl cs ca cp ct cs' ca' cp' ct' so va aB la : Nat → Int32} {C : Int → zT} {t m s z a : Int32} (h : zMa φ ac aA C N fr lg b1 b2 g rg to tl cs ca cp ct t.toInt m.toInt n s.toInt st Ψ 1) (hP : zPr so va ac aA aB la bs n9 φ N C) (e1 : cs' = upd cs m.toNatClampNeg z) (e2 : ca' = upd ca m.toNatClampNeg a) (e3 : cp' = upd cp m.toNatClampNeg s) (e4 : ct' = upd ct m.toNatClampNeg t) (ho : (zg ac n = 3 ∧ a.toInt = zg la (zg aA n) ∧ n' = n + 1) ∨ (zg ac n = 4 ∧ a.toInt = n + 1 ∧ n' = zg la (zg aA n))) (hz : z.toInt = 0) (ht0 : 0 ≤ t.toInt) (hm0 : 0 ≤ m.toInt) (hm : m' = m.toInt + 1) (hf : 0 ≤ fr) (eb1 : b1' = b1 + zh φ (zg ac n)) (eb2 : b2' = b2 + zh φ (zg ac n)) (hΨ : Ψ' = Ψ - 1 + 2 * φ) : zMa φ ac aA C N fr lg b1' b2' g rg to tl cs' ca' cp' ct' t.toInt m' n' s.toInt st Ψ' 1 := by
  obtain ⟨S, hS, hC, hI⟩ := h
  rw [if_neg (by decide)] at hS
  have hI := hI (by decide)
  obtain ⟨hn, hw, hc, h1, h2⟩ := hI
  obtain ⟨sd, nx, r, nl, hφ⟩ := zPr_at hP hn.1 hn.2
  obtain ⟨la1, _, _⟩ := zPr_la hP hn.1 hn.2
  have zb := @zh_b φ (zg ac n)
  have x := nx (by unfold zFa; omega)
  have nl := nl (by omega)
  have o34 : zg ac n = 3 ∨ zg ac n = 4 := by omega
  have l := la1 (by omega) (by omega)
  obtain ⟨q1, q2, q3⟩ := zSd_l sd (by omega)
  have s5 := zSd_4 sd
  have q3 : zn φ (C n).1 (C (zg la (zg aA n))) (C n).2.1 (C n).2.2.1 ((C n).2.2.2 - 1) := q3
  have x1 : (C (n + 1)).1 = (C n).1 := by
    rw [x.1]; unfold zGn; rw [if_neg (by omega), if_neg (by omega), if_neg (by omega), if_neg (by omega)]
  have x2 : φ = 0 → (C (n + 1)).2.1 + 1 ≤ (C n).2.1 ∧ (C (n + 1)).2.2.1 ≤ (C n).2.2.1 ∧ (C (n + 1)).2.2.2 + 1 ≤ (C n).2.2.2 := by
    intro e
    have o3 : zg ac n = 3 := by rcases ho with o | o
                                · exact o.1
                                · have := s5 o.1; omega
    have := x.2 e
    have d1 : zdu (zg ac n) = -1 := by rw [o3]; rfl
    have d2 : zdr (zg ac n) = 0 := by rw [o3]; rfl
    have d3 : zdx (zg ac n) (C n).2.2.2 = (C n).2.2.2 - 1 := by rw [o3]; rfl
    omega
  clear sd nx la1
  have lr := (zPr_at hP l.2.1 l.2.2).2.2.1
  have nr := (zPr_at hP (show 0 ≤ n + 1 by omega) nl).2.2.1
  have ww := zw_m (φ := φ) (σ := C n) (τ := C (n + 1)) (υ := C (zg la (zg aA n))) (fun e => (x2 e).2.2) (fun e => by have := (q3.2 e); omega) nr.2.2.1 lr.2.2.1 hφ
  have hw' := zWf_mono hf (Int.le_refl s.toInt) (zWf_le hf hw).2.1 (show m.toInt ≤ m' by omega) hw
  have key : ∀ p : Int, (p = n + 1 ∨ p = zg la (zg aA n)) → (0 ≤ p ∧ p < N) ∧ (C p).1 = (C n).1 ∧ zU φ (C p) ≤ zU φ (C n) ∧ zR φ (C p) ≤ zR φ (C n) := by
    intro p hp
    rcases hp with e | e
    · subst e; refine ⟨⟨by omega, nl⟩, x1, ?_, ?_⟩
      · unfold zU; split
        · have := x2 (by omega); omega
        · omega
      · unfold zR; split
        · have := x2 (by omega); omega
        · omega
    · subst e; refine ⟨⟨l.2.1, l.2.2⟩, q3.1, ?_, ?_⟩
      · unfold zU; split
        · have := q3.2 (by omega); omega
        · omega
      · unfold zR; split
        · have := q3.2 (by omega); omega
        · omega
  have ka := key a.toInt (by omega)
  have kn := key n' (by omega)
  have om : zOm φ C z.toInt a.toInt = zw φ (C a.toInt) := by unfold zOm; rw [if_pos hz]
  have hC1 := zCs_ch (P := zP φ ac aA C N fr lg (52 * zk φ st + b1) (33 * zk φ st + b2)) hC e1 e2 e3 e4 ht0 hm0 (Or.inl ⟨hz, ka.1, by rw [ka.2.1]; exact hw, hc, by omega, by omega⟩) hm
  rw [om] at hC1
  have un : m' + zU φ (C n') ≤ 52 * zk φ st + b1' := by
    rcases hφ with e | e
    · have o3 : n' = n + 1 := by rcases ho with o | o
                                 · exact o.2.2
                                 · have := s5 o.1; omega
      have := x2 e
      subst e; rw [zU_0] at *; rw [o3]; omega
    · subst e; rw [zU_1] at *; omega
  refine zMa_go hS (b1 := b1) (b2 := b2) (zCs_mono hC1 (zP_m (by omega) (by omega)) (Int.le_refl _)) ⟨kn.1, by rw [kn.2.1]; exact hw', hc, un, by omega⟩ ?_ hΨ
  rcases ho with ⟨_, oa, on⟩ | ⟨_, oa, on⟩
  · rw [oa, on]; omega
  · rw [oa, on]; omega
