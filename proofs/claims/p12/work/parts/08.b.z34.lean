theorem zfn {φ : Int} {G : List (Int × Int)} {τ : zT} {U R X : Int} (h : zn φ G τ U R X) : τ.1 = G := h.1
theorem zD_e {φ N fr lg b1 b2 b1' b2' g t m n n' s s' st st' Ψ Ψ' bs n9 : Int} {ac aA rg to tl cs ca cp ct so va aB la : Nat → Int32} {C : Int → zT} (h : zMa φ ac aA C N fr lg b1 b2 g rg to tl cs ca cp ct t m n s st Ψ 1) (hP : zPr so va ac aA aB la bs n9 φ N C) (hG : zGg φ C N g) (hf : 0 ≤ fr) (h0 : 0 ≤ st) (ho : zg ac n ≤ 2 ∨ zg ac n = 21) (hs1 : s ≤ s') (hs2 : s' ≤ lg) (hn' : n' = n + 1) (hst : st' = st + 1) (eb1 : b1' = b1 + zh φ (zg ac n)) (eb2 : b2' = b2 + zh φ (zg ac n)) (hΨ : Ψ' = Ψ - 1 + 2 * φ) : zMa φ ac aA C N fr lg b1' b2' g rg to tl cs ca cp ct t m n' s' st' Ψ' 1 := by
  obtain ⟨S, hS, hC, hI⟩ := h
  obtain ⟨hn, hw, hc, h1, h2⟩ := hI (by decide)
  rw [if_neg (by decide)] at hS
  obtain ⟨sd, nx, r, nl, hφ⟩ := zPr_at hP hn.1 hn.2
  have fa : zFa (zg ac n) := by unfold zFa; omega
  have x := nx fa
  have nl := nl (by omega)
  obtain ⟨k1, k2⟩ := @zg_s g φ st hφ
  have zb := @zh_b φ (zg ac n)
  have w1 := hG.2 (n + 1) (by omega) nl
  have w0 := @zw_1 φ (C n)
  have w2 := @zw_1 φ (C (n + 1))
  subst hst; subst hn'
  have x1 : (C (n + 1)).1 = (C n).1 := by
    rw [zfn x]; unfold zGn
    rw [if_neg (by omega), if_neg (by omega), if_neg (by omega), if_neg (by omega)]
  have zg0 : φ = 0 → (C (n + 1)).2.1 ≤ (C n).2.1 + 52 ∧ (C (n + 1)).2.2.1 ≤ (C n).2.2.1 + 33 := by
    intro e; have q := x.2 e
    have d1 : zdu (zg ac n) ≤ 52 := by unfold zdu; repeat' split
                                       all_goals omega
    have d2 : zdr (zg ac n) ≤ 33 := by unfold zdr; repeat' split
                                       all_goals omega
    omega
  refine zMa_go hS (S' := S) (b1 := b1) (b2 := b2) (zCs_mono hC (zP_m ?_ ?_) (Int.le_refl _)) ⟨⟨by omega, nl⟩, ?_, hc, ?_, ?_⟩ ?_ hΨ
  · rw [k2]; split <;> omega
  · rw [k2]; split <;> omega
  · rw [x1]; exact zWf_mono hf hs1 hs2 (Int.le_refl _) hw
  · rcases hφ with e | e
    · subst e; have := zg0 rfl; rw [zU_0] at *; rw [k2, if_pos rfl]; omega
    · subst e; rw [zU_1] at *; rw [k2, if_neg (by decide)]; omega
  · rcases hφ with e | e
    · subst e; have := zg0 rfl; rw [zR_0] at *; rw [k2, if_pos rfl]; omega
    · subst e; rw [zR_1] at *; rw [k2, if_neg (by decide)]; omega
  · rw [k1]
    rcases hφ with e | e
    · subst e; rw [if_pos rfl]; omega
    · subst e; rw [if_neg (by decide)]
      have e1 : zw 1 (C (n + 1)) = 1 := if_neg (by decide)
      omega
theorem zD_n {φ N fr lg b1 b2 b1' b2' g t t' m m' n n' s s' st Ψ Ψ' bs n9 d : Int} {ac aA rg rg' to' tl' cs ca cp ct so va aB la : Nat → Int32} {C : Int → zT} {S : Int} (hS : S + zw φ (C n) ≤ Ψ + g * zk φ st) (hC : zCs (zP φ ac aA C N fr lg (52 * zk φ st + b1) (33 * zk φ st + b2)) (zOm φ C) to' tl' cs ca cp ct t' m (zG rg') S) (hI : zIn φ C N fr lg (52 * zk φ st + b1) (33 * zk φ st + b2) (zG rg) n s m t) (hP : zPr so va ac aA aB la bs n9 φ N C) (hn0 : 0 ≤ n') (hn1 : n' < N) (x : φ = 0 → (C n').2.1 ≤ (C n).2.1 ∧ (C n').2.2.1 + d ≤ (C n).2.2.1 ∧ (C n').2.2.2 + 1 ≤ (C n).2.2.2) (hw : zWf fr lg (zG rg') (C n').1 s' m') (hc : zCap (zG rg') lg) (hm : m' ≤ m) (ht : t' + zNz (zG rg') ≤ t + zNz (zG rg) + d) (hd : φ = 1 → d ≤ zh φ (zg ac n)) (eb1 : b1' = b1 + zh φ (zg ac n)) (eb2 : b2' = b2 + zh φ (zg ac n)) (hΨ : Ψ' = Ψ - 1 + 2 * φ) : zMa φ ac aA C N fr lg b1' b2' g rg' to' tl' cs ca cp ct t' m' n' s' st Ψ' 1 := by
  obtain ⟨hn, _, _, h1, h2⟩ := hI
  obtain ⟨sd, nx, r, nl, hφ⟩ := zPr_at hP hn.1 hn.2
  obtain ⟨_, _, r', _, _⟩ := zPr_at hP hn0 hn1
  have zb := @zh_b φ (zg ac n)
  have ww := zw_3 (φ := φ) (σ := C n) (τ := C n') (fun e => (x e).2.2) r'.2.2.1 hφ
  have w1 := @zw_1 φ (C n')
  refine zMa_go hS (S' := S) (b1 := b1) (b2 := b2) (zCs_mono (zCs_cut hC zOm_0 hm) (zP_m ?_ ?_) (Int.le_refl _)) ⟨⟨hn0, hn1⟩, hw, hc, ?_, ?_⟩ ?_ hΨ
  · omega
  · omega
  · rcases hφ with e | e
    · subst e; have := x rfl; rw [zU_0] at *; omega
    · subst e; rw [zU_1] at *; omega
  · rcases hφ with e | e
    · subst e; have := x rfl; rw [zR_0] at *; omega
    · subst e; have := hd rfl; rw [zR_1] at *; omega
  · omega
theorem zD_j {φ N fr lg b1 b2 b1' b2' g t m n n' s st Ψ Ψ' bs n9 : Int} {ac aA rg to tl cs ca cp ct so va aB la : Nat → Int32} {C : Int → zT} (h : zMa φ ac aA C N fr lg b1 b2 g rg to tl cs ca cp ct t m n s st Ψ 1) (hP : zPr so va ac aA aB la bs n9 φ N C) (ho : (zg ac n = 5 ∧ n' = zg la (zg aA n)) ∨ (zg ac n = 10 ∧ n' = zg la (zg aB n))) (eb1 : b1' = b1 + zh φ (zg ac n)) (eb2 : b2' = b2 + zh φ (zg ac n)) (hΨ : Ψ' = Ψ - 1 + 2 * φ) : zMa φ ac aA C N fr lg b1' b2' g rg to tl cs ca cp ct t m n' s st Ψ' 1 := by
  obtain ⟨S, hS, hC, hI⟩ := h
  rw [if_neg (by decide)] at hS
  have hI := hI (by decide)
  have hn := hI.1
  obtain ⟨sd, nx, r, nl, hφ⟩ := zPr_at hP hn.1 hn.2
  obtain ⟨la1, la2, _⟩ := zPr_la hP hn.1 hn.2
  have zb := @zh_b φ (zg ac n)
  obtain ⟨s0, s1, s2, s3, s4, s5, s6, s7, s8, s9, s10, s11, s12, s13, s14, s15⟩ := sd
  rcases ho with ⟨o, e⟩ | ⟨o, e⟩
  · obtain ⟨q1, q2, q3⟩ := s4 (by omega)
    have l := la1 (by omega) (by omega)
    have q3 : zn φ (C n).1 (C n') (C n).2.1 (C n).2.2.1 ((C n).2.2.2 - 1) := by rw [e]; exact q3
    refine zD_n (d := 0) (s' := s) (m' := m) (t := t) (n' := n') (rg := rg) hS hC hI hP (by omega) (by omega) (fun z => by have := q3.2 z; omega) ?_ hI.2.2.1 (Int.le_refl _) (by omega) (by omega) eb1 eb2 hΨ
    rw [q3.1]; exact hI.2.1
  · obtain ⟨q1, q2, q3⟩ := s11 o
    have l := la2 (by omega)
    have q3 : zn φ (C n).1 (C n') (C n).2.1 (C n).2.2.1 ((C n).2.2.2 - 1) := by rw [e]; exact q3
    refine zD_n (d := 0) (s' := s) (m' := m) (t := t) (n' := n') (rg := rg) hS hC hI hP (by omega) (by omega) (fun z => by have := q3.2 z; omega) ?_ hI.2.2.1 (Int.le_refl _) (by omega) (by omega) eb1 eb2 hΨ
    rw [q3.1]; exact hI.2.1
theorem zD_f {φ N fr lg b1 b2 b1' b2' g t t' m m' n n' s s' st Ψ Ψ' bs n9 d : Int} {ac aA rg rg' to' tl' cs ca cp ct so va aB la : Nat → Int32} {C : Int → zT} {S : Int} (hS : S + zw φ (C n) ≤ Ψ + g * zk φ st) (hC : zCs (zP φ ac aA C N fr lg (52 * zk φ st + b1) (33 * zk φ st + b2)) (zOm φ C) to' tl' cs ca cp ct t' m (zG rg') S) (hI : zIn φ C N fr lg (52 * zk φ st + b1) (33 * zk φ st + b2) (zG rg) n s m t) (hP : zPr so va ac aA aB la bs n9 φ N C) (hn' : n' = n + 1) (ho : zg ac n = 6 ∨ zg ac n = 7 ∨ zg ac n = 8 ∨ zg ac n = 12 ∨ zg ac n = 14 ∨ zg ac n = 18) (hd : d = - zdr (zg ac n)) (hw : zWf fr lg (zG rg') (zGn (zg ac n) (zg aA n) (C n).1) s' m') (hc : zCap (zG rg') lg) (hm : m' ≤ m) (ht : t' + zNz (zG rg') ≤ t + zNz (zG rg) + d) (eb1 : b1' = b1 + zh φ (zg ac n)) (eb2 : b2' = b2 + zh φ (zg ac n)) (hΨ : Ψ' = Ψ - 1 + 2 * φ) : zMa φ ac aA C N fr lg b1' b2' g rg' to' tl' cs ca cp ct t' m' n' s' st Ψ' 1 := by
  have hn := hI.1
  obtain ⟨sd, nx, r, nl, hφ⟩ := zPr_at hP hn.1 hn.2
  have x := nx (by unfold zFa; omega)
  have nl := nl (by omega)
  subst hn'
  have d1 : zdu (zg ac n) = 0 := by unfold zdu; repeat' split
                                    all_goals omega
  have d2 : zdx (zg ac n) (C n).2.2.2 = (C n).2.2.2 - 1 := by unfold zdx; rw [if_neg (by omega)]
  have zb := @zh_b φ (zg ac n)
  refine zD_n (d := d) (rg := rg) hS hC hI hP (by omega) nl (fun z => by have := x.2 z; omega) ?_ hc hm ht (fun e => ?_) eb1 eb2 hΨ
  · rw [x.1]; exact hw
  · subst hd; unfold zdr zh; rw [if_neg (show φ ≠ 0 by omega)]
    repeat' split
    all_goals omega
theorem zD_cb {φ N fr lg b1 b2 b1' b2' g m n n' s st Ψ Ψ' bs n9 t t' : Int} {ac aA rg to tl rg' to' tl' cs ca cp ct so va aB la : Nat → Int32} {C : Int → zT} {r9 v9 : Int32} (h : zMa φ ac aA C N fr lg b1 b2 g rg to tl cs ca cp ct t m n s st Ψ 1) (hP : zPr so va ac aA aB la bs n9 φ N C) (hs : zST rg to tl rg' to' tl' t t' r9 v9) (hf : 0 ≤ fr) (ho : zg ac n = 6) (hn' : n' = n + 1) (ht0 : 0 ≤ t) (ht1 : t' ≤ t + 1) (hr : r9.toInt = 20 + zg aA n) (hv : v9.toInt = s) (eb1 : b1' = b1 + zh φ (zg ac n)) (eb2 : b2' = b2 + zh φ (zg ac n)) (hΨ : Ψ' = Ψ - 1 + 2 * φ) : zMa φ ac aA C N fr lg b1' b2' g rg' to' tl' cs ca cp ct t' m n' s st Ψ' 1 := by
  obtain ⟨S, hS, hC, hI⟩ := h
  rw [if_neg (by decide)] at hS
  have hI := hI (by decide)
  obtain ⟨sd, nx, r, nl, hφ⟩ := zPr_at hP hI.1.1 hI.1.2
  obtain ⟨s0, s1, s2, s3, s4, s5, s6, s7, s8, s9, s10, s11, s12, s13, s14, s15⟩ := sd
  have a := s6 (Or.inl ho)
  obtain ⟨hC', e⟩ := zCs_st hC hs ht0 (by omega)
  rw [hr, hv] at e
  have dr : zdr (zg ac n) = -1 := by rw [ho]; rfl
  refine zD_f (rg := rg) (t := t) (d := 1) hS hC' hI hP hn' (Or.inl ho) (by omega) ?_ ?_ (Int.le_refl _) ?_ eb1 eb2 hΨ
  · rw [e, ho]; exact zWf_cap hf hI.2.1 (s7 ho)
  · rw [e]; exact zCap_o hI.2.2.1 (by omega)
  · rw [e, zNz_o (by omega)]; omega
theorem zD_ce {φ N fr lg b1 b2 b1' b2' g m n n' s st Ψ Ψ' bs n9 t t1 t' : Int} {ac aA rg to tl rg1 to1 tl1 rg' to' tl' cs ca cp ct so va aB la : Nat → Int32} {C : Int → zT} {r9 v9 i9 r8 v8 : Int32} (h : zMa φ ac aA C N fr lg b1 b2 g rg to tl cs ca cp ct t m n s st Ψ 1) (hP : zPr so va ac aA aB la bs n9 φ N C) (hs : zST rg to tl rg1 to1 tl1 t t1 r9 v9) (hs2 : zST rg1 to1 tl1 rg' to' tl' t1 t' r8 v8) (ev : v9 = rg i9.toNatClampNeg) (hf : 0 ≤ fr) (hlg : lg ≤ 100) (ho : zg ac n = 7) (hn' : n' = n + 1) (ht0 : 0 ≤ t) (ht1 : t1 ≤ t + 1 ∧ t ≤ t1) (ht2 : t' ≤ t1 + 1) (hr : r9.toInt = zg aA n) (hi : i9.toInt = 20 + zg aA n) (hr8 : r8.toInt = 10 + zg aA n) (hv : v8.toInt = s) (eb1 : b1' = b1 + zh φ (zg ac n)) (eb2 : b2' = b2 + zh φ (zg ac n)) (hΨ : Ψ' = Ψ - 1 + 2 * φ) : zMa φ ac aA C N fr lg b1' b2' g rg' to' tl' cs ca cp ct t' m n' s st Ψ' 1 := by
  obtain ⟨S, hS, hC, hI⟩ := h
  rw [if_neg (by decide)] at hS
  have hI := hI (by decide)
  obtain ⟨sd, nx, r, nl, hφ⟩ := zPr_at hP hI.1.1 hI.1.2
  obtain ⟨s0, s1, s2, s3, s4, s5, s6, s7, s8, s9, s10, s11, s12, s13, s14, s15⟩ := sd
  have a := s6 (Or.inr ho)
  obtain ⟨G, eG⟩ := s8 ho
  obtain ⟨hC', e⟩ := zCs_st hC hs ht0 (by omega)
  obtain ⟨hC2, e2⟩ := zCs_st hC' hs2 (by omega) (by omega)
  rw [hr] at e
  rw [hr8, hv, e] at e2
  have ev2 : v9.toInt = zG rg (20 + zg aA n) := by rw [zG_at (by omega)]; exact zg_at2 ev hi
  rw [ev2] at e2
  have w := hI.2.1
  rw [eG] at w
  have cx := r.2.2.2.2
  rw [eG] at cx
  have dr : zdr (zg ac n) = -2 := by rw [ho]; rfl
  have le := zWf_le hf w
  have w2 : 0 ≤ zG rg (20 + zg aA n) ∧ zG rg (20 + zg aA n) ≤ s ∧ zWf fr lg (zG rg) G s m := by
    rcases w with ⟨_, w⟩ | ⟨z, _⟩ | ⟨z, _⟩
    · exact w
    · exact absurd z (by decide)
    · exact absurd z (by decide)
  refine zD_f (rg := rg) (t := t) (d := 2) hS hC2 hI hP hn' (Or.inr (Or.inl ho)) (by omega) ?_ ?_ (Int.le_refl _) ?_ eb1 eb2 hΨ
  · rw [e2, ho, eG]
    exact zWf_loose (Or.inl (by omega)) cx.2.2 (zWf_loose (Or.inl (by omega)) cx.2.2 w2.2.2)
  · rw [e2]; intro k k0 k1
    by_cases q : k = zg aA n
    · subst q
      have q1 : zfs (zfs (zG rg) (zg aA n) (zG rg (20 + zg aA n))) (10 + zg aA n) s (zg aA n) = zG rg (20 + zg aA n) := by
        unfold zfs; rw [if_neg (by omega), if_pos rfl]
      have q2 : zfs (zfs (zG rg) (zg aA n) (zG rg (20 + zg aA n))) (10 + zg aA n) s (10 + zg aA n) = s := if_pos rfl
      rw [q1, q2]; omega
    · have c := hI.2.2.1 k k0 k1
      have q2 : zfs (zfs (zG rg) (zg aA n) (zG rg (20 + zg aA n))) (10 + zg aA n) s (10 + k) = zG rg (10 + k) := by
        unfold zfs; rw [if_neg (by omega), if_neg (by omega)]
      have q1 : zfs (zfs (zG rg) (zg aA n) (zG rg (20 + zg aA n))) (10 + zg aA n) s k = zG rg k := by
        unfold zfs; rw [if_neg (by omega), if_neg q]
      rw [q1, q2]; exact c
  · rw [e2, zNz_o (by omega), zNz_o (by omega)]; omega
