def zu1 (ac se : Nat → Int32) (sp : Int) (k : Int) : Int := if zg se k = sp then 0 else zh 1 (zg ac (k / 101))
def zus (ac se : Nat → Int32) (sp N : Int) : Int := zsm (zu1 ac se sp) (101 * N).toNat
theorem zu1_b {ac se : Nat → Int32} {sp k : Int} : 0 ≤ zu1 ac se sp k ∧ zu1 ac se sp k ≤ 2 := by
  unfold zu1; split
  · omega
  · have := @zh_b 1 (zg ac (k / 101)); omega
theorem zus_0 {ac se : Nat → Int32} {sp N : Int} : 0 ≤ zus ac se sp N := zsm_nn (fun k => zu1_b.1)
theorem zus_m {ac se se' : Nat → Int32} {N n s : Int} {i v x sp : Int32} (e : se' = upd se i.toNatClampNeg v) (ex : x = se i.toNatClampNeg) (hi : i.toInt = 101 * n + s) (hv : v.toInt = sp.toInt) (n0 : 0 ≤ n) (n1 : n < N) (s0 : 0 ≤ s) (s1 : s ≤ 100) : zus ac se' sp.toInt N ≤ zus ac se sp.toInt N ∧ (x.toInt ≠ sp.toInt → zus ac se' sp.toInt N + zh 1 (zg ac n) ≤ zus ac se sp.toInt N) := by
  have q := zsm_upd (f := zu1 ac se' sp.toInt) (g := zu1 ac se sp.toInt) (j := i.toInt) (n := (101 * N).toNat) (by omega) (by omega) (fun k k0 k1 k2 => by
    unfold zu1; rw [e, zg_ne (by omega) k0 k2])
  have a : zu1 ac se' sp.toInt i.toInt = 0 := by
    unfold zu1; rw [if_pos]; rw [e, zg_eq]; exact hv
  have b := @zu1_b ac se sp.toInt i.toInt
  refine ⟨by unfold zus; omega, fun h => ?_⟩
  have c : zu1 ac se sp.toInt i.toInt = zh 1 (zg ac n) := by
    unfold zu1; rw [if_neg (by rw [← zg_at ex]; exact h), show i.toInt / 101 = n by omega]
  unfold zus; omega
def zPq (φ : Int) (ac : Nat → Int32) (C : Int → zT) (N : Int) : Prop := ((C 0).1 = [] ∧ (φ = 0 → (C 0).2.1 ≤ 60 ∧ (C 0).2.2.1 ≤ 60)) ∧ ∀ p : Int, 0 ≤ p → p < N → zg ac p = 19 → (C p).1 = []
def zBu (φ b1 b2 st K u : Int) : Prop := (φ = 0 → b1 ≤ 100 ∧ b2 ≤ 300) ∧ (φ = 1 → b1 + u ≤ K ∧ b2 + u ≤ K + 220 ∧ st + 2 * u ≤ 2 * K)
def zTi (φ : Int) (ac aA : Nat → Int32) (C : Int → zT) (N fr lg g K : Int) (rg to tl cs ca cp ct : Nat → Int32) (t m n s st lim u gm r : Int) : Prop := ∃ Ψ b1 b2 : Int, zMa φ ac aA C N fr lg b1 b2 g rg to tl cs ca cp ct t m n s st Ψ r ∧ zBu φ b1 b2 st K u ∧ Ψ + g * zk φ lim + 2 * u ≤ gm
theorem zTi_b {φ N fr lg g K t m n s st lim u gm bs n9 : Int} {ac aA rg to tl cs ca cp ct so va aB la : Nat → Int32} {C : Int → zT} (h : zTi φ ac aA C N fr lg g K rg to tl cs ca cp ct t m n s st lim u gm 1) (hP : zPr so va ac aA aB la bs n9 φ N C) (hf : 0 ≤ fr) (hg : 0 ≤ g) (h0 : 0 ≤ st) (h1 : st ≤ lim) (hl : φ = 0 → lim ≤ 3000) (hK : φ = 1 → K ≤ 90000) (hu : 0 ≤ u) : (0 ≤ n ∧ n < N ∧ N ≤ 2999) ∧ (0 ≤ s ∧ s ≤ lg) ∧ (0 ≤ m ∧ m ≤ 199900) ∧ t ≤ 119900 ∧ st ≤ 200000 ∧ 1 ≤ gm := by
  obtain ⟨Ψ, b1, b2, hM, ⟨q1, q2⟩, q3⟩ := h
  obtain ⟨a1, a2, a3, a4, a5, a6⟩ := zMa_b hM hP hf
  have k := zk_le (φ := φ) h1 h0
  have k2 : g * zk φ st ≤ g * zk φ lim := Int.mul_le_mul_of_nonneg_left k.1 hg
  rcases hP.1.2.2.2 with e | e
  · have := q1 e; have := hl e
    have e2 : zk φ st = st := by rw [e]; exact zk_0
    omega
  · have := q2 e; have := hK e
    have e2 : zk φ st = 0 := by rw [e]; exact zk_1
    omega
theorem zTi_0 {φ N fr lg g K st lim u gm bs n9 m0 t0 n0 s0 : Int} {ac aA rg to tl cs ca cp ct so va aB la : Nat → Int32} {C : Int → zT} (hP : zPr so va ac aA aB la bs n9 φ N C) (hq : zPq φ ac C N) (hr : ∀ j : Int, 0 ≤ j → j < 20 → zg rg j = -1) (hf : fr ≤ lg) (hm : m0 = 0) (ht : t0 = 0) (hn : n0 = 0) (hs : s0 = fr) (hu : φ = 1 → u ≤ K) (hst : φ = 1 → st + 2 * u ≤ 2 * K) (h0 : 0 ≤ st) (hgm : gm = zw φ (C 0) - g * zk φ st + g * zk φ lim + 2 * u) : zTi φ ac aA C N fr lg g K rg to tl cs ca cp ct t0 m0 n0 s0 st lim u gm 1 := by
  subst hm; subst ht; subst hn; subst hs
  have n1 := hP.1.1
  have hφ := hP.1.2.2.2
  have nz := @zNz_b (zG rg)
  have hc : zCap (zG rg) lg := by
    intro a a0 a1
    rw [zG_at a0, zG_at (show 0 ≤ 10 + a by omega), hr a a0 (by omega), hr (10 + a) (by omega) (by omega)]
    omega
  obtain ⟨⟨c1, c2⟩, _⟩ := hq
  have k := zk_le (φ := φ) (Int.le_refl st) h0
  refine ⟨zw φ (C 0) - g * zk φ st, if φ = 0 then 60 else K - u, if φ = 0 then 280 else K - u + 220, ⟨0, ?_, zCs_0 (Int.le_refl _), fun _ => ⟨⟨Int.le_refl _, by omega⟩, by rw [c1]; exact ⟨Int.le_refl _, hf, Int.le_refl _⟩, hc, ?_, ?_⟩⟩, ⟨fun e => ?_, fun e => ?_⟩, by omega⟩
  · rw [if_neg (by decide)]; omega
  · rcases hφ with e | e
    · have := c2 e; subst e; rw [zU_0, if_pos rfl]; omega
    · have := hu e; subst e; rw [zU_1, if_neg (by decide)]; omega
  · rcases hφ with e | e
    · have := c2 e; subst e; rw [zR_0, if_pos rfl]; omega
    · have := hu e; subst e; rw [zR_1, if_neg (by decide)]; omega
  · rw [if_pos e, if_pos e]; omega
  · have := hst e
    rw [if_neg (by omega), if_neg (by omega)]; omega
theorem zTi_n {φ N fr lg g K t m n s st lim u u' gm gm' n' s' : Int} {ac aA rg to tl cs ca cp ct : Nat → Int32} {C : Int → zT} (h : zTi φ ac aA C N fr lg g K rg to tl cs ca cp ct t m n s st lim u gm 1) (hu : u' ≤ u) (hg : 0 ≤ g) (h0 : 0 ≤ st) (hgm : gm' = gm - 1) : zTi φ ac aA C N fr lg g K rg to tl cs ca cp ct t m n' s' st lim u' gm' 0 := by
  obtain ⟨Ψ, b1, b2, hM, ⟨q1, q2⟩, q3⟩ := h
  exact ⟨Ψ - 1, b1, b2, zMa_no hM (Int.le_refl _) (Int.le_refl _) h0 hg (Int.le_refl _) (Int.le_refl _) (Int.le_refl _), ⟨q1, fun e => by have := q2 e; omega⟩, by omega⟩
theorem zTi_d {φ N fr lg g K t' m' n n' s' st st' lim u u' gm gm' r Ψ b1 b2 : Int} {ac aA rg' to' tl' cs' ca' cp' ct' : Nat → Int32} {C : Int → zT} (hM : zMa φ ac aA C N fr lg (b1 + zh φ (zg ac n)) (b2 + zh φ (zg ac n)) g rg' to' tl' cs' ca' cp' ct' t' m' n' s' st' (Ψ - 1 + 2 * φ) r) (hB : zBu φ b1 b2 st K u) (hgm : Ψ + g * zk φ lim + 2 * u ≤ gm) (hφ : φ = 0 ∨ φ = 1) (hu : u' + zh φ (zg ac n) ≤ u) (hst : st' ≤ st + 2) (hgm' : gm' = gm - 1) : zTi φ ac aA C N fr lg g K rg' to' tl' cs' ca' cp' ct' t' m' n' s' st' lim u' gm' r := by
  obtain ⟨q1, q2⟩ := hB
  have z := @zh_b φ (zg ac n)
  refine ⟨_, _, _, hM, ⟨fun e => ?_, fun e => ?_⟩, ?_⟩
  · have := q1 e; have : zh φ (zg ac n) = 0 := by rw [e]; exact zh_0
    omega
  · have := q2 e; have := z.2.2 e; omega
  · rcases hφ with e | e
    · omega
    · have := z.2.2 e; omega
theorem zus_n {ac se : Nat → Int32} {φ sp N n : Int} (e : φ = 0) : zus ac se sp N + zh φ (zg ac n) ≤ zus ac se sp N := by rw [e, zh_0]; omega
theorem zh_le {φ o : Int} (h : φ = 0 ∨ φ = 1) : zh φ o ≤ zh 1 o := by
  rcases h with e | e
  · rw [e, zh_0]; exact zh_b.1
  · rw [e]; exact Int.le_refl _
theorem zTi_g {φ N fr lg g K t' m' n' s' st st' lim u gm Ψ b1 b2 : Int} {ac aA rg' to' tl' cs' ca' cp' ct' : Nat → Int32} {C : Int → zT} (hM : zMa φ ac aA C N fr lg b1 b2 g rg' to' tl' cs' ca' cp' ct' t' m' n' s' st' Ψ 1) (hB : zBu φ b1 b2 st K u) (hgm : Ψ + g * zk φ lim + 2 * u ≤ gm) (hst : φ = 1 → st' = st) : zTi φ ac aA C N fr lg g K rg' to' tl' cs' ca' cp' ct' t' m' n' s' st' lim u gm 1 :=
  ⟨_, _, _, hM, ⟨hB.1, fun e => by have := hB.2 e; have := hst e; omega⟩, hgm⟩
theorem zTi_e {φ N fr lg g K t m n s st lim u gm : Int} {ac aA rg to tl cs ca cp ct : Nat → Int32} {C : Int → zT} (h : zTi φ ac aA C N fr lg g K rg to tl cs ca cp ct t m n s st lim u gm 1) (hq : zPq φ ac C N) (ho : zg ac n = 19) : zCap (zG rg) lg ∧ fr ≤ s ∧ s ≤ lg := by
  obtain ⟨Ψ, b1, b2, ⟨S, _, _, hI⟩, _⟩ := h
  obtain ⟨hn, hw, hc, _⟩ := hI (by decide)
  rw [hq.2 n hn.1 hn.2 ho] at hw
  exact ⟨hc, hw.1, hw.2.1⟩
theorem zP_f {so va ac aA aB la : Nat → Int32} {bs n9 φ N fr lg B1 B2 s a p i t : Int} {f : Int → Int} {C : Int → zT} (h : zP φ ac aA C N fr lg B1 B2 s a p f i t) (hP : zPr so va ac aA aB la bs n9 φ N C) (hs : s = 1 ∨ s = 2) : φ = 0 := by
  rcases h with ⟨e, h⟩ | ⟨e, o, h⟩ | ⟨e, o, a0, h, h1, h2⟩
  · omega
  · exact (zSd_a (zPr_at hP h.1.1 h.1.2).1 (by omega) (by omega)).1
  · have h9 := h.1
    exact (zSd_a (zPr_at hP a0 (show a < N by omega)).1 (by omega) (by omega)).1
def zRs (rg : Nat → Int32) (k : Int) : Prop := ∀ j : Int, 0 ≤ j → j < k → zg rg j = -1
theorem zRs_0 {rg : Nat → Int32} : zRs rg 0 := fun j j0 j1 => by omega
theorem zRs_s {rg rg' : Nat → Int32} {k' : Int} {i v : Int32} (h : zRs rg i.toInt) (e : rg' = upd rg i.toNatClampNeg v) (hv : v.toInt = -1) (hi : 0 ≤ i.toInt) (hk : k' = i.toInt + 1) : zRs rg' k' := by
  intro j j0 j1
  by_cases q : j = i.toInt
  · rw [e, q, zg_eq]; exact hv
  · rw [e, zg_ne hi j0 q]; exact h j j0 (by omega)
theorem zor {o : Bool} {p : Prop} (h : o = true ∨ p) (h0 : (bz o).toInt = 0) : p := by
  rcases h with h | h
  · rw [h] at h0; exact absurd h0 (by decide)
  · exact h
theorem zTi_1 {φ N fr lg g K t m n s st lim u gm r : Int} {ac aA rg to tl cs ca cp ct : Nat → Int32} {C : Int → zT} (h : zTi φ ac aA C N fr lg g K rg to tl cs ca cp ct t m n s st lim u gm r) (hr : r ≠ 0) : zTi φ ac aA C N fr lg g K rg to tl cs ca cp ct t m n s st lim u gm 1 := by
  obtain ⟨Ψ, b1, b2, ⟨S, a, b, c⟩, q⟩ := h
  exact ⟨Ψ, b1, b2, ⟨S, by rw [if_neg (by decide)]; rw [if_neg hr] at a; exact a, b, fun _ => c hr⟩, q⟩
