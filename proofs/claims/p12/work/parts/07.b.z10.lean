def zNd (so va le mo ho pa en fp : Nat → Int32) (b q n c p k : Int) : Prop :=
  (0 ≤ zg so (b + k) ∧ zg so (b + k) ≤ 11 ∧ 0 ≤ zg le (b + k) ∧ zg le (b + k) ≤ 20 ∧ -1 ≤ zg mo (b + k) ∧ (zg mo (b + k) ≤ 20 ∧ (zg mo (b + k) = -1 ∨ zg le (b + k) ≤ zg mo (b + k))) ∧ 0 ≤ zg va (b + k) ∧ zg va (b + k) ≤ 65535 ∧ (zg so (b + k) ≠ 0 → zg va (b + k) ≤ 9) ∧ (zg so (b + k) = 4 → 1 ≤ zg va (b + k)) ∧ (zg so (b + k) = 8 → 1 ≤ zg va (b + k) ∧ zg va (b + k) ≤ c) ∧ (zg so (b + k) = 2 → q ≤ zg fp (b + k) ∧ 0 ≤ zg pa (b + k) ∧ zg fp (b + k) + zg pa (b + k) ≤ q + p)) ∧
  ((k = 0 → zg ho (b + k) = -1) ∧ (1 ≤ k → 0 ≤ zg ho (b + k) ∧ zg ho (b + k) < k) ∧ k < zg en (b + k) ∧ zg en (b + k) ≤ n ∧ (∀ j : Int, k < j → j < zg en (b + k) → k ≤ zg ho (b + j) ∧ zg en (b + j) ≤ zg en (b + k))) ∧
  (zg so (b + k) ≤ 4 → zg en (b + k) = k + 1) ∧ (6 ≤ zg so (b + k) → k + 1 < zg en (b + k)) ∧ (7 ≤ zg so (b + k) → zg en (b + (k + 1)) = zg en (b + k)) ∧ (∀ j : Int, 0 ≤ j → j < k → zg so (b + j) = 8 → zg so (b + k) = 8 → zg va (b + j) < zg va (b + k))
def zv7 (so : Nat → Int32) (b k : Int) : Int := if zg so (b + k) = 7 then 1 else 0
def zvn (so va : Nat → Int32) (b k : Int) : Int := if zg so (b + k) = 0 then 2 * zhx (zg va (b + k)) else 0
def zvp (pb pe : Nat → Int32) (q i : Int) : Int := zhx (zg pb (q + i)) + zhx (zg pe (q + i))
def zvs (so va pa fp pb pe : Nat → Int32) (b q k : Int) : Int := if zg so (b + k) = 2 then 5 * zg pa (b + k) + 4 * (zsm (zvp pb pe q) (zg fp (b + k) - q + zg pa (b + k)).toNat - zsm (zvp pb pe q) (zg fp (b + k) - q).toNat) else if zg so (b + k) = 0 then 4 * zhx (zg va (b + k)) else 0
def zvr (so pa fp pb pe : Nat → Int32) (b q k : Int) : Int := if zg so (b + k) = 2 then zsm (zvp pb pe q) (zg fp (b + k) - q + zg pa (b + k)).toNat - zsm (zvp pb pe q) (zg fp (b + k) - q).toNat else 0
def zSl (so va le mo ho pa en fp pb pe : Nat → Int32) (b q n c : Int) : Prop := 1 ≤ n ∧ n ≤ 220 ∧ 0 ≤ c ∧ c ≤ 9 ∧ ∃ p : Int, 0 ≤ p ∧ p ≤ 420 ∧ (∀ k : Int, 0 ≤ k → k < n → zNd so va le mo ho pa en fp b q n c p k) ∧
  (∀ i : Int, 0 ≤ i → i < p → 0 ≤ zg pb (q + i) ∧ zg pb (q + i) ≤ 65535 ∧ 0 ≤ zg pe (q + i) ∧ zg pe (q + i) ≤ 65535) ∧ zsm (zv7 so b) n.toNat ≤ 50 ∧ zsm (zvn so va b) n.toNat + zsm (zvr so pa fp pb pe b q) n.toNat ≤ 66 ∧ 12 * n + zsm (zvs so va pa fp pb pe b q) n.toNat ≤ 3332
def zBk (S V L Z M P so va le mo ho pa fp en : Nat → Int32) (b q N C k : Int) : Prop := ∃ E G : Int → Int, zEm S V L Z M P so va le mo ho pa fp E G b q N C N ∧ (∀ f : Int → Int, zsm (fun k => f (G k)) N.toNat = zsm f N.toNat) ∧ (∀ j : Int, 0 ≤ j → j < N → j + 1 ≤ zg en (b + j) ∧ zg en (b + j) ≤ E j) ∧ (∀ i : Int, k < i → i < N → 1 ≤ i → E i ≤ zg en (b + zg ho (b + i)))
theorem zBk_0 {S V L Z F X M P w wh so va le mo ho pa fp en : Nat → Int32} {b q n top N C k : Int} (h : zKp S V L Z F X M P w wh so va le mo ho pa fp b q n top N C) (ht : top = 0) (hk : k = n - 1) (he : ∀ j : Int, 0 ≤ j → j < n → zg en (b + j) = j + 1) : n = N ∧ zBk S V L Z M P so va le mo ho pa fp en b q N C k := by
  obtain ⟨E, G, c, R, _, _, h0, h1, h2, h3⟩ := h
  subst ht
  obtain ⟨g1, g2, g3⟩ := h1
  subst g1; subst g2
  refine ⟨rfl, E, G, h2, fun f => by have := h3 f; rw [g3 f] at this; omega, fun j j0 j1 => ?_, fun i i0 i1 => by omega⟩
  have := he j j0 j1
  have := (h2 j j0 j1).2.1.1
  omega
theorem zBk_end {S V L Z M P so va le mo ho pa fp en : Nat → Int32} {E G : Int → Int} {b q N C k : Int} (h1 : zEm S V L Z M P so va le mo ho pa fp E G b q N C N) (h2 : ∀ j : Int, 0 ≤ j → j < N → j + 1 ≤ zg en (b + j) ∧ zg en (b + j) ≤ E j) (h3 : ∀ i : Int, k < i → i < N → 1 ≤ i → E i ≤ zg en (b + zg ho (b + i))) (h0 : 0 ≤ k) (hk : k < N) : zg en (b + k) = E k := by
  have key : ∀ (m : Nat) (j : Int), j = k + 1 + m → j < E k → j < N → E j ≤ zg en (b + k) := by
    intro m
    induction m using Nat.strongRecOn with
    | ind m ih =>
      intro j hj h4 h5
      have hno := (h1 j (by omega) h5).2.2.1 k h0 (by omega) h4
      obtain ⟨s1, s2, s3, s4⟩ := (h1 j (by omega) h5).2.1.2.2.2 (by omega)
      by_cases e : zg ho (b + j) = k
      · have := h3 j (by omega) h5 (by omega)
        rw [e] at this; exact this
      · have := ih ((zg ho (b + j) - k - 1).toNat) (by omega) (zg ho (b + j)) (by omega) (by omega) (by omega)
        omega
  have a1 := h2 k h0 hk
  have a2 := (h1 k h0 hk).2.1
  by_cases e : E k = k + 1
  · omega
  · have := key ((E k - k - 2).toNat) (E k - 1) (by omega) (by omega) (by omega)
    have := (h1 (E k - 1) (by omega) (by omega)).2.1.1
    omega
theorem zBk_step {S V L Z M P so va le mo ho pa fp en en' : Nat → Int32} {b q N C k k' : Int} (h : zBk S V L Z M P so va le mo ho pa fp en b q N C k) (h0 : 1 ≤ k) (hk : k < N) (hk' : k' = k - 1) (hm : (zg en' (b + zg ho (b + k)) = zg en (b + zg ho (b + k)) ∧ zg en (b + k) ≤ zg en (b + zg ho (b + k))) ∨ (zg en' (b + zg ho (b + k)) = zg en (b + k) ∧ zg en (b + zg ho (b + k)) ≤ zg en (b + k))) (ho' : ∀ j : Int, 0 ≤ j → j ≠ zg ho (b + k) → zg en' (b + j) = zg en (b + j)) : zBk S V L Z M P so va le mo ho pa fp en' b q N C k' := by
  obtain ⟨E, G, h1, h2, h3, h4⟩ := h
  have hE := zBk_end h1 h3 h4 (by omega) hk
  obtain ⟨s1, s2, s3, s4⟩ := (h1 k (by omega) hk).2.1.2.2.2 h0
  have up : ∀ j : Int, 0 ≤ j → j < N → zg en (b + j) ≤ zg en' (b + j) ∧ zg en' (b + j) ≤ E j := by
    intro j j0 j1
    have := h3 j j0 j1
    by_cases e : j = zg ho (b + k)
    · rw [e] at this ⊢; rcases hm with hm | hm <;> omega
    · rw [ho' j j0 e]; omega
  refine ⟨E, G, h1, h2, fun j j0 j1 => by have := up j j0 j1; have := h3 j j0 j1; omega, fun i i0 i1 i2 => ?_⟩
  by_cases e : i = k
  · rw [e]; rcases hm with hm | hm <;> omega
  · have := h4 i (by omega) i1 i2
    obtain ⟨t1, t2, _⟩ := (h1 i (by omega) i1).2.1.2.2.2 i2
    have := up (zg ho (b + i)) t1 (by omega)
    omega
theorem zSl_mk {S V L Z F X M P B E9 so va le mo ho pa fp en pb pe : Nat → Int32} {b q N C p t k : Int} (h : zBk S V L Z M P so va le mo ho pa fp en b q N C k) (hk : k ≤ 0) (hr : zOne S V F X t 0 N 0 C ∧ zFn S V L Z M P N p ∧ zFp B E9 p ∧ zCn S V M P B E9 0 N p C 100 200 3224) (hN : N ≤ 220) (hp : 0 ≤ p ∧ p ≤ 420) (hC : C ≤ 9) (hc : ∀ i : Int, 0 ≤ i → i < p → zg pb (q + i) = zg B i ∧ zg pe (q + i) = zg E9 i) : zSl so va le mo ho pa en fp pb pe b q N C := by
  obtain ⟨E, G, h1, h2, h3, h4⟩ := h
  obtain ⟨r1, r2, r3, r9, r4, r5, r6⟩ := hr
  have hN1 : 1 ≤ N := by have := r1.1; have := r1.2.2.1; omega
  have hC0 : 0 ≤ C := by obtain ⟨m, hm⟩ := r1.2.2.2.2; exact (zCh_le hm).2.1
  have hE : ∀ k : Int, 0 ≤ k → k < N → zg en (b + k) = E k := fun k k0 k1 => zBk_end h1 h3 (fun i i0 i1 i2 => h4 i (by omega) i1 i2) k0 k1
  have hlam : ∀ (m : Nat) (k j : Int), 0 ≤ k → k < N → j = k + 1 + m → j < E k → k ≤ zg ho (b + j) ∧ E j ≤ E k := by
    intro m
    induction m using Nat.strongRecOn with
    | ind m ih =>
      intro k j k0 k1 hj h5
      have hEk := (h1 k k0 k1).2.1.2.1
      have hno := (h1 j (by omega) (by omega)).2.2.1 k k0 (by omega) h5
      obtain ⟨s1, s2, s3, s4⟩ := (h1 j (by omega) (by omega)).2.1.2.2.2 (by omega)
      refine ⟨hno, ?_⟩
      by_cases e : zg ho (b + j) = k
      · rw [e] at s3; exact s3
      · have := (ih ((zg ho (b + j) - k - 1).toNat) (by omega) k (zg ho (b + j)) k0 k1 (by omega) (by omega)).2
        omega
  have sum7 : zsm (zv7 so b) N.toNat = zsm (zw7 S) N.toNat := by
    rw [← h2 (zw7 S)]
    exact zsm_congr (fun k k0 k1 => by unfold zv7 zw7; rw [(h1 k k0 (by omega)).1.2.2.1])
  have sumn : zsm (zvn so va b) N.toNat = zsm (zhn S V) N.toNat := by
    rw [← h2 (zhn S V)]
    exact zsm_congr (fun k k0 k1 => by unfold zvn zhn; rw [(h1 k k0 (by omega)).1.2.2.1, (h1 k k0 (by omega)).1.2.2.2.1])
  have sump : ∀ r : Int, r ≤ p → zsm (zvp pb pe q) r.toNat = zsm (zhp B E9) r.toNat := fun r hr => zsm_congr (fun k k0 k1 => by
    obtain ⟨c1, c2⟩ := hc k k0 (by omega)
    unfold zvp zhp; rw [c1, c2])
  have sums : zsm (zvs so va pa fp pb pe b q) N.toNat = zsm (zws S V M P B E9) N.toNat := by
    rw [← h2 (zws S V M P B E9)]
    exact zsm_congr (fun k k0 k1 => by
      obtain ⟨p1, p2, p3, p4, p5, p6, p7, p8⟩ := (h1 k k0 (by omega)).1
      unfold zvs zws; rw [p3, p4, p7]
      by_cases e : zg S (G k) = 2
      · rw [if_pos e, if_pos e, p8 e]
        have z := (r2 (G k) p1 p2).2.2.2.2.2.2.2.2.2.2.2 e
        rw [show q + zg P (G k) - q = zg P (G k) from by omega, sump _ (by omega), sump _ (by omega)]
      · rw [if_neg e, if_neg e])
  have sumr : zsm (zvr so pa fp pb pe b q) N.toNat = zsm (zwr S M P B E9) N.toNat := by
    rw [← h2 (zwr S M P B E9)]
    exact zsm_congr (fun k k0 k1 => by
      obtain ⟨p1, p2, p3, p4, p5, p6, p7, p8⟩ := (h1 k k0 (by omega)).1
      unfold zvr zwr; rw [p3, p7]
      by_cases e : zg S (G k) = 2
      · rw [if_pos e, if_pos e, p8 e]
        have z := (r2 (G k) p1 p2).2.2.2.2.2.2.2.2.2.2.2 e
        rw [show q + zg P (G k) - q = zg P (G k) from by omega, sump _ (by omega), sump _ (by omega)]
      · rw [if_neg e, if_neg e])
  refine ⟨hN1, hN, hC0, hC, p, hp.1, hp.2, fun k k0 k1 => ?_, fun i i0 i1 => ?_, by omega, by omega, by omega⟩
  · obtain ⟨⟨p1, p2, p3, p4, p5, p6, p7, p8⟩, ⟨q1, q2, q3, q4⟩, n1, n2, n3, n4, n5⟩ := h1 k k0 k1
    have z := r2 (G k) p1 p2
    unfold zNk at z
    refine ⟨?_, ⟨q3, fun z => ⟨(q4 z).1, (q4 z).2.1⟩, by rw [hE k k0 k1]; exact q1, by rw [hE k k0 k1]; exact q2, fun j j0 j1 => ?_⟩, by rw [hE k k0 k1]; exact n2, by rw [hE k k0 k1]; exact n3, fun z7 => ?_, n5⟩
    · rw [p3, p4] at *
      rw [p5, p6, p7]
      refine ⟨z.1, z.2.1, z.2.2.1, z.2.2.2.1, z.2.2.2.2.1, z.2.2.2.2.2.1, z.2.2.2.2.2.2.1, z.2.2.2.2.2.2.2.1, z.2.2.2.2.2.2.2.2.1, z.2.2.2.2.2.2.2.2.2.1, n4, fun w => ?_⟩
      have := z.2.2.2.2.2.2.2.2.2.2.2 w
      have := p8 w
      omega
    · rw [hE k k0 k1] at j1 ⊢
      have := hlam (j - k - 1).toNat k j k0 k1 (by omega) j1
      rw [hE j (by omega) (by omega)]; exact this
    · have w := n3 (by omega)
      have w2 := hlam 0 k (k + 1) k0 k1 (by omega) w
      obtain ⟨s1, s2, s3, s4⟩ := (h1 (k + 1) (by omega) (by omega)).2.1.2.2.2 (by omega)
      have e : zg ho (b + (k + 1)) = k := by omega
      rw [hE (k + 1) (by omega) (by omega), hE k k0 k1]
      rw [e] at s4; exact s4 z7
  · obtain ⟨c1, c2⟩ := hc i i0 i1
    rw [c1, c2]; exact r3 i i0 i1
