def zEm (S V L Z M P so va le mo ho pa fp : Nat → Int32) (E G : Int → Int) (b q N c n : Int) : Prop := ∀ k : Int, 0 ≤ k → k < n →
  (0 ≤ G k ∧ G k < N ∧ zg so (b + k) = zg S (G k) ∧ zg va (b + k) = zg V (G k) ∧ zg le (b + k) = zg L (G k) ∧ zg mo (b + k) = zg Z (G k) ∧ zg pa (b + k) = zg M (G k) ∧ (zg S (G k) = 2 → zg fp (b + k) = q + zg P (G k))) ∧
  (k < E k ∧ E k ≤ N ∧ (k = 0 → zg ho (b + k) = -1) ∧ (1 ≤ k → 0 ≤ zg ho (b + k) ∧ zg ho (b + k) < k ∧ E k ≤ E (zg ho (b + k)) ∧ (7 ≤ zg so (b + zg ho (b + k)) → E k = E (zg ho (b + k))))) ∧
  (∀ j : Int, 0 ≤ j → j < k → k < E j → j ≤ zg ho (b + k)) ∧ (zg so (b + k) ≤ 4 → E k = k + 1) ∧ (6 ≤ zg so (b + k) → k + 1 < E k) ∧
  (zg so (b + k) = 8 → 1 ≤ zg va (b + k) ∧ zg va (b + k) ≤ c) ∧ (∀ j : Int, 0 ≤ j → j < k → zg so (b + j) = 8 → zg so (b + k) = 8 → zg va (b + j) < zg va (b + k))
def zKp (S V L Z F X M P w wh so va le mo ho pa fp : Nat → Int32) (b q n top N C : Int) : Prop := ∃ (E G : Int → Int) (c : Int) (R : (Int → Int) → Int), (n = 0 → top = 1) ∧ (1 ≤ n → E 0 = N) ∧ 0 ≤ c ∧ zSk S V F X w wh so E b n N C top.toNat n c R ∧ zEm S V L Z M P so va le mo ho pa fp E G b q N c n ∧ ∀ f : Int → Int, zsm (fun k => f (G k)) n.toNat + R f = zsm f N.toNat
theorem zKp_0 {S V L Z F X M P w wh so va le mo ho pa fp : Nat → Int32} {b q t N C : Int} (h : zOne S V F X t 0 N 0 C) (hw : zg w 0 = t) (hh : zg wh 0 = -1) : zKp S V L Z F X M P w wh so va le mo ho pa fp b q 0 1 N C := by
  obtain ⟨h1, h2, h3, h4, h5⟩ := h
  refine ⟨fun _ => 0, fun _ => 0, 0, fun f => zsm f N.toNat, fun _ => rfl, fun z => by omega, Int.le_refl _, ?_, fun k k0 k1 => by omega, fun f => ?_⟩
  · show zSk S V F X w wh so _ b 0 N C 1 0 0 _
    refine ⟨0, N, C, fun _ => 0, by rw [show ((0 : Nat) : Int) = 0 from rfl, hw]; exact h5, Int.le_refl _, by rw [show ((0 : Nat) : Int) = 0 from rfl, hw]; omega, by rw [show ((0 : Nat) : Int) = 0 from rfl, hh]; omega, by rw [show ((0 : Nat) : Int) = 0 from rfl, hh]; omega, ?_, ?_, fun k k0 k1 => ?_, fun f => ?_, ⟨by omega, rfl, fun _ => rfl⟩⟩
    · rw [show ((0 : Nat) : Int) = 0 from rfl, hw]; exact fun _ => h4
    · rw [show ((0 : Nat) : Int) = 0 from rfl, hh]; intro z; omega
    · rw [show ((0 : Nat) : Int) = 0 from rfl, hh] at k0; omega
    · show zsm f N.toNat = 0 + (zsm f N.toNat - 0); omega
  · show 0 + zsm f N.toNat = _; omega
theorem zKp_le {S V L Z F X M P w wh so va le mo ho pa fp : Nat → Int32} {b q n top N C : Int} (h : zKp S V L Z F X M P w wh so va le mo ho pa fp b q n top N C) (ht : 0 ≤ top) : n + top ≤ N := by
  obtain ⟨E, G, c, R, _, _, h0, h1, h2⟩ := h
  have := (zSk_le h1).1; omega
theorem zKp_top {S V L Z F X M P w wh so va le mo ho pa fp : Nat → Int32} {b q n top N C : Int} (h : zKp S V L Z F X M P w wh so va le mo ho pa fp b q n top N C) (ht : 1 ≤ top) : 0 ≤ zg w (top - 1) ∧ zg w (top - 1) < N ∧ -1 ≤ zg wh (top - 1) ∧ zg wh (top - 1) < n := by
  obtain ⟨E, G, c, R, _, _, h0, h1, h2⟩ := h
  have e : top.toNat = (top - 1).toNat + 1 := by omega
  rw [e] at h1
  obtain ⟨a, e', c', r', ⟨k, g1⟩, heN, g2, g3, g4, g5⟩ := h1
  have ee : (((top - 1).toNat : Nat) : Int) = top - 1 := by omega
  rw [ee] at g1 g2 g3 g4
  have := (zCh_le g1).2.2.2 g2
  exact ⟨by omega, by omega, g3, g4⟩
theorem zEm_ext {S V L Z M P so va le mo ho pa fp so' va' le' mo' ho' pa' fp' : Nat → Int32} {E G E' G' : Int → Int} {b q N c c' n t h x : Int} (he : zEm S V L Z M P so va le mo ho pa fp E G b q N c n)
    (hE : ∀ k, k ≠ n → E' k = E k) (hEn : E' n = x) (hG : ∀ k, k ≠ n → G' k = G k) (hGn : G' n = t)
    (ha : ∀ k : Int, 0 ≤ k → k < n → zg so' (b + k) = zg so (b + k) ∧ zg va' (b + k) = zg va (b + k) ∧ zg le' (b + k) = zg le (b + k) ∧ zg mo' (b + k) = zg mo (b + k) ∧ zg ho' (b + k) = zg ho (b + k) ∧ zg pa' (b + k) = zg pa (b + k) ∧ zg fp' (b + k) = zg fp (b + k))
    (hb : zg so' (b + n) = zg S t ∧ zg va' (b + n) = zg V t ∧ zg le' (b + n) = zg L t ∧ zg mo' (b + n) = zg Z t ∧ zg ho' (b + n) = h ∧ zg pa' (b + n) = zg M t ∧ (zg S t = 2 → zg fp' (b + n) = q + zg P t))
    (ht : 0 ≤ t ∧ t < N) (hx : n < x ∧ x ≤ N) (hh : (n = 0 → h = -1) ∧ (1 ≤ n → 0 ≤ h) ∧ h < n) (h1 : 0 ≤ h → x ≤ E h ∧ (7 ≤ zg so (b + h) → x = E h)) (h2 : ∀ k, h < k → k < n → E k ≤ n) (h4 : zg S t ≤ 4 → x = n + 1) (h6 : 6 ≤ zg S t → n + 1 < x) (h0c : 0 ≤ c) (h8 : zg S t = 8 → zg V t = c + 1 ∧ c' = c + 1) (h9 : zg S t ≠ 8 → c' = c) :
    zEm S V L Z M P so' va' le' mo' ho' pa' fp' E' G' b q N c' (n + 1) := by
  have cc : c ≤ c' := by
    by_cases z : zg S t = 8
    · have := h8 z; omega
    · have := h9 z; omega
  intro k k0 k1
  by_cases e : k = n
  · subst e
    obtain ⟨b1, b2, b3, b4, b5, b6, b7⟩ := hb
    rw [hEn, hGn]
    refine ⟨⟨ht.1, ht.2, b1, b2, b3, b4, b6, b7⟩, ⟨hx.1, hx.2, ?_, ?_⟩, ?_, ?_, ?_, ?_, ?_⟩
    · intro z; rw [b5]; exact hh.1 z
    · intro z
      have z0 := hh.2.1 z
      rw [b5, hE h (by omega), (ha h z0 hh.2.2).1]
      exact ⟨z0, hh.2.2, (h1 z0).1, (h1 z0).2⟩
    · intro j j0 j1 j2
      rw [hE j (by omega)] at j2
      rw [b5]
      by_cases q : h < j
      · have := h2 j q j1; omega
      · omega
    · rw [b1]; exact h4
    · rw [b1]; exact h6
    · rw [b1, b2]; intro z; have := h8 z; omega
    · intro j j0 j1 j2 j3
      rw [b1] at j3
      obtain ⟨a1, a2, _⟩ := ha j j0 j1
      rw [a1] at j2
      have := ((he j j0 j1).2.2.2.2.2.1 j2).2
      rw [a2, b2]; have := h8 j3; omega
  · have kn : k < n := by omega
    obtain ⟨⟨p1, p2, p3, p4, p5, p6, p7, p8⟩, ⟨q1, q2, q3, q4⟩, r1, r2, r3, r4, r5⟩ := he k k0 kn
    obtain ⟨a1, a2, a3, a4, a5, a6, a7⟩ := ha k k0 kn
    rw [hE k e, hG k e, a1, a2, a3, a4, a5, a6, a7]
    refine ⟨⟨p1, p2, p3, p4, p5, p6, p7, p8⟩, ⟨q1, q2, q3, ?_⟩, ?_, r2, r3, ?_, ?_⟩
    · intro z
      obtain ⟨s1, s2, s3, s4⟩ := q4 z
      rw [hE _ (by omega), (ha _ s1 (by omega)).1]; exact ⟨s1, s2, s3, s4⟩
    · intro j j0 j1 j2
      rw [hE j (by omega)] at j2
      exact r1 j j0 j1 j2
    · intro z; have := r4 z; omega
    · intro j j0 j1 j2 j3
      obtain ⟨c1, c2, _⟩ := ha j j0 (by omega)
      rw [c1] at j2; rw [c2]; exact r5 j j0 j1 j2 j3
theorem zKp_step {S V L Z F X M P w wh so va le mo ho pa fp w1 wh1 w2 wh2 so' va' le' mo' ho' pa' fp' : Nat → Int32} {b q n top top1 top2 N C t h : Int} (hk : zKp S V L Z F X M P w wh so va le mo ho pa fp b q n top N C) (ht1 : 1 ≤ top) (hn : 0 ≤ n) (ht : zg w (top - 1) = t) (hh : zg wh (top - 1) = h)
    (ha : ∀ k : Int, 0 ≤ k → k < n → zg so' (b + k) = zg so (b + k) ∧ zg va' (b + k) = zg va (b + k) ∧ zg le' (b + k) = zg le (b + k) ∧ zg mo' (b + k) = zg mo (b + k) ∧ zg ho' (b + k) = zg ho (b + k) ∧ zg pa' (b + k) = zg pa (b + k) ∧ zg fp' (b + k) = zg fp (b + k))
    (hb : zg so' (b + n) = zg S t ∧ zg va' (b + n) = zg V t ∧ zg le' (b + n) = zg L t ∧ zg mo' (b + n) = zg Z t ∧ zg ho' (b + n) = h ∧ zg pa' (b + n) = zg M t ∧ (zg S t = 2 → zg fp' (b + n) = q + zg P t))
    (h1 : (zg X t = -1 ∧ top1 = top - 1 ∧ w1 = w ∧ wh1 = wh) ∨ (zg X t ≠ -1 ∧ top1 = top ∧ zg w1 (top - 1) = zg X t ∧ zg wh1 (top - 1) = h ∧ ∀ i : Int, 0 ≤ i → i < top - 1 → zg w1 i = zg w i ∧ zg wh1 i = zg wh i))
    (h2 : (zg F t = -1 ∧ top2 = top1 ∧ w2 = w1 ∧ wh2 = wh1) ∨ (zg F t ≠ -1 ∧ top2 = top1 + 1 ∧ zg w2 top1 = zg F t ∧ zg wh2 top1 = n ∧ ∀ i : Int, 0 ≤ i → i < top1 → zg w2 i = zg w1 i ∧ zg wh2 i = zg wh1 i)) :
    zKp S V L Z F X M P w2 wh2 so' va' le' mo' ho' pa' fp' b q (n + 1) top2 N C := by
  obtain ⟨E, G, c, R, hn0, hE0, hc, hs, he, hf⟩ := hk
  have hNn := (zSk_le hs).1
  have e : top.toNat = (top - 1).toNat + 1 := by omega
  rw [e] at hs
  have ee : (((top - 1).toNat : Nat) : Int) = top - 1 := by omega
  have e1 : ((top1.toNat : Nat) : Int) = top1 := by omega
  obtain ⟨x, c', k1, k2, k3, k4, k5, k6, k7, k8, k9, k10, k11, k12, k13, k14⟩ := zSk_pop (w1 := w1) (wh1 := wh1) (w2 := w2) (wh2 := wh2) (so' := so') (t := t) (h9 := h) (m1 := top1.toNat) (m2 := top2.toNat) hn hs (by rw [ee]; exact ht) (by rw [ee]; exact hh) (fun k k0 k1 => (ha k k0 k1).1) hb.1
    (by rw [ee]; rcases h1 with ⟨z1, z2, z3⟩ | ⟨z1, z2, z3⟩
        · exact Or.inl ⟨z1, by omega, z3⟩
        · exact Or.inr ⟨z1, by omega, z3⟩)
    (by rw [e1]; rcases h2 with ⟨z1, z2, z3⟩ | ⟨z1, z2, z3⟩
        · exact Or.inl ⟨z1, by omega, z3⟩
        · exact Or.inr ⟨z1, by omega, z3⟩)
  refine ⟨fun k => if k = n then x else E k, fun k => if k = n then t else G k, c', fun f => R f - f t, fun z => by omega, fun _ => ?_, ?_, k1 _ (fun k z => if_neg z) (if_pos rfl), zEm_ext he (fun k z => if_neg z) (if_pos rfl) (fun k z => if_neg z) (if_pos rfl) ha hb ⟨k11, k12⟩ ⟨k2, k3⟩ ⟨?_, ?_, k14⟩ k4 k6 k7 k8 hc k9 k10, ?_⟩
  · by_cases z : n = 0
    · show (if 0 = n then x else E 0) = N
      rw [if_pos z.symm]
      have := hn0 z
      exact k5 (by omega) (by omega)
    · show (if 0 = n then x else E 0) = N
      rw [if_neg (by omega)]; exact hE0 (by omega)
  · by_cases z : zg S t = 8
    · have := k9 z; omega
    · have := k10 z; omega
  · intro z; omega
  · intro z
    by_cases hz : h = -1
    · have := k6 0 (by omega) (by omega)
      have := hE0 z
      omega
    · omega
  · intro f
    rw [zsm_add hn]
    show zsm (fun k => f (if k = n then t else G k)) n.toNat + f (if n = n then t else G n) + (R f - f t) = _
    rw [if_pos rfl, zsm_congr (g := fun k => f (G k)) (fun k z1 z2 => by rw [if_neg (by omega)])]
    have := hf f; omega
