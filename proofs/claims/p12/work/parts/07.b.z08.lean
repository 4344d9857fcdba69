def zSk (S V F X w wh so : Nat → Int32) (E : Int → Int) (b n N C : Int) : Nat → Int → Int → ((Int → Int) → Int) → Prop
  | 0, pos, c, r => pos = N ∧ c = C ∧ ∀ f, r f = 0
  | m + 1, pos, c, r => ∃ (a e c' : Int) (r' : (Int → Int) → Int), zChx S V F X (zg w m) a e c c' ∧ e ≤ N ∧ zg w m ≠ -1 ∧ -1 ≤ zg wh m ∧ zg wh m < n ∧ (zg wh m = -1 → zg X (zg w m) = -1) ∧
      (0 ≤ zg wh m → E (zg wh m) = pos + (e - a) ∧ (7 ≤ zg so (b + zg wh m) → zg X (zg w m) = -1)) ∧ (∀ k, zg wh m < k → k < n → E k ≤ pos) ∧ (∀ f, r f = r' f + (zsm f e.toNat - zsm f a.toNat)) ∧ zSk S V F X w wh so E b n N C m (pos + (e - a)) c' r'
theorem zSk_le {S V F X w wh so : Nat → Int32} {E : Int → Int} {b n N C : Int} : ∀ {m : Nat} {pos c : Int} {r : (Int → Int) → Int}, zSk S V F X w wh so E b n N C m pos c r → pos + m ≤ N ∧ c ≤ C := by
  intro m; induction m with
  | zero => intro pos c r h; obtain ⟨h1, h2, h3⟩ := h; omega
  | succ m ih =>
    intro pos c r h
    obtain ⟨a, e, c', r', ⟨k, h1⟩, heN, h2, h3, h4, h5, h6, h7, h8, h9⟩ := h
    have q := ih h9
    have z := zCh_le h1
    have := z.2.2.2 h2
    omega
theorem zSk_congr {S V F X w wh so w' wh' so' : Nat → Int32} {E E' : Int → Int} {b n n' N C : Int} : ∀ {m : Nat} {pos c : Int} {r : (Int → Int) → Int}, (∀ i : Int, 0 ≤ i → i < m → zg w' i = zg w i ∧ zg wh' i = zg wh i) → (∀ k : Int, 0 ≤ k → k < n → zg so' (b + k) = zg so (b + k) ∧ E' k = E k) → n ≤ n' → (∀ k : Int, n ≤ k → k < n' → E' k ≤ pos) → zSk S V F X w wh so E b n N C m pos c r → zSk S V F X w' wh' so' E' b n' N C m pos c r := by
  intro m; induction m with
  | zero => intro pos c r _ _ _ _ h; exact h
  | succ m ih =>
    intro pos c r hw hs hn hE h
    obtain ⟨a, e, c', r', h1, heN, h2, h3, h4, h5, h6, h7, h8, h9⟩ := h
    obtain ⟨e1, e2⟩ := hw m (by omega) (by omega)
    obtain ⟨k, h1'⟩ := h1
    have z := (zCh_le h1').1
    refine ⟨a, e, c', r', ⟨k, by rw [e1]; exact h1'⟩, heN, by rw [e1]; exact h2, by rw [e2]; exact h3, by rw [e2]; omega, by rw [e1, e2]; exact h5, ?_, ?_, h8, ih (fun i i0 i1 => hw i i0 (by omega)) hs hn (fun k k0 k1 => by have := hE k k0 k1; omega) h9⟩
    · rw [e1, e2]; intro q
      obtain ⟨s1, s2⟩ := hs (zg wh m) q h4
      rw [s1, s2]; exact h6 q
    · rw [e2]; intro k k0 k1
      by_cases q : k < n
      · rw [(hs k (by omega) q).2]; exact h7 k k0 q
      · exact hE k (by omega) k1
theorem zsm_add {f : Int → Int} {a : Int} (h : 0 ≤ a) : zsm f (a + 1).toNat = zsm f a.toNat + f a := by
  rw [show (a + 1).toNat = a.toNat + 1 from by omega]
  show _ + f (a.toNat : Nat) = _
  rw [show ((a.toNat : Nat) : Int) = a from by omega]
theorem zSk_cast {S V F X w wh so : Nat → Int32} {E : Int → Int} {b n N C pos pos' c c' : Int} {r r' : (Int → Int) → Int} {m : Nat} (h : zSk S V F X w wh so E b n N C m pos c r) (e1 : pos' = pos) (e2 : c' = c) (e3 : ∀ f, r' f = r f) : zSk S V F X w wh so E b n N C m pos' c' r' := by
  have e4 : r' = r := funext e3
  subst e1; subst e2; subst e4; exact h
theorem zSk_pop {S V F X w wh so w1 wh1 w2 wh2 so' : Nat → Int32} {E : Int → Int} {b n N C c t h9 : Int} {r : (Int → Int) → Int} {m : Nat} (hn : 0 ≤ n) (h : zSk S V F X w wh so E b n N C (m + 1) n c r) (ht : zg w m = t) (hh : zg wh m = h9) (hS : ∀ k : Int, 0 ≤ k → k < n → zg so' (b + k) = zg so (b + k)) (hS2 : zg so' (b + n) = zg S t) 
    {m1 m2 : Nat} (h1 : (zg X t = -1 ∧ m1 = m ∧ w1 = w ∧ wh1 = wh) ∨ (zg X t ≠ -1 ∧ m1 = m + 1 ∧ zg w1 m = zg X t ∧ zg wh1 m = h9 ∧ ∀ i : Int, 0 ≤ i → i < m → zg w1 i = zg w i ∧ zg wh1 i = zg wh i))
    (h2 : (zg F t = -1 ∧ m2 = m1 ∧ w2 = w1 ∧ wh2 = wh1) ∨ (zg F t ≠ -1 ∧ m2 = m1 + 1 ∧ zg w2 m1 = zg F t ∧ zg wh2 m1 = n ∧ ∀ i : Int, 0 ≤ i → i < m1 → zg w2 i = zg w1 i ∧ zg wh2 i = zg wh1 i)) :
    ∃ (x c' : Int), (∀ E' : Int → Int, (∀ k, k ≠ n → E' k = E k) → E' n = x → zSk S V F X w2 wh2 so' E' b (n + 1) N C m2 (n + 1) c' (fun f => r f - f t)) ∧ n < x ∧ x ≤ N ∧ (0 ≤ h9 → x ≤ E h9 ∧ (7 ≤ zg so (b + h9) → x = E h9)) ∧ (h9 = -1 → m = 0 → x = N) ∧ (∀ k, h9 < k → k < n → E k ≤ n) ∧
      (zg S t ≤ 4 → x = n + 1) ∧ (6 ≤ zg S t → n + 1 < x) ∧ (zg S t = 8 → zg V t = c + 1 ∧ c' = c + 1) ∧ (zg S t ≠ 8 → c' = c) ∧ 0 ≤ t ∧ t < N ∧ -1 ≤ h9 ∧ h9 < n := by
  obtain ⟨a, e, c9, r9, ⟨k9, g1⟩, heN, g2, g3, g4, g5, g6, g7, g8, g9⟩ := h
  rw [ht] at g1 g2 g5 g6
  rw [hh] at g3 g4 g5 g6 g7
  have zl := zCh_le g1
  have zz := zl.2.2.2 g2
  have qN := (zSk_le g9).1
  cases k9 with
  | zero => exact absurd g1.1 g2
  | succ k9 =>
    rcases g1 with g1 | ⟨d0, d1, d2, d3, d4, d5, d6, c0, cm, e1, e2, d7, d8⟩
    · exact absurd g1.1 g2
    · have l7 := zCh_le d7
      have l8 := zCh_le d8
      have sA : ∀ f : Int → Int, zsm f (t + 1).toNat = zsm f t.toNat + f t := fun f => zsm_add (by omega)
      refine ⟨n + (t - a + 1), c0, ?_, by omega, by omega, ?_, ?_, g7, ?_, ?_, fun z => ⟨d6 z, e1 z⟩, e2, by omega, by omega, g3, g4⟩
      · intro E' hEn hEe
        have hlow : zSk S V F X w wh so' E' b (n + 1) N C m (n + (e - a)) c9 r9 :=
          zSk_congr (fun i _ _ => ⟨rfl, rfl⟩) (fun k k0 k1 => ⟨hS k k0 k1, hEn k (by omega)⟩) (by omega) (fun k k0 k1 => by
            have : k = n := by omega
            rw [this, hEe]; omega) g9
        have hmid : zSk S V F X w1 wh1 so' E' b (n + 1) N C m1 (n + (t - a + 1)) cm (fun f => r9 f + (zsm f e.toNat - zsm f (t + 1).toNat)) := by
          rcases h1 with ⟨x1, x2, x3, x4⟩ | ⟨x1, x2, x3, x4, x5⟩
          · subst x2; subst x3; subst x4
            have q := l8.2.2.1 x1
            exact zSk_cast hlow (by omega) q.2 (fun f => by rw [q.1]; omega)
          · subst x2
            have hlow' := zSk_congr (w' := w1) (wh' := wh1) (n' := n + 1) (so' := so') (E' := E') (fun i i0 i1 => x5 i i0 i1) (fun k _ _ => ⟨rfl, rfl⟩) (Int.le_refl _) (fun k k0 k1 => by omega) hlow
            refine ⟨t + 1, e, c9, r9, ⟨k9, by rw [x3]; exact d8⟩, heN, by rw [x3]; exact x1, by rw [x4]; exact g3, by rw [x4]; omega, ?_, ?_, ?_, fun f => rfl, ?_⟩
            · rw [x4]; intro q; exact absurd (g5 q) x1
            · rw [x4]; intro q
              obtain ⟨y1, y2⟩ := g6 q
              rw [hEn _ (by omega), y1, hS _ q g4]
              exact ⟨by omega, fun z => absurd (y2 z) x1⟩
            · rw [x4]; intro k k0 k1
              by_cases q : k = n
              · rw [q, hEe]; omega
              · rw [hEn k q]; have := g7 k k0 (by omega); omega
            · exact zSk_cast hlow' (by omega) rfl (fun _ => rfl)
        rcases h2 with ⟨x1, x2, x3, x4⟩ | ⟨x1, x2, x3, x4, x5⟩
        · subst x2; subst x3; subst x4
          have q := l7.2.2.1 x1
          exact zSk_cast hmid (by omega) q.2 (fun f => by have := sA f; have := g8 f; rw [← q.1] at *; omega)
        · subst x2
          have hmid' := zSk_congr (w' := w2) (wh' := wh2) (n' := n + 1) (so' := so') (E' := E') (fun i i0 i1 => x5 i i0 i1) (fun k _ _ => ⟨rfl, rfl⟩) (Int.le_refl _) (fun k k0 k1 => by omega) hmid
          refine ⟨a, t, cm, fun f => r9 f + (zsm f e.toNat - zsm f (t + 1).toNat), ⟨k9, by rw [x3]; exact d7⟩, by omega, by rw [x3]; exact x1, by rw [x4]; omega, by rw [x4]; omega, by rw [x4]; omega, ?_, ?_, fun f => by (have := sA f; have := g8 f; show r f - f t = (r9 f + (zsm f e.toNat - zsm f (t + 1).toNat)) + _; omega), zSk_cast hmid' (by omega) rfl (fun _ => rfl)⟩
          · rw [x4, x3]; intro q; rw [hEe, hS2]; exact ⟨by omega, d5⟩
          · rw [x4]; intro k k0 k1; omega
      · intro q
        obtain ⟨y1, y2⟩ := g6 q
        rw [y1]
        refine ⟨by omega, fun z => ?_⟩
        have := l8.2.2.1 (y2 z)
        omega
      · intro q q2
        subst q2
        obtain ⟨y1, y2, y3⟩ := g9
        have := l8.2.2.1 (g5 q)
        omega
      · intro z; have := l7.2.2.1 (d3 z); omega
      · intro z; have := l7.2.2.2 (by have := d4 z; omega); omega
