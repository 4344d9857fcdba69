def zTk (S V F X rf rl rm sf sl sm gs gv : Nat → Int32) (d t n c : Int) : Prop := ∃ a ca : Int, zLo S V F X rf rl rm sf sl sm gs gv d.toNat a ca ∧ zOne S V F X t a n ca c
def zPd (S V F X rf rl rm sf sl sm gs gv : Nat → Int32) (d t n c : Int) : Prop := ∃ b cb : Int, zSt S V F X rf rl rm sf sl sm gs gv d b cb ∧ zOne S V F X t b n cb c
theorem zCh_of_rw {S V F X : Nat → Int32} {k f l a b ca cb : Int} (h : zRw S V F X k f l a b ca cb) : zChx S V F X f a b ca cb := by
  rcases h with ⟨h1, h2, h3, h4⟩ | h
  · exact ⟨0, h2, h3, h4⟩
  · exact h.2.2.2.2.2.2.2
theorem zRw_f {S V F X : Nat → Int32} {k f l a b ca cb : Int} (h : zRw S V F X k f l a b ca cb) (hk : k ≠ 0) : f ≠ -1 ∧ 0 ≤ f ∧ a < b ∧ 0 ≤ l ∧ l = b - 1 := by
  rcases h with ⟨h1, h2, h3, h4⟩ | h
  · omega
  · omega
theorem zSt_close {S V F X rf rl rm sf sl sm gs gv S' V' F' X1 X2 rf' rl' rm' sf' sl' sm' : Nat → Int32} {d t b n cb : Int} (hd : 0 ≤ d) (h : zSt S V F X rf rl rm sf sl sm gs gv d b cb)
    (hT : (zg rm d = 1 ∧ t = zg rf d ∧ n = b ∧ S' = S ∧ V' = V ∧ F' = F ∧ X1 = X) ∨ (zg rm d ≠ 1 ∧ t = b ∧ n = b + 1 ∧ zg S' b = 5 ∧ zg F' b = zg rf d ∧ zg X1 b = -1 ∧ ∀ k, 0 ≤ k → k ≠ b → zg S' k = zg S k ∧ zg V' k = zg V k ∧ zg F' k = zg F k ∧ zg X1 k = zg X k))
    (hA : zg sm d = 0 → zg sf' d = t ∧ X2 = X1) (hB : zg sm d ≠ 0 → zg sf' d = zg sf d ∧ zg X2 (zg sl d) = t ∧ ∀ k, k ≠ zg sl d → 0 ≤ k → zg X2 k = zg X1 k)
    (hl : zg sl' d = t) (hm : zg sm' d = zg sm d + 1) (hr : zg rf' d = -1) (hrm : zg rm' d = 0)
    (hi : ∀ i : Int, 0 ≤ i → i ≠ d → zg rf' i = zg rf i ∧ zg rl' i = zg rl i ∧ zg rm' i = zg rm i ∧ zg sf' i = zg sf i ∧ zg sl' i = zg sl i ∧ zg sm' i = zg sm i) : zSt S' V' F' X2 rf' rl' rm' sf' sl' sm' gs gv d n cb := by
  obtain ⟨a, ca, hL, m, cm, hs, hw⟩ := h
  have qL := zLo_le hL
  have q1 := zRw_le hs
  have q2 := zRw_le hw
  have hc1 : ∀ k, 0 ≤ k → k < b → zg S' k = zg S k ∧ zg V' k = zg V k ∧ zg F' k = zg F k ∧ zg X1 k = zg X k := by
    intro k k1 k2
    rcases hT with ⟨_, _, _, e1, e2, e3, e4⟩ | ⟨_, _, _, _, _, _, e⟩
    · subst e1; subst e2; subst e3; subst e4; exact ⟨rfl, rfl, rfl, rfl⟩
    · exact e k k1 (by omega)
  have hO : zOne S' V' F' X1 t m n cm cb := by
    rcases hT with ⟨e0, e1, e2, e3, e4, e5, e6⟩ | ⟨e0, e1, e2, e3, e4, e5, e6⟩
    · subst e2; subst e3; subst e4; subst e5; subst e6; subst e1
      rw [e0] at hw; exact zRw_one hw
    · subst e1; subst e2
      exact zOne_round (c0 := cm) (f := zg rf d) (by omega) (zCh_of_rw hw) e6 e4 e5 (by omega) (by omega) (by omega) (by omega) (by omega) (by omega)
  have hs1 : zRw S' V' F' X1 (zg sm d) (zg sf d) (zg sl d) a m ca cm := zRw_congr (fun k k1 k2 => hc1 k (by omega) (by omega)) hs
  have hmn : m ≤ n := by have := hO.1; have := hO.2.2.1; omega
  refine ⟨a, ca, zLo_congr (fun k k1 k2 => ?_) (fun i i1 i2 => hi i i1 (by omega)) (fun _ _ _ => ⟨rfl, rfl⟩) hL, n, cb, ?_, Or.inl ⟨hrm, hr, rfl, rfl⟩⟩
  · obtain ⟨z1, z2, z3, z4⟩ := hc1 k k1 (by omega)
    refine ⟨z1, z2, z3, ?_⟩
    by_cases e : zg sm d = 0
    · rw [(hA e).2]; exact z4
    · have qq := zRw_f hs1 e
      rw [(hB e).2.2 k (by omega) k1]; exact z4
  · rw [hm, hl]
    by_cases e : zg sm d = 0
    · obtain ⟨e1, e2⟩ := hA e
      subst e2
      rw [e, e1]
      rcases hs1 with ⟨w1, w2, w3, w4⟩ | w
      · subst w3; subst w4; exact zRw_first (by have := hO.1; omega) hO
      · omega
    · obtain ⟨e1, e2, e3⟩ := hB e
      rw [e1]; exact zRw_next hs1 e hO e2 e3
theorem zSt_fin {S V F X rf rl rm sf sl sm gs gv S' V' F' X' : Nat → Int32} {d t b n cb : Int} (hd : 0 ≤ d) (h : zSt S V F X rf rl rm sf sl sm gs gv d b cb) (hr : zg rm d = 0) (hs : 1 ≤ zg sm d)
    (hT : (zg sm d = 1 ∧ t = zg sf d ∧ n = b ∧ S' = S ∧ V' = V ∧ F' = F ∧ X' = X) ∨ (zg sm d ≠ 1 ∧ t = b ∧ n = b + 1 ∧ zg S' b = 6 ∧ zg F' b = zg sf d ∧ zg X' b = -1 ∧ ∀ k, 0 ≤ k → k ≠ b → zg S' k = zg S k ∧ zg V' k = zg V k ∧ zg F' k = zg F k ∧ zg X' k = zg X k)) : zTk S' V' F' X' rf rl rm sf sl sm gs gv d t n cb := by
  obtain ⟨a, ca, hL, m, cm, hs1, hw⟩ := h
  have qL := zLo_le hL
  have q1 := zRw_le hs1
  rcases hw with ⟨w1, w2, w3, w4⟩ | w
  · subst w3; subst w4
    rcases hT with ⟨e0, e1, e2, e3, e4, e5, e6⟩ | ⟨e0, e1, e2, e3, e4, e5, e6⟩
    · subst e2; subst e3; subst e4; subst e5; subst e6; subst e1
      rw [e0] at hs1; exact ⟨a, ca, hL, zRw_one hs1⟩
    · subst e1; subst e2
      have qf := zRw_f hs1 (by omega)
      exact ⟨a, ca, zLo_congr (fun k k1 k2 => e6 k k1 (by omega)) (fun _ _ _ => ⟨rfl, rfl, rfl, rfl, rfl, rfl⟩) (fun _ _ _ => ⟨rfl, rfl⟩) hL, zOne_round (c0 := ca) (f := zg sf d) (by omega) (zCh_of_rw hs1) e6 e4 e5 (by omega) (fun _ => qf.1) (by omega) (by omega) (by omega) (by omega)⟩
  · omega
theorem zOne_wrap {S V F X S' V' F' X' : Nat → Int32} {t l a n ca c0 c : Int} (h : zOne S V F X t a n c0 c) (hn : l = n) (hc : ∀ k, 0 ≤ k → k ≠ n → zg S' k = zg S k ∧ zg V' k = zg V k ∧ zg F' k = zg F k ∧ zg X' k = zg X k) (hS : 5 ≤ zg S' n) (hF : zg F' n = t) (hX : zg X' n = -1) (e8 : zg S' n = 8 → zg V' n = ca + 1 ∧ c0 = ca + 1) (e9 : zg S' n ≠ 8 → c0 = ca) : zOne S' V' F' X' l a (n + 1) ca c := by
  subst hn
  obtain ⟨h1, h2, h3, h4, h5⟩ := h
  exact zOne_round (c0 := c0) (f := t) h2 h5 hc hF hX (by omega) (by omega) (fun _ => h4) (fun z => (e8 z).1) (fun z => (e8 z).2) e9
theorem zOne_leaf {S' V' F' X' : Nat → Int32} {n ca : Int} (h0 : 0 ≤ n) (hS : zg S' n ≤ 4) (hF : zg F' n = -1) (hX : zg X' n = -1) : zOne S' V' F' X' n n (n + 1) ca ca :=
  ⟨by omega, h0, by omega, hX, 1, Or.inr ⟨h0, by omega, by omega, fun _ => hF, by omega, by omega, by omega, ca, ca, by omega, by omega, ⟨by rw [hF], rfl, rfl⟩, ⟨by rw [hX], rfl, rfl⟩⟩⟩
theorem zFr_congr0 {S V F X rf rl rm sf sl sm S' V' F' X' : Nat → Int32} {d a b ca cb : Int} (hc : ∀ t, a ≤ t → t < b → zg S' t = zg S t ∧ zg V' t = zg V t ∧ zg F' t = zg F t ∧ zg X' t = zg X t) (h : zFr S V F X rf rl rm sf sl sm d a b ca cb) : zFr S' V' F' X' rf rl rm sf sl sm d a b ca cb := zFr_congr hc ⟨rfl, rfl, rfl, rfl, rfl, rfl⟩ h
theorem zSt_congr0 {S V F X rf rl rm sf sl sm gs gv S' V' F' X' : Nat → Int32} {d b cb : Int} (hc : ∀ t, 0 ≤ t → t < b → zg S' t = zg S t ∧ zg V' t = zg V t ∧ zg F' t = zg F t ∧ zg X' t = zg X t) (h : zSt S V F X rf rl rm sf sl sm gs gv d b cb) : zSt S' V' F' X' rf rl rm sf sl sm gs gv d b cb := by
  obtain ⟨a, ca, hL, hF⟩ := h
  have q := zLo_le hL; have q2 := zFr_le hF
  exact ⟨a, ca, zLo_congr (fun t k1 k2 => hc t k1 (by omega)) (fun _ _ _ => ⟨rfl, rfl, rfl, rfl, rfl, rfl⟩) (fun _ _ _ => ⟨rfl, rfl⟩) hL, zFr_congr0 (fun t k1 k2 => hc t (by omega) k2) hF⟩
theorem zSt_le {S V F X rf rl rm sf sl sm gs gv : Nat → Int32} {d b cb : Int} (h : zSt S V F X rf rl rm sf sl sm gs gv d b cb) : 0 ≤ b ∧ 0 ≤ cb := by
  obtain ⟨a, ca, hL, hF⟩ := h
  have q := zLo_le hL; have q2 := zFr_le hF
  omega
theorem zPd_leaf {S V F X rf rl rm sf sl sm gs gv S' V' F' X' : Nat → Int32} {d t n c : Int} (h : zSt S V F X rf rl rm sf sl sm gs gv d n c) (ht : t = n) (hc : ∀ k, 0 ≤ k → k ≠ n → zg S' k = zg S k ∧ zg V' k = zg V k ∧ zg F' k = zg F k ∧ zg X' k = zg X k) (hS : zg S' n ≤ 4) (hF : zg F' n = -1) (hX : zg X' n = -1) : zPd S' V' F' X' rf rl rm sf sl sm gs gv d t (n + 1) c := by
  subst ht
  exact ⟨t, c, zSt_congr0 (fun k k1 k2 => hc k k1 (by omega)) h, zOne_leaf (zSt_le h).1 hS hF hX⟩
theorem zPd_wrap {S V F X rf rl rm sf sl sm gs gv S' V' F' X' : Nat → Int32} {d t l n c : Int} (h : zPd S V F X rf rl rm sf sl sm gs gv d t n c) (hn : l = n) (hc : ∀ k, 0 ≤ k → k ≠ n → zg S' k = zg S k ∧ zg V' k = zg V k ∧ zg F' k = zg F k ∧ zg X' k = zg X k) (hS : 5 ≤ zg S' n) (hS8 : zg S' n ≠ 8) (hF : zg F' n = t) (hX : zg X' n = -1) : zPd S' V' F' X' rf rl rm sf sl sm gs gv d l (n + 1) c := by
  obtain ⟨b, cb, h1, h2⟩ := h
  have q := zSt_le h1
  have : b ≤ n := by have := h2.1; have := h2.2.2.1; omega
  exact ⟨b, cb, zSt_congr0 (fun k k1 k2 => hc k k1 (by omega)) h1, zOne_wrap h2 hn hc hS hF hX (fun z => absurd z hS8) (fun _ => rfl)⟩
theorem zTk_close {S V F X rf rl rm sf sl sm gs gv S' V' F' X' : Nat → Int32} {d t l n n' c : Int} (hd : 1 ≤ d) (h : zTk S V F X rf rl rm sf sl sm gs gv d t n c)
    (hT : (zg gs d = 5 ∧ l = t ∧ n' = n ∧ S' = S ∧ V' = V ∧ F' = F ∧ X' = X) ∨ (zg gs d ≠ 5 ∧ l = n ∧ n' = n + 1 ∧ zg S' n = zg gs d ∧ zg V' n = zg gv d ∧ zg F' n = t ∧ zg X' n = -1 ∧ ∀ k, 0 ≤ k → k ≠ n → zg S' k = zg S k ∧ zg V' k = zg V k ∧ zg F' k = zg F k ∧ zg X' k = zg X k)) : zPd S' V' F' X' rf rl rm sf sl sm gs gv (d - 1) l n' c := by
  obtain ⟨a, ca, hL, hO⟩ := h
  have e : d.toNat = (d - 1).toNat + 1 := by omega
  rw [e] at hL
  obtain ⟨a0, c0, cm, h1, h2, h3, h4, h5⟩ := hL
  have e' : (((d - 1).toNat + 1 : Nat) : Int) = d := by omega
  have ed : (((d - 1).toNat : Nat) : Int) = d - 1 := by omega
  rw [e'] at h3 h4 h5
  rw [ed] at h2
  have q := zLo_le h1; have q2 := zFr_le h2
  have qa : a ≤ n := by have := hO.1; have := hO.2.2.1; omega
  rcases hT with ⟨e0, e1, e2, e3, e4, e5, e6⟩ | ⟨e0, e1, e2, e3, e4, e5, e6, e7⟩
  · subst e2; subst e3; subst e4; subst e5; subst e6; subst e1
    have := h4 (by omega)
    subst this
    exact ⟨a, ca, ⟨a0, c0, h1, h2⟩, hO⟩
  · subst e2
    refine ⟨a, cm, zSt_congr0 (fun k k1 k2 => e7 k k1 (by omega)) ⟨a0, c0, h1, h2⟩, zOne_wrap (c0 := ca) hO e1 e7 (by have := h5.1; omega) e5 e6 ?_ ?_⟩
    · rw [e3, e4]; exact h3
    · rw [e3]; exact h4
