def zFr (S V F X rf rl rm sf sl sm : Nat → Int32) (d a b ca cb : Int) : Prop := ∃ m cm : Int, zRw S V F X (zg sm d) (zg sf d) (zg sl d) a m ca cm ∧ zRw S V F X (zg rm d) (zg rf d) (zg rl d) m b cm cb
def zGk (gs gv : Nat → Int32) (d : Int) : Prop := (zg gs d = 5 ∨ (8 ≤ zg gs d ∧ zg gs d ≤ 11)) ∧ 0 ≤ zg gv d ∧ (zg gs d ≠ 8 → zg gv d ≤ 9)
def zLo (S V F X rf rl rm sf sl sm gs gv : Nat → Int32) : Nat → Int → Int → Prop
  | 0, a, ca => a = 0 ∧ ca = 0
  | d + 1, a, ca => ∃ a0 c0 cm : Int, zLo S V F X rf rl rm sf sl sm gs gv d a0 c0 ∧ zFr S V F X rf rl rm sf sl sm d a0 a c0 cm ∧ (zg gs (d + 1 : Nat) = 8 → zg gv (d + 1 : Nat) = cm + 1 ∧ ca = cm + 1) ∧ (zg gs (d + 1 : Nat) ≠ 8 → ca = cm) ∧ zGk gs gv (d + 1 : Nat)
def zSt (S V F X rf rl rm sf sl sm gs gv : Nat → Int32) (d b cb : Int) : Prop := ∃ a ca : Int, zLo S V F X rf rl rm sf sl sm gs gv d.toNat a ca ∧ zFr S V F X rf rl rm sf sl sm d a b ca cb
theorem zFr_congr {S V F X rf rl rm sf sl sm S' V' F' X' rf' rl' rm' sf' sl' sm' : Nat → Int32} {d a b ca cb : Int} (hc : ∀ t, a ≤ t → t < b → zg S' t = zg S t ∧ zg V' t = zg V t ∧ zg F' t = zg F t ∧ zg X' t = zg X t) (hf : zg rf' d = zg rf d ∧ zg rl' d = zg rl d ∧ zg rm' d = zg rm d ∧ zg sf' d = zg sf d ∧ zg sl' d = zg sl d ∧ zg sm' d = zg sm d) (h : zFr S V F X rf rl rm sf sl sm d a b ca cb) : zFr S' V' F' X' rf' rl' rm' sf' sl' sm' d a b ca cb := by
  obtain ⟨m, cm, h1, h2⟩ := h
  obtain ⟨e1, e2, e3, e4, e5, e6⟩ := hf
  have q1 := zRw_le h1
  have q2 := zRw_le h2
  refine ⟨m, cm, ?_, ?_⟩
  · rw [e4, e5, e6]; exact zRw_congr (fun t k1 k2 => hc t k1 (by omega)) h1
  · rw [e1, e2, e3]; exact zRw_congr (fun t k1 k2 => hc t (by omega) k2) h2
theorem zFr_le {S V F X rf rl rm sf sl sm : Nat → Int32} {d a b ca cb : Int} (h : zFr S V F X rf rl rm sf sl sm d a b ca cb) : a ≤ b ∧ ca ≤ cb := by
  obtain ⟨m, cm, h1, h2⟩ := h
  have q1 := zRw_le h1
  have q2 := zRw_le h2
  omega
theorem zLo_le {S V F X rf rl rm sf sl sm gs gv : Nat → Int32} : ∀ {d : Nat} {a ca : Int}, zLo S V F X rf rl rm sf sl sm gs gv d a ca → 0 ≤ a ∧ 0 ≤ ca := by
  intro d; induction d with
  | zero => intro a ca h; obtain ⟨h1, h2⟩ := h; omega
  | succ d ih =>
    intro a ca h
    obtain ⟨a0, c0, cm, h1, h2, h3, h4, h5⟩ := h
    have q1 := ih h1; have q2 := zFr_le h2
    by_cases e : zg gs (d + 1 : Nat) = 8
    · have := h3 e; omega
    · have := h4 e; omega
theorem zLo_congr {S V F X rf rl rm sf sl sm gs gv S' V' F' X' rf' rl' rm' sf' sl' sm' gs' gv' : Nat → Int32} : ∀ {d : Nat} {a ca : Int}, (∀ t, 0 ≤ t → t < a → zg S' t = zg S t ∧ zg V' t = zg V t ∧ zg F' t = zg F t ∧ zg X' t = zg X t) → (∀ i : Int, 0 ≤ i → i < d → zg rf' i = zg rf i ∧ zg rl' i = zg rl i ∧ zg rm' i = zg rm i ∧ zg sf' i = zg sf i ∧ zg sl' i = zg sl i ∧ zg sm' i = zg sm i) → (∀ i : Int, 0 ≤ i → i ≤ d → zg gs' i = zg gs i ∧ zg gv' i = zg gv i) → zLo S V F X rf rl rm sf sl sm gs gv d a ca → zLo S' V' F' X' rf' rl' rm' sf' sl' sm' gs' gv' d a ca := by
  intro d; induction d with
  | zero => intro a ca _ _ _ h; exact h
  | succ d ih =>
    intro a ca hc hf hg h
    obtain ⟨a0, c0, cm, h1, h2, h3, h4, h5⟩ := h
    have q0 := zLo_le h1
    have q1 := zFr_le h2
    obtain ⟨g1, g2⟩ := hg (d + 1 : Nat) (by omega) (by omega)
    refine ⟨a0, c0, cm, ih (fun t k1 k2 => hc t k1 (by omega)) (fun i k1 k2 => hf i k1 (by omega)) (fun i k1 k2 => hg i k1 (by omega)) h1, zFr_congr (fun t k1 k2 => hc t (by omega) k2) (hf d (by omega) (by omega)) h2, by rw [g1, g2]; exact h3, by rw [g1]; exact h4, ?_⟩
    unfold zGk; rw [g1, g2]; exact h5
theorem zSt_add {S V F X rf rl rm sf sl sm gs gv X' rf' rl' rm' : Nat → Int32} {d t b n cb c : Int} (hd : 0 ≤ d) (h : zSt S V F X rf rl rm sf sl sm gs gv d b cb) (h2 : zOne S V F X t b n cb c)
    (hi : ∀ i : Int, 0 ≤ i → i ≠ d → zg rf' i = zg rf i ∧ zg rl' i = zg rl i ∧ zg rm' i = zg rm i) (hm : zg rm' d = zg rm d + 1) (hl : zg rl' d = t)
    (hA : zg rm d = 0 → zg rf' d = t ∧ X' = X) (hB : zg rm d ≠ 0 → zg rf' d = zg rf d ∧ zg X' (zg rl d) = t ∧ ∀ k, k ≠ zg rl d → 0 ≤ k → zg X' k = zg X k) : zSt S V F X' rf' rl' rm' sf sl sm gs gv d n c := by
  obtain ⟨a, ca, hL, m, cm, hr, hw⟩ := h
  have qL := zLo_le hL
  have q1 := zRw_le hr
  have q2 := zRw_le hw
  by_cases e : zg rm d = 0
  · obtain ⟨e1, e2⟩ := hA e
    subst e2
    refine ⟨a, ca, zLo_congr (fun _ _ _ => ⟨rfl, rfl, rfl, rfl⟩) (fun i i1 i2 => ?_) (fun _ _ _ => ⟨rfl, rfl⟩) hL, m, cm, hr, ?_⟩
    · obtain ⟨z1, z2, z3⟩ := hi i i1 (by omega)
      exact ⟨z1, z2, z3, rfl, rfl, rfl⟩
    · rw [hm, hl, e1, e]
      rcases hw with ⟨w1, w2, w3, w4⟩ | w
      · subst w3; subst w4; exact zRw_first (by have := h2.1; omega) h2
      · omega
  · obtain ⟨e1, e2, e3⟩ := hB e
    have hb : zg rl d = b - 1 := by
      rcases hw with ⟨w1, w2, w3, w4⟩ | w
      · omega
      · exact w.2.2.2.2.2.1
    have hmb : m < b := by
      rcases hw with ⟨w1, w2, w3, w4⟩ | w
      · omega
      · omega
    refine ⟨a, ca, zLo_congr (fun k k1 k2 => ⟨rfl, rfl, rfl, e3 k (by omega) k1⟩) (fun i i1 i2 => ?_) (fun _ _ _ => ⟨rfl, rfl⟩) hL, m, cm, zRw_congr (fun k k1 k2 => ⟨rfl, rfl, rfl, e3 k (by omega) (by omega)⟩) hr, ?_⟩
    · obtain ⟨z1, z2, z3⟩ := hi i i1 (by omega)
      exact ⟨z1, z2, z3, rfl, rfl, rfl⟩
    · rw [hm, hl, e1]
      exact zRw_next hw e h2 e2 e3
theorem zSt_open {S V F X rf rl rm sf sl sm gs gv gs' gv' rf' rl' rm' sf' sl' sm' : Nat → Int32} {d n c c' : Int} (hd : 0 ≤ d) (h : zSt S V F X rf rl rm sf sl sm gs gv d n c)
    (hi : ∀ i : Int, 0 ≤ i → i ≠ d + 1 → zg rf' i = zg rf i ∧ zg rl' i = zg rl i ∧ zg rm' i = zg rm i ∧ zg sf' i = zg sf i ∧ zg sl' i = zg sl i ∧ zg sm' i = zg sm i ∧ zg gs' i = zg gs i ∧ zg gv' i = zg gv i)
    (h1 : zg rf' (d + 1) = -1) (h2 : zg rm' (d + 1) = 0) (h3 : zg sf' (d + 1) = -1) (h4 : zg sm' (d + 1) = 0) (hk : zGk gs' gv' (d + 1)) (h8 : zg gs' (d + 1) = 8 → zg gv' (d + 1) = c + 1 ∧ c' = c + 1) (h9 : zg gs' (d + 1) ≠ 8 → c' = c) : zSt S V F X rf' rl' rm' sf' sl' sm' gs' gv' (d + 1) n c' := by
  obtain ⟨a, ca, hL, hF⟩ := h
  have e : (d + 1).toNat = d.toNat + 1 := by omega
  have e' : ((d.toNat + 1 : Nat) : Int) = d + 1 := by omega
  have ed : ((d.toNat : Nat) : Int) = d := by omega
  refine ⟨n, c', ?_, n, c', Or.inl ⟨h4, h3, rfl, rfl⟩, Or.inl ⟨h2, h1, rfl, rfl⟩⟩
  rw [e]
  refine ⟨a, ca, c, zLo_congr (fun _ _ _ => ⟨rfl, rfl, rfl, rfl⟩) (fun i i1 i2 => ?_) (fun i i1 i2 => ?_) hL, ?_, by rw [e']; exact h8, by rw [e']; exact h9, by rw [e']; exact hk⟩
  · obtain ⟨z1, z2, z3, z4, z5, z6, _, _⟩ := hi i i1 (by omega)
    exact ⟨z1, z2, z3, z4, z5, z6⟩
  · obtain ⟨_, _, _, _, _, _, z7, z8⟩ := hi i i1 (by omega)
    exact ⟨z7, z8⟩
  · rw [ed]
    obtain ⟨z1, z2, z3, z4, z5, z6, _, _⟩ := hi d hd (by omega)
    exact zFr_congr (fun _ _ _ => ⟨rfl, rfl, rfl, rfl⟩) ⟨z1, z2, z3, z4, z5, z6⟩ hF
