def zg (f : Nat → Int32) (i : Int) : Int := (f i.toNat).toInt
theorem zg_eq {f : Nat → Int32} {i v : Int32} : zg (upd f i.toNatClampNeg v) i.toInt = v.toInt := by
  show (if i.toNatClampNeg = i.toNatClampNeg then v else f _).toInt = _
  rw [if_pos rfl]
theorem zg_ne {f : Nat → Int32} {i v : Int32} {j : Int} (h0 : 0 ≤ i.toInt) (hj : 0 ≤ j) (h : j ≠ i.toInt) : zg (upd f i.toNatClampNeg v) j = zg f j := by
  show (if j.toNat = i.toInt.toNat then v else f _).toInt = _
  rw [if_neg (by omega)]; rfl
theorem zg_at {f : Nat → Int32} {i x : Int32} (h : x = f i.toNatClampNeg) : x.toInt = zg f i.toInt := by subst h; rfl
def zCh (S V F X : Nat → Int32) : Nat → Int → Int → Int → Int → Int → Prop
  | 0, f, a, b, ca, cb => f = -1 ∧ a = b ∧ ca = cb
  | n + 1, f, a, b, ca, cb => (f = -1 ∧ a = b ∧ ca = cb) ∨ (0 ≤ a ∧ a ≤ f ∧ f < b ∧ (zg S f ≤ 4 → zg F f = -1) ∧ (6 ≤ zg S f → 0 ≤ zg F f) ∧ (7 ≤ zg S f → zg X (zg F f) = -1) ∧
      (zg S f = 8 → zg V f = ca + 1) ∧ ∃ c0 cm : Int, (zg S f = 8 → c0 = ca + 1) ∧ (zg S f ≠ 8 → c0 = ca) ∧ zCh S V F X n (zg F f) a f c0 cm ∧ zCh S V F X n (zg X f) (f + 1) b cm cb)
def zChx (S V F X : Nat → Int32) (f a b ca cb : Int) : Prop := ∃ n, zCh S V F X n f a b ca cb
theorem zCh_le {S V F X : Nat → Int32} : ∀ {n : Nat} {f a b ca cb : Int}, zCh S V F X n f a b ca cb → a ≤ b ∧ ca ≤ cb ∧ (f = -1 → a = b ∧ ca = cb) ∧ (f ≠ -1 → 0 ≤ a ∧ a ≤ f ∧ f < b) := by
  intro n; induction n with
  | zero => intro f a b ca cb h; obtain ⟨h1, h2, h3⟩ := h; omega
  | succ n ih =>
    intro f a b ca cb h
    rcases h with ⟨h1, h2, h3⟩ | ⟨h0, h1, h2, h3, h4, h5, h6, c0, cm, e1, e2, h7, h8⟩
    · omega
    · have q1 := ih h7; have q2 := ih h8
      by_cases e : zg S f = 8
      · have := e1 e; omega
      · have := e2 e; omega
theorem zCh_mono {S V F X : Nat → Int32} : ∀ {n m : Nat} {f a b ca cb : Int}, n ≤ m → zCh S V F X n f a b ca cb → zCh S V F X m f a b ca cb := by
  intro n; induction n with
  | zero =>
    intro m f a b ca cb hm h
    cases m with
    | zero => exact h
    | succ m => exact Or.inl h
  | succ n ih =>
    intro m f a b ca cb hm h
    cases m with
    | zero => omega
    | succ m =>
      rcases h with h | ⟨h0, h1, h2, h3, h4, h5, h6, c0, cm, e1, e2, h7, h8⟩
      · exact Or.inl h
      · exact Or.inr ⟨h0, h1, h2, h3, h4, h5, h6, c0, cm, e1, e2, ih (by omega) h7, ih (by omega) h8⟩
theorem zCh_congr {S V F X S' V' F' X' : Nat → Int32} : ∀ {n : Nat} {f a b ca cb : Int}, (∀ t, a ≤ t → t < b → zg S' t = zg S t ∧ zg V' t = zg V t ∧ zg F' t = zg F t ∧ zg X' t = zg X t) → zCh S V F X n f a b ca cb → zCh S' V' F' X' n f a b ca cb := by
  intro n; induction n with
  | zero => intro f a b ca cb _ h; exact h
  | succ n ih =>
    intro f a b ca cb hc h
    rcases h with h | ⟨h0, h1, h2, h3, h4, h5, h6, c0, cm, e1, e2, h7, h8⟩
    · exact Or.inl h
    · obtain ⟨k1, k2, k3, k4⟩ := hc f h1 h2
      refine Or.inr ⟨h0, h1, h2, by rw [k1, k3]; exact h3, by rw [k1, k3]; exact h4, ?_, by rw [k1, k2]; exact h6, c0, cm, by rw [k1]; exact e1, by rw [k1]; exact e2, ?_, ?_⟩
      · rw [k1, k3]; intro h9
        have q := zCh_le h7
        have q4 := h4 (by omega)
        have := q.2.2.2 (by omega)
        rw [(hc (zg F f) (by omega) (by omega)).2.2.2]; exact h5 h9
      · rw [k3]; exact ih (fun t q1 q2 => hc t q1 (by omega)) h7
      · rw [k4]; exact ih (fun t q1 q2 => hc t (by omega) q2) h8
theorem zCh_last {S V F X : Nat → Int32} : ∀ {n : Nat} {f a b ca cb : Int}, zCh S V F X n f a b ca cb → f ≠ -1 → zg X (b - 1) = -1 := by
  intro n; induction n with
  | zero => intro f a b ca cb h hf; exact absurd h.1 hf
  | succ n ih =>
    intro f a b ca cb h hf
    rcases h with h | ⟨h0, h1, h2, h3, h4, h5, h6, c0, cm, e1, e2, h7, h8⟩
    · exact absurd h.1 hf
    · by_cases e : zg X f = -1
      · have q := (zCh_le h8).2.2.1 e
        have : b - 1 = f := by omega
        rw [this]; exact e
      · exact ih h8 e
theorem zCh_app {S V F X X' : Nat → Int32} {m : Nat} {t b bω cb cbω : Int} (h2 : zCh S V F X m t b bω cb cbω) (hb : 0 ≤ b) (hl : zg X' (b - 1) = t) (hx : ∀ k, k ≠ b - 1 → 0 ≤ k → zg X' k = zg X k) : ∀ {n : Nat} {f a ca : Int}, zCh S V F X n f a b ca cb → f ≠ -1 → zCh S V F X' (n + m) f a bω ca cbω := by
  intro n; induction n with
  | zero => intro f a ca h hf; exact absurd h.1 hf
  | succ n ih =>
    intro f a ca h hf
    have hq := (zCh_le h2).1
    rcases h with h | ⟨g0, g1, g2, g3, g4, g5, g6, c0, cm, e1, e2, h7, h8⟩
    · exact absurd h.1 hf
    · have e : n + 1 + m = (n + m) + 1 := by omega
      rw [e]
      have q7 := zCh_le h7
      refine Or.inr ⟨g0, g1, by omega, g3, g4, ?_, g6, c0, cm, e1, e2, ?_, ?_⟩
      · intro h9
        have q4 := g4 (by omega)
        have := q7.2.2.2 (by omega)
        rw [hx _ (by omega) (by omega)]; exact g5 h9
      · exact zCh_mono (by omega) (zCh_congr (fun k k1 k2 => ⟨rfl, rfl, rfl, hx k (by omega) (by omega)⟩) h7)
      · by_cases ex : zg X f = -1
        · have q := (zCh_le h8).2.2.1 ex
          have ef : f = b - 1 := by omega
          rw [ef, hl, show b - 1 + 1 = b from by omega, q.2]
          exact zCh_mono (by omega) (zCh_congr (fun k k1 k2 => ⟨rfl, rfl, rfl, hx k (by omega) (by omega)⟩) h2)
        · rw [hx f (by have := (zCh_le h8).2.2.2 ex; omega) (by omega)]
          exact ih h8 ex
def zRw (S V F X : Nat → Int32) (k f l a b ca cb : Int) : Prop := (k = 0 ∧ f = -1 ∧ a = b ∧ ca = cb) ∨ (1 ≤ k ∧ k ≤ b - a ∧ 0 ≤ a ∧ a ≤ f ∧ f < b ∧ l = b - 1 ∧ (k = 1 → f = b - 1) ∧ zChx S V F X f a b ca cb)
theorem zRw_congr {S V F X S' V' F' X' : Nat → Int32} {k f l a b ca cb : Int} (hc : ∀ t, a ≤ t → t < b → zg S' t = zg S t ∧ zg V' t = zg V t ∧ zg F' t = zg F t ∧ zg X' t = zg X t) (h : zRw S V F X k f l a b ca cb) : zRw S' V' F' X' k f l a b ca cb := by
  rcases h with h | ⟨h1, h2, h3, h4, h5, h6, h7, n, h8⟩
  · exact Or.inl h
  · exact Or.inr ⟨h1, h2, h3, h4, h5, h6, h7, n, zCh_congr hc h8⟩
theorem zRw_le {S V F X : Nat → Int32} {k f l a b ca cb : Int} (h : zRw S V F X k f l a b ca cb) : a ≤ b ∧ ca ≤ cb ∧ 0 ≤ k ∧ k ≤ b - a := by
  rcases h with h | ⟨h1, h2, h3, h4, h5, h6, h7, n, h8⟩
  · omega
  · have := zCh_le h8; omega
def zOne (S V F X : Nat → Int32) (t a b ca cb : Int) : Prop := t = b - 1 ∧ 0 ≤ a ∧ a ≤ t ∧ zg X t = -1 ∧ zChx S V F X t a b ca cb
theorem zRw_first {S V F X : Nat → Int32} {t l a b ca cb : Int} (hl : l = b - 1) (h : zOne S V F X t a b ca cb) : zRw S V F X 1 t l a b ca cb := by
  obtain ⟨h1, h2, h3, h4, h5⟩ := h
  exact Or.inr ⟨by omega, by omega, h2, h3, by omega, hl, fun _ => h1, h5⟩
theorem zRw_one {S V F X : Nat → Int32} {f l a b ca cb : Int} (h : zRw S V F X 1 f l a b ca cb) : zOne S V F X f a b ca cb := by
  rcases h with h | ⟨h1, h2, h3, h4, h5, h6, h7, n, h8⟩
  · omega
  · have e := h7 rfl
    refine ⟨e, h3, h4, ?_, n, h8⟩
    rw [e]; exact zCh_last h8 (by omega)
theorem zRw_next {S V F X X' : Nat → Int32} {k f l t a b bω ca cb cbω : Int} (h : zRw S V F X k f l a b ca cb) (hk : k ≠ 0) (h2 : zOne S V F X t b bω cb cbω) (hl : zg X' l = t) (hx : ∀ k, k ≠ l → 0 ≤ k → zg X' k = zg X k) : zRw S V F X' (k + 1) f t a bω ca cbω := by
  rcases h with h | ⟨h1, h2', h3, h4, h5, h6, h7, n, h8⟩
  · omega
  · obtain ⟨g1, g2, g3, g4, m, g5⟩ := h2
    refine Or.inr ⟨by omega, by omega, h3, h4, by omega, g1, fun _ => by omega, n + m, ?_⟩
    rw [h6] at hl hx
    exact zCh_app g5 g2 hl hx h8 (by omega)
theorem zOne_round {S V F X S' V' F' X' : Nat → Int32} {f t a ca c0 cb : Int} (ht : 0 ≤ a) (h : zChx S V F X f a t c0 cb) (hc : ∀ k, 0 ≤ k → k ≠ t → zg S' k = zg S k ∧ zg V' k = zg V k ∧ zg F' k = zg F k ∧ zg X' k = zg X k) (hF : zg F' t = f) (hX : zg X' t = -1) (e0 : zg S' t ≤ 4 → f = -1) (e6 : 6 ≤ zg S' t → f ≠ -1) (e7 : 7 ≤ zg S' t → zg X f = -1) (e8 : zg S' t = 8 → zg V' t = ca + 1) (k1 : zg S' t = 8 → c0 = ca + 1) (k2 : zg S' t ≠ 8 → c0 = ca) : zOne S' V' F' X' t a (t + 1) ca cb := by
  obtain ⟨n, h⟩ := h
  have q := zCh_le h
  refine ⟨by omega, ht, by omega, hX, n + 1, ?_⟩
  have hω := zCh_congr (S' := S') (V' := V') (F' := F') (X' := X') (fun k k1 k2 => hc k (by omega) (by omega)) h
  refine Or.inr ⟨ht, by omega, by omega, by rw [hF]; exact e0, ?_, ?_, e8, c0, cb, k1, k2, by rw [hF]; exact hω, ?_⟩
  · rw [hF]; intro z; have := e6 z; have := q.2.2.2 this; omega
  · rw [hF]; intro z
    have z1 := e6 (by omega); have z2 := q.2.2.2 z1
    rw [(hc f (by omega) (by omega)).2.2.2]; exact e7 z
  · rw [hX]; cases n with
    | zero => exact ⟨rfl, rfl, rfl⟩
    | succ n => exact Or.inl ⟨rfl, rfl, rfl⟩
def zFr (S V F X rf rl rm sf sl sm : Nat → Int32) (d a b ca cb : Int) : Prop := ∃ m cm : Int, zRw S V F X (zg sm d) (zg sf d) (zg sl d) a m ca cm ∧ zRw S V F X (zg rm d) (zg rf d) (zg rl d) m b cm cb
def zGk (gs gv : Nat → Int32) (d : Int) : Prop := (zg gs d = 5 ∨ (8 ≤ zg gs d ∧ zg gs d ≤ 11)) ∧ 0 ≤ zg gv d ∧ (zg gs d ≠ 8 → zg gv d ≤ 9)
def zLo (S V F X rf rl rm sf sl sm gs gv : Nat → Int32) : Nat → Int → Int → Prop
  | 0, a, ca => a = 0 ∧ ca = 0
  | d + 1, a, ca => ∃ a0 c0 cm : Int, zLo S V F X rf rl rm sf sl sm gs gv d a0 c0 ∧ zFr S V F X rf rl rm sf sl sm d a0 a c0 cm ∧ (zg gs (d + 1 : Nat) = 8 → zg gv (d + 1 : Nat) = cm + 1 ∧ ca = cm + 1) ∧ (zg gs (d + 1 : Nat) ≠ 8 → ca = cm) ∧ zGk gs gv (d + 1 : Nat)
def zSt (S V F X rf rl rm sf sl sm gs gv : Nat → Int32) (d b cb : Int) : Prop := ∃ a ca : Int, zLo S V F X rf rl rm sf sl sm gs gv d.toNat a ca ∧ zFr S V F X rf rl rm sf sl sm d a b ca cb
theorem zFr_congr {S V F X rf rl rm sf sl sm S' V' F' X' rf' rl' rm' sf' sl' sm' : Nat → Int32} {d a b ca cb : Int} (hc : ∀ t, a ≤ t → t < b → zg S' t = zg S t ∧ zg V' t = zg V t ∧ zg F' t = zg F t ∧ zg X' t = zg X t) (hf : zg rf' d = zg rf d ∧ zg rl' d = zg rl d ∧ zg rm' d = zg rm d ∧ zg sf' d = zg sf d ∧ zg sl' d = zg sl d ∧ zg sm' d = zg sm d) (h : zFr S V F X rf rl rm sf sl sm d a b ca cb) : zFr S' V' F' X' rf' rl' rm' sf' sl' sm' d a b ca cb := by
  obtain ⟨m, cm, h1, h2⟩ := h
  obtain ⟨e1, e2, e3, e4, e5, e6⟩ := hf
  have q1 := zRw_le h1
  have q2 := zRw_le h2
  refine ⟨m, cm, ?_, ?_⟩
  · rw [e4, e5, e6]; exact zRw_congr (fun t k1 k2 => hc t k1 (by omega)) h1
  · rw [e1, e2, e3]; exact zRw_congr (fun t k1 k2 => hc t (by omega) k2) h2
theorem zFr_le {S V F X rf rl rm sf sl sm : Nat → Int32} {d a b ca cb : Int} (h : zFr S V F X rf rl rm sf sl sm d a b ca cb) : a ≤ b ∧ ca ≤ cb := by
  obtain ⟨m, cm, h1, h2⟩ := h
  have q1 := zRw_le h1
  have q2 := zRw_le h2
  omega
theorem zLo_le {S V F X rf rl rm sf sl sm gs gv : Nat → Int32} : ∀ {d : Nat} {a ca : Int}, zLo S V F X rf rl rm sf sl sm gs gv d a ca → 0 ≤ a ∧ 0 ≤ ca := by
  intro d; induction d with
  | zero => intro a ca h; obtain ⟨h1, h2⟩ := h; omega
  | succ d ih =>
    intro a ca h
    obtain ⟨a0, c0, cm, h1, h2, h3, h4, h5⟩ := h
    have q1 := ih h1; have q2 := zFr_le h2
    by_cases e : zg gs (d + 1 : Nat) = 8
    · have := h3 e; omega
    · have := h4 e; omega
theorem zLo_congr {S V F X rf rl rm sf sl sm gs gv S' V' F' X' rf' rl' rm' sf' sl' sm' gs' gv' : Nat → Int32} : ∀ {d : Nat} {a ca : Int}, (∀ t, 0 ≤ t → t < a → zg S' t = zg S t ∧ zg V' t = zg V t ∧ zg F' t = zg F t ∧ zg X' t = zg X t) → (∀ i : Int, 0 ≤ i → i < d → zg rf' i = zg rf i ∧ zg rl' i = zg rl i ∧ zg rm' i = zg rm i ∧ zg sf' i = zg sf i ∧ zg sl' i = zg sl i ∧ zg sm' i = zg sm i) → (∀ i : Int, 0 ≤ i → i ≤ d → zg gs' i = zg gs i ∧ zg gv' i = zg gv i) → zLo S V F X rf rl rm sf sl sm gs gv d a ca → zLo S' V' F' X' rf' rl' rm' sf' sl' sm' gs' gv' d a ca := by
  intro d; induction d with
  | zero => intro a ca _ _ _ h; exact h
  | succ d ih =>
    intro a ca hc hf hg h
    obtain ⟨a0, c0, cm, h1, h2, h3, h4, h5⟩ := h
    have q0 := zLo_le h1
    have q1 := zFr_le h2
    obtain ⟨g1, g2⟩ := hg (d + 1 : Nat) (by omega) (by omega)
    refine ⟨a0, c0, cm, ih (fun t k1 k2 => hc t k1 (by omega)) (fun i k1 k2 => hf i k1 (by omega)) (fun i k1 k2 => hg i k1 (by omega)) h1, zFr_congr (fun t k1 k2 => hc t (by omega) k2) (hf d (by omega) (by omega)) h2, by rw [g1, g2]; exact h3, by rw [g1]; exact h4, ?_⟩
    unfold zGk; rw [g1, g2]; exact h5
theorem zSt_add {S V F X rf rl rm sf sl sm gs gv X' rf' rl' rm' : Nat → Int32} {d t b n cb c : Int} (hd : 0 ≤ d) (h : zSt S V F X rf rl rm sf sl sm gs gv d b cb) (h2 : zOne S V F X t b n cb c)
    (hi : ∀ i : Int, 0 ≤ i → i ≠ d → zg rf' i = zg rf i ∧ zg rl' i = zg rl i ∧ zg rm' i = zg rm i) (hm : zg rm' d = zg rm d + 1) (hl : zg rl' d = t)
    (hA : zg rm d = 0 → zg rf' d = t ∧ X' = X) (hB : zg rm d ≠ 0 → zg rf' d = zg rf d ∧ zg X' (zg rl d) = t ∧ ∀ k, k ≠ zg rl d → 0 ≤ k → zg X' k = zg X k) : zSt S V F X' rf' rl' rm' sf sl sm gs gv d n c := by
  obtain ⟨a, ca, hL, m, cm, hr, hw⟩ := h
  have qL := zLo_le hL
  have q1 := zRw_le hr
  have q2 := zRw_le hw
  by_cases e : zg rm d = 0
  · obtain ⟨e1, e2⟩ := hA e
    subst e2
    refine ⟨a, ca, zLo_congr (fun _ _ _ => ⟨rfl, rfl, rfl, rfl⟩) (fun i i1 i2 => ?_) (fun _ _ _ => ⟨rfl, rfl⟩) hL, m, cm, hr, ?_⟩
    · obtain ⟨z1, z2, z3⟩ := hi i i1 (by omega)
      exact ⟨z1, z2, z3, rfl, rfl, rfl⟩
    · rw [hm, hl, e1, e]
      rcases hw with ⟨w1, w2, w3, w4⟩ | w
      · subst w3; subst w4; exact zRw_first (by have := h2.1; omega) h2
      · omega
  · obtain ⟨e1, e2, e3⟩ := hB e
    have hb : zg rl d = b - 1 := by
      rcases hw with ⟨w1, w2, w3, w4⟩ | w
      · omega
      · exact w.2.2.2.2.2.1
    have hmb : m < b := by
      rcases hw with ⟨w1, w2, w3, w4⟩ | w
      · omega
      · omega
    refine ⟨a, ca, zLo_congr (fun k k1 k2 => ⟨rfl, rfl, rfl, e3 k (by omega) k1⟩) (fun i i1 i2 => ?_) (fun _ _ _ => ⟨rfl, rfl⟩) hL, m, cm, zRw_congr (fun k k1 k2 => ⟨rfl, rfl, rfl, e3 k (by omega) (by omega)⟩) hr, ?_⟩
    · obtain ⟨z1, z2, z3⟩ := hi i i1 (by omega)
      exact ⟨z1, z2, z3, rfl, rfl, rfl⟩
    · rw [hm, hl, e1]
      exact zRw_next hw e h2 e2 e3
theorem zSt_open {S V F X rf rl rm sf sl sm gs gv gs' gv' rf' rl' rm' sf' sl' sm' : Nat → Int32} {d n c c' : Int} (hd : 0 ≤ d) (h : zSt S V F X rf rl rm sf sl sm gs gv d n c)
    (hi : ∀ i : Int, 0 ≤ i → i ≠ d + 1 → zg rf' i = zg rf i ∧ zg rl' i = zg rl i ∧ zg rm' i = zg rm i ∧ zg sf' i = zg sf i ∧ zg sl' i = zg sl i ∧ zg sm' i = zg sm i ∧ zg gs' i = zg gs i ∧ zg gv' i = zg gv i)
    (h1 : zg rf' (d + 1) = -1) (h2 : zg rm' (d + 1) = 0) (h3 : zg sf' (d + 1) = -1) (h4 : zg sm' (d + 1) = 0) (hk : zGk gs' gv' (d + 1)) (h8 : zg gs' (d + 1) = 8 → zg gv' (d + 1) = c + 1 ∧ c' = c + 1) (h9 : zg gs' (d + 1) ≠ 8 → c' = c) : zSt S V F X rf' rl' rm' sf' sl' sm' gs' gv' (d + 1) n c' := by
  obtain ⟨a, ca, hL, hF⟩ := h
  have e : (d + 1).toNat = d.toNat + 1 := by omega
  have eω : ((d.toNat + 1 : Nat) : Int) = d + 1 := by omega
  have ed : ((d.toNat : Nat) : Int) = d := by omega
  refine ⟨n, c', ?_, n, c', Or.inl ⟨h4, h3, rfl, rfl⟩, Or.inl ⟨h2, h1, rfl, rfl⟩⟩
  rw [e]
  refine ⟨a, ca, c, zLo_congr (fun _ _ _ => ⟨rfl, rfl, rfl, rfl⟩) (fun i i1 i2 => ?_) (fun i i1 i2 => ?_) hL, ?_, by rw [eω]; exact h8, by rw [eω]; exact h9, by rw [eω]; exact hk⟩
  · obtain ⟨z1, z2, z3, z4, z5, z6, _, _⟩ := hi i i1 (by omega)
    exact ⟨z1, z2, z3, z4, z5, z6⟩
  · obtain ⟨_, _, _, _, _, _, z7, z8⟩ := hi i i1 (by omega)
    exact ⟨z7, z8⟩
  · rw [ed]
    obtain ⟨z1, z2, z3, z4, z5, z6, _, _⟩ := hi d hd (by omega)
    exact zFr_congr (fun _ _ _ => ⟨rfl, rfl, rfl, rfl⟩) ⟨z1, z2, z3, z4, z5, z6⟩ hF
def zTk (S V F X rf rl rm sf sl sm gs gv : Nat → Int32) (d t n c : Int) : Prop := ∃ a ca : Int, zLo S V F X rf rl rm sf sl sm gs gv d.toNat a ca ∧ zOne S V F X t a n ca c
def zPd (S V F X rf rl rm sf sl sm gs gv : Nat → Int32) (d t n c : Int) : Prop := ∃ b cb : Int, zSt S V F X rf rl rm sf sl sm gs gv d b cb ∧ zOne S V F X t b n cb c
theorem zCh_of_rw {S V F X : Nat → Int32} {k f l a b ca cb : Int} (h : zRw S V F X k f l a b ca cb) : zChx S V F X f a b ca cb := by
  rcases h with ⟨h1, h2, h3, h4⟩ | h
  · exact ⟨0, h2, h3, h4⟩
  · exact h.2.2.2.2.2.2.2
theorem zRw_f {S V F X : Nat → Int32} {k f l a b ca cb : Int} (h : zRw S V F X k f l a b ca cb) (hk : k ≠ 0) : f ≠ -1 ∧ 0 ≤ f ∧ a < b ∧ 0 ≤ l ∧ l = b - 1 := by
  rcases h with ⟨h1, h2, h3, h4⟩ | h
  · omega
  · omega
theorem zSt_close {S V F X rf rl rm sf sl sm gs gv S' V' F' X1 X2 rf' rl' rm' sf' sl' sm' : Nat → Int32} {d t b n cb : Int} (hd : 0 ≤ d) (h : zSt S V F X rf rl rm sf sl sm gs gv d b cb)
    (hT : (zg rm d = 1 ∧ t = zg rf d ∧ n = b ∧ S' = S ∧ V' = V ∧ F' = F ∧ X1 = X) ∨ (zg rm d ≠ 1 ∧ t = b ∧ n = b + 1 ∧ zg S' b = 5 ∧ zg F' b = zg rf d ∧ zg X1 b = -1 ∧ ∀ k, 0 ≤ k → k ≠ b → zg S' k = zg S k ∧ zg V' k = zg V k ∧ zg F' k = zg F k ∧ zg X1 k = zg X k))
    (hA : zg sm d = 0 → zg sf' d = t ∧ X2 = X1) (hB : zg sm d ≠ 0 → zg sf' d = zg sf d ∧ zg X2 (zg sl d) = t ∧ ∀ k, k ≠ zg sl d → 0 ≤ k → zg X2 k = zg X1 k)
    (hl : zg sl' d = t) (hm : zg sm' d = zg sm d + 1) (hr : zg rf' d = -1) (hrm : zg rm' d = 0)
    (hi : ∀ i : Int, 0 ≤ i → i ≠ d → zg rf' i = zg rf i ∧ zg rl' i = zg rl i ∧ zg rm' i = zg rm i ∧ zg sf' i = zg sf i ∧ zg sl' i = zg sl i ∧ zg sm' i = zg sm i) : zSt S' V' F' X2 rf' rl' rm' sf' sl' sm' gs gv d n cb := by
  obtain ⟨a, ca, hL, m, cm, hs, hw⟩ := h
  have qL := zLo_le hL
  have q1 := zRw_le hs
  have q2 := zRw_le hw
  have hc1 : ∀ k, 0 ≤ k → k < b → zg S' k = zg S k ∧ zg V' k = zg V k ∧ zg F' k = zg F k ∧ zg X1 k = zg X k := by
    intro k k1 k2
    rcases hT with ⟨_, _, _, e1, e2, e3, e4⟩ | ⟨_, _, _, _, _, _, e⟩
    · subst e1; subst e2; subst e3; subst e4; exact ⟨rfl, rfl, rfl, rfl⟩
    · exact e k k1 (by omega)
  have hO : zOne S' V' F' X1 t m n cm cb := by
    rcases hT with ⟨e0, e1, e2, e3, e4, e5, e6⟩ | ⟨e0, e1, e2, e3, e4, e5, e6⟩
    · subst e2; subst e3; subst e4; subst e5; subst e6; subst e1
      rw [e0] at hw; exact zRw_one hw
    · subst e1; subst e2
      exact zOne_round (c0 := cm) (f := zg rf d) (by omega) (zCh_of_rw hw) e6 e4 e5 (by omega) (by omega) (by omega) (by omega) (by omega) (by omega)
  have hs1 : zRw S' V' F' X1 (zg sm d) (zg sf d) (zg sl d) a m ca cm := zRw_congr (fun k k1 k2 => hc1 k (by omega) (by omega)) hs
  have hmn : m ≤ n := by have := hO.1; have := hO.2.2.1; omega
  refine ⟨a, ca, zLo_congr (fun k k1 k2 => ?_) (fun i i1 i2 => hi i i1 (by omega)) (fun _ _ _ => ⟨rfl, rfl⟩) hL, n, cb, ?_, Or.inl ⟨hrm, hr, rfl, rfl⟩⟩
  · obtain ⟨z1, z2, z3, z4⟩ := hc1 k k1 (by omega)
    refine ⟨z1, z2, z3, ?_⟩
    by_cases e : zg sm d = 0
    · rw [(hA e).2]; exact z4
    · have qq := zRw_f hs1 e
      rw [(hB e).2.2 k (by omega) k1]; exact z4
  · rw [hm, hl]
    by_cases e : zg sm d = 0
    · obtain ⟨e1, e2⟩ := hA e
      subst e2
      rw [e, e1]
      rcases hs1 with ⟨w1, w2, w3, w4⟩ | w
      · subst w3; subst w4; exact zRw_first (by have := hO.1; omega) hO
      · omega
    · obtain ⟨e1, e2, e3⟩ := hB e
      rw [e1]; exact zRw_next hs1 e hO e2 e3
theorem zSt_fin {S V F X rf rl rm sf sl sm gs gv S' V' F' X' : Nat → Int32} {d t b n cb : Int} (hd : 0 ≤ d) (h : zSt S V F X rf rl rm sf sl sm gs gv d b cb) (hr : zg rm d = 0) (hs : 1 ≤ zg sm d)
    (hT : (zg sm d = 1 ∧ t = zg sf d ∧ n = b ∧ S' = S ∧ V' = V ∧ F' = F ∧ X' = X) ∨ (zg sm d ≠ 1 ∧ t = b ∧ n = b + 1 ∧ zg S' b = 6 ∧ zg F' b = zg sf d ∧ zg X' b = -1 ∧ ∀ k, 0 ≤ k → k ≠ b → zg S' k = zg S k ∧ zg V' k = zg V k ∧ zg F' k = zg F k ∧ zg X' k = zg X k)) : zTk S' V' F' X' rf rl rm sf sl sm gs gv d t n cb := by
  obtain ⟨a, ca, hL, m, cm, hs1, hw⟩ := h
  have qL := zLo_le hL
  have q1 := zRw_le hs1
  rcases hw with ⟨w1, w2, w3, w4⟩ | w
  · subst w3; subst w4
    rcases hT with ⟨e0, e1, e2, e3, e4, e5, e6⟩ | ⟨e0, e1, e2, e3, e4, e5, e6⟩
    · subst e2; subst e3; subst e4; subst e5; subst e6; subst e1
      rw [e0] at hs1; exact ⟨a, ca, hL, zRw_one hs1⟩
    · subst e1; subst e2
      have qf := zRw_f hs1 (by omega)
      exact ⟨a, ca, zLo_congr (fun k k1 k2 => e6 k k1 (by omega)) (fun _ _ _ => ⟨rfl, rfl, rfl, rfl, rfl, rfl⟩) (fun _ _ _ => ⟨rfl, rfl⟩) hL, zOne_round (c0 := ca) (f := zg sf d) (by omega) (zCh_of_rw hs1) e6 e4 e5 (by omega) (fun _ => qf.1) (by omega) (by omega) (by omega) (by omega)⟩
  · omega
theorem zOne_wrap {S V F X S' V' F' X' : Nat → Int32} {t l a n ca c0 c : Int} (h : zOne S V F X t a n c0 c) (hn : l = n) (hc : ∀ k, 0 ≤ k → k ≠ n → zg S' k = zg S k ∧ zg V' k = zg V k ∧ zg F' k = zg F k ∧ zg X' k = zg X k) (hS : 5 ≤ zg S' n) (hF : zg F' n = t) (hX : zg X' n = -1) (e8 : zg S' n = 8 → zg V' n = ca + 1 ∧ c0 = ca + 1) (e9 : zg S' n ≠ 8 → c0 = ca) : zOne S' V' F' X' l a (n + 1) ca c := by
  subst hn
  obtain ⟨h1, h2, h3, h4, h5⟩ := h
  exact zOne_round (c0 := c0) (f := t) h2 h5 hc hF hX (by omega) (by omega) (fun _ => h4) (fun z => (e8 z).1) (fun z => (e8 z).2) e9
theorem zOne_leaf {S' V' F' X' : Nat → Int32} {n ca : Int} (h0 : 0 ≤ n) (hS : zg S' n ≤ 4) (hF : zg F' n = -1) (hX : zg X' n = -1) : zOne S' V' F' X' n n (n + 1) ca ca :=
  ⟨by omega, h0, by omega, hX, 1, Or.inr ⟨h0, by omega, by omega, fun _ => hF, by omega, by omega, by omega, ca, ca, by omega, by omega, ⟨by rw [hF], rfl, rfl⟩, ⟨by rw [hX], rfl, rfl⟩⟩⟩
theorem zFr_congr0 {S V F X rf rl rm sf sl sm S' V' F' X' : Nat → Int32} {d a b ca cb : Int} (hc : ∀ t, a ≤ t → t < b → zg S' t = zg S t ∧ zg V' t = zg V t ∧ zg F' t = zg F t ∧ zg X' t = zg X t) (h : zFr S V F X rf rl rm sf sl sm d a b ca cb) : zFr S' V' F' X' rf rl rm sf sl sm d a b ca cb := zFr_congr hc ⟨rfl, rfl, rfl, rfl, rfl, rfl⟩ h
theorem zSt_congr0 {S V F X rf rl rm sf sl sm gs gv S' V' F' X' : Nat → Int32} {d b cb : Int} (hc : ∀ t, 0 ≤ t → t < b → zg S' t = zg S t ∧ zg V' t = zg V t ∧ zg F' t = zg F t ∧ zg X' t = zg X t) (h : zSt S V F X rf rl rm sf sl sm gs gv d b cb) : zSt S' V' F' X' rf rl rm sf sl sm gs gv d b cb := by
  obtain ⟨a, ca, hL, hF⟩ := h
  have q := zLo_le hL; have q2 := zFr_le hF
  exact ⟨a, ca, zLo_congr (fun t k1 k2 => hc t k1 (by omega)) (fun _ _ _ => ⟨rfl, rfl, rfl, rfl, rfl, rfl⟩) (fun _ _ _ => ⟨rfl, rfl⟩) hL, zFr_congr0 (fun t k1 k2 => hc t (by omega) k2) hF⟩
theorem zSt_le {S V F X rf rl rm sf sl sm gs gv : Nat → Int32} {d b cb : Int} (h : zSt S V F X rf rl rm sf sl sm gs gv d b cb) : 0 ≤ b ∧ 0 ≤ cb := by
  obtain ⟨a, ca, hL, hF⟩ := h
  have q := zLo_le hL; have q2 := zFr_le hF
  omega
theorem zPd_leaf {S V F X rf rl rm sf sl sm gs gv S' V' F' X' : Nat → Int32} {d t n c : Int} (h : zSt S V F X rf rl rm sf sl sm gs gv d n c) (ht : t = n) (hc : ∀ k, 0 ≤ k → k ≠ n → zg S' k = zg S k ∧ zg V' k = zg V k ∧ zg F' k = zg F k ∧ zg X' k = zg X k) (hS : zg S' n ≤ 4) (hF : zg F' n = -1) (hX : zg X' n = -1) : zPd S' V' F' X' rf rl rm sf sl sm gs gv d t (n + 1) c := by
  subst ht
  exact ⟨t, c, zSt_congr0 (fun k k1 k2 => hc k k1 (by omega)) h, zOne_leaf (zSt_le h).1 hS hF hX⟩
theorem zPd_wrap {S V F X rf rl rm sf sl sm gs gv S' V' F' X' : Nat → Int32} {d t l n c : Int} (h : zPd S V F X rf rl rm sf sl sm gs gv d t n c) (hn : l = n) (hc : ∀ k, 0 ≤ k → k ≠ n → zg S' k = zg S k ∧ zg V' k = zg V k ∧ zg F' k = zg F k ∧ zg X' k = zg X k) (hS : 5 ≤ zg S' n) (hS8 : zg S' n ≠ 8) (hF : zg F' n = t) (hX : zg X' n = -1) : zPd S' V' F' X' rf rl rm sf sl sm gs gv d l (n + 1) c := by
  obtain ⟨b, cb, h1, h2⟩ := h
  have q := zSt_le h1
  have : b ≤ n := by have := h2.1; have := h2.2.2.1; omega
  exact ⟨b, cb, zSt_congr0 (fun k k1 k2 => hc k k1 (by omega)) h1, zOne_wrap h2 hn hc hS hF hX (fun z => absurd z hS8) (fun _ => rfl)⟩
theorem zTk_close {S V F X rf rl rm sf sl sm gs gv S' V' F' X' : Nat → Int32} {d t l n n' c : Int} (hd : 1 ≤ d) (h : zTk S V F X rf rl rm sf sl sm gs gv d t n c)
    (hT : (zg gs d = 5 ∧ l = t ∧ n' = n ∧ S' = S ∧ V' = V ∧ F' = F ∧ X' = X) ∨ (zg gs d ≠ 5 ∧ l = n ∧ n' = n + 1 ∧ zg S' n = zg gs d ∧ zg V' n = zg gv d ∧ zg F' n = t ∧ zg X' n = -1 ∧ ∀ k, 0 ≤ k → k ≠ n → zg S' k = zg S k ∧ zg V' k = zg V k ∧ zg F' k = zg F k ∧ zg X' k = zg X k)) : zPd S' V' F' X' rf rl rm sf sl sm gs gv (d - 1) l n' c := by
  obtain ⟨a, ca, hL, hO⟩ := h
  have e : d.toNat = (d - 1).toNat + 1 := by omega
  rw [e] at hL
  obtain ⟨a0, c0, cm, h1, h2, h3, h4, h5⟩ := hL
  have eω : (((d - 1).toNat + 1 : Nat) : Int) = d := by omega
  have ed : (((d - 1).toNat : Nat) : Int) = d - 1 := by omega
  rw [eω] at h3 h4 h5
  rw [ed] at h2
  have q := zLo_le h1; have q2 := zFr_le h2
  have qa : a ≤ n := by have := hO.1; have := hO.2.2.1; omega
  rcases hT with ⟨e0, e1, e2, e3, e4, e5, e6⟩ | ⟨e0, e1, e2, e3, e4, e5, e6, e7⟩
  · subst e2; subst e3; subst e4; subst e5; subst e6; subst e1
    have := h4 (by omega)
    subst this
    exact ⟨a, ca, ⟨a0, c0, h1, h2⟩, hO⟩
  · subst e2
    refine ⟨a, cm, zSt_congr0 (fun k k1 k2 => e7 k k1 (by omega)) ⟨a0, c0, h1, h2⟩, zOne_wrap (c0 := ca) hO e1 e7 (by have := h5.1; omega) e5 e6 ?_ ?_⟩
    · rw [e3, e4]; exact h3
    · rw [e3]; exact h4
def zsm (f : Int → Int) : Nat → Int
  | 0 => 0
  | n + 1 => zsm f n + f n
theorem zsm_congr {f g : Int → Int} : ∀ {n : Nat}, (∀ k : Int, 0 ≤ k → k < n → f k = g k) → zsm f n = zsm g n := by
  intro n; induction n with
  | zero => intro _; rfl
  | succ n ih =>
    intro h
    show zsm f n + f n = zsm g n + g n
    rw [ih (fun k k1 k2 => h k k1 (by omega)), h n (by omega) (by omega)]
theorem zsm_upd {f g : Int → Int} {j : Int} : ∀ {n : Nat}, 0 ≤ j → j < n → (∀ k : Int, 0 ≤ k → k < n → k ≠ j → f k = g k) → zsm f n = zsm g n + f j - g j := by
  intro n; induction n with
  | zero => intro h0 h1 h; omega
  | succ n ih =>
    intro h0 h1 h
    show zsm f n + f n = zsm g n + g n + f j - g j
    by_cases e : j = n
    · subst e
      rw [zsm_congr (fun k k1 k2 => h k k1 (by omega) (by omega))]; omega
    · rw [ih h0 (by omega) (fun k k1 k2 k3 => h k k1 (by omega) k3), h n (by omega) (by omega) (by omega)]; omega
theorem zsm_nn {f : Int → Int} (h : ∀ k : Int, 0 ≤ f k) : ∀ {n : Nat}, 0 ≤ zsm f n := by
  intro n; induction n with
  | zero => exact Int.le_refl _
  | succ n ih => have := h n; show 0 ≤ zsm f n + f n; omega
theorem zsm_mono {f : Int → Int} (h : ∀ k : Int, 0 ≤ f k) {n m : Nat} (hm : n ≤ m) : zsm f n ≤ zsm f m := by
  induction m with
  | zero => have : n = 0 := by omega
            subst this; exact Int.le_refl _
  | succ m ih =>
    by_cases e : n = m + 1
    · subst e; exact Int.le_refl _
    · have := ih (by omega); have := h m; show zsm f n ≤ zsm f m + f m; omega
def zhx (v : Int) : Int := if v < 32 ∨ 126 < v then 1 else 0
def zw7 (S : Nat → Int32) (t : Int) : Int := if zg S t = 7 then 1 else 0
def zhn (S V : Nat → Int32) (t : Int) : Int := if zg S t = 0 then 2 * zhx (zg V t) else 0
def zhp (B E : Nat → Int32) (k : Int) : Int := zhx (zg B k) + zhx (zg E k)
theorem zhx_nn (v : Int) : 0 ≤ zhx v ∧ zhx v ≤ 1 := by unfold zhx; split <;> omega
def zNk (S V L Z M P : Nat → Int32) (p t : Int) : Prop := 0 ≤ zg S t ∧ zg S t ≤ 11 ∧ 0 ≤ zg L t ∧ zg L t ≤ 20 ∧ -1 ≤ zg Z t ∧ (zg Z t ≤ 20 ∧ (zg Z t = -1 ∨ zg L t ≤ zg Z t)) ∧ 0 ≤ zg V t ∧ zg V t ≤ 65535 ∧ (zg S t ≠ 0 → zg V t ≤ 9) ∧ (zg S t = 4 → 1 ≤ zg V t) ∧ (zg S t = 8 → 1 ≤ zg V t) ∧ (zg S t = 2 → 0 ≤ zg P t ∧ 0 ≤ zg M t ∧ zg P t + zg M t ≤ p)
def zFn (S V L Z M P : Nat → Int32) (n p : Int) : Prop := ∀ t : Int, 0 ≤ t → t < n → zNk S V L Z M P p t
def zFp (B E : Nat → Int32) (p : Int) : Prop := ∀ k : Int, 0 ≤ k → k < p → 0 ≤ zg B k ∧ zg B k ≤ 65535 ∧ 0 ≤ zg E k ∧ zg E k ≤ 65535
def zws (S V M P B E : Nat → Int32) (t : Int) : Int := if zg S t = 2 then 5 * zg M t + 4 * (zsm (zhp B E) (zg P t + zg M t).toNat - zsm (zhp B E) (zg P t).toNat) else if zg S t = 0 then 4 * zhx (zg V t) else 0
def zwr (S M P B E : Nat → Int32) (t : Int) : Int := if zg S t = 2 then zsm (zhp B E) (zg P t + zg M t).toNat - zsm (zhp B E) (zg P t).toNat else 0
def zCn (S V M P B E : Nat → Int32) (d n p c i a w : Int) : Prop := zsm (zwr S M P B E) n.toNat ≤ zsm (zhp B E) p.toNat ∧ 2 * zsm (zw7 S) n.toNat + d ≤ i ∧ 3 * (zsm (zhn S V) n.toNat + zsm (zhp B E) p.toNat) ≤ a ∧ 12 * n + 24 * d + zsm (zws S V M P B E) n.toNat ≤ w + 12 * c
def zPb (B E B' E' : Nat → Int32) (q : Int) : Prop := ∀ k : Int, 0 ≤ k → k < q → zg B' k = zg B k ∧ zg E' k = zg E k
def zNew (S V L Z F X M P S' V' L' Zω F' X' Mω Pω : Nat → Int32) (n s v l z f m q : Int) : Prop :=
  (∀ k : Int, 0 ≤ k → k ≠ n → zg S' k = zg S k ∧ zg V' k = zg V k ∧ zg L' k = zg L k ∧ zg Zω k = zg Z k ∧ zg F' k = zg F k ∧ zg X' k = zg X k ∧ zg Mω k = zg M k ∧ zg Pω k = zg P k) ∧
  zg S' n = s ∧ zg V' n = v ∧ zg L' n = l ∧ zg Zω n = z ∧ zg F' n = f ∧ zg X' n = -1 ∧ zg Mω n = m ∧ zg Pω n = q
theorem zNew_c {S V L Z F X M P S' V' L' Zω F' X' Mω Pω : Nat → Int32} {n s v l z f m q : Int} (h : zNew S V L Z F X M P S' V' L' Zω F' X' Mω Pω n s v l z f m q) : ∀ k, 0 ≤ k → k ≠ n → zg S' k = zg S k ∧ zg V' k = zg V k ∧ zg F' k = zg F k ∧ zg X' k = zg X k :=
  fun k k1 k2 => by obtain ⟨a1, a2, a3, a4, a5, a6, a7, a8⟩ := h.1 k k1 k2; exact ⟨a1, a2, a5, a6⟩
theorem zNew_made {S V L Z F X M P S' V' L' Zω F' X' Mω Pω : Nat → Int32} {n s v : Int32} (h0 : 0 ≤ n.toInt) (e1 : S' = upd S n.toNatClampNeg s) (e2 : V' = upd V n.toNatClampNeg v) (e3 : L' = upd L n.toNatClampNeg 0) (e4 : Zω = upd Z n.toNatClampNeg 0) (e5 : F' = upd F n.toNatClampNeg (-1)) (e6 : X' = upd X n.toNatClampNeg (-1)) (e7 : Mω = upd M n.toNatClampNeg 0) (e8 : Pω = upd P n.toNatClampNeg 0) : zNew S V L Z F X M P S' V' L' Zω F' X' Mω Pω n.toInt s.toInt v.toInt 0 0 (-1) 0 0 := by
  subst e1; subst e2; subst e3; subst e4; subst e5; subst e6; subst e7; subst e8
  exact ⟨fun k k1 k2 => ⟨zg_ne h0 k1 k2, zg_ne h0 k1 k2, zg_ne h0 k1 k2, zg_ne h0 k1 k2, zg_ne h0 k1 k2, zg_ne h0 k1 k2, zg_ne h0 k1 k2, zg_ne h0 k1 k2⟩, zg_eq, zg_eq, zg_eq, zg_eq, zg_eq, zg_eq, zg_eq, zg_eq⟩
theorem zNew_F {S V L Z F X M P S' V' L' Zω F' X' Mω Pω F2 : Nat → Int32} {n s v l z f m q : Int} {i x : Int32} (h : zNew S V L Z F X M P S' V' L' Zω F' X' Mω Pω n s v l z f m q) (hi : i.toInt = n) (h0 : 0 ≤ n) (e : F2 = upd F' i.toNatClampNeg x) : zNew S V L Z F X M P S' V' L' Zω F2 X' Mω Pω n s v l z x.toInt m q := by
  subst e; subst hi
  obtain ⟨a, b1, b2, b3, b4, b5, b6, b7, b8⟩ := h
  refine ⟨fun k k1 k2 => ?_, b1, b2, b3, b4, zg_eq, b6, b7, b8⟩
  obtain ⟨a1, a2, a3, a4, a5, a6, a7, a8⟩ := a k k1 k2
  exact ⟨a1, a2, a3, a4, by rw [zg_ne h0 k1 k2]; exact a5, a6, a7, a8⟩
theorem zNew_M {S V L Z F X M P S' V' L' Zω F' X' Mω Pω M2 : Nat → Int32} {n s v l z f m q : Int} {i x : Int32} (h : zNew S V L Z F X M P S' V' L' Zω F' X' Mω Pω n s v l z f m q) (hi : i.toInt = n) (h0 : 0 ≤ n) (e : M2 = upd Mω i.toNatClampNeg x) : zNew S V L Z F X M P S' V' L' Zω F' X' M2 Pω n s v l z f x.toInt q := by
  subst e; subst hi
  obtain ⟨a, b1, b2, b3, b4, b5, b6, b7, b8⟩ := h
  refine ⟨fun k k1 k2 => ?_, b1, b2, b3, b4, b5, b6, zg_eq, b8⟩
  obtain ⟨a1, a2, a3, a4, a5, a6, a7, a8⟩ := a k k1 k2
  exact ⟨a1, a2, a3, a4, a5, a6, by rw [zg_ne h0 k1 k2]; exact a7, a8⟩
theorem zNew_P {S V L Z F X M P S' V' L' Zω F' X' Mω Pω P2 : Nat → Int32} {n s v l z f m q : Int} {i x : Int32} (h : zNew S V L Z F X M P S' V' L' Zω F' X' Mω Pω n s v l z f m q) (hi : i.toInt = n) (h0 : 0 ≤ n) (e : P2 = upd Pω i.toNatClampNeg x) : zNew S V L Z F X M P S' V' L' Zω F' X' Mω P2 n s v l z f m x.toInt := by
  subst e; subst hi
  obtain ⟨a, b1, b2, b3, b4, b5, b6, b7, b8⟩ := h
  refine ⟨fun k k1 k2 => ?_, b1, b2, b3, b4, b5, b6, b7, zg_eq⟩
  obtain ⟨a1, a2, a3, a4, a5, a6, a7, a8⟩ := a k k1 k2
  exact ⟨a1, a2, a3, a4, a5, a6, a7, by rw [zg_ne h0 k1 k2]; exact a8⟩
theorem zNew_L {S V L Z F X M P S' V' L' Zω F' X' Mω Pω L2 : Nat → Int32} {n s v l z f m q : Int} {i x : Int32} (h : zNew S V L Z F X M P S' V' L' Zω F' X' Mω Pω n s v l z f m q) (hi : i.toInt = n) (h0 : 0 ≤ n) (e : L2 = upd L' i.toNatClampNeg x) : zNew S V L Z F X M P S' V' L2 Zω F' X' Mω Pω n s v x.toInt z f m q := by
  subst e; subst hi
  obtain ⟨a, b1, b2, b3, b4, b5, b6, b7, b8⟩ := h
  refine ⟨fun k k1 k2 => ?_, b1, b2, zg_eq, b4, b5, b6, b7, b8⟩
  obtain ⟨a1, a2, a3, a4, a5, a6, a7, a8⟩ := a k k1 k2
  exact ⟨a1, a2, by rw [zg_ne h0 k1 k2]; exact a3, a4, a5, a6, a7, a8⟩
theorem zNew_Z {S V L Z F X M P S' V' L' Zω F' X' Mω Pω Z2 : Nat → Int32} {n s v l z f m q : Int} {i x : Int32} (h : zNew S V L Z F X M P S' V' L' Zω F' X' Mω Pω n s v l z f m q) (hi : i.toInt = n) (h0 : 0 ≤ n) (e : Z2 = upd Zω i.toNatClampNeg x) : zNew S V L Z F X M P S' V' L' Z2 F' X' Mω Pω n s v l x.toInt f m q := by
  subst e; subst hi
  obtain ⟨a, b1, b2, b3, b4, b5, b6, b7, b8⟩ := h
  refine ⟨fun k k1 k2 => ?_, b1, b2, b3, zg_eq, b5, b6, b7, b8⟩
  obtain ⟨a1, a2, a3, a4, a5, a6, a7, a8⟩ := a k k1 k2
  exact ⟨a1, a2, a3, by rw [zg_ne h0 k1 k2]; exact a4, a5, a6, a7, a8⟩
def zNok (s v l z m q p : Int) : Prop := 0 ≤ s ∧ s ≤ 11 ∧ 0 ≤ l ∧ l ≤ 20 ∧ -1 ≤ z ∧ (z ≤ 20 ∧ (z = -1 ∨ l ≤ z)) ∧ 0 ≤ v ∧ v ≤ 65535 ∧ (s ≠ 0 → v ≤ 9) ∧ (s = 4 → 1 ≤ v) ∧ (s = 8 → 1 ≤ v) ∧ (s = 2 → 0 ≤ q ∧ 0 ≤ m ∧ q + m ≤ p)
theorem zFn_new {S V L Z F X M P S' V' L' Zω F' X' Mω Pω : Nat → Int32} {n s v l z f m q p pω : Int} (h : zFn S V L Z M P n p) (hn : zNew S V L Z F X M P S' V' L' Zω F' X' Mω Pω n s v l z f m q) (hp : p ≤ pω) (hk : zNok s v l z m q pω) : zFn S' V' L' Zω Mω Pω (n + 1) pω := by
  intro t t0 t1
  obtain ⟨a, b1, b2, b3, b4, b5, b6, b7, b8⟩ := hn
  by_cases e : t = n
  · subst e; unfold zNk; rw [b1, b2, b3, b4, b7, b8]; exact hk
  · obtain ⟨a1, a2, a3, a4, a5, a6, a7, a8⟩ := a t t0 e
    have := h t t0 (by omega)
    unfold zNk at this ⊢; rw [a1, a2, a3, a4, a7, a8]; omega
theorem zFn_mono {S V L Z M P : Nat → Int32} {n p pω : Int} (h : zFn S V L Z M P n p) (hp : p ≤ pω) : zFn S V L Z M P n pω := by
  intro t t0 t1
  have := h t t0 t1
  unfold zNk at this ⊢; omega
theorem zCn_new {S V L Z F X M P S' V' L' Zω F' X' Mω Pω B E : Nat → Int32} {d d' n s v l z f m q p c i i' a a' w w' : Int} (h0 : 0 ≤ n) (h : zCn S V M P B E d n p c i a w) (hn : zNew S V L Z F X M P S' V' L' Zω F' X' Mω Pω n s v l z f m q) (hs : s ≠ 2) (hi : (s = 7 → i + 2 + d' ≤ i' + d) ∧ (s ≠ 7 → i + d' ≤ i' + d)) (ha : a ≤ a' ∧ (s = 0 → (v < 32 ∨ 126 < v) → a + 6 ≤ a')) (hw : w + 12 + 24 * d' ≤ w' + 24 * d ∧ (s = 0 → (v < 32 ∨ 126 < v) → w + 16 + 24 * d' ≤ w' + 24 * d)) : zCn S' V' Mω Pω B E d' (n + 1) p c i' a' w' := by
  obtain ⟨cc, b1, b2, b3, b4, b5, b6, b7, b8⟩ := hn
  obtain ⟨g0, g1, g2, g3⟩ := h
  have e : (n + 1).toNat = n.toNat + 1 := by omega
  have en : ((n.toNat : Nat) : Int) = n := by omega
  have k1 : zsm (zw7 S') n.toNat = zsm (zw7 S) n.toNat := zsm_congr (fun k k1 k2 => by unfold zw7; rw [(cc k k1 (by omega)).1])
  have k2 : zsm (zhn S' V') n.toNat = zsm (zhn S V) n.toNat := zsm_congr (fun k k1 k2 => by unfold zhn; rw [(cc k k1 (by omega)).1, (cc k k1 (by omega)).2.1])
  have k3 : zsm (zws S' V' Mω Pω B E) n.toNat = zsm (zws S V M P B E) n.toNat := zsm_congr (fun k k1 k2 => by
    obtain ⟨a1, a2, a3, a4, a5, a6, a7, a8⟩ := cc k k1 (by omega)
    unfold zws; rw [a1, a2, a7, a8])
  have k4 : zsm (zwr S' Mω Pω B E) n.toNat = zsm (zwr S M P B E) n.toNat := zsm_congr (fun k k1 k2 => by
    obtain ⟨a1, a2, a3, a4, a5, a6, a7, a8⟩ := cc k k1 (by omega)
    unfold zwr; rw [a1, a7, a8])
  have w4 : zwr S' Mω Pω B E n = 0 := by unfold zwr; rw [b1, if_neg hs]
  unfold zCn; rw [e]
  show zsm (zwr S' Mω Pω B E) n.toNat + zwr S' Mω Pω B E n.toNat ≤ zsm (zhp B E) p.toNat ∧ 2 * (zsm (zw7 S') n.toNat + zw7 S' n.toNat) + d' ≤ i' ∧ 3 * ((zsm (zhn S' V') n.toNat + zhn S' V' n.toNat) + zsm (zhp B E) p.toNat) ≤ a' ∧ 12 * (n + 1) + 24 * d' + (zsm (zws S' V' Mω Pω B E) n.toNat + zws S' V' Mω Pω B E n.toNat) ≤ w' + 12 * c
  rw [en, k1, k2, k3, k4]
  have w1 : zw7 S' n = if s = 7 then 1 else 0 := by unfold zw7; rw [b1]
  have w2 : zhn S' V' n = if s = 0 then 2 * zhx v else 0 := by unfold zhn; rw [b1, b2]
  have w3 : zws S' V' Mω Pω B E n = if s = 0 then 4 * zhx v else 0 := by unfold zws; rw [b1, if_neg hs, b2]
  rw [w1, w2, w3, w4]
  unfold zhx
  refine ⟨by omega, ?_, ?_, ?_⟩
  · split <;> omega
  · split
    · split
      · have := ha.2 (by assumption) (by assumption); omega
      · omega
    · omega
  · split
    · split
      · have := hw.2 (by assumption) (by assumption); omega
      · omega
    · omega
theorem zhp_pb {B E B' E' : Nat → Int32} {q r : Int} (h : zPb B E B' E' q) (hr : r ≤ q) : zsm (zhp B' E') r.toNat = zsm (zhp B E) r.toNat := zsm_congr (fun k k1 k2 => by
  obtain ⟨e1, e2⟩ := h k k1 (by omega)
  unfold zhp; rw [e1, e2])
theorem zCn_set {S V L Z F X M P S' V' L' Zω F' X' Mω Pω B E B' E' : Nat → Int32} {d n v l z f m p pω c i i' a a' w w' h : Int} (h0 : 0 ≤ n) (hp0 : 0 ≤ p) (hm : 0 ≤ m) (hc : zCn S V M P B E d n p c i a w) (hF : zFn S V L Z M P n p) (hn : zNew S V L Z F X M P S' V' L' Zω F' X' Mω Pω n 2 v l z f m p) (hb : zPb B E B' E' p) (hp : pω = p + m) (hh : zsm (zhp B' E') pω.toNat ≤ h) (hi : i ≤ i') (ha : 3 * (h - zsm (zhp B E) p.toNat) ≤ a' - a) (hw : 12 + 5 * m + 4 * (h - zsm (zhp B E) p.toNat) ≤ w' - w) : zCn S' V' Mω Pω B' E' d (n + 1) pω c i' a' w' := by
  obtain ⟨cc, b1, b2, b3, b4, b5, b6, b7, b8⟩ := hn
  obtain ⟨g0, g1, g2, g3⟩ := hc
  have e : (n + 1).toNat = n.toNat + 1 := by omega
  have en : ((n.toNat : Nat) : Int) = n := by omega
  have k1 : zsm (zw7 S') n.toNat = zsm (zw7 S) n.toNat := zsm_congr (fun k k1 k2 => by unfold zw7; rw [(cc k k1 (by omega)).1])
  have k2 : zsm (zhn S' V') n.toNat = zsm (zhn S V) n.toNat := zsm_congr (fun k k1 k2 => by unfold zhn; rw [(cc k k1 (by omega)).1, (cc k k1 (by omega)).2.1])
  have k3 : zsm (zws S' V' Mω Pω B' E') n.toNat = zsm (zws S V M P B E) n.toNat := zsm_congr (fun k k1 k2 => by
    obtain ⟨a1, a2, a3, a4, a5, a6, a7, a8⟩ := cc k k1 (by omega)
    unfold zws; rw [a1, a2, a7, a8]
    by_cases q : zg S k = 2
    · rw [if_pos q, if_pos q]
      have z := (hF k k1 (by omega)).2.2.2.2.2.2.2.2.2.2.2 q
      rw [zhp_pb hb (by omega), zhp_pb hb (by omega)]
    · rw [if_neg q, if_neg q])
  have k4 : zsm (zwr S' Mω Pω B' E') n.toNat = zsm (zwr S M P B E) n.toNat := zsm_congr (fun k k1 k2 => by
    obtain ⟨a1, a2, a3, a4, a5, a6, a7, a8⟩ := cc k k1 (by omega)
    unfold zwr; rw [a1, a7, a8]
    by_cases q : zg S k = 2
    · rw [if_pos q, if_pos q]
      have z := (hF k k1 (by omega)).2.2.2.2.2.2.2.2.2.2.2 q
      rw [zhp_pb hb (by omega), zhp_pb hb (by omega)]
    · rw [if_neg q, if_neg q])
  have w4 : zwr S' Mω Pω B' E' n = zsm (zhp B' E') pω.toNat - zsm (zhp B E) p.toNat := by
    unfold zwr; rw [b1, if_pos rfl, b7, b8, zhp_pb hb (Int.le_refl _), hp]
  unfold zCn; rw [e]
  show zsm (zwr S' Mω Pω B' E') n.toNat + zwr S' Mω Pω B' E' n.toNat ≤ zsm (zhp B' E') pω.toNat ∧ 2 * (zsm (zw7 S') n.toNat + zw7 S' n.toNat) + d ≤ i' ∧ 3 * ((zsm (zhn S' V') n.toNat + zhn S' V' n.toNat) + zsm (zhp B' E') pω.toNat) ≤ a' ∧ 12 * (n + 1) + 24 * d + (zsm (zws S' V' Mω Pω B' E') n.toNat + zws S' V' Mω Pω B' E' n.toNat) ≤ w' + 12 * c
  rw [en, k1, k2, k3, k4]
  have w1 : zw7 S' n = 0 := by unfold zw7; rw [b1]; rfl
  have w2 : zhn S' V' n = 0 := by unfold zhn; rw [b1]; rfl
  have w3 : zws S' V' Mω Pω B' E' n = 5 * m + 4 * (zsm (zhp B' E') pω.toNat - zsm (zhp B E) p.toNat) := by
    unfold zws; rw [b1, if_pos rfl, b7, b8, zhp_pb hb (Int.le_refl _), hp]
  rw [w1, w2, w3, w4]
  omega
theorem zPb_rf {B E : Nat → Int32} {q : Int} : zPb B E B E q := fun _ _ _ => ⟨rfl, rfl⟩
theorem zPb_w {B E B1 E1 B2 E2 : Nat → Int32} {i j x y : Int32} {q : Int} (h : zPb B E B1 E1 q) (e1 : B2 = upd B1 i.toNatClampNeg x) (e2 : E2 = upd E1 j.toNatClampNeg y) (hi : 0 ≤ i.toInt ∧ q ≤ i.toInt) (hj : 0 ≤ j.toInt ∧ q ≤ j.toInt) : zPb B E B2 E2 q := by
  subst e1; subst e2
  intro k k0 k1
  obtain ⟨z1, z2⟩ := h k k0 k1
  exact ⟨by rw [zg_ne hi.1 k0 (by omega)]; exact z1, by rw [zg_ne hj.1 k0 (by omega)]; exact z2⟩
theorem zPb_e {B E B1 E1 E2 : Nat → Int32} {j y : Int32} {q : Int} (h : zPb B E B1 E1 q) (e2 : E2 = upd E1 j.toNatClampNeg y) (hj : 0 ≤ j.toInt ∧ q ≤ j.toInt) : zPb B E B1 E2 q := by
  subst e2
  intro k k0 k1
  obtain ⟨z1, z2⟩ := h k k0 k1
  exact ⟨z1, by rw [zg_ne hj.1 k0 (by omega)]; exact z2⟩
theorem zPb_tr {B E B1 E1 B2 E2 : Nat → Int32} {q r : Int} (h : zPb B E B1 E1 q) (h2 : zPb B1 E1 B2 E2 r) (hq : q ≤ r) : zPb B E B2 E2 q := by
  intro k k0 k1
  obtain ⟨z1, z2⟩ := h k k0 k1
  obtain ⟨z3, z4⟩ := h2 k k0 (by omega)
  exact ⟨z3.trans z1, z4.trans z2⟩
theorem zFp_part {B E B' E' : Nat → Int32} {p b e : Int32} (h : zFp B E p.toInt) (h0 : 0 ≤ p.toInt) (e1 : B' = upd B p.toNatClampNeg b) (e2 : E' = upd E p.toNatClampNeg e) (hb : 0 ≤ b.toInt ∧ b.toInt ≤ 65535 ∧ 0 ≤ e.toInt ∧ e.toInt ≤ 65535) : zFp B' E' (p.toInt + 1) := by
  subst e1; subst e2
  intro k k0 k1
  by_cases q : k = p.toInt
  · subst q; rw [zg_eq, zg_eq]; exact hb
  · rw [zg_ne h0 k0 q, zg_ne h0 k0 q]; exact h k k0 (by omega)
theorem zhp_part {B E B' E' : Nat → Int32} {p b e : Int32} (h0 : 0 ≤ p.toInt) (e1 : B' = upd B p.toNatClampNeg b) (e2 : E' = upd E p.toNatClampNeg e) : zsm (zhp B' E') (p.toInt + 1).toNat = zsm (zhp B E) p.toInt.toNat + zhx b.toInt + zhx e.toInt := by
  subst e1; subst e2
  have q : (p.toInt + 1).toNat = p.toInt.toNat + 1 := by omega
  have en : ((p.toInt.toNat : Nat) : Int) = p.toInt := by omega
  rw [q]
  show zsm _ _ + zhp _ _ (p.toInt.toNat : Nat) = _
  rw [en, zsm_congr (g := zhp B E) (fun k k1 k2 => by unfold zhp; rw [zg_ne h0 k1 (by omega), zg_ne h0 k1 (by omega)])]
  unfold zhp; rw [zg_eq, zg_eq]; omega
def zRS (φ : Int) (S V L Z F X M P B E rf rl rm sf sl sm gs gv : Nat → Int32) (d n p c i a w : Int) : Prop := 1 ≤ φ ∨ (zSt S V F X rf rl rm sf sl sm gs gv d n c ∧ zFn S V L Z M P n p ∧ zFp B E p ∧ zCn S V M P B E d n p c i a w)
def zRC (φ : Int) (S V L Z F X M P B E rf rl rm sf sl sm gs gv : Nat → Int32) (d n p c i a w : Int) : Prop := 1 ≤ φ ∨ (zg rm d = 0 ∧ 1 ≤ zg sm d ∧ zSt S V F X rf rl rm sf sl sm gs gv d n c ∧ zFn S V L Z M P n p ∧ zFp B E p ∧ zCn S V M P B E d n p c i a w)
def zRT (φ : Int) (S V L Z F X M P B E rf rl rm sf sl sm gs gv : Nat → Int32) (d t n p c i a w : Int) : Prop := 1 ≤ φ ∨ (zTk S V F X rf rl rm sf sl sm gs gv d t n c ∧ zFn S V L Z M P n p ∧ zFp B E p ∧ zCn S V M P B E d n p c i a w)
def zRP (φ : Int) (S V L Z F X M P B E rf rl rm sf sl sm gs gv : Nat → Int32) (d t n p c i a w : Int) : Prop := 1 ≤ φ ∨ (zPd S V F X rf rl rm sf sl sm gs gv d t n c ∧ zFn S V L Z M P n p ∧ zFp B E p ∧ zCn S V M P B E d n p c i a w)
def zAdj (rm rl rf X rf' X' : Nat → Int32) (d t : Int) : Prop := (zg rm d = 0 → zg rf' d = t ∧ X' = X) ∧ (zg rm d ≠ 0 → zg rf' d = zg rf d ∧ zg X' (zg rl d) = t ∧ ∀ k, k ≠ zg rl d → 0 ≤ k → zg X' k = zg X k) ∧ ∀ i, 0 ≤ i → i ≠ d → zg rf' i = zg rf i
theorem zAdj_a {rm rl rf X rf' : Nat → Int32} {d t x : Int32} (h0 : 0 ≤ d.toInt) (ex : x = rm d.toNatClampNeg) (hx : x.toInt = 0) (e : rf' = upd rf d.toNatClampNeg t) : zAdj rm rl rf X rf' X d.toInt t.toInt := by
  subst e
  have := zg_at ex
  exact ⟨fun _ => ⟨zg_eq, rfl⟩, fun z => by omega, fun i i0 i1 => zg_ne h0 i0 i1⟩
theorem zAdj_b {rm rl rf X X' : Nat → Int32} {d t x y : Int32} (ex : x = rm d.toNatClampNeg) (hx : x.toInt ≠ 0) (ey : y = rl d.toNatClampNeg) (hy : 0 ≤ y.toInt) (e : X' = upd X y.toNatClampNeg t) : zAdj rm rl rf X rf X' d.toInt t.toInt := by
  subst e
  have h1 := zg_at ex
  have h2 := zg_at ey
  exact ⟨fun z => by omega, fun _ => ⟨rfl, by rw [← h2]; exact zg_eq, fun k k1 k0 => zg_ne hy k0 (by omega)⟩, fun _ _ _ => rfl⟩
theorem zRS_add {φ : Int} {S V L Z F X M P B E rf rl rm sf sl sm gs gv X' rf' rl' rm' : Nat → Int32} {d t x y : Int32} {n p c i a w : Int} (u : zRP φ S V L Z F X M P B E rf rl rm sf sl sm gs gv d.toInt t.toInt n p c i a w) (ad : zAdj rm rl rf X rf' X' d.toInt t.toInt) (e1 : rl' = upd rl d.toNatClampNeg t) (ex : x = rm d.toNatClampNeg) (ey : y = x + 1) (e2 : rm' = upd rm d.toNatClampNeg y) (h0 : 0 ≤ d.toInt) (hb : n ≤ 1000) : zRS φ S V L Z F X' M P B E rf' rl' rm' sf sl sm gs gv d.toInt n p c i a w := by
  rcases u with u | ⟨⟨b, cb, u1, u2⟩, u3⟩
  · exact Or.inl u
  · refine Or.inr ⟨?_, u3⟩
    subst e1; subst e2
    have hx := zg_at ex
    have hy : y.toInt = x.toInt + 1 := by
      have q : 0 ≤ zg rm d.toInt ∧ zg rm d.toInt ≤ n := by
        have w1 := u2.1; have w2 := u2.2.2.1
        obtain ⟨a0, _, qL, m0, _, qs, qr⟩ := u1
        have := zRw_le qs; have := zRw_le qr; have := zLo_le qL
        omega
      exact i_add (a := x.toInt) (b := 1) ey rfl rfl (by omega) (by omega)
    obtain ⟨a1, a2, a3⟩ := ad
    exact zSt_add h0 u1 u2 (fun i i0 i1 => ⟨a3 i i0 i1, zg_ne h0 i0 i1, zg_ne h0 i0 i1⟩) (by rw [zg_eq]; omega) zg_eq a1 a2
def zCr (S V L Z F X M P S' V' L' Zω F' X' Mω Pω rf rm : Nat → Int32) (d t n n' : Int) : Prop := (zg rm d = 1 ∧ t = zg rf d ∧ n' = n ∧ S' = S ∧ V' = V ∧ L' = L ∧ Zω = Z ∧ F' = F ∧ X' = X ∧ Mω = M ∧ Pω = P) ∨ (zg rm d ≠ 1 ∧ t = n ∧ n' = n + 1 ∧ zNew S V L Z F X M P S' V' L' Zω F' X' Mω Pω n 5 0 0 0 (zg rf d) (zg rm d) 0)
theorem zCr_a {S V L Z F X M P rf rm : Nat → Int32} {d x y : Int32} {n : Int} (ex : x = rm d.toNatClampNeg) (hx : x.toInt = 1) (ey : y = rf d.toNatClampNeg) : zCr S V L Z F X M P S V L Z F X M P rf rm d.toInt y.toInt n n := by
  have h1 := zg_at ex
  have h2 := zg_at ey
  exact Or.inl ⟨by omega, h2, rfl, rfl, rfl, rfl, rfl, rfl, rfl, rfl, rfl⟩
theorem zCr_b {S V L Z F X M P S' V' L' Zω F' X' Mω Pω F2 M2 rf rm : Nat → Int32} {d x y z i n' : Int32} {n : Int} (h0 : 0 ≤ n) (hi : i.toInt = n) (ex : x = rm d.toNatClampNeg) (hx : x.toInt ≠ 1) (ey : y = rf d.toNatClampNeg) (ez : z = rm d.toNatClampNeg) (u : zNew S V L Z F X M P S' V' L' Zω F' X' Mω Pω n (5 : Int32).toInt (0 : Int32).toInt 0 0 (-1) 0 0) (e1 : F2 = upd F' i.toNatClampNeg y) (e2 : M2 = upd Mω i.toNatClampNeg z) (hn : n'.toInt = n + 1) : zCr S V L Z F X M P S' V' L' Zω F2 X' M2 Pω rf rm d.toInt i.toInt n n'.toInt := by
  have h1 := zg_at ex
  have h2 := zg_at ey
  have h3 := zg_at ez
  refine Or.inr ⟨by omega, hi, hn, ?_⟩
  have q := zNew_M (zNew_F u hi h0 e1) hi h0 e2
  rw [h2, h3] at q; exact q
theorem zRC_close {φ : Int} {S V L Z F X M P B E rf rl rm sf sl sm gs gv S' V' L' Zω F' X1 X2 Mω Pω rf' rl' rm' sf' sl' sm' : Nat → Int32} {d t x y n n' : Int32} {p c i a w : Int} (u : zRS φ S V L Z F X M P B E rf rl rm sf sl sm gs gv d.toInt n.toInt p c i a w) (cr : zCr S V L Z F X M P S' V' L' Zω F' X1 Mω Pω rf rm d.toInt t.toInt n.toInt n'.toInt) (ad : zAdj sm sl sf X1 sf' X2 d.toInt t.toInt) (e1 : sl' = upd sl d.toNatClampNeg t) (ex : x = sm d.toNatClampNeg) (ey : y = x + 1) (e2 : sm' = upd sm d.toNatClampNeg y) (e3 : rf' = upd rf d.toNatClampNeg (-1)) (e4 : rl' = upd rl d.toNatClampNeg (-1)) (e5 : rm' = upd rm d.toNatClampNeg 0) (h0 : 0 ≤ d.toInt) (hb : n.toInt ≤ 1000) : zRC φ S' V' L' Zω F' X2 Mω Pω B E rf' rl' rm' sf' sl' sm' gs gv d.toInt n'.toInt p c i a (w + 12) := by
  rcases u with u | ⟨u1, u2, u3, u4⟩
  · exact Or.inl u
  · have qn := (zSt_le u1).1
    subst e1; subst e2; subst e3; subst e4; subst e5
    have hx := zg_at ex
    obtain ⟨a1, a2, a3⟩ := ad
    have hs0 : 0 ≤ zg sm d.toInt ∧ zg sm d.toInt ≤ n.toInt := by
      obtain ⟨_, _, qL, _, _, q1, q2⟩ := u1
      have := zRw_le q1; have := zRw_le q2; have := zLo_le qL
      omega
    have hy : y.toInt = x.toInt + 1 := i_add (a := x.toInt) (b := 1) ey rfl rfl (by omega) (by omega)
    refine Or.inr ⟨by rw [zg_eq]; rfl, by rw [zg_eq]; omega, ?_, ?_, u3, ?_⟩
    · refine zSt_close (X1 := X1) (t := t.toInt) h0 u1 ?_ a1 a2 zg_eq (by rw [zg_eq]; omega) (by rw [zg_eq]; rfl) (by rw [zg_eq]; rfl) (fun i i0 i1 => ⟨zg_ne h0 i0 i1, zg_ne h0 i0 i1, zg_ne h0 i0 i1, a3 i i0 i1, zg_ne h0 i0 i1, zg_ne h0 i0 i1⟩)
      rcases cr with ⟨r1, r2, r3, r4, r5, r6, r7, r8, r9, _, _⟩ | ⟨r1, r2, r3, r4⟩
      · exact Or.inl ⟨r1, r2, r3, r4, r5, r8, r9⟩
      · exact Or.inr ⟨r1, r2, r3, r4.2.1, r4.2.2.2.2.2.1, r4.2.2.2.2.2.2.1, zNew_c r4⟩
    · rcases cr with ⟨r1, r2, r3, r4, r5, r6, r7, r8, r9, r10, r11⟩ | ⟨r1, r2, r3, r4⟩
      · rw [r3, r4, r5, r6, r7, r10, r11]; exact u2
      · rw [r3]; exact zFn_new u2 r4 (Int.le_refl _) (by unfold zNok; omega)
    · rcases cr with ⟨r1, r2, r3, r4, r5, r6, r7, r8, r9, r10, r11⟩ | ⟨r1, r2, r3, r4⟩
      · rw [r3, r4, r5, r10, r11]; obtain ⟨u9, u5, u6, u7⟩ := u4; exact ⟨u9, u5, u6, by omega⟩
      · rw [r3]; exact zCn_new (d' := d.toInt) (i' := i) (a' := a) (w' := w + 12) qn u4 r4 (by omega) (by omega) (by omega) (by omega)
theorem zRC_S {φ : Int} {S V L Z F X M P B E rf rl rm sf sl sm gs gv : Nat → Int32} {d n p c i a w : Int} (u : zRC φ S V L Z F X M P B E rf rl rm sf sl sm gs gv d n p c i a w) : zRS φ S V L Z F X M P B E rf rl rm sf sl sm gs gv d n p c i a w := by
  rcases u with u | ⟨_, _, u⟩
  · exact Or.inl u
  · exact Or.inr u
theorem zRT_a {φ : Int} {S V L Z F X M P B E rf rl rm sf sl sm gs gv : Nat → Int32} {d x y : Int32} {n p c i a w : Int} (u : zRC φ S V L Z F X M P B E rf rl rm sf sl sm gs gv d.toInt n p c i a w) (ex : x = sm d.toNatClampNeg) (ey : y = sf d.toNatClampNeg) (h0 : 0 ≤ d.toInt) (hx : x.toInt = 1) : zRT φ S V L Z F X M P B E rf rl rm sf sl sm gs gv d.toInt y.toInt n p c i a (w + 12) := by
  rcases u with u | ⟨v1, v2, u1, u2⟩
  · exact Or.inl u
  · have h1 := zg_at ex
    have h2 := zg_at ey
    obtain ⟨u2, u3, u9, u5, u6, u7⟩ := u2
    exact Or.inr ⟨zSt_fin h0 u1 v1 v2 (Or.inl ⟨by omega, h2, rfl, rfl, rfl, rfl, rfl⟩), u2, u3, u9, u5, u6, by omega⟩
theorem zRT_b {φ : Int} {S V L Z F X M P B E rf rl rm sf sl sm gs gv S' V' L' Zω F' X' Mω Pω F2 M2 : Nat → Int32} {d x y z n n' j : Int32} {p c i a w : Int} (u : zRC φ S V L Z F X M P B E rf rl rm sf sl sm gs gv d.toInt n.toInt p c i a w) (v : zNew S V L Z F X M P S' V' L' Zω F' X' Mω Pω n.toInt (6 : Int32).toInt (0 : Int32).toInt 0 0 (-1) 0 0) (ex : x = sm d.toNatClampNeg) (ey : y = sf d.toNatClampNeg) (e1 : F2 = upd F' j.toNatClampNeg y) (e2 : M2 = upd Mω j.toNatClampNeg z) (h0 : 0 ≤ d.toInt) (hn0 : 0 ≤ n.toInt) (hj : j.toInt = n.toInt) (hx : x.toInt ≠ 1) (hn : n'.toInt = n.toInt + 1) : zRT φ S' V' L' Zω F2 X' M2 Pω B E rf rl rm sf sl sm gs gv d.toInt j.toInt n'.toInt p c i a (w + 12) := by
  have q := zNew_M (zNew_F v hj hn0 e1) hj hn0 e2
  have e6 : (6 : Int32).toInt = 6 := rfl
  have e0 : (0 : Int32).toInt = 0 := rfl
  rw [e6, e0] at q
  rcases u with u | ⟨v1, v2, u1, u2, u3, u4⟩
  · exact Or.inl u
  · have h1 := zg_at ex
    have h2 := zg_at ey
    refine Or.inr ⟨zSt_fin h0 u1 v1 v2 (Or.inr ⟨by omega, hj, hn, q.2.1, ?_, q.2.2.2.2.2.2.1, zNew_c q⟩), ?_, u3, ?_⟩
    · rw [q.2.2.2.2.2.1]; exact h2
    · rw [hn]; exact zFn_new u2 q (Int.le_refl _) (by unfold zNok; omega)
    · rw [hn]; exact zCn_new (d' := d.toInt) (i' := i) (a' := a) (w' := w + 12) hn0 u4 q (by omega) (by omega) (by omega) (by omega)
theorem zNew_hold {S V L Z F X M P S' V' L' Zω F' X' Mω Pω F2 M2 : Nat → Int32} {n : Int} {s v f i : Int32} (h0 : 0 ≤ n) (hi : i.toInt = n) (u : zNew S V L Z F X M P S' V' L' Zω F' X' Mω Pω n s.toInt v.toInt 0 0 (-1) 0 0) (e1 : F2 = upd F' i.toNatClampNeg f) (e2 : M2 = upd Mω i.toNatClampNeg 1) : zNew S V L Z F X M P S' V' L' Zω F2 X' M2 Pω n s.toInt v.toInt 0 0 f.toInt 1 0 :=
  zNew_M (zNew_F u hi h0 e1) hi h0 e2
theorem zRP_loop {φ φω : Int} {S V L Z F X M P B E rf rl rm sf sl sm gs gv S' V' L' Zω F' X' Mω Pω L2 Z2 : Nat → Int32} {n v x y n' j : Int32} {d t p c i i' a a' w w' : Int} (u : zRP φ S V L Z F X M P B E rf rl rm sf sl sm gs gv d t n.toInt p c i a w) (ww : zNew S V L Z F X M P S' V' L' Zω F' X' Mω Pω n.toInt (7 : Int32).toInt v.toInt 0 0 t 1 0) (e1 : L2 = upd L' j.toNatClampNeg x) (e2 : Z2 = upd Zω j.toNatClampNeg y) (hn0 : 0 ≤ n.toInt) (hj : j.toInt = n.toInt) (hφ : φ ≤ φω) (hk : 1 ≤ φω ∨ (0 ≤ v.toInt ∧ v.toInt ≤ 2 ∧ 0 ≤ x.toInt ∧ x.toInt ≤ 20 ∧ -1 ≤ y.toInt ∧ y.toInt ≤ 20 ∧ (y.toInt = -1 ∨ x.toInt ≤ y.toInt))) (hi : i + 2 ≤ i') (ha : a ≤ a') (hn : n'.toInt = n.toInt + 1) (hw : w + 12 ≤ w') : zRP φω S' V' L2 Z2 F' X' Mω Pω B E rf rl rm sf sl sm gs gv d j.toInt n'.toInt p c i' a' w' := by
  rcases hk with hk | hk
  · exact Or.inl hk
  · rcases u with u | ⟨u1, u2, u3, u4⟩
    · exact Or.inl (by omega)
    · have q := zNew_Z (zNew_L ww hj hn0 e1) hj hn0 e2
      have e7 : (7 : Int32).toInt = 7 := rfl
      rw [e7] at q
      refine Or.inr ⟨?_, ?_, u3, ?_⟩
      · rw [hn]; exact zPd_wrap u1 hj (zNew_c q) (by rw [q.2.1]; omega) (by rw [q.2.1]; omega) q.2.2.2.2.2.1 q.2.2.2.2.2.2.1
      · rw [hn]; exact zFn_new u2 q (Int.le_refl _) (by unfold zNok; omega)
      · rw [hn]; exact zCn_new (d' := d) hn0 u4 q (by omega) (by omega) (by omega) (by omega)
theorem zRP_mono {φ φω : Int} {S V L Z F X M P B E rf rl rm sf sl sm gs gv : Nat → Int32} {d t n p c i i' a a' w w' : Int} (u : zRP φ S V L Z F X M P B E rf rl rm sf sl sm gs gv d t n p c i a w) (hφ : 1 ≤ φ → 1 ≤ φω) (hi : i ≤ i') (ha : a ≤ a') (hw : w ≤ w') : zRP φω S V L Z F X M P B E rf rl rm sf sl sm gs gv d t n p c i' a' w' := by
  rcases u with u | ⟨u1, u2, u3, u9, u4, u5, u6⟩
  · exact Or.inl (hφ u)
  · exact Or.inr ⟨u1, u2, u3, u9, by omega, by omega, by omega⟩
theorem zRS_mono {φ φω : Int} {S V L Z F X M P B E rf rl rm sf sl sm gs gv : Nat → Int32} {d n p c i i' a a' w w' : Int} (u : zRS φ S V L Z F X M P B E rf rl rm sf sl sm gs gv d n p c i a w) (hφ : 1 ≤ φ → 1 ≤ φω) (hi : i ≤ i') (ha : a ≤ a') (hw : w ≤ w') : zRS φω S V L Z F X M P B E rf rl rm sf sl sm gs gv d n p c i' a' w' := by
  rcases u with u | ⟨u1, u2, u3, u9, u4, u5, u6⟩
  · exact Or.inl (hφ u)
  · exact Or.inr ⟨u1, u2, u3, u9, by omega, by omega, by omega⟩
theorem zRP_leaf {φ φω : Int} {S V L Z F X M P B E rf rl rm sf sl sm gs gv S' V' L' Zω F' X' Mω Pω : Nat → Int32} {n s v n' j : Int32} {d p c i i' a a' w w' : Int} (u : zRS φ S V L Z F X M P B E rf rl rm sf sl sm gs gv d n.toInt p c i a w) (ww : zNew S V L Z F X M P S' V' L' Zω F' X' Mω Pω n.toInt s.toInt v.toInt 0 0 (-1) 0 0) (hn0 : 0 ≤ n.toInt) (hj : j.toInt = n.toInt) (hφ : φ ≤ φω) (hk : 1 ≤ φω ∨ (0 ≤ s.toInt ∧ s.toInt ≤ 4 ∧ s.toInt ≠ 2 ∧ 0 ≤ v.toInt ∧ v.toInt ≤ 65535 ∧ (s.toInt ≠ 0 → v.toInt ≤ 9) ∧ (s.toInt = 4 → 1 ≤ v.toInt) ∧ (s.toInt = 0 → (v.toInt < 32 ∨ 126 < v.toInt) → a + 6 ≤ a' ∧ w + 16 ≤ w'))) (hi : i ≤ i') (ha : a ≤ a') (hn : n'.toInt = n.toInt + 1) (hw : w + 12 ≤ w') : zRP φω S' V' L' Zω F' X' Mω Pω B E rf rl rm sf sl sm gs gv d j.toInt n'.toInt p c i' a' w' := by
  rcases hk with hk | hk
  · exact Or.inl hk
  · rcases u with u | ⟨u1, u2, u3, u4⟩
    · exact Or.inl (by omega)
    · refine Or.inr ⟨?_, ?_, u3, ?_⟩
      · rw [hn]; exact zPd_leaf u1 hj (zNew_c ww) (by rw [ww.2.1]; omega) ww.2.2.2.2.2.1 ww.2.2.2.2.2.2.1
      · rw [hn]; exact zFn_new u2 ww (Int.le_refl _) (by unfold zNok; omega)
      · rw [hn]; exact zCn_new (d' := d) hn0 u4 ww (by omega) (by omega) ⟨ha, fun z1 z2 => (hk.2.2.2.2.2.2.2 z1 z2).1⟩ ⟨by omega, fun z1 z2 => by have := (hk.2.2.2.2.2.2.2 z1 z2).2; omega⟩
def zPs (φ : Int) (B E : Nat → Int32) (p h : Int) : Prop := 1 ≤ φ ∨ (zFp B E p ∧ zsm (zhp B E) p.toNat ≤ h)
theorem zRP_set {φ φω : Int} {S V L Z F X M P B E B' E' rf rl rm sf sl sm gs gv S' V' L' Zω F' X' Mω Pω : Nat → Int32} {n v n' j : Int32} {m d p pω c i i' a a' w w' h : Int} (u : zRS φ S V L Z F X M P B E rf rl rm sf sl sm gs gv d n.toInt p c i a w) (hP : zPs φω B' E' pω h) (hb : zPb B E B' E' p) (ww : zNew S V L Z F X M P S' V' L' Zω F' X' Mω Pω n.toInt (2 : Int32).toInt v.toInt 0 0 (-1) m p) (hv : 0 ≤ v.toInt ∧ v.toInt ≤ 1) (hn0 : 0 ≤ n.toInt) (hj : j.toInt = n.toInt) (hφ : φ ≤ φω) (hq : 0 ≤ p ∧ 0 ≤ m ∧ pω = p + m) (hi : i ≤ i') (ha : 1 ≤ φω ∨ 3 * (h - zsm (zhp B E) p.toNat) ≤ a' - a) (hn : n'.toInt = n.toInt + 1) (hw : 1 ≤ φω ∨ 12 + 5 * m + 4 * (h - zsm (zhp B E) p.toNat) ≤ w' - w) : zRP φω S' V' L' Zω F' X' Mω Pω B' E' rf rl rm sf sl sm gs gv d j.toInt n'.toInt pω c i' a' w' := by
  have e2 : (2 : Int32).toInt = 2 := rfl
  rw [e2] at ww
  rcases hP with hP | ⟨p1, p2⟩
  · exact Or.inl hP
  · rcases u with u | ⟨u1, u2, u3, u4⟩
    · exact Or.inl (by omega)
    · rcases ha with ha | ha
      · exact Or.inl ha
      · rcases hw with hw | hw
        · exact Or.inl hw
        · refine Or.inr ⟨?_, ?_, p1, ?_⟩
          · rw [hn]; exact zPd_leaf u1 hj (zNew_c ww) (by rw [ww.2.1]; omega) ww.2.2.2.2.2.1 ww.2.2.2.2.2.2.1
          · rw [hn]; exact zFn_new u2 ww (by omega) (by unfold zNok; omega)
          · rw [hn]; exact zCn_set hn0 hq.1 hq.2.1 u4 u2 ww hb hq.2.2 p2 hi ha hw
theorem zRP_close {φ φω : Int} {S V L Z F X M P B E rf rl rm sf sl sm gs gv S' V' L' Zω F' X' Mω Pω : Nat → Int32} {n n' d s v j : Int32} {t p c i a w : Int} (u : zRT φ S V L Z F X M P B E rf rl rm sf sl sm gs gv d.toInt t n.toInt p c i a w) (es : s = gs d.toNatClampNeg) (ev : v = gv d.toNatClampNeg) (ww : zNew S V L Z F X M P S' V' L' Zω F' X' Mω Pω n.toInt s.toInt v.toInt 0 0 t 1 0) (hn0 : 0 ≤ n.toInt) (hj : j.toInt = n.toInt) (hd : 1 ≤ d.toInt) (hφ : φ ≤ φω) (h5 : s.toInt ≠ 5) (hc : 1 ≤ φω ∨ c ≤ 9) (hn : n'.toInt = n.toInt + 1) : zRP φω S' V' L' Zω F' X' Mω Pω B E rf rl rm sf sl sm gs gv (d.toInt - 1) j.toInt n'.toInt p c (i - 1) a (w - 12) := by
  rcases hc with hc | hc
  · exact Or.inl hc
  · rcases u with u | ⟨u1, u2, u3, u4⟩
    · exact Or.inl (by omega)
    · have h1 := zg_at es
      have h2 := zg_at ev
      have hk : zGk gs gv d.toInt ∧ (zg gs d.toInt = 8 → 1 ≤ zg gv d.toInt ∧ zg gv d.toInt ≤ c) := by
        obtain ⟨a0, ca, hL, hO⟩ := u1
        have qO : ca ≤ c := by obtain ⟨k, hk⟩ := hO.2.2.2.2; exact (zCh_le hk).2.1
        have e : d.toInt.toNat = (d.toInt - 1).toNat + 1 := by omega
        rw [e] at hL
        obtain ⟨a1, c0, cm, k1, k2, k3, k4, k5⟩ := hL
        have eω : (((d.toInt - 1).toNat + 1 : Nat) : Int) = d.toInt := by omega
        rw [eω] at k3 k5
        have := zLo_le k1; have := zFr_le k2
        exact ⟨k5, fun z => by have := k3 z; omega⟩
      obtain ⟨⟨g1, g2, g3⟩, g4⟩ := hk
      refine Or.inr ⟨?_, ?_, u3, ?_⟩
      · refine zTk_close hd u1 (Or.inr ⟨by omega, hj, hn, by rw [ww.2.1]; omega, by rw [ww.2.2.1]; omega, ww.2.2.2.2.2.1, ww.2.2.2.2.2.2.1, zNew_c ww⟩)
      · rw [hn]; refine zFn_new u2 ww (Int.le_refl _) ?_
        rw [h1, h2]; unfold zNok
        by_cases e8 : zg gs d.toInt = 8
        · have := g4 e8; omega
        · have := g3 e8; omega
      · rw [hn]; exact zCn_new (d' := d.toInt - 1) (i' := i - 1) (a' := a) (w' := w - 12) hn0 u4 ww (by rw [h1]; omega) (by rw [h1]; omega) (by rw [h1]; omega) (by rw [h1]; omega)
theorem zRP_close0 {φ φω : Int} {S V L Z F X M P B E rf rl rm sf sl sm gs gv : Nat → Int32} {d s : Int32} {t n p c i a w : Int} (u : zRT φ S V L Z F X M P B E rf rl rm sf sl sm gs gv d.toInt t n p c i a w) (es : s = gs d.toNatClampNeg) (hd : 1 ≤ d.toInt) (hφ : φ ≤ φω) (h5 : s.toInt = 5) : zRP φω S V L Z F X M P B E rf rl rm sf sl sm gs gv (d.toInt - 1) t n p c (i - 1) a (w - 12) := by
  rcases u with u | ⟨u1, u2, u3, u9, u4, u5, u6⟩
  · exact Or.inl (by omega)
  · have h1 := zg_at es
    exact Or.inr ⟨zTk_close hd u1 (Or.inl ⟨by omega, rfl, rfl, rfl, rfl, rfl, rfl⟩), u2, u3, u9, by omega, u5, by omega⟩
theorem zRS_open {φ φω : Int} {S V L Z F X M P B E rf rl rm sf sl sm gs gv rf' rl' rm' sf' sl' sm' gs' gv' : Nat → Int32} {d s v : Int32} {d0 n p c c' i i' a a' w w' : Int} (u : zRS φ S V L Z F X M P B E rf rl rm sf sl sm gs gv d0 n p c i a w) (e1 : gs' = upd gs d.toNatClampNeg s) (e2 : gv' = upd gv d.toNatClampNeg v) (e3 : rf' = upd rf d.toNatClampNeg (-1)) (e4 : rl' = upd rl d.toNatClampNeg (-1)) (e5 : rm' = upd rm d.toNatClampNeg 0) (e6 : sf' = upd sf d.toNatClampNeg (-1)) (e7 : sl' = upd sl d.toNatClampNeg (-1)) (e8 : sm' = upd sm d.toNatClampNeg 0) (hd0 : d0 = d.toInt - 1) (hd : 1 ≤ d.toInt) (hφ : φ ≤ φω) (hk : (s.toInt = 5 ∨ (8 ≤ s.toInt ∧ s.toInt ≤ 11)) ∧ 0 ≤ v.toInt ∧ (s.toInt ≠ 8 → v.toInt ≤ 9 ∧ c' = c) ∧ (s.toInt = 8 → v.toInt = c + 1 ∧ c' = c + 1)) (hi : i + 1 ≤ i') (ha : a ≤ a') (hw : w + 24 + 12 * c ≤ w' + 12 * c') : zRS φω S V L Z F X M P B E rf' rl' rm' sf' sl' sm' gs' gv' d.toInt n p c' i' a' w' := by
  subst hd0
  rcases u with u | ⟨u1, u2, u3, u9, u4, u5, u6⟩
  · exact Or.inl (by omega)
  · refine Or.inr ⟨?_, u2, u3, u9, by omega, by omega, by omega⟩
    subst e1; subst e2; subst e3; subst e4; subst e5; subst e6; subst e7; subst e8
    have h0 : 0 ≤ d.toInt := by omega
    have ed : d.toInt - 1 + 1 = d.toInt := by omega
    have q := zSt_open (d := d.toInt - 1) (rf' := upd rf d.toNatClampNeg (-1)) (rl' := upd rl d.toNatClampNeg (-1)) (rm' := upd rm d.toNatClampNeg 0) (sf' := upd sf d.toNatClampNeg (-1)) (sl' := upd sl d.toNatClampNeg (-1)) (sm' := upd sm d.toNatClampNeg 0) (gs' := upd gs d.toNatClampNeg s) (gv' := upd gv d.toNatClampNeg v) (c' := c') (by omega) u1
    rw [ed] at q
    refine q (fun i i0 i1 => ⟨zg_ne h0 i0 i1, zg_ne h0 i0 i1, zg_ne h0 i0 i1, zg_ne h0 i0 i1, zg_ne h0 i0 i1, zg_ne h0 i0 i1, zg_ne h0 i0 i1, zg_ne h0 i0 i1⟩) ?_ ?_ ?_ ?_ ?_ ?_ ?_
    · rw [zg_eq]; rfl
    · rw [zg_eq]; rfl
    · rw [zg_eq]; rfl
    · rw [zg_eq]; rfl
    · unfold zGk; rw [zg_eq, zg_eq]; exact ⟨hk.1, hk.2.1, fun z => (hk.2.2.1 z).1⟩
    · rw [zg_eq, zg_eq]; exact hk.2.2.2
    · rw [zg_eq]; exact fun z => (hk.2.2.1 z).2
theorem zRS_init {φ : Int} {S V L Z F X M P B E rf rl rm sf sl sm gs gv rf' rl' rm' sf' sl' sm' gs' gv' : Nat → Int32} {s v : Int32} 
    (e1 : gs' = upd gs (0 : Int32).toNatClampNeg s) (e2 : gv' = upd gv (0 : Int32).toNatClampNeg v) (e3 : rf' = upd rf (0 : Int32).toNatClampNeg (-1)) (e4 : rl' = upd rl (0 : Int32).toNatClampNeg (-1)) (e5 : rm' = upd rm (0 : Int32).toNatClampNeg 0) (e6 : sf' = upd sf (0 : Int32).toNatClampNeg (-1)) (e7 : sl' = upd sl (0 : Int32).toNatClampNeg (-1)) (e8 : sm' = upd sm (0 : Int32).toNatClampNeg 0) : zRS φ S V L Z F X M P B E rf' rl' rm' sf' sl' sm' gs' gv' 0 0 0 0 0 0 0 := by
  subst e1; subst e2; subst e3; subst e4; subst e5; subst e6; subst e7; subst e8
  refine Or.inr ⟨⟨0, 0, ⟨rfl, rfl⟩, 0, 0, Or.inl ⟨zg_eq (i := 0), zg_eq (i := 0), rfl, rfl⟩, Or.inl ⟨zg_eq (i := 0), zg_eq (i := 0), rfl, rfl⟩⟩, fun t t0 t1 => by omega, fun t t0 t1 => by omega, Int.le_refl _, ?_, ?_, ?_⟩
  · show 2 * 0 + 0 ≤ _; omega
  · show (3 : Int) * (0 + 0) ≤ 0; omega
  · show (12 : Int) * 0 + 24 * 0 + 0 ≤ 0 + 12 * 0; omega
def zHk (φ k v : Int) : Prop := 1 ≤ φ ∨ (0 ≤ v ∧ ((k = 0 ∧ v < 1) ∨ (k = 1 ∧ v < 16) ∨ (k = 2 ∧ v < 256) ∨ (k = 3 ∧ v < 4096) ∨ (k = 4 ∧ v < 65536)))
def zHc (φ c : Int) : Prop := 1 ≤ φ ∨ (48 ≤ c ∧ c ≤ 57) ∨ (97 ≤ c ∧ c ≤ 102)
def zHd (φ d : Int) : Prop := 1 ≤ φ ∨ (0 ≤ d ∧ d ≤ 15)
theorem zHk_0 {φ : Int} : zHk φ (0 : Int32).toInt (0 : Int32).toInt := Or.inr ⟨by decide, Or.inl ⟨rfl, by decide⟩⟩
theorem zHc_a {φ : Int} {r c : Int32} (h1 : (r.toInt = 0) ∨ (48 ≤ c.toInt)) (h2 : (r.toInt = 0) ∨ (c.toInt ≤ 102)) (h3 : (r.toInt = 0) ∨ (c.toInt ≤ 57) ∨ (97 ≤ c.toInt)) (h : r.toInt ≠ 0) : zHc φ c.toInt := by unfold zHc; omega
theorem zHk_m {φ φω k v : Int} (h : zHk φ k v) (hφ : φ ≤ φω) (_h4 : k < 4) : zHk φω k v := by unfold zHk at *; omega
theorem zHd_a {φ : Int} {r c d : Int32} (h : zHc φ c.toInt) (h1 : (r.toInt = 0) ∨ (48 ≤ c.toInt)) (h2 : (r.toInt = 0) ∨ (c.toInt ≤ 57)) (h0 : r.toInt ≠ 0) (e : d.toInt = c.toInt - 48) : zHd φ d.toInt := by unfold zHc at h; unfold zHd; omega
theorem zHd_b {φ : Int} {r c d : Int32} (h : zHc φ c.toInt) (h1 : (r.toInt = 1) ∨ (c.toInt ≤ 47) ∨ (58 ≤ c.toInt)) (h0 : r.toInt = 0) (e : d.toInt = c.toInt - 87) : zHd φ d.toInt := by unfold zHc at h; unfold zHd; omega
theorem zHk_s {φ : Int} {k kω v d x y : Int32} (h : zHk φ k.toInt v.toInt) (hd : zHd φ d.toInt) (e1 : x = (16 : Int32) * v) (e2 : y = x + d) (hk : k.toInt < 4) (hkω : kω.toInt = k.toInt + 1) : zHk φ kω.toInt y.toInt := by
  rcases h with h | h
  · exact Or.inl h
  · rcases hd with hd | hd
    · exact Or.inl hd
    · have a1 := i_mul (a := 16) (b := v.toInt) e1 rfl rfl (by omega) (by omega)
      have a2 := i_add (a := x.toInt) (b := d.toInt) e2 rfl rfl (by omega) (by omega)
      unfold zHk; omega
theorem zHk_e {φ k v : Int} (h : zHk φ k v) (_hk : 4 ≤ k) : 1 ≤ φ ∨ (0 ≤ v ∧ v ≤ 65535) := by unfold zHk at h; omega
def zMb (φ p e v : Int) : Prop := 1 ≤ φ ∨ (0 ≤ v ∧ v ≤ 65535 ∧ (e = p + 6 ∨ (32 ≤ v ∧ v ≤ 126)))
theorem zMb_h {φ p e v : Int} (h : 1 ≤ φ ∨ (0 ≤ v ∧ v ≤ 65535)) (he : e = p + 6) : zMb φ p e v := by unfold zMb; omega
theorem zMb_c {φ p e : Int} {v : Int32} (h : (v.toInt = -1) ∨ (32 ≤ v.toInt)) (h2 : v.toInt ≤ 126) (hv : v.toInt ≠ -1) : zMb φ p e v.toInt := by unfold zMb; omega
def zPh (φ : Int) (B E : Nat → Int32) (p h b e j : Int) : Prop := 1 ≤ φ ∨ (zFp B E p ∧ (0 ≤ b ∧ b ≤ 65535 ∧ 0 ≤ e ∧ e ≤ 65535) ∧ zsm (zhp B E) p.toNat + zhx b + zhx e - zhp B E j ≤ h)
def zPj (φ : Int) (B E : Nat → Int32) (n k p h : Int) : Prop := 1 ≤ φ ∨ (zFp B E p ∧ zsm (zhp B E) n.toNat + zsm (zhp B E) p.toNat - zsm (zhp B E) k.toNat ≤ h)
theorem zhp_nn (B E : Nat → Int32) (k : Int) : 0 ≤ zhp B E k := by unfold zhp; have := zhx_nn (zg B k); have := zhx_nn (zg E k); omega
theorem zPh_in {φ p h : Int} {B E : Nat → Int32} {k b e : Int32} (u : zPs φ B E p h) (eb : b = B k.toNatClampNeg) (ee : e = E k.toNatClampNeg) (h0 : 0 ≤ k.toInt) (h1 : k.toInt < p) : zPh φ B E p h b.toInt e.toInt k.toInt := by
  rcases u with u | ⟨u1, u2⟩
  · exact Or.inl u
  · have q1 := zg_at eb
    have q2 := zg_at ee
    refine Or.inr ⟨u1, by rw [q1, q2]; exact u1 _ h0 h1, ?_⟩
    unfold zhp at *; rw [← q1, ← q2]; omega
theorem zsm_upd2 {f g : Int → Int} {j p : Int} (h0 : 0 ≤ j) (h1 : j < p) (h : ∀ k : Int, 0 ≤ k → k ≠ j → f k = g k) : zsm f p.toNat = zsm g p.toNat + f j - g j := zsm_upd h0 (by omega) (fun k k1 _ k3 => h k k1 k3)
theorem zhp_ne {B E : Nat → Int32} {j b e : Int32} {k : Int} (h0 : 0 ≤ j.toInt) (hk : 0 ≤ k) (h : k ≠ j.toInt) : zhp (upd B j.toNatClampNeg b) (upd E j.toNatClampNeg e) k = zhp B E k := by
  unfold zhp; rw [zg_ne h0 hk h, zg_ne h0 hk h]
theorem zhp_eq {B E : Nat → Int32} {j b e : Int32} : zhp (upd B j.toNatClampNeg b) (upd E j.toNatClampNeg e) j.toInt = zhx b.toInt + zhx e.toInt := by
  unfold zhp; rw [zg_eq, zg_eq]
theorem zPh_st {φ p h b e : Int} {B E B' E' : Nat → Int32} {j jω i i2 x y : Int32} (u : zPh φ B E p h b e j.toInt) (e1 : B' = upd B j.toNatClampNeg x) (e2 : E' = upd E j.toNatClampNeg y) (eb : x = B i.toNatClampNeg) (ee : y = E i2.toNatClampNeg) (hi : i.toInt = j.toInt - 1) (hi2 : i2.toInt = j.toInt - 1) (hj' : jω.toInt = j.toInt - 1) (h0 : 1 ≤ j.toInt) (h1 : j.toInt < p) : zPh φ B' E' p h b e jω.toInt := by
  rcases u with u | ⟨u1, u2, u3⟩
  · exact Or.inl u
  · have q1 := zg_at eb
    have q2 := zg_at ee
    rw [hi] at q1; rw [hi2] at q2
    have hk := u1 (j.toInt - 1) (by omega) (by omega)
    subst e1; subst e2
    have hj0 : 0 ≤ j.toInt := by omega
    refine Or.inr ⟨fun k k0 k1 => ?_, u2, ?_⟩
    · by_cases q : k = j.toInt
      · subst q; rw [zg_eq, zg_eq, q1, q2]; exact hk
      · rw [zg_ne hj0 k0 q, zg_ne hj0 k0 q]; exact u1 k k0 k1
    · rw [zsm_upd2 (g := zhp B E) hj0 h1 (fun k k0 k1 => zhp_ne hj0 k0 k1), zhp_eq, hj', zhp_ne hj0 (by omega) (by omega), q1, q2]
      unfold zhp at u3 ⊢; omega
theorem zPh_out {φ p h : Int} {B E B' E' : Nat → Int32} {j b e : Int32} (u : zPh φ B E p h b.toInt e.toInt j.toInt) (e1 : B' = upd B j.toNatClampNeg b) (e2 : E' = upd E j.toNatClampNeg e) (h0 : 0 ≤ j.toInt) (h1 : j.toInt < p) : zPs φ B' E' p h := by
  rcases u with u | ⟨u1, u2, u3⟩
  · exact Or.inl u
  · subst e1; subst e2
    refine Or.inr ⟨fun k k0 k1 => ?_, ?_⟩
    · by_cases q : k = j.toInt
      · subst q; rw [zg_eq, zg_eq]; exact u2
      · rw [zg_ne h0 k0 q, zg_ne h0 k0 q]; exact u1 k k0 k1
    · rw [zsm_upd2 (g := zhp B E) h0 h1 (fun k k0 k1 => zhp_ne h0 k0 k1), zhp_eq]; omega
theorem zPj_in {φ p h : Int} {B E : Nat → Int32} {k : Int} (u : zPs φ B E p h) : zPj φ B E k k p h := by
  rcases u with u | ⟨u1, u2⟩
  · exact Or.inl u
  · exact Or.inr ⟨u1, by omega⟩
theorem zPj_out {φ p h n k : Int} {B E : Nat → Int32} (u : zPj φ B E n k p h) (hk : k = p) (hn : n ≤ p) : zPs φ B E n h := by
  rcases u with u | ⟨u1, u2⟩
  · exact Or.inl u
  · subst hk; exact Or.inr ⟨fun j j0 j1 => u1 j j0 (by omega), by omega⟩
theorem zPj_m {φ p h : Int} {B E E' : Nat → Int32} {n k i x : Int32} {kω : Int} (u : zPj φ B E n.toInt k.toInt p h) (hx : x.toInt = zg E k.toInt ∨ x.toInt = zg E i.toInt) (e1 : E' = upd E i.toNatClampNeg x) (hi : i.toInt = n.toInt - 1) (hn : 1 ≤ n.toInt) (hnk : n.toInt ≤ k.toInt) (hk : k.toInt < p) (hkω : kω = k.toInt + 1) : zPj φ B E' n.toInt kω p h := by
  rcases u with u | ⟨u1, u2⟩
  · exact Or.inl u
  · subst e1
    have hi0 : 0 ≤ i.toInt := by omega
    have kk := u1 k.toInt (by omega) hk
    have ki := u1 i.toInt hi0 (by omega)
    have ne : ∀ q : Int, 0 ≤ q → q ≠ i.toInt → zhp B (upd E i.toNatClampNeg x) q = zhp B E q := fun q q0 q1 => by unfold zhp; rw [zg_ne hi0 q0 q1]
    refine Or.inr ⟨fun q q0 q1 => ?_, ?_⟩
    · by_cases z : q = i.toInt
      · subst z; rw [zg_eq]; rcases hx with hx | hx <;> rw [hx] <;> omega
      · rw [zg_ne hi0 q0 z]; exact u1 q q0 q1
    · have a1 := zsm_upd2 (p := n.toInt) hi0 (by omega) ne
      have a2 := zsm_upd2 (p := p) hi0 (by omega) ne
      have a3 := zsm_upd2 (p := kω) hi0 (by omega) ne
      have a4 : zsm (zhp B E) kω.toNat = zsm (zhp B E) k.toInt.toNat + zhp B E k.toInt := by
        rw [hkω, show (k.toInt + 1).toNat = k.toInt.toNat + 1 from by omega]
        show _ + zhp B E (k.toInt.toNat : Nat) = _
        rw [show ((k.toInt.toNat : Nat) : Int) = k.toInt from by omega]
      have a5 : zhp B (upd E i.toNatClampNeg x) i.toInt ≤ zhp B E i.toInt + zhp B E k.toInt := by
        unfold zhp; rw [zg_eq]
        have := zhx_nn (zg B k.toInt); have := zhx_nn (zg E k.toInt); have := zhx_nn (zg E i.toInt)
        rcases hx with hx | hx <;> rw [hx] <;> omega
      omega
theorem zPj_c {φ p h : Int} {B E B' E' : Nat → Int32} {n n' k x y : Int32} {kω : Int} (u : zPj φ B E n.toInt k.toInt p h) (e1 : B' = upd B n.toNatClampNeg x) (e2 : E' = upd E n.toNatClampNeg y) (ex : x = B k.toNatClampNeg) (ey : y = E k.toNatClampNeg) (hn : 0 ≤ n.toInt) (hnk : n.toInt ≤ k.toInt) (hk : k.toInt < p) (hkω : kω = k.toInt + 1) (hnω : n'.toInt = n.toInt + 1) : zPj φ B' E' n'.toInt kω p h := by
  rcases u with u | ⟨u1, u2⟩
  · exact Or.inl u
  · have q1 := zg_at ex
    have q2 := zg_at ey
    subst e1; subst e2
    have kk := u1 k.toInt (by omega) hk
    refine Or.inr ⟨fun q q0 qq => ?_, ?_⟩
    · by_cases z : q = n.toInt
      · subst z; rw [zg_eq, zg_eq, q1, q2]; exact kk
      · rw [zg_ne hn q0 z, zg_ne hn q0 z]; exact u1 q q0 qq
    · have ne : ∀ q : Int, 0 ≤ q → q ≠ n.toInt → zhp (upd B n.toNatClampNeg x) (upd E n.toNatClampNeg y) q = zhp B E q := fun q q0 z => zhp_ne hn q0 z
      have a2 := zsm_upd2 (p := p) hn (by omega) ne
      have a3 := zsm_upd2 (p := kω) hn (by omega) ne
      have a1 := zsm_upd2 (p := n'.toInt) hn (by omega) ne
      have suc : ∀ w : Int, 0 ≤ w → zsm (zhp B E) (w + 1).toNat = zsm (zhp B E) w.toNat + zhp B E w := fun w w0 => by
        rw [show (w + 1).toNat = w.toNat + 1 from by omega]
        show _ + zhp B E (w.toNat : Nat) = _
        rw [show ((w.toNat : Nat) : Int) = w from by omega]
      have a4 := suc k.toInt (by omega)
      have a5 := suc n.toInt hn
      rw [← hkω] at a4; rw [← hnω] at a5
      have a6 : zhp (upd B n.toNatClampNeg x) (upd E n.toNatClampNeg y) n.toInt = zhp B E k.toInt := by rw [zhp_eq, q1, q2]; rfl
      omega
theorem zPs_add {φ h hω : Int} {B E B' E' : Nat → Int32} {p b e : Int32} (u : zPs φ B E p.toInt h) (e1 : B' = upd B p.toNatClampNeg b) (e2 : E' = upd E p.toNatClampNeg e) (h0 : 0 ≤ p.toInt) (hb : 1 ≤ φ ∨ (0 ≤ b.toInt ∧ b.toInt ≤ 65535 ∧ 0 ≤ e.toInt ∧ e.toInt ≤ 65535 ∧ h + zhx b.toInt + zhx e.toInt ≤ hω)) : zPs φ B' E' (p.toInt + 1) hω := by
  rcases hb with hb | hb
  · exact Or.inl hb
  · rcases u with u | ⟨u1, u2⟩
    · exact Or.inl u
    · exact Or.inr ⟨zFp_part u1 h0 e1 e2 (by omega), by rw [zhp_part h0 e1 e2]; omega⟩
theorem zPj_k {φ p h k kω : Int} {B E : Nat → Int32} {n : Int32} (u : zPj φ B E n.toInt k p h) (e : kω = k) : zPj φ B E n.toInt kω p h := by subst e; exact u
theorem zg_at2 {f : Nat → Int32} {i x : Int32} {k : Int} (h : x = f i.toNatClampNeg) (hi : i.toInt = k) : x.toInt = zg f k := by subst hi; exact zg_at h
theorem zPs_ad {φ h : Int} {B E B' E' : Nat → Int32} {p pω b e : Int32} (u : zPs φ B E p.toInt h) (e1 : B' = upd B p.toNatClampNeg b) (e2 : E' = upd E p.toNatClampNeg e) (h0 : 0 ≤ p.toInt) (hb : 32 ≤ b.toInt ∧ b.toInt ≤ 126 ∧ 32 ≤ e.toInt ∧ e.toInt ≤ 126) (hp : pω.toInt = p.toInt + 1) : zPs φ B' E' pω.toInt h := by
  rw [hp]
  refine zPs_add u e1 e2 h0 (Or.inr ⟨by omega, by omega, by omega, by omega, ?_⟩)
  unfold zhx; rw [if_neg (by omega), if_neg (by omega)]; omega
theorem zRS_ps {φ : Int} {S V L Z F X M P B E rf rl rm sf sl sm gs gv : Nat → Int32} {d n p c i a w : Int} (u : zRS φ S V L Z F X M P B E rf rl rm sf sl sm gs gv d n p c i a w) : zPs φ B E p (zsm (zhp B E) p.toNat) := by
  rcases u with u | ⟨_, _, u3, _⟩
  · exact Or.inl u
  · exact Or.inr ⟨u3, Int.le_refl _⟩
def zRs1 (φ φω : Int) (B E B' E' : Nat → Int32) (p pω l lω : Int) : Prop := φ ≤ φω ∧ zPb B E B' E' p ∧ ∃ h : Int, zPs φω B' E' pω h ∧ 3 * (h - zsm (zhp B E) p.toNat) ≤ lω - l
def zRs2 (φ : Int) (b e l lω : Int) : Prop := 1 ≤ φ ∨ (0 ≤ b ∧ b ≤ 65535 ∧ 0 ≤ e ∧ e ≤ 65535 ∧ 3 * (zhx b + zhx e) ≤ lω - l)
theorem zMb_x {φ p e v : Int} (h : zMb φ p e v) (hp : p + 1 ≤ e) : 1 ≤ φ ∨ (0 ≤ v ∧ v ≤ 65535 ∧ 6 * zhx v ≤ e - p) := by
  rcases h with h | ⟨h1, h2, h3⟩
  · exact Or.inl h
  · refine Or.inr ⟨h1, h2, ?_⟩
    rcases h3 with h3 | h3
    · have := zhx_nn v; omega
    · unfold zhx; rw [if_neg (by omega)]; omega
theorem zRs2_a {φ p e v : Int} (h : zMb φ p e v) (hp : p + 1 ≤ e) : zRs2 φ v v p e := by
  rcases zMb_x h hp with h | h
  · exact Or.inl h
  · exact Or.inr ⟨by omega, by omega, by omega, by omega, by omega⟩
theorem zRs2_b {φ φ2 φ3 p e v p2 e2 v2 : Int} (h : zMb φ p e v) (hp : p + 1 ≤ e) (h2 : zMb φ2 p2 e2 v2) (hp2 : p2 + 1 ≤ e2) (hφ : φ ≤ φ2) (hφ2 : φ2 ≤ φ3) (he : e ≤ p2) : zRs2 φ3 v v2 p e2 := by
  rcases zMb_x h hp with h | h
  · exact Or.inl (by omega)
  · rcases zMb_x h2 hp2 with h2 | h2
    · exact Or.inl (by omega)
    · have := zhx_nn v; have := zhx_nn v2
      exact Or.inr ⟨by omega, by omega, by omega, by omega, by omega⟩
theorem zRs1_0 {φ φω : Int} {S V L Z F X M P B E rf rl rm sf sl sm gs gv : Nat → Int32} {d n p c i a w l lω : Int} (u : zRS φ S V L Z F X M P B E rf rl rm sf sl sm gs gv d n p c i a w) (hφ : φ = φω) (hl : l ≤ lω) : zRs1 φ φω B E B E p p l lω := by
  subst hφ
  exact ⟨Int.le_refl _, zPb_rf, _, zRS_ps u, by omega⟩
theorem zRs1_m {φ φ1 φ2 : Int} {B E B' E' : Nat → Int32} {p pω l l1 l2 : Int} (h : zRs1 φ φ1 B E B' E' p pω l l1) (h1 : φ1 ≤ φ2) (h2 : l1 ≤ l2) : zRs1 φ φ2 B E B' E' p pω l l2 := by
  obtain ⟨a, hb, h9, b, c⟩ := h
  refine ⟨by omega, hb, h9, ?_, by omega⟩
  rcases b with b | b
  · exact Or.inl (by omega)
  · exact Or.inr b
theorem zRs1_a {φ φ1 φ2 : Int} {B E B' E' B2 E2 : Nat → Int32} {p l l1 l2 : Int} {pω p2 b e : Int32} (h : zRs1 φ φ1 B E B' E' p pω.toInt l l1) (w : zRs2 φ2 b.toInt e.toInt l1 l2) (e1 : B2 = upd B' pω.toNatClampNeg b) (e2 : E2 = upd E' pω.toNatClampNeg e) (h1 : φ1 ≤ φ2) (h0 : 0 ≤ pω.toInt) (hp : p2.toInt = pω.toInt + 1) (hpp : p ≤ pω.toInt) : zRs1 φ φ2 B E B2 E2 p p2.toInt l l2 := by
  obtain ⟨a, hb, h9, q, c⟩ := h
  have hb2 := zPb_w hb e1 e2 ⟨h0, hpp⟩ ⟨h0, hpp⟩
  have q2 : zPs φ2 B' E' pω.toInt h9 := by
    rcases q with q | q
    · exact Or.inl (by omega)
    · exact Or.inr q
  rcases w with w | w
  · exact ⟨by omega, hb2, zsm (zhp B E) p.toNat + (l2 - l) / 3, Or.inl w, by omega⟩
  · rw [hp]
    exact ⟨by omega, hb2, h9 + zhx b.toInt + zhx e.toInt, zPs_add q2 e1 e2 h0 (Or.inr ⟨by omega, by omega, by omega, by omega, Int.le_refl _⟩), by omega⟩
def zRd (φ : Int) (S V L Z F X M P B E : Nat → Int32) (t n p c : Int) : Prop := 1 ≤ φ ∨ (zOne S V F X t 0 n 0 c ∧ zFn S V L Z M P n p ∧ zFp B E p ∧ zCn S V M P B E 0 n p c 100 200 3224)
theorem zRd_of {φ : Int} {S V L Z F X M P B E rf rl rm sf sl sm gs gv : Nat → Int32} {d t n p c i a w : Int} (u : zRT φ S V L Z F X M P B E rf rl rm sf sl sm gs gv d t n p c i a w) (hd : 1 ≤ φ ∨ d = 0) (hi : 1 ≤ φ ∨ i ≤ 100) (ha : 1 ≤ φ ∨ a ≤ 200) (hw : 1 ≤ φ ∨ w ≤ 3224) : zRd φ S V L Z F X M P B E t n p c := by
  rcases hd with h | hd
  · exact Or.inl h
  · rcases hi with h | hi
    · exact Or.inl h
    · rcases ha with h | ha
      · exact Or.inl h
      · rcases hw with h | hw
        · exact Or.inl h
        · rcases u with u | ⟨⟨a0, ca, u1, u2⟩, u3, u4, u9, u5, u6, u7⟩
          · exact Or.inl u
          · subst hd
            obtain ⟨e1, e2⟩ := u1
            subst e1; subst e2
            exact Or.inr ⟨u2, u3, u4, u9, by omega, by omega, by omega⟩
theorem zNew_set {S V L Z F X M P S' V' L' Zω F' X' Mω Pω M2 P2 : Nat → Int32} {w i q m : Int32} {n qω m' : Int} (u : zNew S V L Z F X M P S' V' L' Zω F' X' Mω Pω n (2 : Int32).toInt w.toInt 0 0 (-1) 0 0) (e1 : P2 = upd Pω i.toNatClampNeg q) (e2 : M2 = upd Mω i.toNatClampNeg m) (h0 : 0 ≤ n) (hi : i.toInt = n) (hq : q.toInt = qω ∧ m.toInt = m') (hw : 0 ≤ w.toInt ∧ w.toInt ≤ 1) : ∃ w : Int32, (0 ≤ w.toInt ∧ w.toInt ≤ 1) ∧ zNew S V L Z F X M P S' V' L' Zω F' X' M2 P2 n (2 : Int32).toInt w.toInt 0 0 (-1) m' qω := by
  obtain ⟨h1, h2⟩ := hq
  subst h1; subst h2
  exact ⟨w, hw, zNew_M (zNew_P u hi h0 e1) hi h0 e2⟩
def zSk (S V F X w wh so : Nat → Int32) (E : Int → Int) (b n N C : Int) : Nat → Int → Int → ((Int → Int) → Int) → Prop
  | 0, pos, c, r => pos = N ∧ c = C ∧ ∀ f, r f = 0
  | m + 1, pos, c, r => ∃ (a e c' : Int) (r' : (Int → Int) → Int), zChx S V F X (zg w m) a e c c' ∧ e ≤ N ∧ zg w m ≠ -1 ∧ -1 ≤ zg wh m ∧ zg wh m < n ∧ (zg wh m = -1 → zg X (zg w m) = -1) ∧
      (0 ≤ zg wh m → E (zg wh m) = pos + (e - a) ∧ (7 ≤ zg so (b + zg wh m) → zg X (zg w m) = -1)) ∧ (∀ k, zg wh m < k → k < n → E k ≤ pos) ∧ (∀ f, r f = r' f + (zsm f e.toNat - zsm f a.toNat)) ∧ zSk S V F X w wh so E b n N C m (pos + (e - a)) c' r'
theorem zSk_le {S V F X w wh so : Nat → Int32} {E : Int → Int} {b n N C : Int} : ∀ {m : Nat} {pos c : Int} {r : (Int → Int) → Int}, zSk S V F X w wh so E b n N C m pos c r → pos + m ≤ N ∧ c ≤ C := by
  intro m; induction m with
  | zero => intro pos c r h; obtain ⟨h1, h2, h3⟩ := h; omega
  | succ m ih =>
    intro pos c r h
    obtain ⟨a, e, c', r', ⟨k, h1⟩, heN, h2, h3, h4, h5, h6, h7, h8, h9⟩ := h
    have q := ih h9
    have z := zCh_le h1
    have := z.2.2.2 h2
    omega
theorem zSk_congr {S V F X w wh so w' wh' so' : Nat → Int32} {E E' : Int → Int} {b n n' N C : Int} : ∀ {m : Nat} {pos c : Int} {r : (Int → Int) → Int}, (∀ i : Int, 0 ≤ i → i < m → zg w' i = zg w i ∧ zg wh' i = zg wh i) → (∀ k : Int, 0 ≤ k → k < n → zg so' (b + k) = zg so (b + k) ∧ E' k = E k) → n ≤ n' → (∀ k : Int, n ≤ k → k < n' → E' k ≤ pos) → zSk S V F X w wh so E b n N C m pos c r → zSk S V F X w' wh' so' E' b n' N C m pos c r := by
  intro m; induction m with
  | zero => intro pos c r _ _ _ _ h; exact h
  | succ m ih =>
    intro pos c r hw hs hn hE h
    obtain ⟨a, e, c', r', h1, heN, h2, h3, h4, h5, h6, h7, h8, h9⟩ := h
    obtain ⟨e1, e2⟩ := hw m (by omega) (by omega)
    obtain ⟨k, h1'⟩ := h1
    have z := (zCh_le h1').1
    refine ⟨a, e, c', r', ⟨k, by rw [e1]; exact h1'⟩, heN, by rw [e1]; exact h2, by rw [e2]; exact h3, by rw [e2]; omega, by rw [e1, e2]; exact h5, ?_, ?_, h8, ih (fun i i0 i1 => hw i i0 (by omega)) hs hn (fun k k0 k1 => by have := hE k k0 k1; omega) h9⟩
    · rw [e1, e2]; intro q
      obtain ⟨s1, s2⟩ := hs (zg wh m) q h4
      rw [s1, s2]; exact h6 q
    · rw [e2]; intro k k0 k1
      by_cases q : k < n
      · rw [(hs k (by omega) q).2]; exact h7 k k0 q
      · exact hE k (by omega) k1
theorem zsm_add {f : Int → Int} {a : Int} (h : 0 ≤ a) : zsm f (a + 1).toNat = zsm f a.toNat + f a := by
  rw [show (a + 1).toNat = a.toNat + 1 from by omega]
  show _ + f (a.toNat : Nat) = _
  rw [show ((a.toNat : Nat) : Int) = a from by omega]
theorem zSk_cast {S V F X w wh so : Nat → Int32} {E : Int → Int} {b n N C pos pos' c c' : Int} {r r' : (Int → Int) → Int} {m : Nat} (h : zSk S V F X w wh so E b n N C m pos c r) (e1 : pos' = pos) (e2 : c' = c) (e3 : ∀ f, r' f = r f) : zSk S V F X w wh so E b n N C m pos' c' r' := by
  have e4 : r' = r := funext e3
  subst e1; subst e2; subst e4; exact h
theorem zSk_pop {S V F X w wh so w1 wh1 w2 wh2 so' : Nat → Int32} {E : Int → Int} {b n N C c t h9 : Int} {r : (Int → Int) → Int} {m : Nat} (hn : 0 ≤ n) (h : zSk S V F X w wh so E b n N C (m + 1) n c r) (ht : zg w m = t) (hh : zg wh m = h9) (hS : ∀ k : Int, 0 ≤ k → k < n → zg so' (b + k) = zg so (b + k)) (hS2 : zg so' (b + n) = zg S t) 
    {m1 m2 : Nat} (h1 : (zg X t = -1 ∧ m1 = m ∧ w1 = w ∧ wh1 = wh) ∨ (zg X t ≠ -1 ∧ m1 = m + 1 ∧ zg w1 m = zg X t ∧ zg wh1 m = h9 ∧ ∀ i : Int, 0 ≤ i → i < m → zg w1 i = zg w i ∧ zg wh1 i = zg wh i))
    (h2 : (zg F t = -1 ∧ m2 = m1 ∧ w2 = w1 ∧ wh2 = wh1) ∨ (zg F t ≠ -1 ∧ m2 = m1 + 1 ∧ zg w2 m1 = zg F t ∧ zg wh2 m1 = n ∧ ∀ i : Int, 0 ≤ i → i < m1 → zg w2 i = zg w1 i ∧ zg wh2 i = zg wh1 i)) :
    ∃ (x c' : Int), (∀ E' : Int → Int, (∀ k, k ≠ n → E' k = E k) → E' n = x → zSk S V F X w2 wh2 so' E' b (n + 1) N C m2 (n + 1) c' (fun f => r f - f t)) ∧ n < x ∧ x ≤ N ∧ (0 ≤ h9 → x ≤ E h9 ∧ (7 ≤ zg so (b + h9) → x = E h9)) ∧ (h9 = -1 → m = 0 → x = N) ∧ (∀ k, h9 < k → k < n → E k ≤ n) ∧
      (zg S t ≤ 4 → x = n + 1) ∧ (6 ≤ zg S t → n + 1 < x) ∧ (zg S t = 8 → zg V t = c + 1 ∧ c' = c + 1) ∧ (zg S t ≠ 8 → c' = c) ∧ 0 ≤ t ∧ t < N ∧ -1 ≤ h9 ∧ h9 < n := by
  obtain ⟨a, e, c9, r9, ⟨k9, g1⟩, heN, g2, g3, g4, g5, g6, g7, g8, g9⟩ := h
  rw [ht] at g1 g2 g5 g6
  rw [hh] at g3 g4 g5 g6 g7
  have zl := zCh_le g1
  have zz := zl.2.2.2 g2
  have qN := (zSk_le g9).1
  cases k9 with
  | zero => exact absurd g1.1 g2
  | succ k9 =>
    rcases g1 with g1 | ⟨d0, d1, d2, d3, d4, d5, d6, c0, cm, e1, e2, d7, d8⟩
    · exact absurd g1.1 g2
    · have l7 := zCh_le d7
      have l8 := zCh_le d8
      have sA : ∀ f : Int → Int, zsm f (t + 1).toNat = zsm f t.toNat + f t := fun f => zsm_add (by omega)
      refine ⟨n + (t - a + 1), c0, ?_, by omega, by omega, ?_, ?_, g7, ?_, ?_, fun z => ⟨d6 z, e1 z⟩, e2, by omega, by omega, g3, g4⟩
      · intro E' hEn hEe
        have hlow : zSk S V F X w wh so' E' b (n + 1) N C m (n + (e - a)) c9 r9 :=
          zSk_congr (fun i _ _ => ⟨rfl, rfl⟩) (fun k k0 k1 => ⟨hS k k0 k1, hEn k (by omega)⟩) (by omega) (fun k k0 k1 => by
            have : k = n := by omega
            rw [this, hEe]; omega) g9
        have hmid : zSk S V F X w1 wh1 so' E' b (n + 1) N C m1 (n + (t - a + 1)) cm (fun f => r9 f + (zsm f e.toNat - zsm f (t + 1).toNat)) := by
          rcases h1 with ⟨x1, x2, x3, x4⟩ | ⟨x1, x2, x3, x4, x5⟩
          · subst x2; subst x3; subst x4
            have q := l8.2.2.1 x1
            exact zSk_cast hlow (by omega) q.2 (fun f => by rw [q.1]; omega)
          · subst x2
            have hlow' := zSk_congr (w' := w1) (wh' := wh1) (n' := n + 1) (so' := so') (E' := E') (fun i i0 i1 => x5 i i0 i1) (fun k _ _ => ⟨rfl, rfl⟩) (Int.le_refl _) (fun k k0 k1 => by omega) hlow
            refine ⟨t + 1, e, c9, r9, ⟨k9, by rw [x3]; exact d8⟩, heN, by rw [x3]; exact x1, by rw [x4]; exact g3, by rw [x4]; omega, ?_, ?_, ?_, fun f => rfl, ?_⟩
            · rw [x4]; intro q; exact absurd (g5 q) x1
            · rw [x4]; intro q
              obtain ⟨y1, y2⟩ := g6 q
              rw [hEn _ (by omega), y1, hS _ q g4]
              exact ⟨by omega, fun z => absurd (y2 z) x1⟩
            · rw [x4]; intro k k0 k1
              by_cases q : k = n
              · rw [q, hEe]; omega
              · rw [hEn k q]; have := g7 k k0 (by omega); omega
            · exact zSk_cast hlow' (by omega) rfl (fun _ => rfl)
        rcases h2 with ⟨x1, x2, x3, x4⟩ | ⟨x1, x2, x3, x4, x5⟩
        · subst x2; subst x3; subst x4
          have q := l7.2.2.1 x1
          exact zSk_cast hmid (by omega) q.2 (fun f => by have := sA f; have := g8 f; rw [← q.1] at *; omega)
        · subst x2
          have hmid' := zSk_congr (w' := w2) (wh' := wh2) (n' := n + 1) (so' := so') (E' := E') (fun i i0 i1 => x5 i i0 i1) (fun k _ _ => ⟨rfl, rfl⟩) (Int.le_refl _) (fun k k0 k1 => by omega) hmid
          refine ⟨a, t, cm, fun f => r9 f + (zsm f e.toNat - zsm f (t + 1).toNat), ⟨k9, by rw [x3]; exact d7⟩, by omega, by rw [x3]; exact x1, by rw [x4]; omega, by rw [x4]; omega, by rw [x4]; omega, ?_, ?_, fun f => by (have := sA f; have := g8 f; show r f - f t = (r9 f + (zsm f e.toNat - zsm f (t + 1).toNat)) + _; omega), zSk_cast hmid' (by omega) rfl (fun _ => rfl)⟩
          · rw [x4, x3]; intro q; rw [hEe, hS2]; exact ⟨by omega, d5⟩
          · rw [x4]; intro k k0 k1; omega
      · intro q
        obtain ⟨y1, y2⟩ := g6 q
        rw [y1]
        refine ⟨by omega, fun z => ?_⟩
        have := l8.2.2.1 (y2 z)
        omega
      · intro q q2
        subst q2
        obtain ⟨y1, y2, y3⟩ := g9
        have := l8.2.2.1 (g5 q)
        omega
      · intro z; have := l7.2.2.1 (d3 z); omega
      · intro z; have := l7.2.2.2 (by have := d4 z; omega); omega
def zEm (S V L Z M P so va le mo ho pa fp : Nat → Int32) (E G : Int → Int) (b q N c n : Int) : Prop := ∀ k : Int, 0 ≤ k → k < n →
  (0 ≤ G k ∧ G k < N ∧ zg so (b + k) = zg S (G k) ∧ zg va (b + k) = zg V (G k) ∧ zg le (b + k) = zg L (G k) ∧ zg mo (b + k) = zg Z (G k) ∧ zg pa (b + k) = zg M (G k) ∧ (zg S (G k) = 2 → zg fp (b + k) = q + zg P (G k))) ∧
  (k < E k ∧ E k ≤ N ∧ (k = 0 → zg ho (b + k) = -1) ∧ (1 ≤ k → 0 ≤ zg ho (b + k) ∧ zg ho (b + k) < k ∧ E k ≤ E (zg ho (b + k)) ∧ (7 ≤ zg so (b + zg ho (b + k)) → E k = E (zg ho (b + k))))) ∧
  (∀ j : Int, 0 ≤ j → j < k → k < E j → j ≤ zg ho (b + k)) ∧ (zg so (b + k) ≤ 4 → E k = k + 1) ∧ (6 ≤ zg so (b + k) → k + 1 < E k) ∧
  (zg so (b + k) = 8 → 1 ≤ zg va (b + k) ∧ zg va (b + k) ≤ c) ∧ (∀ j : Int, 0 ≤ j → j < k → zg so (b + j) = 8 → zg so (b + k) = 8 → zg va (b + j) < zg va (b + k))
def zKp (S V L Z F X M P w wh so va le mo ho pa fp : Nat → Int32) (b q n top N C : Int) : Prop := ∃ (E G : Int → Int) (c : Int) (R : (Int → Int) → Int), (n = 0 → top = 1) ∧ (1 ≤ n → E 0 = N) ∧ 0 ≤ c ∧ zSk S V F X w wh so E b n N C top.toNat n c R ∧ zEm S V L Z M P so va le mo ho pa fp E G b q N c n ∧ ∀ f : Int → Int, zsm (fun k => f (G k)) n.toNat + R f = zsm f N.toNat
theorem zKp_0 {S V L Z F X M P w wh so va le mo ho pa fp : Nat → Int32} {b q t N C : Int} (h : zOne S V F X t 0 N 0 C) (hw : zg w 0 = t) (hh : zg wh 0 = -1) : zKp S V L Z F X M P w wh so va le mo ho pa fp b q 0 1 N C := by
  obtain ⟨h1, h2, h3, h4, h5⟩ := h
  refine ⟨fun _ => 0, fun _ => 0, 0, fun f => zsm f N.toNat, fun _ => rfl, fun z => by omega, Int.le_refl _, ?_, fun k k0 k1 => by omega, fun f => ?_⟩
  · show zSk S V F X w wh so _ b 0 N C 1 0 0 _
    refine ⟨0, N, C, fun _ => 0, by rw [show ((0 : Nat) : Int) = 0 from rfl, hw]; exact h5, Int.le_refl _, by rw [show ((0 : Nat) : Int) = 0 from rfl, hw]; omega, by rw [show ((0 : Nat) : Int) = 0 from rfl, hh]; omega, by rw [show ((0 : Nat) : Int) = 0 from rfl, hh]; omega, ?_, ?_, fun k k0 k1 => ?_, fun f => ?_, ⟨by omega, rfl, fun _ => rfl⟩⟩
    · rw [show ((0 : Nat) : Int) = 0 from rfl, hw]; exact fun _ => h4
    · rw [show ((0 : Nat) : Int) = 0 from rfl, hh]; intro z; omega
    · rw [show ((0 : Nat) : Int) = 0 from rfl, hh] at k0; omega
    · show zsm f N.toNat = 0 + (zsm f N.toNat - 0); omega
  · show 0 + zsm f N.toNat = _; omega
theorem zKp_le {S V L Z F X M P w wh so va le mo ho pa fp : Nat → Int32} {b q n top N C : Int} (h : zKp S V L Z F X M P w wh so va le mo ho pa fp b q n top N C) (ht : 0 ≤ top) : n + top ≤ N := by
  obtain ⟨E, G, c, R, _, _, h0, h1, h2⟩ := h
  have := (zSk_le h1).1; omega
theorem zKp_top {S V L Z F X M P w wh so va le mo ho pa fp : Nat → Int32} {b q n top N C : Int} (h : zKp S V L Z F X M P w wh so va le mo ho pa fp b q n top N C) (ht : 1 ≤ top) : 0 ≤ zg w (top - 1) ∧ zg w (top - 1) < N ∧ -1 ≤ zg wh (top - 1) ∧ zg wh (top - 1) < n := by
  obtain ⟨E, G, c, R, _, _, h0, h1, h2⟩ := h
  have e : top.toNat = (top - 1).toNat + 1 := by omega
  rw [e] at h1
  obtain ⟨a, eω, c', r', ⟨k, g1⟩, heN, g2, g3, g4, g5⟩ := h1
  have ee : (((top - 1).toNat : Nat) : Int) = top - 1 := by omega
  rw [ee] at g1 g2 g3 g4
  have := (zCh_le g1).2.2.2 g2
  exact ⟨by omega, by omega, g3, g4⟩
theorem zEm_ext {S V L Z M P so va le mo ho pa fp so' vaω leω moω hoω paω fpω : Nat → Int32} {E G E' G' : Int → Int} {b q N c c' n t h x : Int} (he : zEm S V L Z M P so va le mo ho pa fp E G b q N c n)
    (hE : ∀ k, k ≠ n → E' k = E k) (hEn : E' n = x) (hG : ∀ k, k ≠ n → G' k = G k) (hGn : G' n = t)
    (ha : ∀ k : Int, 0 ≤ k → k < n → zg so' (b + k) = zg so (b + k) ∧ zg vaω (b + k) = zg va (b + k) ∧ zg leω (b + k) = zg le (b + k) ∧ zg moω (b + k) = zg mo (b + k) ∧ zg hoω (b + k) = zg ho (b + k) ∧ zg paω (b + k) = zg pa (b + k) ∧ zg fpω (b + k) = zg fp (b + k))
    (hb : zg so' (b + n) = zg S t ∧ zg vaω (b + n) = zg V t ∧ zg leω (b + n) = zg L t ∧ zg moω (b + n) = zg Z t ∧ zg hoω (b + n) = h ∧ zg paω (b + n) = zg M t ∧ (zg S t = 2 → zg fpω (b + n) = q + zg P t))
    (ht : 0 ≤ t ∧ t < N) (hx : n < x ∧ x ≤ N) (hh : (n = 0 → h = -1) ∧ (1 ≤ n → 0 ≤ h) ∧ h < n) (h1 : 0 ≤ h → x ≤ E h ∧ (7 ≤ zg so (b + h) → x = E h)) (h2 : ∀ k, h < k → k < n → E k ≤ n) (h4 : zg S t ≤ 4 → x = n + 1) (h6 : 6 ≤ zg S t → n + 1 < x) (h0c : 0 ≤ c) (h8 : zg S t = 8 → zg V t = c + 1 ∧ c' = c + 1) (h9 : zg S t ≠ 8 → c' = c) :
    zEm S V L Z M P so' vaω leω moω hoω paω fpω E' G' b q N c' (n + 1) := by
  have cc : c ≤ c' := by
    by_cases z : zg S t = 8
    · have := h8 z; omega
    · have := h9 z; omega
  intro k k0 k1
  by_cases e : k = n
  · subst e
    obtain ⟨b1, b2, b3, b4, b5, b6, b7⟩ := hb
    rw [hEn, hGn]
    refine ⟨⟨ht.1, ht.2, b1, b2, b3, b4, b6, b7⟩, ⟨hx.1, hx.2, ?_, ?_⟩, ?_, ?_, ?_, ?_, ?_⟩
    · intro z; rw [b5]; exact hh.1 z
    · intro z
      have z0 := hh.2.1 z
      rw [b5, hE h (by omega), (ha h z0 hh.2.2).1]
      exact ⟨z0, hh.2.2, (h1 z0).1, (h1 z0).2⟩
    · intro j j0 j1 j2
      rw [hE j (by omega)] at j2
      rw [b5]
      by_cases q : h < j
      · have := h2 j q j1; omega
      · omega
    · rw [b1]; exact h4
    · rw [b1]; exact h6
    · rw [b1, b2]; intro z; have := h8 z; omega
    · intro j j0 j1 j2 j3
      rw [b1] at j3
      obtain ⟨a1, a2, _⟩ := ha j j0 j1
      rw [a1] at j2
      have := ((he j j0 j1).2.2.2.2.2.1 j2).2
      rw [a2, b2]; have := h8 j3; omega
  · have kn : k < n := by omega
    obtain ⟨⟨p1, p2, p3, p4, p5, p6, p7, p8⟩, ⟨q1, q2, q3, q4⟩, r1, r2, r3, r4, r5⟩ := he k k0 kn
    obtain ⟨a1, a2, a3, a4, a5, a6, a7⟩ := ha k k0 kn
    rw [hE k e, hG k e, a1, a2, a3, a4, a5, a6, a7]
    refine ⟨⟨p1, p2, p3, p4, p5, p6, p7, p8⟩, ⟨q1, q2, q3, ?_⟩, ?_, r2, r3, ?_, ?_⟩
    · intro z
      obtain ⟨s1, s2, s3, s4⟩ := q4 z
      rw [hE _ (by omega), (ha _ s1 (by omega)).1]; exact ⟨s1, s2, s3, s4⟩
    · intro j j0 j1 j2
      rw [hE j (by omega)] at j2
      exact r1 j j0 j1 j2
    · intro z; have := r4 z; omega
    · intro j j0 j1 j2 j3
      obtain ⟨c1, c2, _⟩ := ha j j0 (by omega)
      rw [c1] at j2; rw [c2]; exact r5 j j0 j1 j2 j3
theorem zKp_step {S V L Z F X M P w wh so va le mo ho pa fp w1 wh1 w2 wh2 so' vaω leω moω hoω paω fpω : Nat → Int32} {b q n top top1 top2 N C t h : Int} (hk : zKp S V L Z F X M P w wh so va le mo ho pa fp b q n top N C) (ht1 : 1 ≤ top) (hn : 0 ≤ n) (ht : zg w (top - 1) = t) (hh : zg wh (top - 1) = h)
    (ha : ∀ k : Int, 0 ≤ k → k < n → zg so' (b + k) = zg so (b + k) ∧ zg vaω (b + k) = zg va (b + k) ∧ zg leω (b + k) = zg le (b + k) ∧ zg moω (b + k) = zg mo (b + k) ∧ zg hoω (b + k) = zg ho (b + k) ∧ zg paω (b + k) = zg pa (b + k) ∧ zg fpω (b + k) = zg fp (b + k))
    (hb : zg so' (b + n) = zg S t ∧ zg vaω (b + n) = zg V t ∧ zg leω (b + n) = zg L t ∧ zg moω (b + n) = zg Z t ∧ zg hoω (b + n) = h ∧ zg paω (b + n) = zg M t ∧ (zg S t = 2 → zg fpω (b + n) = q + zg P t))
    (h1 : (zg X t = -1 ∧ top1 = top - 1 ∧ w1 = w ∧ wh1 = wh) ∨ (zg X t ≠ -1 ∧ top1 = top ∧ zg w1 (top - 1) = zg X t ∧ zg wh1 (top - 1) = h ∧ ∀ i : Int, 0 ≤ i → i < top - 1 → zg w1 i = zg w i ∧ zg wh1 i = zg wh i))
    (h2 : (zg F t = -1 ∧ top2 = top1 ∧ w2 = w1 ∧ wh2 = wh1) ∨ (zg F t ≠ -1 ∧ top2 = top1 + 1 ∧ zg w2 top1 = zg F t ∧ zg wh2 top1 = n ∧ ∀ i : Int, 0 ≤ i → i < top1 → zg w2 i = zg w1 i ∧ zg wh2 i = zg wh1 i)) :
    zKp S V L Z F X M P w2 wh2 so' vaω leω moω hoω paω fpω b q (n + 1) top2 N C := by
  obtain ⟨E, G, c, R, hn0, hE0, hc, hs, he, hf⟩ := hk
  have hNn := (zSk_le hs).1
  have e : top.toNat = (top - 1).toNat + 1 := by omega
  rw [e] at hs
  have ee : (((top - 1).toNat : Nat) : Int) = top - 1 := by omega
  have e1 : ((top1.toNat : Nat) : Int) = top1 := by omega
  obtain ⟨x, c', k1, k2, k3, k4, k5, k6, k7, k8, k9, k10, k11, k12, k13, k14⟩ := zSk_pop (w1 := w1) (wh1 := wh1) (w2 := w2) (wh2 := wh2) (so' := so') (t := t) (h9 := h) (m1 := top1.toNat) (m2 := top2.toNat) hn hs (by rw [ee]; exact ht) (by rw [ee]; exact hh) (fun k k0 k1 => (ha k k0 k1).1) hb.1
    (by rw [ee]; rcases h1 with ⟨z1, z2, z3⟩ | ⟨z1, z2, z3⟩
        · exact Or.inl ⟨z1, by omega, z3⟩
        · exact Or.inr ⟨z1, by omega, z3⟩)
    (by rw [e1]; rcases h2 with ⟨z1, z2, z3⟩ | ⟨z1, z2, z3⟩
        · exact Or.inl ⟨z1, by omega, z3⟩
        · exact Or.inr ⟨z1, by omega, z3⟩)
  refine ⟨fun k => if k = n then x else E k, fun k => if k = n then t else G k, c', fun f => R f - f t, fun z => by omega, fun _ => ?_, ?_, k1 _ (fun k z => if_neg z) (if_pos rfl), zEm_ext he (fun k z => if_neg z) (if_pos rfl) (fun k z => if_neg z) (if_pos rfl) ha hb ⟨k11, k12⟩ ⟨k2, k3⟩ ⟨?_, ?_, k14⟩ k4 k6 k7 k8 hc k9 k10, ?_⟩
  · by_cases z : n = 0
    · show (if 0 = n then x else E 0) = N
      rw [if_pos z.symm]
      have := hn0 z
      exact k5 (by omega) (by omega)
    · show (if 0 = n then x else E 0) = N
      rw [if_neg (by omega)]; exact hE0 (by omega)
  · by_cases z : zg S t = 8
    · have := k9 z; omega
    · have := k10 z; omega
  · intro z; omega
  · intro z
    by_cases hz : h = -1
    · have := k6 0 (by omega) (by omega)
      have := hE0 z
      omega
    · omega
  · intro f
    rw [zsm_add hn]
    show zsm (fun k => f (if k = n then t else G k)) n.toNat + f (if n = n then t else G n) + (R f - f t) = _
    rw [if_pos rfl, zsm_congr (g := fun k => f (G k)) (fun k z1 z2 => by rw [if_neg (by omega)])]
    have := hf f; omega
def zNd (so va le mo ho pa en fp : Nat → Int32) (b q n c p k : Int) : Prop :=
  (0 ≤ zg so (b + k) ∧ zg so (b + k) ≤ 11 ∧ 0 ≤ zg le (b + k) ∧ zg le (b + k) ≤ 20 ∧ -1 ≤ zg mo (b + k) ∧ (zg mo (b + k) ≤ 20 ∧ (zg mo (b + k) = -1 ∨ zg le (b + k) ≤ zg mo (b + k))) ∧ 0 ≤ zg va (b + k) ∧ zg va (b + k) ≤ 65535 ∧ (zg so (b + k) ≠ 0 → zg va (b + k) ≤ 9) ∧ (zg so (b + k) = 4 → 1 ≤ zg va (b + k)) ∧ (zg so (b + k) = 8 → 1 ≤ zg va (b + k) ∧ zg va (b + k) ≤ c) ∧ (zg so (b + k) = 2 → q ≤ zg fp (b + k) ∧ 0 ≤ zg pa (b + k) ∧ zg fp (b + k) + zg pa (b + k) ≤ q + p)) ∧
  ((k = 0 → zg ho (b + k) = -1) ∧ (1 ≤ k → 0 ≤ zg ho (b + k) ∧ zg ho (b + k) < k) ∧ k < zg en (b + k) ∧ zg en (b + k) ≤ n ∧ (∀ j : Int, k < j → j < zg en (b + k) → k ≤ zg ho (b + j) ∧ zg en (b + j) ≤ zg en (b + k))) ∧
  (zg so (b + k) ≤ 4 → zg en (b + k) = k + 1) ∧ (6 ≤ zg so (b + k) → k + 1 < zg en (b + k)) ∧ (7 ≤ zg so (b + k) → zg en (b + (k + 1)) = zg en (b + k)) ∧ (∀ j : Int, 0 ≤ j → j < k → zg so (b + j) = 8 → zg so (b + k) = 8 → zg va (b + j) < zg va (b + k))
def zv7 (so : Nat → Int32) (b k : Int) : Int := if zg so (b + k) = 7 then 1 else 0
def zvn (so va : Nat → Int32) (b k : Int) : Int := if zg so (b + k) = 0 then 2 * zhx (zg va (b + k)) else 0
def zvp (pb pe : Nat → Int32) (q i : Int) : Int := zhx (zg pb (q + i)) + zhx (zg pe (q + i))
def zvs (so va pa fp pb pe : Nat → Int32) (b q k : Int) : Int := if zg so (b + k) = 2 then 5 * zg pa (b + k) + 4 * (zsm (zvp pb pe q) (zg fp (b + k) - q + zg pa (b + k)).toNat - zsm (zvp pb pe q) (zg fp (b + k) - q).toNat) else if zg so (b + k) = 0 then 4 * zhx (zg va (b + k)) else 0
def zvr (so pa fp pb pe : Nat → Int32) (b q k : Int) : Int := if zg so (b + k) = 2 then zsm (zvp pb pe q) (zg fp (b + k) - q + zg pa (b + k)).toNat - zsm (zvp pb pe q) (zg fp (b + k) - q).toNat else 0
def zSl (so va le mo ho pa en fp pb pe : Nat → Int32) (b q n c : Int) : Prop := 1 ≤ n ∧ n ≤ 220 ∧ 0 ≤ c ∧ c ≤ 9 ∧ ∃ p : Int, 0 ≤ p ∧ p ≤ 420 ∧ (∀ k : Int, 0 ≤ k → k < n → zNd so va le mo ho pa en fp b q n c p k) ∧
  (∀ i : Int, 0 ≤ i → i < p → 0 ≤ zg pb (q + i) ∧ zg pb (q + i) ≤ 65535 ∧ 0 ≤ zg pe (q + i) ∧ zg pe (q + i) ≤ 65535) ∧ zsm (zv7 so b) n.toNat ≤ 50 ∧ zsm (zvn so va b) n.toNat + zsm (zvr so pa fp pb pe b q) n.toNat ≤ 66 ∧ 12 * n + zsm (zvs so va pa fp pb pe b q) n.toNat ≤ 3332
def zBk (S V L Z M P so va le mo ho pa fp en : Nat → Int32) (b q N C k : Int) : Prop := ∃ E G : Int → Int, zEm S V L Z M P so va le mo ho pa fp E G b q N C N ∧ (∀ f : Int → Int, zsm (fun k => f (G k)) N.toNat = zsm f N.toNat) ∧ (∀ j : Int, 0 ≤ j → j < N → j + 1 ≤ zg en (b + j) ∧ zg en (b + j) ≤ E j) ∧ (∀ i : Int, k < i → i < N → 1 ≤ i → E i ≤ zg en (b + zg ho (b + i)))
theorem zBk_0 {S V L Z F X M P w wh so va le mo ho pa fp en : Nat → Int32} {b q n top N C k : Int} (h : zKp S V L Z F X M P w wh so va le mo ho pa fp b q n top N C) (ht : top = 0) (hk : k = n - 1) (he : ∀ j : Int, 0 ≤ j → j < n → zg en (b + j) = j + 1) : n = N ∧ zBk S V L Z M P so va le mo ho pa fp en b q N C k := by
  obtain ⟨E, G, c, R, _, _, h0, h1, h2, h3⟩ := h
  subst ht
  obtain ⟨g1, g2, g3⟩ := h1
  subst g1; subst g2
  refine ⟨rfl, E, G, h2, fun f => by have := h3 f; rw [g3 f] at this; omega, fun j j0 j1 => ?_, fun i i0 i1 => by omega⟩
  have := he j j0 j1
  have := (h2 j j0 j1).2.1.1
  omega
theorem zBk_end {S V L Z M P so va le mo ho pa fp en : Nat → Int32} {E G : Int → Int} {b q N C k : Int} (h1 : zEm S V L Z M P so va le mo ho pa fp E G b q N C N) (h2 : ∀ j : Int, 0 ≤ j → j < N → j + 1 ≤ zg en (b + j) ∧ zg en (b + j) ≤ E j) (h3 : ∀ i : Int, k < i → i < N → 1 ≤ i → E i ≤ zg en (b + zg ho (b + i))) (h0 : 0 ≤ k) (hk : k < N) : zg en (b + k) = E k := by
  have key : ∀ (m : Nat) (j : Int), j = k + 1 + m → j < E k → j < N → E j ≤ zg en (b + k) := by
    intro m
    induction m using Nat.strongRecOn with
    | ind m ih =>
      intro j hj h4 h5
      have hno := (h1 j (by omega) h5).2.2.1 k h0 (by omega) h4
      obtain ⟨s1, s2, s3, s4⟩ := (h1 j (by omega) h5).2.1.2.2.2 (by omega)
      by_cases e : zg ho (b + j) = k
      · have := h3 j (by omega) h5 (by omega)
        rw [e] at this; exact this
      · have := ih ((zg ho (b + j) - k - 1).toNat) (by omega) (zg ho (b + j)) (by omega) (by omega) (by omega)
        omega
  have a1 := h2 k h0 hk
  have a2 := (h1 k h0 hk).2.1
  by_cases e : E k = k + 1
  · omega
  · have := key ((E k - k - 2).toNat) (E k - 1) (by omega) (by omega) (by omega)
    have := (h1 (E k - 1) (by omega) (by omega)).2.1.1
    omega
theorem zBk_step {S V L Z M P so va le mo ho pa fp en enω : Nat → Int32} {b q N C k kω : Int} (h : zBk S V L Z M P so va le mo ho pa fp en b q N C k) (h0 : 1 ≤ k) (hk : k < N) (hkω : kω = k - 1) (hm : (zg enω (b + zg ho (b + k)) = zg en (b + zg ho (b + k)) ∧ zg en (b + k) ≤ zg en (b + zg ho (b + k))) ∨ (zg enω (b + zg ho (b + k)) = zg en (b + k) ∧ zg en (b + zg ho (b + k)) ≤ zg en (b + k))) (hoω : ∀ j : Int, 0 ≤ j → j ≠ zg ho (b + k) → zg enω (b + j) = zg en (b + j)) : zBk S V L Z M P so va le mo ho pa fp enω b q N C kω := by
  obtain ⟨E, G, h1, h2, h3, h4⟩ := h
  have hE := zBk_end h1 h3 h4 (by omega) hk
  obtain ⟨s1, s2, s3, s4⟩ := (h1 k (by omega) hk).2.1.2.2.2 h0
  have up : ∀ j : Int, 0 ≤ j → j < N → zg en (b + j) ≤ zg enω (b + j) ∧ zg enω (b + j) ≤ E j := by
    intro j j0 j1
    have := h3 j j0 j1
    by_cases e : j = zg ho (b + k)
    · rw [e] at this ⊢; rcases hm with hm | hm <;> omega
    · rw [hoω j j0 e]; omega
  refine ⟨E, G, h1, h2, fun j j0 j1 => by have := up j j0 j1; have := h3 j j0 j1; omega, fun i i0 i1 i2 => ?_⟩
  by_cases e : i = k
  · rw [e]; rcases hm with hm | hm <;> omega
  · have := h4 i (by omega) i1 i2
    obtain ⟨t1, t2, _⟩ := (h1 i (by omega) i1).2.1.2.2.2 i2
    have := up (zg ho (b + i)) t1 (by omega)
    omega
theorem zSl_mk {S V L Z F X M P B E9 so va le mo ho pa fp en pb pe : Nat → Int32} {b q N C p t k : Int} (h : zBk S V L Z M P so va le mo ho pa fp en b q N C k) (hk : k ≤ 0) (hr : zOne S V F X t 0 N 0 C ∧ zFn S V L Z M P N p ∧ zFp B E9 p ∧ zCn S V M P B E9 0 N p C 100 200 3224) (hN : N ≤ 220) (hp : 0 ≤ p ∧ p ≤ 420) (hC : C ≤ 9) (hc : ∀ i : Int, 0 ≤ i → i < p → zg pb (q + i) = zg B i ∧ zg pe (q + i) = zg E9 i) : zSl so va le mo ho pa en fp pb pe b q N C := by
  obtain ⟨E, G, h1, h2, h3, h4⟩ := h
  obtain ⟨r1, r2, r3, r9, r4, r5, r6⟩ := hr
  have hN1 : 1 ≤ N := by have := r1.1; have := r1.2.2.1; omega
  have hC0 : 0 ≤ C := by obtain ⟨m, hm⟩ := r1.2.2.2.2; exact (zCh_le hm).2.1
  have hE : ∀ k : Int, 0 ≤ k → k < N → zg en (b + k) = E k := fun k k0 k1 => zBk_end h1 h3 (fun i i0 i1 i2 => h4 i (by omega) i1 i2) k0 k1
  have hlam : ∀ (m : Nat) (k j : Int), 0 ≤ k → k < N → j = k + 1 + m → j < E k → k ≤ zg ho (b + j) ∧ E j ≤ E k := by
    intro m
    induction m using Nat.strongRecOn with
    | ind m ih =>
      intro k j k0 k1 hj h5
      have hEk := (h1 k k0 k1).2.1.2.1
      have hno := (h1 j (by omega) (by omega)).2.2.1 k k0 (by omega) h5
      obtain ⟨s1, s2, s3, s4⟩ := (h1 j (by omega) (by omega)).2.1.2.2.2 (by omega)
      refine ⟨hno, ?_⟩
      by_cases e : zg ho (b + j) = k
      · rw [e] at s3; exact s3
      · have := (ih ((zg ho (b + j) - k - 1).toNat) (by omega) k (zg ho (b + j)) k0 k1 (by omega) (by omega)).2
        omega
  have sum7 : zsm (zv7 so b) N.toNat = zsm (zw7 S) N.toNat := by
    rw [← h2 (zw7 S)]
    exact zsm_congr (fun k k0 k1 => by unfold zv7 zw7; rw [(h1 k k0 (by omega)).1.2.2.1])
  have sumn : zsm (zvn so va b) N.toNat = zsm (zhn S V) N.toNat := by
    rw [← h2 (zhn S V)]
    exact zsm_congr (fun k k0 k1 => by unfold zvn zhn; rw [(h1 k k0 (by omega)).1.2.2.1, (h1 k k0 (by omega)).1.2.2.2.1])
  have sump : ∀ r : Int, r ≤ p → zsm (zvp pb pe q) r.toNat = zsm (zhp B E9) r.toNat := fun r hr => zsm_congr (fun k k0 k1 => by
    obtain ⟨c1, c2⟩ := hc k k0 (by omega)
    unfold zvp zhp; rw [c1, c2])
  have sums : zsm (zvs so va pa fp pb pe b q) N.toNat = zsm (zws S V M P B E9) N.toNat := by
    rw [← h2 (zws S V M P B E9)]
    exact zsm_congr (fun k k0 k1 => by
      obtain ⟨p1, p2, p3, p4, p5, p6, p7, p8⟩ := (h1 k k0 (by omega)).1
      unfold zvs zws; rw [p3, p4, p7]
      by_cases e : zg S (G k) = 2
      · rw [if_pos e, if_pos e, p8 e]
        have z := (r2 (G k) p1 p2).2.2.2.2.2.2.2.2.2.2.2 e
        rw [show q + zg P (G k) - q = zg P (G k) from by omega, sump _ (by omega), sump _ (by omega)]
      · rw [if_neg e, if_neg e])
  have sumr : zsm (zvr so pa fp pb pe b q) N.toNat = zsm (zwr S M P B E9) N.toNat := by
    rw [← h2 (zwr S M P B E9)]
    exact zsm_congr (fun k k0 k1 => by
      obtain ⟨p1, p2, p3, p4, p5, p6, p7, p8⟩ := (h1 k k0 (by omega)).1
      unfold zvr zwr; rw [p3, p7]
      by_cases e : zg S (G k) = 2
      · rw [if_pos e, if_pos e, p8 e]
        have z := (r2 (G k) p1 p2).2.2.2.2.2.2.2.2.2.2.2 e
        rw [show q + zg P (G k) - q = zg P (G k) from by omega, sump _ (by omega), sump _ (by omega)]
      · rw [if_neg e, if_neg e])
  refine ⟨hN1, hN, hC0, hC, p, hp.1, hp.2, fun k k0 k1 => ?_, fun i i0 i1 => ?_, by omega, by omega, by omega⟩
  · obtain ⟨⟨p1, p2, p3, p4, p5, p6, p7, p8⟩, ⟨q1, q2, q3, q4⟩, n1, n2, n3, n4, n5⟩ := h1 k k0 k1
    have z := r2 (G k) p1 p2
    unfold zNk at z
    refine ⟨?_, ⟨q3, fun z => ⟨(q4 z).1, (q4 z).2.1⟩, by rw [hE k k0 k1]; exact q1, by rw [hE k k0 k1]; exact q2, fun j j0 j1 => ?_⟩, by rw [hE k k0 k1]; exact n2, by rw [hE k k0 k1]; exact n3, fun z7 => ?_, n5⟩
    · rw [p3, p4] at *
      rw [p5, p6, p7]
      refine ⟨z.1, z.2.1, z.2.2.1, z.2.2.2.1, z.2.2.2.2.1, z.2.2.2.2.2.1, z.2.2.2.2.2.2.1, z.2.2.2.2.2.2.2.1, z.2.2.2.2.2.2.2.2.1, z.2.2.2.2.2.2.2.2.2.1, n4, fun w => ?_⟩
      have := z.2.2.2.2.2.2.2.2.2.2.2 w
      have := p8 w
      omega
    · rw [hE k k0 k1] at j1 ⊢
      have := hlam (j - k - 1).toNat k j k0 k1 (by omega) j1
      rw [hE j (by omega) (by omega)]; exact this
    · have w := n3 (by omega)
      have w2 := hlam 0 k (k + 1) k0 k1 (by omega) w
      obtain ⟨s1, s2, s3, s4⟩ := (h1 (k + 1) (by omega) (by omega)).2.1.2.2.2 (by omega)
      have e : zg ho (b + (k + 1)) = k := by omega
      rw [hE (k + 1) (by omega) (by omega), hE k k0 k1]
      rw [e] at s4; exact s4 z7
  · obtain ⟨c1, c2⟩ := hc i i0 i1
    rw [c1, c2]; exact r3 i i0 i1
def zcs (en sz : Nat → Int32) (b : Int) : Nat → Int → Int → Int
  | 0, _, _ => 0
  | m + 1, c, l => if c < l then zg sz (b + c) + zcs en sz b m (zg en (b + c)) l else 0
def zct (en sz : Nat → Int32) (b c l : Int) : Int := zcs en sz b (l - c).toNat c l
theorem zcs_fuel {en sz : Nat → Int32} {b l : Int} : ∀ {m m' : Nat} {c : Int}, (∀ k : Int, c ≤ k → k < l → k < zg en (b + k)) → l - c ≤ m → l - c ≤ m' → zcs en sz b m c l = zcs en sz b m' c l := by
  intro m; induction m with
  | zero =>
    intro m' c h h1 h2
    cases m' with
    | zero => rfl
    | succ m' => show 0 = if c < l then _ else 0; rw [if_neg (by omega)]
  | succ m ih =>
    intro m' c h h1 h2
    cases m' with
    | zero => show (if c < l then _ else 0) = 0; rw [if_neg (by omega)]
    | succ m' =>
      show (if c < l then _ else 0) = if c < l then _ else 0
      by_cases e : c < l
      · have := h c (Int.le_refl _) e
        rw [if_pos e, if_pos e, ih (m' := m') (fun k k0 k1 => h k (by omega) k1) (by omega) (by omega)]
      · rw [if_neg e, if_neg e]
theorem zct_end {en sz : Nat → Int32} {b c l : Int} (h : l ≤ c) : zct en sz b c l = 0 := by
  unfold zct; rw [show (l - c).toNat = 0 from by omega]; rfl
theorem zct_step {en sz : Nat → Int32} {b c l : Int} (h : ∀ k : Int, c ≤ k → k < l → k < zg en (b + k)) (hc : c < l) : zct en sz b c l = zg sz (b + c) + zct en sz b (zg en (b + c)) l := by
  unfold zct
  have e : (l - c).toNat = (l - c - 1).toNat + 1 := by omega
  have := h c (Int.le_refl _) hc
  rw [e]
  show (if c < l then _ else 0) = _
  rw [if_pos hc, zcs_fuel (m := (l - c - 1).toNat) (m' := (l - zg en (b + c)).toNat) (fun k k0 k1 => h k (by omega) k1) (by omega) (by omega)]
theorem zcs_congr {en sz enω szω : Nat → Int32} {b l : Int} : ∀ {m : Nat} {c : Int}, (∀ k : Int, c ≤ k → k < l → zg enω (b + k) = zg en (b + k) ∧ zg szω (b + k) = zg sz (b + k) ∧ k < zg en (b + k)) → zcs enω szω b m c l = zcs en sz b m c l := by
  intro m; induction m with
  | zero => intro c _; rfl
  | succ m ih =>
    intro c h
    show (if c < l then _ else 0) = if c < l then _ else 0
    by_cases e : c < l
    · obtain ⟨e1, e2, e3⟩ := h c (Int.le_refl _) e
      rw [if_pos e, if_pos e, e1, e2, ih (fun k k0 k1 => h k (by omega) k1)]
    · rw [if_neg e, if_neg e]
def zby (so le mo : Nat → Int32) (g : Int) : Int := if zg so g = 7 then (if zg mo g = -1 then zg le g + 1 else if zg mo g < 1 then 1 else zg mo g) else 1
def zM1 (so le mo en sz ps : Nat → Int32) (b k : Int) : Prop := 1 ≤ zg sz (b + k) ∧ zg sz (b + k) ≤ 20000 ∧ 0 ≤ zg ps (b + k) ∧ zg ps (b + k) ≤ 20000 ∧ (zg sz (b + k) < 20000 → 1 + zby so le mo (b + k) * zct en sz b (k + 1) (zg en (b + k)) ≤ zg sz (b + k)) ∧ (zg so (b + k) ≤ 2 → 1 ≤ zg ps (b + k)) ∧ (2 < zg so (b + k) → zg ps (b + k) < 20000 → zby so le mo (b + k) * zct en ps b (k + 1) (zg en (b + k)) ≤ zg ps (b + k))
def zMs (so le mo en sz ps : Nat → Int32) (b lo n : Int) : Prop := ∀ k : Int, lo ≤ k → k < n → 0 ≤ k → zM1 so le mo en sz ps b k
def zSu (en sz : Nat → Int32) (b k l c s : Int) : Prop := 0 ≤ s ∧ s ≤ 20000 ∧ (s = 20000 ∨ zct en sz b (k + 1) l ≤ s + zct en sz b c l)
theorem zSu_0 {en sz : Nat → Int32} {b k l c : Int} (hc : c = k + 1) : zSu en sz b k l c (0 : Int32).toInt := ⟨by decide, by decide, Or.inr (by subst hc; show _ ≤ 0 + _; omega)⟩
theorem zSu_s {en sz : Nat → Int32} {b k l : Int} {c c' s s' x : Int} (h : zSu en sz b k l c s) (he : ∀ j : Int, c ≤ j → j < l → j < zg en (b + j)) (hc : c < l) (hx : x = zg sz (b + c)) (hx0 : 0 ≤ x) (hcω : c' = zg en (b + c)) (hs : (s' = s + x ∧ s + x ≤ 20000) ∨ (s' = 20000 ∧ 20000 < s + x)) : zSu en sz b k l c' s' := by
  obtain ⟨h1, h2, h3⟩ := h
  have q := zct_step (sz := sz) he hc
  subst hx; subst hcω
  refine ⟨by omega, by omega, ?_⟩
  omega
def zAll (it : Nat → Bool) (ma ca so va le mo ho pa en fp pb pe sz ps : Nat → Int32) : Prop := ∀ s : Int, 0 ≤ s → s < 6 → it s.toNat = true → zSl so va le mo ho pa en fp pb pe (220 * s) (420 * s) (zg ma s) (zg ca s) ∧ zMs so le mo en sz ps (220 * s) 0 (zg ma s)
theorem zNd_congr {so va le mo ho pa en fp so' vaω leω moω hoω paω enω fpω : Nat → Int32} {b q n c p k : Int} (h : ∀ j : Int, 0 ≤ j → j < n → zg so' (b + j) = zg so (b + j) ∧ zg vaω (b + j) = zg va (b + j) ∧ zg leω (b + j) = zg le (b + j) ∧ zg moω (b + j) = zg mo (b + j) ∧ zg hoω (b + j) = zg ho (b + j) ∧ zg paω (b + j) = zg pa (b + j) ∧ zg enω (b + j) = zg en (b + j) ∧ zg fpω (b + j) = zg fp (b + j)) (k0 : 0 ≤ k) (k1 : k < n) (hd : zNd so va le mo ho pa en fp b q n c p k) : zNd so' vaω leω moω hoω paω enω fpω b q n c p k := by
  obtain ⟨e1, e2, e3, e4, e5, e6, e7, e8⟩ := h k k0 k1
  obtain ⟨d1, ⟨d2, d3, d4, d5, d6⟩, d7, d8, d9, d10⟩ := hd
  unfold zNd
  rw [e1, e2, e3, e4, e5, e6, e7, e8]
  refine ⟨d1, ⟨d2, d3, d4, d5, fun j j0 j1 => ?_⟩, d7, d8, fun z => ?_, fun j j0 j1 j2 j3 => ?_⟩
  · obtain ⟨_, _, _, _, f5, _, f7, _⟩ := h j (by omega) (by omega)
    rw [f5, f7]; exact d6 j j0 j1
  · have := d8 (by omega)
    obtain ⟨_, _, _, _, _, _, f7, _⟩ := h (k + 1) (by omega) (by omega)
    rw [f7]; exact d9 z
  · obtain ⟨f1, f2, _⟩ := h j j0 (by omega)
    rw [f1] at j2; rw [f2]; exact d10 j j0 j1 j2 j3
theorem zSl_congr {so va le mo ho pa en fp pb pe so' vaω leω moω hoω paω enω fpω pbω peω : Nat → Int32} {b q n c : Int} (h : ∀ j : Int, 0 ≤ j → j < 220 → zg so' (b + j) = zg so (b + j) ∧ zg vaω (b + j) = zg va (b + j) ∧ zg leω (b + j) = zg le (b + j) ∧ zg moω (b + j) = zg mo (b + j) ∧ zg hoω (b + j) = zg ho (b + j) ∧ zg paω (b + j) = zg pa (b + j) ∧ zg enω (b + j) = zg en (b + j) ∧ zg fpω (b + j) = zg fp (b + j)) (hp : ∀ i : Int, 0 ≤ i → i < 420 → zg pbω (q + i) = zg pb (q + i) ∧ zg peω (q + i) = zg pe (q + i)) (hs : zSl so va le mo ho pa en fp pb pe b q n c) : zSl so' vaω leω moω hoω paω enω fpω pbω peω b q n c := by
  obtain ⟨s1, s2, s3, s4, p, p0, p1, s5, s6, s7, s8, s9⟩ := hs
  have sumq : ∀ r : Int, r ≤ p → zsm (zvp pbω peω q) r.toNat = zsm (zvp pb pe q) r.toNat := fun r hr => zsm_congr (fun k k0 k1 => by
    obtain ⟨c1, c2⟩ := hp k k0 (by omega)
    unfold zvp; rw [c1, c2])
  refine ⟨s1, s2, s3, s4, p, p0, p1, fun k k0 k1 => zNd_congr (fun j j0 j1 => h j j0 (by omega)) k0 k1 (s5 k k0 k1), fun i i0 i1 => ?_, ?_, ?_, ?_⟩
  · obtain ⟨c1, c2⟩ := hp i i0 (by omega)
    rw [c1, c2]; exact s6 i i0 i1
  · rw [zsm_congr (g := zv7 so b) (fun k k0 k1 => by unfold zv7; rw [(h k k0 (by omega)).1])]; exact s7
  · rw [zsm_congr (g := zvn so va b) (fun k k0 k1 => by unfold zvn; rw [(h k k0 (by omega)).1, (h k k0 (by omega)).2.1]), zsm_congr (f := zvr so' paω fpω pbω peω b q) (g := zvr so pa fp pb pe b q) (fun k k0 k1 => by
      obtain ⟨e1, e2, e3, e4, e5, e6, e7, e8⟩ := h k k0 (by omega)
      unfold zvr; rw [e1, e6, e8]
      by_cases e : zg so (b + k) = 2
      · rw [if_pos e, if_pos e]
        have z := (s5 k k0 (by omega)).1.2.2.2.2.2.2.2.2.2.2.2 e
        rw [sumq _ (by omega), sumq _ (by omega)]
      · rw [if_neg e, if_neg e])]; exact s8
  · rw [zsm_congr (g := zvs so va pa fp pb pe b q) (fun k k0 k1 => by
      obtain ⟨e1, e2, e3, e4, e5, e6, e7, e8⟩ := h k k0 (by omega)
      unfold zvs; rw [e1, e2, e6, e8]
      by_cases e : zg so (b + k) = 2
      · rw [if_pos e, if_pos e]
        have z := (s5 k k0 (by omega)).1.2.2.2.2.2.2.2.2.2.2.2 e
        rw [sumq _ (by omega), sumq _ (by omega)]
      · rw [if_neg e, if_neg e])]; exact s9
theorem zMs_congr {so le mo en sz ps so' leω moω enω szω psω : Nat → Int32} {b lo n : Int} (hn : n ≤ 220) (he : ∀ k : Int, 0 ≤ k → k < n → k < zg en (b + k) ∧ zg en (b + k) ≤ n) (h : ∀ j : Int, 0 ≤ j → j < 220 → zg so' (b + j) = zg so (b + j) ∧ zg leω (b + j) = zg le (b + j) ∧ zg moω (b + j) = zg mo (b + j) ∧ zg enω (b + j) = zg en (b + j) ∧ zg szω (b + j) = zg sz (b + j) ∧ zg psω (b + j) = zg ps (b + j)) (hm : zMs so le mo en sz ps b lo n) : zMs so' leω moω enω szω psω b lo n := by
  intro k k2 k1 k0
  have q := hm k k2 k1 k0
  obtain ⟨e1, e2, e3, e4, e5, e6⟩ := h k k0 (by omega)
  have he1 := he k k0 k1
  have c1 : zct enω szω b (k + 1) (zg en (b + k)) = zct en sz b (k + 1) (zg en (b + k)) := zcs_congr (fun j j0 j1 => ⟨(h j (by omega) (by omega)).2.2.2.1, (h j (by omega) (by omega)).2.2.2.2.1, (he j (by omega) (by omega)).1⟩)
  have c2 : zct enω psω b (k + 1) (zg en (b + k)) = zct en ps b (k + 1) (zg en (b + k)) := zcs_congr (fun j j0 j1 => ⟨(h j (by omega) (by omega)).2.2.2.1, (h j (by omega) (by omega)).2.2.2.2.2, (he j (by omega) (by omega)).1⟩)
  unfold zM1 zby at *
  rw [e1, e2, e3, e4, e5, e6, c1, c2]; exact q
