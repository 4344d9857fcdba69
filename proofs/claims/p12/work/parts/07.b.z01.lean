def zg (f : Nat → Int32) (i : Int) : Int := (f i.toNat).toInt
theorem zg_eq {f : Nat → Int32} {i v : Int32} : zg (upd f i.toNatClampNeg v) i.toInt = v.toInt := by
  show (if i.toNatClampNeg = i.toNatClampNeg then v else f _).toInt = _
  rw [if_pos rfl]
theorem zg_ne {f : Nat → Int32} {i v : Int32} {j : Int} (h0 : 0 ≤ i.toInt) (hj : 0 ≤ j) (h : j ≠ i.toInt) : zg (upd f i.toNatClampNeg v) j = zg f j := by
  show (if j.toNat = i.toInt.toNat then v else f _).toInt = _
  rw [if_neg (by omega)]; rfl
theorem zg_at {f : Nat → Int32} {i x : Int32} (h : x = f i.toNatClampNeg) : x.toInt = zg f i.toInt := by subst h; rfl
def zCh (S V F X : Nat → Int32) : Nat → Int → Int → Int → Int → Int → Prop
  | 0, f, a, b, ca, cb => f = -1 ∧ a = b ∧ ca = cb
  | n + 1, f, a, b, ca, cb => (f = -1 ∧ a = b ∧ ca = cb) ∨ (0 ≤ a ∧ a ≤ f ∧ f < b ∧ (zg S f ≤ 4 → zg F f = -1) ∧ (6 ≤ zg S f → 0 ≤ zg F f) ∧ (7 ≤ zg S f → zg X (zg F f) = -1) ∧
      (zg S f = 8 → zg V f = ca + 1) ∧ ∃ c0 cm : Int, (zg S f = 8 → c0 = ca + 1) ∧ (zg S f ≠ 8 → c0 = ca) ∧ zCh S V F X n (zg F f) a f c0 cm ∧ zCh S V F X n (zg X f) (f + 1) b cm cb)
def zChx (S V F X : Nat → Int32) (f a b ca cb : Int) : Prop := ∃ n, zCh S V F X n f a b ca cb
theorem zCh_le {S V F X : Nat → Int32} : ∀ {n : Nat} {f a b ca cb : Int}, zCh S V F X n f a b ca cb → a ≤ b ∧ ca ≤ cb ∧ (f = -1 → a = b ∧ ca = cb) ∧ (f ≠ -1 → 0 ≤ a ∧ a ≤ f ∧ f < b) := by
  intro n; induction n with
  | zero => intro f a b ca cb h; obtain ⟨h1, h2, h3⟩ := h; omega
  | succ n ih =>
    intro f a b ca cb h
    rcases h with ⟨h1, h2, h3⟩ | ⟨h0, h1, h2, h3, h4, h5, h6, c0, cm, e1, e2, h7, h8⟩
    · omega
    · have q1 := ih h7; have q2 := ih h8
      by_cases e : zg S f = 8
      · have := e1 e; omega
      · have := e2 e; omega
theorem zCh_mono {S V F X : Nat → Int32} : ∀ {n m : Nat} {f a b ca cb : Int}, n ≤ m → zCh S V F X n f a b ca cb → zCh S V F X m f a b ca cb := by
  intro n; induction n with
  | zero =>
    intro m f a b ca cb hm h
    cases m with
    | zero => exact h
    | succ m => exact Or.inl h
  | succ n ih =>
    intro m f a b ca cb hm h
    cases m with
    | zero => omega
    | succ m =>
      rcases h with h | ⟨h0, h1, h2, h3, h4, h5, h6, c0, cm, e1, e2, h7, h8⟩
      · exact Or.inl h
      · exact Or.inr ⟨h0, h1, h2, h3, h4, h5, h6, c0, cm, e1, e2, ih (by omega) h7, ih (by omega) h8⟩
theorem zCh_congr {S V F X S' V' F' X' : Nat → Int32} : ∀ {n : Nat} {f a b ca cb : Int}, (∀ t, a ≤ t → t < b → zg S' t = zg S t ∧ zg V' t = zg V t ∧ zg F' t = zg F t ∧ zg X' t = zg X t) → zCh S V F X n f a b ca cb → zCh S' V' F' X' n f a b ca cb := by
  intro n; induction n with
  | zero => intro f a b ca cb _ h; exact h
  | succ n ih =>
    intro f a b ca cb hc h
    rcases h with h | ⟨h0, h1, h2, h3, h4, h5, h6, c0, cm, e1, e2, h7, h8⟩
    · exact Or.inl h
    · obtain ⟨k1, k2, k3, k4⟩ := hc f h1 h2
      refine Or.inr ⟨h0, h1, h2, by rw [k1, k3]; exact h3, by rw [k1, k3]; exact h4, ?_, by rw [k1, k2]; exact h6, c0, cm, by rw [k1]; exact e1, by rw [k1]; exact e2, ?_, ?_⟩
      · rw [k1, k3]; intro h9
        have q := zCh_le h7
        have q4 := h4 (by omega)
        have := q.2.2.2 (by omega)
        rw [(hc (zg F f) (by omega) (by omega)).2.2.2]; exact h5 h9
      · rw [k3]; exact ih (fun t q1 q2 => hc t q1 (by omega)) h7
      · rw [k4]; exact ih (fun t q1 q2 => hc t (by omega) q2) h8
theorem zCh_last {S V F X : Nat → Int32} : ∀ {n : Nat} {f a b ca cb : Int}, zCh S V F X n f a b ca cb → f ≠ -1 → zg X (b - 1) = -1 := by
  intro n; induction n with
  | zero => intro f a b ca cb h hf; exact absurd h.1 hf
  | succ n ih =>
    intro f a b ca cb h hf
    rcases h with h | ⟨h0, h1, h2, h3, h4, h5, h6, c0, cm, e1, e2, h7, h8⟩
    · exact absurd h.1 hf
    · by_cases e : zg X f = -1
      · have q := (zCh_le h8).2.2.1 e
        have : b - 1 = f := by omega
        rw [this]; exact e
      · exact ih h8 e
theorem zCh_app {S V F X X' : Nat → Int32} {m : Nat} {t b b' cb cb' : Int} (h2 : zCh S V F X m t b b' cb cb') (hb : 0 ≤ b) (hl : zg X' (b - 1) = t) (hx : ∀ k, k ≠ b - 1 → 0 ≤ k → zg X' k = zg X k) : ∀ {n : Nat} {f a ca : Int}, zCh S V F X n f a b ca cb → f ≠ -1 → zCh S V F X' (n + m) f a b' ca cb' := by
  intro n; induction n with
  | zero => intro f a ca h hf; exact absurd h.1 hf
  | succ n ih =>
    intro f a ca h hf
    have hq := (zCh_le h2).1
    rcases h with h | ⟨g0, g1, g2, g3, g4, g5, g6, c0, cm, e1, e2, h7, h8⟩
    · exact absurd h.1 hf
    · have e : n + 1 + m = (n + m) + 1 := by omega
      rw [e]
      have q7 := zCh_le h7
      refine Or.inr ⟨g0, g1, by omega, g3, g4, ?_, g6, c0, cm, e1, e2, ?_, ?_⟩
      · intro h9
        have q4 := g4 (by omega)
        have := q7.2.2.2 (by omega)
        rw [hx _ (by omega) (by omega)]; exact g5 h9
      · exact zCh_mono (by omega) (zCh_congr (fun k k1 k2 => ⟨rfl, rfl, rfl, hx k (by omega) (by omega)⟩) h7)
      · by_cases ex : zg X f = -1
        · have q := (zCh_le h8).2.2.1 ex
          have ef : f = b - 1 := by omega
          rw [ef, hl, show b - 1 + 1 = b from by omega, q.2]
          exact zCh_mono (by omega) (zCh_congr (fun k k1 k2 => ⟨rfl, rfl, rfl, hx k (by omega) (by omega)⟩) h2)
        · rw [hx f (by have := (zCh_le h8).2.2.2 ex; omega) (by omega)]
          exact ih h8 ex
def zRw (S V F X : Nat → Int32) (k f l a b ca cb : Int) : Prop := (k = 0 ∧ f = -1 ∧ a = b ∧ ca = cb) ∨ (1 ≤ k ∧ k ≤ b - a ∧ 0 ≤ a ∧ a ≤ f ∧ f < b ∧ l = b - 1 ∧ (k = 1 → f = b - 1) ∧ zChx S V F X f a b ca cb)
theorem zRw_congr {S V F X S' V' F' X' : Nat → Int32} {k f l a b ca cb : Int} (hc : ∀ t, a ≤ t → t < b → zg S' t = zg S t ∧ zg V' t = zg V t ∧ zg F' t = zg F t ∧ zg X' t = zg X t) (h : zRw S V F X k f l a b ca cb) : zRw S' V' F' X' k f l a b ca cb := by
  rcases h with h | ⟨h1, h2, h3, h4, h5, h6, h7, n, h8⟩
  · exact Or.inl h
  · exact Or.inr ⟨h1, h2, h3, h4, h5, h6, h7, n, zCh_congr hc h8⟩
theorem zRw_le {S V F X : Nat → Int32} {k f l a b ca cb : Int} (h : zRw S V F X k f l a b ca cb) : a ≤ b ∧ ca ≤ cb ∧ 0 ≤ k ∧ k ≤ b - a := by
  rcases h with h | ⟨h1, h2, h3, h4, h5, h6, h7, n, h8⟩
  · omega
  · have := zCh_le h8; omega
def zOne (S V F X : Nat → Int32) (t a b ca cb : Int) : Prop := t = b - 1 ∧ 0 ≤ a ∧ a ≤ t ∧ zg X t = -1 ∧ zChx S V F X t a b ca cb
theorem zRw_first {S V F X : Nat → Int32} {t l a b ca cb : Int} (hl : l = b - 1) (h : zOne S V F X t a b ca cb) : zRw S V F X 1 t l a b ca cb := by
  obtain ⟨h1, h2, h3, h4, h5⟩ := h
  exact Or.inr ⟨by omega, by omega, h2, h3, by omega, hl, fun _ => h1, h5⟩
theorem zRw_one {S V F X : Nat → Int32} {f l a b ca cb : Int} (h : zRw S V F X 1 f l a b ca cb) : zOne S V F X f a b ca cb := by
  rcases h with h | ⟨h1, h2, h3, h4, h5, h6, h7, n, h8⟩
  · omega
  · have e := h7 rfl
    refine ⟨e, h3, h4, ?_, n, h8⟩
    rw [e]; exact zCh_last h8 (by omega)
theorem zRw_next {S V F X X' : Nat → Int32} {k f l t a b b' ca cb cb' : Int} (h : zRw S V F X k f l a b ca cb) (hk : k ≠ 0) (h2 : zOne S V F X t b b' cb cb') (hl : zg X' l = t) (hx : ∀ k, k ≠ l → 0 ≤ k → zg X' k = zg X k) : zRw S V F X' (k + 1) f t a b' ca cb' := by
  rcases h with h | ⟨h1, h2', h3, h4, h5, h6, h7, n, h8⟩
  · omega
  · obtain ⟨g1, g2, g3, g4, m, g5⟩ := h2
    refine Or.inr ⟨by omega, by omega, h3, h4, by omega, g1, fun _ => by omega, n + m, ?_⟩
    rw [h6] at hl hx
    exact zCh_app g5 g2 hl hx h8 (by omega)
theorem zOne_round {S V F X S' V' F' X' : Nat → Int32} {f t a ca c0 cb : Int} (ht : 0 ≤ a) (h : zChx S V F X f a t c0 cb) (hc : ∀ k, 0 ≤ k → k ≠ t → zg S' k = zg S k ∧ zg V' k = zg V k ∧ zg F' k = zg F k ∧ zg X' k = zg X k) (hF : zg F' t = f) (hX : zg X' t = -1) (e0 : zg S' t ≤ 4 → f = -1) (e6 : 6 ≤ zg S' t → f ≠ -1) (e7 : 7 ≤ zg S' t → zg X f = -1) (e8 : zg S' t = 8 → zg V' t = ca + 1) (k1 : zg S' t = 8 → c0 = ca + 1) (k2 : zg S' t ≠ 8 → c0 = ca) : zOne S' V' F' X' t a (t + 1) ca cb := by
  obtain ⟨n, h⟩ := h
  have q := zCh_le h
  refine ⟨by omega, ht, by omega, hX, n + 1, ?_⟩
  have h' := zCh_congr (S' := S') (V' := V') (F' := F') (X' := X') (fun k k1 k2 => hc k (by omega) (by omega)) h
  refine Or.inr ⟨ht, by omega, by omega, by rw [hF]; exact e0, ?_, ?_, e8, c0, cb, k1, k2, by rw [hF]; exact h', ?_⟩
  · rw [hF]; intro z; have := e6 z; have := q.2.2.2 this; omega
  · rw [hF]; intro z
    have z1 := e6 (by omega); have z2 := q.2.2.2 z1
    rw [(hc f (by omega) (by omega)).2.2.2]; exact e7 z
  · rw [hX]; cases n with
    | zero => exact ⟨rfl, rfl, rfl⟩
    | succ n => exact Or.inl ⟨rfl, rfl, rfl⟩
