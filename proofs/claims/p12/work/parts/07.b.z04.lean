def zsm (f : Int → Int) : Nat → Int
  | 0 => 0
  | n + 1 => zsm f n + f n
theorem zsm_congr {f g : Int → Int} : ∀ {n : Nat}, (∀ k : Int, 0 ≤ k → k < n → f k = g k) → zsm f n = zsm g n := by
  intro n; induction n with
  | zero => intro _; rfl
  | succ n ih =>
    intro h
    show zsm f n + f n = zsm g n + g n
    rw [ih (fun k k1 k2 => h k k1 (by omega)), h n (by omega) (by omega)]
theorem zsm_upd {f g : Int → Int} {j : Int} : ∀ {n : Nat}, 0 ≤ j → j < n → (∀ k : Int, 0 ≤ k → k < n → k ≠ j → f k = g k) → zsm f n = zsm g n + f j - g j := by
  intro n; induction n with
  | zero => intro h0 h1 h; omega
  | succ n ih =>
    intro h0 h1 h
    show zsm f n + f n = zsm g n + g n + f j - g j
    by_cases e : j = n
    · subst e
      rw [zsm_congr (fun k k1 k2 => h k k1 (by omega) (by omega))]; omega
    · rw [ih h0 (by omega) (fun k k1 k2 k3 => h k k1 (by omega) k3), h n (by omega) (by omega) (by omega)]; omega
theorem zsm_nn {f : Int → Int} (h : ∀ k : Int, 0 ≤ f k) : ∀ {n : Nat}, 0 ≤ zsm f n := by
  intro n; induction n with
  | zero => exact Int.le_refl _
  | succ n ih => have := h n; show 0 ≤ zsm f n + f n; omega
theorem zsm_mono {f : Int → Int} (h : ∀ k : Int, 0 ≤ f k) {n m : Nat} (hm : n ≤ m) : zsm f n ≤ zsm f m := by
  induction m with
  | zero => have : n = 0 := by omega
            subst this; exact Int.le_refl _
  | succ m ih =>
    by_cases e : n = m + 1
    · subst e; exact Int.le_refl _
    · have := ih (by omega); have := h m; show zsm f n ≤ zsm f m + f m; omega
def zhx (v : Int) : Int := if v < 32 ∨ 126 < v then 1 else 0
def zw7 (S : Nat → Int32) (t : Int) : Int := if zg S t = 7 then 1 else 0
def zhn (S V : Nat → Int32) (t : Int) : Int := if zg S t = 0 then 2 * zhx (zg V t) else 0
def zhp (B E : Nat → Int32) (k : Int) : Int := zhx (zg B k) + zhx (zg E k)
theorem zhx_nn (v : Int) : 0 ≤ zhx v ∧ zhx v ≤ 1 := by unfold zhx; split <;> omega
def zNk (S V L Z M P : Nat → Int32) (p t : Int) : Prop := 0 ≤ zg S t ∧ zg S t ≤ 11 ∧ 0 ≤ zg L t ∧ zg L t ≤ 20 ∧ -1 ≤ zg Z t ∧ (zg Z t ≤ 20 ∧ (zg Z t = -1 ∨ zg L t ≤ zg Z t)) ∧ 0 ≤ zg V t ∧ zg V t ≤ 65535 ∧ (zg S t ≠ 0 → zg V t ≤ 9) ∧ (zg S t = 4 → 1 ≤ zg V t) ∧ (zg S t = 8 → 1 ≤ zg V t) ∧ (zg S t = 2 → 0 ≤ zg P t ∧ 0 ≤ zg M t ∧ zg P t + zg M t ≤ p)
def zFn (S V L Z M P : Nat → Int32) (n p : Int) : Prop := ∀ t : Int, 0 ≤ t → t < n → zNk S V L Z M P p t
def zFp (B E : Nat → Int32) (p : Int) : Prop := ∀ k : Int, 0 ≤ k → k < p → 0 ≤ zg B k ∧ zg B k ≤ 65535 ∧ 0 ≤ zg E k ∧ zg E k ≤ 65535
def zws (S V M P B E : Nat → Int32) (t : Int) : Int := if zg S t = 2 then 5 * zg M t + 4 * (zsm (zhp B E) (zg P t + zg M t).toNat - zsm (zhp B E) (zg P t).toNat) else if zg S t = 0 then 4 * zhx (zg V t) else 0
def zwr (S M P B E : Nat → Int32) (t : Int) : Int := if zg S t = 2 then zsm (zhp B E) (zg P t + zg M t).toNat - zsm (zhp B E) (zg P t).toNat else 0
def zCn (S V M P B E : Nat → Int32) (d n p c i a w : Int) : Prop := zsm (zwr S M P B E) n.toNat ≤ zsm (zhp B E) p.toNat ∧ 2 * zsm (zw7 S) n.toNat + d ≤ i ∧ 3 * (zsm (zhn S V) n.toNat + zsm (zhp B E) p.toNat) ≤ a ∧ 12 * n + 24 * d + zsm (zws S V M P B E) n.toNat ≤ w + 12 * c
def zPb (B E B' E' : Nat → Int32) (q : Int) : Prop := ∀ k : Int, 0 ≤ k → k < q → zg B' k = zg B k ∧ zg E' k = zg E k
def zNew (S V L Z F X M P S' V' L' Z' F' X' M' P' : Nat → Int32) (n s v l z f m q : Int) : Prop :=
  (∀ k : Int, 0 ≤ k → k ≠ n → zg S' k = zg S k ∧ zg V' k = zg V k ∧ zg L' k = zg L k ∧ zg Z' k = zg Z k ∧ zg F' k = zg F k ∧ zg X' k = zg X k ∧ zg M' k = zg M k ∧ zg P' k = zg P k) ∧
  zg S' n = s ∧ zg V' n = v ∧ zg L' n = l ∧ zg Z' n = z ∧ zg F' n = f ∧ zg X' n = -1 ∧ zg M' n = m ∧ zg P' n = q
theorem zNew_c {S V L Z F X M P S' V' L' Z' F' X' M' P' : Nat → Int32} {n s v l z f m q : Int} (h : zNew S V L Z F X M P S' V' L' Z' F' X' M' P' n s v l z f m q) : ∀ k, 0 ≤ k → k ≠ n → zg S' k = zg S k ∧ zg V' k = zg V k ∧ zg F' k = zg F k ∧ zg X' k = zg X k :=
  fun k k1 k2 => by obtain ⟨a1, a2, a3, a4, a5, a6, a7, a8⟩ := h.1 k k1 k2; exact ⟨a1, a2, a5, a6⟩
theorem zNew_made {S V L Z F X M P S' V' L' Z' F' X' M' P' : Nat → Int32} {n s v : Int32} (h0 : 0 ≤ n.toInt) (e1 : S' = upd S n.toNatClampNeg s) (e2 : V' = upd V n.toNatClampNeg v) (e3 : L' = upd L n.toNatClampNeg 0) (e4 : Z' = upd Z n.toNatClampNeg 0) (e5 : F' = upd F n.toNatClampNeg (-1)) (e6 : X' = upd X n.toNatClampNeg (-1)) (e7 : M' = upd M n.toNatClampNeg 0) (e8 : P' = upd P n.toNatClampNeg 0) : zNew S V L Z F X M P S' V' L' Z' F' X' M' P' n.toInt s.toInt v.toInt 0 0 (-1) 0 0 := by
  subst e1; subst e2; subst e3; subst e4; subst e5; subst e6; subst e7; subst e8
  exact ⟨fun k k1 k2 => ⟨zg_ne h0 k1 k2, zg_ne h0 k1 k2, zg_ne h0 k1 k2, zg_ne h0 k1 k2, zg_ne h0 k1 k2, zg_ne h0 k1 k2, zg_ne h0 k1 k2, zg_ne h0 k1 k2⟩, zg_eq, zg_eq, zg_eq, zg_eq, zg_eq, zg_eq, zg_eq, zg_eq⟩
theorem zNew_F {S V L Z F X M P S' V' L' Z' F' X' M' P' F2 : Nat → Int32} {n s v l z f m q : Int} {i x : Int32} (h : zNew S V L Z F X M P S' V' L' Z' F' X' M' P' n s v l z f m q) (hi : i.toInt = n) (h0 : 0 ≤ n) (e : F2 = upd F' i.toNatClampNeg x) : zNew S V L Z F X M P S' V' L' Z' F2 X' M' P' n s v l z x.toInt m q := by
  subst e; subst hi
  obtain ⟨a, b1, b2, b3, b4, b5, b6, b7, b8⟩ := h
  refine ⟨fun k k1 k2 => ?_, b1, b2, b3, b4, zg_eq, b6, b7, b8⟩
  obtain ⟨a1, a2, a3, a4, a5, a6, a7, a8⟩ := a k k1 k2
  exact ⟨a1, a2, a3, a4, by rw [zg_ne h0 k1 k2]; exact a5, a6, a7, a8⟩
theorem zNew_M {S V L Z F X M P S' V' L' Z' F' X' M' P' M2 : Nat → Int32} {n s v l z f m q : Int} {i x : Int32} (h : zNew S V L Z F X M P S' V' L' Z' F' X' M' P' n s v l z f m q) (hi : i.toInt = n) (h0 : 0 ≤ n) (e : M2 = upd M' i.toNatClampNeg x) : zNew S V L Z F X M P S' V' L' Z' F' X' M2 P' n s v l z f x.toInt q := by
  subst e; subst hi
  obtain ⟨a, b1, b2, b3, b4, b5, b6, b7, b8⟩ := h
  refine ⟨fun k k1 k2 => ?_, b1, b2, b3, b4, b5, b6, zg_eq, b8⟩
  obtain ⟨a1, a2, a3, a4, a5, a6, a7, a8⟩ := a k k1 k2
  exact ⟨a1, a2, a3, a4, a5, a6, by rw [zg_ne h0 k1 k2]; exact a7, a8⟩
theorem zNew_P {S V L Z F X M P S' V' L' Z' F' X' M' P' P2 : Nat → Int32} {n s v l z f m q : Int} {i x : Int32} (h : zNew S V L Z F X M P S' V' L' Z' F' X' M' P' n s v l z f m q) (hi : i.toInt = n) (h0 : 0 ≤ n) (e : P2 = upd P' i.toNatClampNeg x) : zNew S V L Z F X M P S' V' L' Z' F' X' M' P2 n s v l z f m x.toInt := by
  subst e; subst hi
  obtain ⟨a, b1, b2, b3, b4, b5, b6, b7, b8⟩ := h
  refine ⟨fun k k1 k2 => ?_, b1, b2, b3, b4, b5, b6, b7, zg_eq⟩
  obtain ⟨a1, a2, a3, a4, a5, a6, a7, a8⟩ := a k k1 k2
  exact ⟨a1, a2, a3, a4, a5, a6, a7, by rw [zg_ne h0 k1 k2]; exact a8⟩
theorem zNew_L {S V L Z F X M P S' V' L' Z' F' X' M' P' L2 : Nat → Int32} {n s v l z f m q : Int} {i x : Int32} (h : zNew S V L Z F X M P S' V' L' Z' F' X' M' P' n s v l z f m q) (hi : i.toInt = n) (h0 : 0 ≤ n) (e : L2 = upd L' i.toNatClampNeg x) : zNew S V L Z F X M P S' V' L2 Z' F' X' M' P' n s v x.toInt z f m q := by
  subst e; subst hi
  obtain ⟨a, b1, b2, b3, b4, b5, b6, b7, b8⟩ := h
  refine ⟨fun k k1 k2 => ?_, b1, b2, zg_eq, b4, b5, b6, b7, b8⟩
  obtain ⟨a1, a2, a3, a4, a5, a6, a7, a8⟩ := a k k1 k2
  exact ⟨a1, a2, by rw [zg_ne h0 k1 k2]; exact a3, a4, a5, a6, a7, a8⟩
theorem zNew_Z {S V L Z F X M P S' V' L' Z' F' X' M' P' Z2 : Nat → Int32} {n s v l z f m q : Int} {i x : Int32} (h : zNew S V L Z F X M P S' V' L' Z' F' X' M' P' n s v l z f m q) (hi : i.toInt = n) (h0 : 0 ≤ n) (e : Z2 = upd Z' i.toNatClampNeg x) : zNew S V L Z F X M P S' V' L' Z2 F' X' M' P' n s v l x.toInt f m q := by
  subst e; subst hi
  obtain ⟨a, b1, b2, b3, b4, b5, b6, b7, b8⟩ := h
  refine ⟨fun k k1 k2 => ?_, b1, b2, b3, zg_eq, b5, b6, b7, b8⟩
  obtain ⟨a1, a2, a3, a4, a5, a6, a7, a8⟩ := a k k1 k2
  exact ⟨a1, a2, a3, by rw [zg_ne h0 k1 k2]; exact a4, a5, a6, a7, a8⟩
def zNok (s v l z m q p : Int) : Prop := 0 ≤ s ∧ s ≤ 11 ∧ 0 ≤ l ∧ l ≤ 20 ∧ -1 ≤ z ∧ (z ≤ 20 ∧ (z = -1 ∨ l ≤ z)) ∧ 0 ≤ v ∧ v ≤ 65535 ∧ (s ≠ 0 → v ≤ 9) ∧ (s = 4 → 1 ≤ v) ∧ (s = 8 → 1 ≤ v) ∧ (s = 2 → 0 ≤ q ∧ 0 ≤ m ∧ q + m ≤ p)
theorem zFn_new {S V L Z F X M P S' V' L' Z' F' X' M' P' : Nat → Int32} {n s v l z f m q p p' : Int} (h : zFn S V L Z M P n p) (hn : zNew S V L Z F X M P S' V' L' Z' F' X' M' P' n s v l z f m q) (hp : p ≤ p') (hk : zNok s v l z m q p') : zFn S' V' L' Z' M' P' (n + 1) p' := by
  intro t t0 t1
  obtain ⟨a, b1, b2, b3, b4, b5, b6, b7, b8⟩ := hn
  by_cases e : t = n
  · subst e; unfold zNk; rw [b1, b2, b3, b4, b7, b8]; exact hk
  · obtain ⟨a1, a2, a3, a4, a5, a6, a7, a8⟩ := a t t0 e
    have := h t t0 (by omega)
    unfold zNk at this ⊢; rw [a1, a2, a3, a4, a7, a8]; omega
theorem zFn_mono {S V L Z M P : Nat → Int32} {n p p' : Int} (h : zFn S V L Z M P n p) (hp : p ≤ p') : zFn S V L Z M P n p' := by
  intro t t0 t1
  have := h t t0 t1
  unfold zNk at this ⊢; omega
theorem zCn_new {S V L Z F X M P S' V' L' Z' F' X' M' P' B E : Nat → Int32} {d d' n s v l z f m q p c i i' a a' w w' : Int} (h0 : 0 ≤ n) (h : zCn S V M P B E d n p c i a w) (hn : zNew S V L Z F X M P S' V' L' Z' F' X' M' P' n s v l z f m q) (hs : s ≠ 2) (hi : (s = 7 → i + 2 + d' ≤ i' + d) ∧ (s ≠ 7 → i + d' ≤ i' + d)) (ha : a ≤ a' ∧ (s = 0 → (v < 32 ∨ 126 < v) → a + 6 ≤ a')) (hw : w + 12 + 24 * d' ≤ w' + 24 * d ∧ (s = 0 → (v < 32 ∨ 126 < v) → w + 16 + 24 * d' ≤ w' + 24 * d)) : zCn S' V' M' P' B E d' (n + 1) p c i' a' w' := by
  obtain ⟨cc, b1, b2, b3, b4, b5, b6, b7, b8⟩ := hn
  obtain ⟨g0, g1, g2, g3⟩ := h
  have e : (n + 1).toNat = n.toNat + 1 := by omega
  have en : ((n.toNat : Nat) : Int) = n := by omega
  have k1 : zsm (zw7 S') n.toNat = zsm (zw7 S) n.toNat := zsm_congr (fun k k1 k2 => by unfold zw7; rw [(cc k k1 (by omega)).1])
  have k2 : zsm (zhn S' V') n.toNat = zsm (zhn S V) n.toNat := zsm_congr (fun k k1 k2 => by unfold zhn; rw [(cc k k1 (by omega)).1, (cc k k1 (by omega)).2.1])
  have k3 : zsm (zws S' V' M' P' B E) n.toNat = zsm (zws S V M P B E) n.toNat := zsm_congr (fun k k1 k2 => by
    obtain ⟨a1, a2, a3, a4, a5, a6, a7, a8⟩ := cc k k1 (by omega)
    unfold zws; rw [a1, a2, a7, a8])
  have k4 : zsm (zwr S' M' P' B E) n.toNat = zsm (zwr S M P B E) n.toNat := zsm_congr (fun k k1 k2 => by
    obtain ⟨a1, a2, a3, a4, a5, a6, a7, a8⟩ := cc k k1 (by omega)
    unfold zwr; rw [a1, a7, a8])
  have w4 : zwr S' M' P' B E n = 0 := by unfold zwr; rw [b1, if_neg hs]
  unfold zCn; rw [e]
  show zsm (zwr S' M' P' B E) n.toNat + zwr S' M' P' B E n.toNat ≤ zsm (zhp B E) p.toNat ∧ 2 * (zsm (zw7 S') n.toNat + zw7 S' n.toNat) + d' ≤ i' ∧ 3 * ((zsm (zhn S' V') n.toNat + zhn S' V' n.toNat) + zsm (zhp B E) p.toNat) ≤ a' ∧ 12 * (n + 1) + 24 * d' + (zsm (zws S' V' M' P' B E) n.toNat + zws S' V' M' P' B E n.toNat) ≤ w' + 12 * c
  rw [en, k1, k2, k3, k4]
  have w1 : zw7 S' n = if s = 7 then 1 else 0 := by unfold zw7; rw [b1]
  have w2 : zhn S' V' n = if s = 0 then 2 * zhx v else 0 := by unfold zhn; rw [b1, b2]
  have w3 : zws S' V' M' P' B E n = if s = 0 then 4 * zhx v else 0 := by unfold zws; rw [b1, if_neg hs, b2]
  rw [w1, w2, w3, w4]
  unfold zhx
  refine ⟨by omega, ?_, ?_, ?_⟩
  · split <;> omega
  · split
    · split
      · have := ha.2 (by assumption) (by assumption); omega
      · omega
    · omega
  · split
    · split
      · have := hw.2 (by assumption) (by assumption); omega
      · omega
    · omega
theorem zhp_pb {B E B' E' : Nat → Int32} {q r : Int} (h : zPb B E B' E' q) (hr : r ≤ q) : zsm (zhp B' E') r.toNat = zsm (zhp B E) r.toNat := zsm_congr (fun k k1 k2 => by
  obtain ⟨e1, e2⟩ := h k k1 (by omega)
  unfold zhp; rw [e1, e2])
theorem zCn_set {S V L Z F X M P S' V' L' Z' F' X' M' P' B E B' E' : Nat → Int32} {d n v l z f m p p' c i i' a a' w w' h : Int} (h0 : 0 ≤ n) (hp0 : 0 ≤ p) (hm : 0 ≤ m) (hc : zCn S V M P B E d n p c i a w) (hF : zFn S V L Z M P n p) (hn : zNew S V L Z F X M P S' V' L' Z' F' X' M' P' n 2 v l z f m p) (hb : zPb B E B' E' p) (hp : p' = p + m) (hh : zsm (zhp B' E') p'.toNat ≤ h) (hi : i ≤ i') (ha : 3 * (h - zsm (zhp B E) p.toNat) ≤ a' - a) (hw : 12 + 5 * m + 4 * (h - zsm (zhp B E) p.toNat) ≤ w' - w) : zCn S' V' M' P' B' E' d (n + 1) p' c i' a' w' := by
  obtain ⟨cc, b1, b2, b3, b4, b5, b6, b7, b8⟩ := hn
  obtain ⟨g0, g1, g2, g3⟩ := hc
  have e : (n + 1).toNat = n.toNat + 1 := by omega
  have en : ((n.toNat : Nat) : Int) = n := by omega
  have k1 : zsm (zw7 S') n.toNat = zsm (zw7 S) n.toNat := zsm_congr (fun k k1 k2 => by unfold zw7; rw [(cc k k1 (by omega)).1])
  have k2 : zsm (zhn S' V') n.toNat = zsm (zhn S V) n.toNat := zsm_congr (fun k k1 k2 => by unfold zhn; rw [(cc k k1 (by omega)).1, (cc k k1 (by omega)).2.1])
  have k3 : zsm (zws S' V' M' P' B' E') n.toNat = zsm (zws S V M P B E) n.toNat := zsm_congr (fun k k1 k2 => by
    obtain ⟨a1, a2, a3, a4, a5, a6, a7, a8⟩ := cc k k1 (by omega)
    unfold zws; rw [a1, a2, a7, a8]
    by_cases q : zg S k = 2
    · rw [if_pos q, if_pos q]
      have z := (hF k k1 (by omega)).2.2.2.2.2.2.2.2.2.2.2 q
      rw [zhp_pb hb (by omega), zhp_pb hb (by omega)]
    · rw [if_neg q, if_neg q])
  have k4 : zsm (zwr S' M' P' B' E') n.toNat = zsm (zwr S M P B E) n.toNat := zsm_congr (fun k k1 k2 => by
    obtain ⟨a1, a2, a3, a4, a5, a6, a7, a8⟩ := cc k k1 (by omega)
    unfold zwr; rw [a1, a7, a8]
    by_cases q : zg S k = 2
    · rw [if_pos q, if_pos q]
      have z := (hF k k1 (by omega)).2.2.2.2.2.2.2.2.2.2.2 q
      rw [zhp_pb hb (by omega), zhp_pb hb (by omega)]
    · rw [if_neg q, if_neg q])
  have w4 : zwr S' M' P' B' E' n = zsm (zhp B' E') p'.toNat - zsm (zhp B E) p.toNat := by
    unfold zwr; rw [b1, if_pos rfl, b7, b8, zhp_pb hb (Int.le_refl _), hp]
  unfold zCn; rw [e]
  show zsm (zwr S' M' P' B' E') n.toNat + zwr S' M' P' B' E' n.toNat ≤ zsm (zhp B' E') p'.toNat ∧ 2 * (zsm (zw7 S') n.toNat + zw7 S' n.toNat) + d ≤ i' ∧ 3 * ((zsm (zhn S' V') n.toNat + zhn S' V' n.toNat) + zsm (zhp B' E') p'.toNat) ≤ a' ∧ 12 * (n + 1) + 24 * d + (zsm (zws S' V' M' P' B' E') n.toNat + zws S' V' M' P' B' E' n.toNat) ≤ w' + 12 * c
  rw [en, k1, k2, k3, k4]
  have w1 : zw7 S' n = 0 := by unfold zw7; rw [b1]; rfl
  have w2 : zhn S' V' n = 0 := by unfold zhn; rw [b1]; rfl
  have w3 : zws S' V' M' P' B' E' n = 5 * m + 4 * (zsm (zhp B' E') p'.toNat - zsm (zhp B E) p.toNat) := by
    unfold zws; rw [b1, if_pos rfl, b7, b8, zhp_pb hb (Int.le_refl _), hp]
  rw [w1, w2, w3, w4]
  omega
theorem zPb_rf {B E : Nat → Int32} {q : Int} : zPb B E B E q := fun _ _ _ => ⟨rfl, rfl⟩
theorem zPb_w {B E B1 E1 B2 E2 : Nat → Int32} {i j x y : Int32} {q : Int} (h : zPb B E B1 E1 q) (e1 : B2 = upd B1 i.toNatClampNeg x) (e2 : E2 = upd E1 j.toNatClampNeg y) (hi : 0 ≤ i.toInt ∧ q ≤ i.toInt) (hj : 0 ≤ j.toInt ∧ q ≤ j.toInt) : zPb B E B2 E2 q := by
  subst e1; subst e2
  intro k k0 k1
  obtain ⟨z1, z2⟩ := h k k0 k1
  exact ⟨by rw [zg_ne hi.1 k0 (by omega)]; exact z1, by rw [zg_ne hj.1 k0 (by omega)]; exact z2⟩
theorem zPb_e {B E B1 E1 E2 : Nat → Int32} {j y : Int32} {q : Int} (h : zPb B E B1 E1 q) (e2 : E2 = upd E1 j.toNatClampNeg y) (hj : 0 ≤ j.toInt ∧ q ≤ j.toInt) : zPb B E B1 E2 q := by
  subst e2
  intro k k0 k1
  obtain ⟨z1, z2⟩ := h k k0 k1
  exact ⟨z1, by rw [zg_ne hj.1 k0 (by omega)]; exact z2⟩
theorem zPb_tr {B E B1 E1 B2 E2 : Nat → Int32} {q r : Int} (h : zPb B E B1 E1 q) (h2 : zPb B1 E1 B2 E2 r) (hq : q ≤ r) : zPb B E B2 E2 q := by
  intro k k0 k1
  obtain ⟨z1, z2⟩ := h k k0 k1
  obtain ⟨z3, z4⟩ := h2 k k0 (by omega)
  exact ⟨z3.trans z1, z4.trans z2⟩
theorem zFp_part {B E B' E' : Nat → Int32} {p b e : Int32} (h : zFp B E p.toInt) (h0 : 0 ≤ p.toInt) (e1 : B' = upd B p.toNatClampNeg b) (e2 : E' = upd E p.toNatClampNeg e) (hb : 0 ≤ b.toInt ∧ b.toInt ≤ 65535 ∧ 0 ≤ e.toInt ∧ e.toInt ≤ 65535) : zFp B' E' (p.toInt + 1) := by
  subst e1; subst e2
  intro k k0 k1
  by_cases q : k = p.toInt
  · subst q; rw [zg_eq, zg_eq]; exact hb
  · rw [zg_ne h0 k0 q, zg_ne h0 k0 q]; exact h k k0 (by omega)
theorem zhp_part {B E B' E' : Nat → Int32} {p b e : Int32} (h0 : 0 ≤ p.toInt) (e1 : B' = upd B p.toNatClampNeg b) (e2 : E' = upd E p.toNatClampNeg e) : zsm (zhp B' E') (p.toInt + 1).toNat = zsm (zhp B E) p.toInt.toNat + zhx b.toInt + zhx e.toInt := by
  subst e1; subst e2
  have q : (p.toInt + 1).toNat = p.toInt.toNat + 1 := by omega
  have en : ((p.toInt.toNat : Nat) : Int) = p.toInt := by omega
  rw [q]
  show zsm _ _ + zhp _ _ (p.toInt.toNat : Nat) = _
  rw [en, zsm_congr (g := zhp B E) (fun k k1 k2 => by unfold zhp; rw [zg_ne h0 k1 (by omega), zg_ne h0 k1 (by omega)])]
  unfold zhp; rw [zg_eq, zg_eq]; omega
