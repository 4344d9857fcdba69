abbrev zT : Type := List (Int × Int) × Int × Int × Int
def zge (φ : Int) (σ τ : zT) : Prop := τ.1 = σ.1 ∧ (φ = 0 → τ.2.1 ≤ σ.2.1 ∧ τ.2.2.1 ≤ σ.2.2.1 ∧ τ.2.2.2 ≤ σ.2.2.2)
def zn (φ : Int) (G : List (Int × Int)) (τ : zT) (U R X : Int) : Prop := τ.1 = G ∧ (φ = 0 → τ.2.1 ≤ U ∧ τ.2.2.1 ≤ R ∧ τ.2.2.2 ≤ X)
theorem zge_rfl {φ : Int} {σ : zT} : zge φ σ σ := ⟨rfl, fun _ => ⟨Int.le_refl _, Int.le_refl _, Int.le_refl _⟩⟩
theorem zge_tr {φ : Int} {σ τ υ : zT} (h : zge φ σ τ) (h2 : zge φ τ υ) : zge φ σ υ := ⟨h2.1.trans h.1, fun e => by have := h.2 e; have := h2.2 e; omega⟩
theorem zn_le {φ : Int} {G : List (Int × Int)} {τ υ : zT} {U R X : Int} (h : zn φ G τ U R X) (h2 : zge φ τ υ) : zn φ G υ U R X := ⟨h2.1.trans h.1, fun e => by have := h.2 e; have := h2.2 e; omega⟩
def zGn (o a : Int) (G : List (Int × Int)) : List (Int × Int) := if o = 6 then (0, a) :: G else if o = 11 then (1, a) :: G else if o = 13 ∨ o = 15 ∨ o = 17 then (2, a) :: G else if o = 7 ∨ o = 12 ∨ o = 14 ∨ o = 18 then G.tail else G
def zdu (o : Int) : Int := if o = 3 then -1 else if o = 9 then 51 else if o = 11 ∨ o = 21 then 52 else if o = 13 ∨ o = 15 then 51 else if o = 17 then 50 else 0
def zdr (o : Int) : Int := if o = 6 then -1 else if o = 7 then -2 else if o = 9 ∨ o = 13 ∨ o = 15 ∨ o = 17 then 30 else if o = 11 then 32 else if o = 21 then 33 else 0
def zdx (o x : Int) : Int := if o ≤ 2 ∨ o = 9 ∨ o = 11 ∨ o = 13 ∨ o = 15 ∨ o = 17 ∨ o = 21 then 1000 else x - 1
def zSd (so va : Nat → Int32) (bs n φ lb : Int) (Λ : Int → zT) (o a b : Int) (σ : zT) : Prop :=
  (0 ≤ o ∧ o ≤ 21 ∧ 0 ≤ a ∧ a < 3000) ∧ (o ≤ 2 → 0 ≤ a ∧ a < n) ∧ (o = 0 → zg so (bs + a) ≤ 2) ∧ (o = 2 → φ = 0 ∧ 0 ≤ zg va (bs + a) ∧ zg va (bs + a) ≤ 9) ∧
  (o = 3 ∨ o = 4 ∨ o = 5 → 0 ≤ a ∧ a < lb ∧ zn φ σ.1 (Λ a) σ.2.1 σ.2.2.1 (σ.2.2.2 - 1)) ∧ (o = 4 → φ = 1) ∧
  (o = 6 ∨ o = 7 → 1 ≤ a ∧ a ≤ 9) ∧ (o = 6 → zFree (20 + a) σ.1) ∧ (o = 7 → ∃ G, σ.1 = (0, a) :: G) ∧
  (8 ≤ o → o ≠ 19 → φ = 0 ∧ (o ≠ 21 → 0 ≤ a ∧ a < n)) ∧
  (o = 9 → 0 ≤ b ∧ b < lb ∧ zn φ σ.1 (Λ b) (σ.2.1 - 1) σ.2.2.1 (σ.2.2.2 - 1)) ∧
  (o = 10 → 0 ≤ b ∧ b < lb ∧ zn φ σ.1 (Λ b) σ.2.1 σ.2.2.1 (σ.2.2.2 - 1)) ∧
  (o = 11 → zFree (470 + a) σ.1) ∧ (o = 12 → ∃ G, σ.1 = (1, a) :: G) ∧
  (o = 13 ∨ o = 15 ∨ o = 17 → zFree (470 + a) σ.1 ∧ zFree (690 + a) σ.1 ∧ (b = -1 ∨ (0 ≤ b ∧ b < lb ∧ zn φ σ.1 (Λ b) (σ.2.1 + 50) (σ.2.2.1 + 30) 1000))) ∧
  (o = 14 ∨ o = 16 ∨ o = 18 ∨ o = 20 → ∃ G, σ.1 = (2, a) :: G)
def zFa (o : Int) : Prop := o ≠ 5 ∧ o ≠ 10 ∧ o ≠ 16 ∧ o ≠ 19 ∧ o ≠ 20
def zOp (so va : Nat → Int32) (bs n φ lb : Int) (Λ : Int → zT) (o a b : Int) (σ τ : zT) : Prop := zSd so va bs n φ lb Λ o a b σ ∧ (zFa o → zn φ (zGn o a σ.1) τ (σ.2.1 + zdu o) (σ.2.2.1 + zdr o) (zdx o σ.2.2.2))
theorem zOp_le {so va : Nat → Int32} {bs n φ lb o a b : Int} {Λ : Int → zT} {σ τ υ : zT} (h : zOp so va bs n φ lb Λ o a b σ τ) (h2 : zge φ τ υ) : zOp so va bs n φ lb Λ o a b σ υ := ⟨h.1, fun z => zn_le (h.2 z) h2⟩
def zRg (τ : zT) : Prop := 0 ≤ τ.2.1 ∧ 0 ≤ τ.2.2.1 ∧ 0 ≤ τ.2.2.2 ∧ τ.2.2.2 ≤ 1000 ∧ zCx τ.1
def zPr (so va ac aA aB la : Nat → Int32) (bs n φ N : Int) (C : Int → zT) : Prop := (1 ≤ N ∧ N ≤ 2999 ∧ n ≤ 220 ∧ (φ = 0 ∨ φ = 1)) ∧ ∃ lb : Int, lb ≤ 3000 ∧ (∀ l : Int, 0 ≤ l → l < lb → 0 ≤ zg la l ∧ zg la l < N) ∧ ∀ p : Int, 0 ≤ p → p < N → zOp so va bs n φ lb (fun l => C (zg la l)) (zg ac p) (zg aA p) (zg aB p) (C p) (C (p + 1)) ∧ zRg (C p) ∧ (zg ac p ≠ 19 → p + 1 < N)
def zU (φ : Int) (τ : zT) : Int := if φ = 0 then τ.2.1 else 0
def zR (φ : Int) (τ : zT) : Int := if φ = 0 then τ.2.2.1 else 0
def zp3 : Nat → Int
  | 0 => 1
  | n + 1 => 3 * zp3 n
theorem zp3_1 : ∀ {n : Nat}, 1 ≤ zp3 n := by
  intro n; induction n with
  | zero => exact Int.le_refl _
  | succ n ih => show 1 ≤ 3 * zp3 n; omega
theorem zp3_a : ∀ {k n : Nat}, zp3 n ≤ zp3 (n + k) := by
  intro k; induction k with
  | zero => intro n; exact Int.le_refl _
  | succ k ih => intro n; have a := @ih n; have b := @zp3_1 (n + k); show zp3 n ≤ 3 * zp3 (n + k); omega
def zw (φ : Int) (τ : zT) : Int := if φ = 0 then zp3 τ.2.2.2.toNat else 1
def zN1 (f : Int → Int) (k : Int) : Int := if f (30 + k) = 0 then 0 else 1
def zNz (f : Int → Int) : Int := zsm (zN1 f) 220
def zCap (f : Int → Int) (lg : Int) : Prop := ∀ a : Int, 0 ≤ a → a ≤ 9 → (-1 ≤ f a ∧ f a ≤ 100) ∧ (-1 ≤ f (10 + a) ∧ f (10 + a) ≤ 100) ∧ (f a < 0 ∨ (f a ≤ f (10 + a) ∧ f (10 + a) ≤ lg))
def zIn (φ : Int) (C : Int → zT) (N fr lg B1 B2 : Int) (f : Int → Int) (n s m t : Int) : Prop := (0 ≤ n ∧ n < N) ∧ zWf fr lg f (C n).1 s m ∧ zCap f lg ∧ m + zU φ (C n) ≤ B1 ∧ t + zNz f + zR φ (C n) ≤ B2
def zP (φ : Int) (ac aA : Nat → Int32) (C : Int → zT) (N fr lg B1 B2 : Int) (s a p : Int) (f : Int → Int) (i t : Int) : Prop :=
  (s = 0 ∧ zIn φ C N fr lg B1 B2 f a p i t) ∨ (s = 1 ∧ zg ac a = 9 ∧ zIn φ C N fr lg B1 B2 f a p i t) ∨ (s = 2 ∧ zg ac a = 17 ∧ 0 ≤ a ∧ zIn φ C N fr lg B1 B2 f (a + 1) p i t ∧ 1 ≤ f (910 + zg aA a) ∧ f (910 + zg aA a) ≤ lg)
def zOm (φ : Int) (C : Int → zT) (s a : Int) : Int := if s = 0 then zw φ (C a) else 1
theorem zw_1 {φ : Int} {τ : zT} : 1 ≤ zw φ τ := by
  unfold zw; split
  · exact zp3_1
  · exact Int.le_refl _
theorem zOm_1 {φ : Int} {C : Int → zT} {s a : Int} : 1 ≤ zOm φ C s a := by
  unfold zOm; split
  · exact zw_1
  · exact Int.le_refl _
theorem zOm_0 {φ : Int} {C : Int → zT} (s a : Int) : 0 ≤ zOm φ C s a := by have := @zOm_1 φ C s a; omega
theorem zIn_m {φ N fr lg B1 B2 B1' B2' n s m t t' : Int} {C : Int → zT} {f : Int → Int} (h : zIn φ C N fr lg B1 B2 f n s m t) (h1 : B1 ≤ B1') (h2 : B2 ≤ B2') (ht : t' ≤ t) : zIn φ C N fr lg B1' B2' f n s m t' := ⟨h.1, h.2.1, h.2.2.1, by have := h.2.2.2.1; omega, by have := h.2.2.2.2; omega⟩
theorem zP_m {φ N fr lg B1 B2 B1' B2' : Int} {ac aA : Nat → Int32} {C : Int → zT} (h1 : B1 ≤ B1') (h2 : B2 ≤ B2') : ∀ s a p f i t, zP φ ac aA C N fr lg B1 B2 s a p f i t → zP φ ac aA C N fr lg B1' B2' s a p f i t := by
  intro s a p f i t h
  rcases h with ⟨e, h⟩ | ⟨e, e2, h⟩ | ⟨e, e2, e3, h, h3⟩
  · exact Or.inl ⟨e, zIn_m h h1 h2 (Int.le_refl _)⟩
  · exact Or.inr (Or.inl ⟨e, e2, zIn_m h h1 h2 (Int.le_refl _)⟩)
  · exact Or.inr (Or.inr ⟨e, e2, e3, zIn_m h h1 h2 (Int.le_refl _), h3⟩)
theorem zN1_b {f : Int → Int} {k : Int} : 0 ≤ zN1 f k ∧ zN1 f k ≤ 1 := by unfold zN1; split <;> omega
theorem zNz_b {f : Int → Int} : 0 ≤ zNz f ∧ zNz f ≤ 220 := ⟨zsm_nn (fun k => zN1_b.1), zsm_ub (fun k => zN1_b.2)⟩
theorem zN1_ne {f : Int → Int} {r v k : Int} (h : 30 + k ≠ r) : zN1 (zfs f r v) k = zN1 f k := by unfold zN1 zfs; rw [if_neg h]
theorem zNz_o {f : Int → Int} {r v : Int} (h : r < 30 ∨ 250 ≤ r) : zNz (zfs f r v) = zNz f := zsm_congr (fun k k0 k1 => zN1_ne (by omega))
theorem zNz_1 {f : Int → Int} {r v : Int} (h : 30 ≤ r ∧ r < 250) : zNz (zfs f r v) ≤ zNz f + 1 := by
  have := zsm_upd (f := zN1 (zfs f r v)) (g := zN1 f) (j := r - 30) (n := 220) (by omega) (by omega) (fun k k0 k1 k2 => zN1_ne (by omega))
  have a := @zN1_b (zfs f r v) (r - 30); have b := @zN1_b f (r - 30)
  unfold zNz; omega
theorem zNz_0 {f : Int → Int} {r : Int} (h : 30 ≤ r ∧ r < 250) (hf : f r ≠ 0) : zNz (zfs f r 0) + 1 ≤ zNz f := by
  have := zsm_upd (f := zN1 (zfs f r 0)) (g := zN1 f) (j := r - 30) (n := 220) (by omega) (by omega) (fun k k0 k1 k2 => zN1_ne (by omega))
  have a : zN1 (zfs f r 0) (r - 30) = 0 := by unfold zN1 zfs; rw [if_pos (show 30 + (r - 30) = r by omega)]; rfl
  have b : zN1 f (r - 30) = 1 := by unfold zN1; rw [show 30 + (r - 30) = r by omega, if_neg hf]
  unfold zNz; omega
theorem zCap_o {f : Int → Int} {r v lg : Int} (h : zCap f lg) (hr : 20 ≤ r) : zCap (zfs f r v) lg := by
  intro a a0 a1
  have e1 : zfs f r v a = f a := if_neg (by omega)
  have e2 : zfs f r v (10 + a) = f (10 + a) := if_neg (by omega)
  rw [e1, e2]; exact h a a0 a1
theorem zpw {a b : Int} (h : b + 1 ≤ a) (hb : 0 ≤ b) : 3 * zp3 b.toNat ≤ zp3 a.toNat := by
  have e : a.toNat = (b.toNat + 1) + (a.toNat - (b.toNat + 1)) := by omega
  have := zp3_a (n := b.toNat + 1) (k := a.toNat - (b.toNat + 1))
  rw [e]; exact this
theorem zw_3 {φ : Int} {σ τ : zT} (h : φ = 0 → τ.2.2.2 + 1 ≤ σ.2.2.2) (hx : 0 ≤ τ.2.2.2) (hp : φ = 0 ∨ φ = 1) : zw φ τ + zw φ τ + 1 ≤ zw φ σ + 2 * φ ∧ zw φ τ + 2 * (1 - φ) ≤ zw φ σ := by
  unfold zw
  rcases hp with e | e
  · have := zpw (h e) hx
    have q := @zp3_1 τ.2.2.2.toNat
    rw [if_pos e, if_pos e]; omega
  · rw [if_neg (by omega), if_neg (by omega)]; omega
theorem zw_m {φ : Int} {σ τ υ : zT} (h : φ = 0 → τ.2.2.2 + 1 ≤ σ.2.2.2) (h2 : φ = 0 → υ.2.2.2 + 1 ≤ σ.2.2.2) (hx : 0 ≤ τ.2.2.2) (hx2 : 0 ≤ υ.2.2.2) (hp : φ = 0 ∨ φ = 1) : zw φ τ + zw φ υ + 1 ≤ zw φ σ + 2 * φ := by
  have a := zw_3 h hx hp; have b := zw_3 h2 hx2 hp; omega
theorem zw_b {φ : Int} {τ : zT} {k : Nat} (h : τ.2.2.2 ≤ k) : zw φ τ ≤ zp3 k := by
  unfold zw; split
  · have := zp3_a (n := τ.2.2.2.toNat) (k := k - τ.2.2.2.toNat)
    rw [show τ.2.2.2.toNat + (k - τ.2.2.2.toNat) = k by omega] at this
    exact this
  · exact zp3_1
theorem zW_ex {k : Nat} (hk : (k : Int) = 1000) : ∃ W : Int, 1 ≤ W ∧ ∀ (φ : Int) (τ : zT), zRg τ → zw φ τ ≤ W := ⟨zp3 k, zp3_1, fun φ τ h => zw_b (by rw [hk]; exact h.2.2.2.1)⟩
