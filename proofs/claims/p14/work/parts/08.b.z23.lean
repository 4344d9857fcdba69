def zST (rg to tl rgω toω tlω : Nat → Int32) (t t' : Int) (r v : Int32) : Prop := (t' = t ∧ rgω = rg ∧ toω = to ∧ tlω = tl ∧ zg rg r.toInt = v.toInt) ∨ (t' = t + 1 ∧ zg rg r.toInt ≠ v.toInt ∧ rgω = upd rg r.toNatClampNeg v ∧ zg toω t = r.toInt ∧ zg tlω t = zg rg r.toInt ∧ ∀ j : Int, 0 ≤ j → j ≠ t → zg toω j = zg to j ∧ zg tlω j = zg tl j)
theorem zST_a {rg to tl : Nat → Int32} {t : Int} {r v x : Int32} (ex : x = rg r.toNatClampNeg) (h : x.toInt = v.toInt) : zST rg to tl rg to tl t t r v := Or.inl ⟨rfl, rfl, rfl, rfl, by rw [← zg_at ex]; exact h⟩
theorem zST_b {rg to tl rgω toω tlω : Nat → Int32} {t' : Int} {t r v x y : Int32} (ex : x = rg r.toNatClampNeg) (ey : y = rg r.toNatClampNeg) (e1 : toω = upd to t.toNatClampNeg r) (e2 : tlω = upd tl t.toNatClampNeg y) (e3 : rgω = upd rg r.toNatClampNeg v) (h : x.toInt ≠ v.toInt) (h0 : 0 ≤ t.toInt) (ht : t' = t.toInt + 1) : zST rg to tl rgω toω tlω t.toInt t' r v := by
  subst e1; subst e2
  exact Or.inr ⟨ht, by rw [← zg_at ex]; exact h, e3, zg_eq, by rw [zg_eq]; exact zg_at ey, fun j j0 j1 => ⟨zg_ne h0 j0 j1, zg_ne h0 j0 j1⟩⟩
def zTb (st cl ld co : Nat → Int32) (t bm : Int) : Prop := (1 ≤ zg st t ∧ zg st t ≤ 60) ∧ (1 ≤ zg cl t ∧ zg cl t ≤ 260) ∧ (∀ q c : Int, 0 ≤ q → q < zg st t → 0 ≤ c → c < zg cl t → 0 ≤ zg ld (30500 * t + 500 * q + c) ∧ zg ld (30500 * t + 500 * q + c) < zg st t) ∧ (∀ b : Int, 0 ≤ b → b < bm → 0 ≤ zg co (3000 * t + b) ∧ zg co (3000 * t + b) < zg cl t)
theorem zTb_s {st cl ld co : Nat → Int32} {t bm : Int} {x i : Int32} (h : zTb st cl ld co t bm) (ex : x = st i.toNatClampNeg) (hi : i.toInt = t) : 1 ≤ x.toInt ∧ x.toInt ≤ 60 := by
  have := zg_at2 ex hi; have := h.1; omega
theorem zTb_c {st cl ld co : Nat → Int32} {t bm : Int} {x i : Int32} (h : zTb st cl ld co t bm) (ex : x = cl i.toNatClampNeg) (hi : i.toInt = t) : 1 ≤ x.toInt ∧ x.toInt ≤ 260 := by
  have := zg_at2 ex hi; have := h.2.1; omega
theorem zTb_l {st cl ld co : Nat → Int32} {t bm q c : Int} {x i : Int32} (h : zTb st cl ld co t bm) (ex : x = ld i.toNatClampNeg) (hi : i.toInt = 30500 * t + 500 * q + c) (q0 : 0 ≤ q) (q1 : q < zg st t) (c0 : 0 ≤ c) (c1 : c < zg cl t) : 0 ≤ x.toInt ∧ x.toInt < zg st t := by
  have := zg_at2 ex hi; have := h.2.2.1 q c q0 q1 c0 c1; omega
theorem zTb_o {st cl ld co : Nat → Int32} {t bm b : Int} {x i : Int32} (h : zTb st cl ld co t bm) (ex : x = co i.toNatClampNeg) (hi : i.toInt = 3000 * t + b) (b0 : 0 ≤ b) (b1 : b < bm) : 0 ≤ x.toInt ∧ x.toInt < zg cl t := by
  have := zg_at2 ex hi; have := h.2.2.2 b b0 b1; omega
theorem zTb_c0 {st cl ld co : Nat → Int32} {bm : Int} {x : Int32} (h : zTb st cl ld co 0 bm) (ex : x = cl (0 : Int32).toNatClampNeg) : x.toInt = zg cl 0 ∧ 1 ≤ x.toInt ∧ x.toInt ≤ 260 := by
  have e : x.toInt = zg cl 0 := by subst ex; rfl
  have := h.2.1; omega
theorem zTb_s0 {st cl ld co : Nat → Int32} {bm : Int} {x : Int32} (h : zTb st cl ld co 0 bm) (ex : x = st (0 : Int32).toNatClampNeg) : x.toInt = zg st 0 ∧ 1 ≤ x.toInt ∧ x.toInt ≤ 60 := by
  have e : x.toInt = zg st 0 := by subst ex; rfl
  have := h.1; omega
theorem zcB_up {f f' : Nat → Bool} {i : Int32} {b : Bool} {n : Nat} (e : f' = updB f i.toNatClampNeg b) (h0 : 0 ≤ i.toInt) (h1 : i.toInt < n) : zcB f' n = zcB f n + zb1 f' i.toInt - zb1 f i.toInt := by
  unfold zcB
  exact zsm_upd h0 h1 (fun k k0 k1 k2 => by unfold zb1; rw [zupdB_ne e h0 k0 k2])
def zLv (f0 f : Nat → Bool) (m : Int) : Prop := zcB f0 60 ≤ zcB f 60 ∧ (m ≠ 0 → zcB f0 60 + 1 ≤ zcB f 60)
theorem zLv_0 {f : Nat → Bool} : zLv f f (0 : Int32).toInt := ⟨Int.le_refl _, fun h => absurd rfl h⟩
theorem zcB_60 (f : Nat → Bool) : 0 ≤ zcB f 60 ∧ zcB f 60 ≤ 60 := ⟨zsm_nn (fun k => (zb1_nn f k).1), by have := zsm_ub (f := zb1 f) (fun k => (zb1_nn f k).2) (n := 60); unfold zcB; omega⟩
theorem zLv_s {f0 f f' : Nat → Bool} {i x : Int32} {b : Bool} {m m' : Int} (h : zLv f0 f m) (ex : x = bz (f i.toNatClampNeg)) (hx : x.toInt = 0) (e : f' = updB f i.toNatClampNeg b) (h0 : 0 ≤ i.toInt) (h1 : i.toInt < 60) (hm : m' ≠ 0 → m ≠ 0 ∨ f' i.toNatClampNeg = true) : zLv f0 f' m' := by
  obtain ⟨a, c⟩ := h
  have q := zcB_up (n := 60) e h0 (by omega)
  have q1 : zb1 f i.toInt = 0 := by unfold zb1; rw [if_neg]; rw [show f i.toInt.toNat = false from zbz_f ex hx]; decide
  have q2 := zb1_nn f' i.toInt
  refine ⟨by omega, fun z => ?_⟩
  rcases hm z with w | w
  · have := c w; omega
  · have q3 : zb1 f' i.toInt = 1 := by unfold zb1; rw [if_pos]; exact w
    omega
theorem zcB_lt {f : Nat → Bool} {n : Nat} {i : Int32} (h0 : 0 ≤ i.toInt) (h1 : i.toInt < n) (hf : f i.toNatClampNeg = false) : zcB f n ≤ n - 1 := by
  have q := zcB_up (f := f) (f' := updB f i.toNatClampNeg true) (b := true) (n := n) rfl h0 h1
  have q1 : zb1 f i.toInt = 0 := by unfold zb1; rw [if_neg]; rw [show f i.toInt.toNat = false from hf]; decide
  have q2 : zb1 (updB f i.toNatClampNeg true) i.toInt = 1 := by unfold zb1; rw [if_pos]; exact zupdB_eq rfl
  have q3 : zcB (updB f i.toNatClampNeg true) n ≤ n := zsm_ub (fun k => (zb1_nn _ k).2)
  omega
theorem zcB_inc {f f' : Nat → Bool} {n : Nat} {i : Int32} {b : Bool} (e : f' = updB f i.toNatClampNeg b) (hb : b = true) (h0 : 0 ≤ i.toInt) (h1 : i.toInt < n) (hf : f i.toNatClampNeg = false) : zcB f' n = zcB f n + 1 := by
  have q := zcB_up (n := n) e h0 h1
  have q1 : zb1 f i.toInt = 0 := by unfold zb1; rw [if_neg]; rw [show f i.toInt.toNat = false from hf]; decide
  have q2 : zb1 f' i.toInt = 1 := by unfold zb1; rw [if_pos]; rw [zupdB_eq e]; exact hb
  omega
theorem zbzf_eq {f : Nat → Bool} {i j x : Int32} (ex : x = bz (f i.toNatClampNeg)) (hx : x.toInt = 0) (hj : j.toInt = i.toInt) : f j.toNatClampNeg = false := by
  have : j = i := Int32.toInt_inj.mp hj
  subst this; exact zbz_f ex hx
def zSo (sa sb cl : Nat → Int32) (m : Int) : Prop := ∀ c : Int, 0 ≤ c → c < m → (0 ≤ zg sa c ∧ zg sa c < zg cl 0) ∧ (0 ≤ zg sb c ∧ zg sb c < zg cl 1)
theorem zSo_0 {sa sb cl : Nat → Int32} : zSo sa sb cl (0 : Int32).toInt := fun c c0 c1 => by
  have e : (0 : Int32).toInt = 0 := rfl
  omega
theorem zSo_w {sa sb saω sbω cl : Nat → Int32} {k x y : Int32} {m m' : Int} (h : zSo sa sb cl m) (e1 : saω = upd sa k.toNatClampNeg x) (e2 : sbω = upd sb k.toNatClampNeg y) (hx : 0 ≤ x.toInt ∧ x.toInt < zg cl 0) (hy : 0 ≤ y.toInt ∧ y.toInt < zg cl 1) (hk : k.toInt = m) (h0 : 0 ≤ m) (hm : m' = m + 1) : zSo saω sbω cl m' := by
  subst e1; subst e2; subst hm; subst hk
  intro c c0 c1
  by_cases q : c = k.toInt
  · subst q; rw [zg_eq, zg_eq]; exact ⟨hx, hy⟩
  · rw [zg_ne h0 c0 q, zg_ne h0 c0 q]; exact h c c0 (by omega)
def zNp (f : Nat → Bool) (k : Int) : Prop := zOff f k
theorem zNp_c {f : Nat → Bool} {n : Nat} (h : zOff f n) : zcB f n = 0 := by
  unfold zcB
  rw [zsm_congr (g := fun _ => 0) (fun k k0 k1 => by unfold zb1; rw [h k k0 k1]; rfl)]
  have : ∀ m : Nat, zsm (fun _ => 0) m = 0 := by
    intro m; induction m with
    | zero => rfl
    | succ m ih => show zsm _ m + 0 = 0; rw [ih]; rfl
  exact this n
theorem zSo_a {sa sb cl : Nat → Int32} {m : Int} {x i : Int32} (h : zSo sa sb cl m) (ex : x = sa i.toNatClampNeg) (h0 : 0 ≤ i.toInt) (h1 : i.toInt < m) : 0 ≤ x.toInt ∧ x.toInt < zg cl 0 := by
  rw [zg_at ex]; exact (h i.toInt h0 h1).1
theorem zSo_b {sa sb cl : Nat → Int32} {m : Int} {x i : Int32} (h : zSo sa sb cl m) (ex : x = sb i.toNatClampNeg) (h0 : 0 ≤ i.toInt) (h1 : i.toInt < m) : 0 ≤ x.toInt ∧ x.toInt < zg cl 1 := by
  rw [zg_at ex]; exact (h i.toInt h0 h1).2
def zPp (sa sb : Nat → Int32) (s0 s1 m : Int) : Prop := ∀ c : Int, 0 ≤ c → c < m → (0 ≤ zg sa c ∧ zg sa c < s0) ∧ (0 ≤ zg sb c ∧ zg sb c < s1)
theorem zPp_0 {sa sb : Nat → Int32} {s0 s1 : Int} : zPp sa sb s0 s1 (0 : Int32).toInt := fun c c0 c1 => by
  have e : (0 : Int32).toInt = 0 := rfl
  omega
theorem zPp_w {sa sb saω sbω : Nat → Int32} {s0 s1 : Int} {k x y : Int32} {m' : Int} (h : zPp sa sb s0 s1 k.toInt) (e1 : saω = upd sa k.toNatClampNeg x) (e2 : sbω = upd sb k.toNatClampNeg y) (hx : 0 ≤ x.toInt ∧ x.toInt < s0) (hy : 0 ≤ y.toInt ∧ y.toInt < s1) (h0 : 0 ≤ k.toInt) (hm : m' = k.toInt + 1) : zPp saω sbω s0 s1 m' := by
  subst e1; subst e2; subst hm
  intro c c0 c1
  by_cases q : c = k.toInt
  · subst q; rw [zg_eq, zg_eq]; exact ⟨hx, hy⟩
  · rw [zg_ne h0 c0 q, zg_ne h0 c0 q]; exact h c c0 (by omega)
theorem zPp_a {sa sb : Nat → Int32} {s0 s1 m : Int} {x i : Int32} (h : zPp sa sb s0 s1 m) (ex : x = sa i.toNatClampNeg) (h0 : 0 ≤ i.toInt) (h1 : i.toInt < m) : 0 ≤ x.toInt ∧ x.toInt < s0 := by
  rw [zg_at ex]; exact (h i.toInt h0 h1).1
theorem zPp_b {sa sb : Nat → Int32} {s0 s1 m : Int} {x i : Int32} (h : zPp sa sb s0 s1 m) (ex : x = sb i.toNatClampNeg) (h0 : 0 ≤ i.toInt) (h1 : i.toInt < m) : 0 ≤ x.toInt ∧ x.toInt < s1 := by
  rw [zg_at ex]; exact (h i.toInt h0 h1).2
def zBq (rg va : Nat → Int32) (g l : Int) : Prop := (0 ≤ zg va g ∧ zg va g ≤ 9) ∧ (-1 ≤ zg rg (zg va g) ∧ zg rg (zg va g) ≤ 100) ∧ (-1 ≤ zg rg (10 + zg va g) ∧ zg rg (10 + zg va g) ≤ 100) ∧ (zg rg (zg va g) < 0 ∨ (zg rg (zg va g) ≤ zg rg (10 + zg va g) ∧ zg rg (10 + zg va g) ≤ l))
theorem zBq_v {rg va : Nat → Int32} {l : Int} {g x : Int32} (h : zBq rg va g.toInt l) (ex : x = va g.toNatClampNeg) : 0 ≤ x.toInt ∧ x.toInt ≤ 9 := by
  rw [zg_at ex]; exact h.1
theorem zBq_b {rg va : Nat → Int32} {l : Int} {g x y i : Int32} (h : zBq rg va g.toInt l) (ex : x = va g.toNatClampNeg) (ey : y = rg i.toNatClampNeg) (hi : i.toInt = x.toInt) : -1 ≤ y.toInt ∧ y.toInt ≤ 100 := by
  have e := zg_at ex
  have := zg_at2 ey (hi.trans e); have := h.2.1; omega
theorem zBq_e {rg va : Nat → Int32} {l : Int} {g x y i x2 y2 i2 : Int32} (h : zBq rg va g.toInt l) (ex : x = va g.toNatClampNeg) (ey : y = rg i.toNatClampNeg) (hi : i.toInt = x.toInt) (ex2 : x2 = va g.toNatClampNeg) (ey2 : y2 = rg i2.toNatClampNeg) (hi2 : i2.toInt = 10 + x2.toInt) : (-1 ≤ y2.toInt ∧ y2.toInt ≤ 100) ∧ (y.toInt < 0 ∨ (y.toInt ≤ y2.toInt ∧ y2.toInt ≤ l)) := by
  have e := zg_at ex; have e2 := zg_at ex2
  have a := zg_at2 ey (hi.trans e); have b := zg_at2 (k := 10 + zg va g.toInt) ey2 (by omega)
  obtain ⟨h1, h2, h3, h4⟩ := h
  rw [a, b]; exact ⟨h3, h4⟩
def zfs (f : Int → Int) (r v : Int) : Int → Int := fun j => if j = r then v else f j
def zun (to tl : Nat → Int32) : Nat → Int → (Int → Int) → (Int → Int)
  | 0, _, f => f
  | n + 1, t, f => zun to tl n (t - 1) (zfs f (zg to (t - 1)) (zg tl (t - 1)))
theorem zun_add {to tl : Nat → Int32} : ∀ {m n : Nat} {t : Int} {f : Int → Int}, zun to tl (m + n) t f = zun to tl n (t - m) (zun to tl m t f) := by
  intro m; induction m with
  | zero => intro n t f; rw [Nat.zero_add, show t - ((0 : Nat) : Int) = t from by omega]; rfl
  | succ m ih =>
    intro n t f
    rw [show m + 1 + n = (m + n) + 1 from by omega]
    show zun to tl (m + n) (t - 1) _ = _
    rw [ih, show t - 1 - (m : Int) = t - ((m + 1 : Nat) : Int) from by omega]; rfl
theorem zun_congr {to tl toω tlω : Nat → Int32} : ∀ {n : Nat} {t : Int} {f : Int → Int}, (n : Int) ≤ t → (∀ j : Int, 0 ≤ j → j < t → zg toω j = zg to j ∧ zg tlω j = zg tl j) → zun toω tlω n t f = zun to tl n t f := by
  intro n; induction n with
  | zero => intro t f _ _; rfl
  | succ n ih =>
    intro t f hn h
    obtain ⟨e1, e2⟩ := h (t - 1) (by omega) (by omega)
    show zun toω tlω n (t - 1) _ = zun to tl n (t - 1) _
    rw [e1, e2]; exact ih (by omega) (fun j j0 j1 => h j j0 (by omega))
theorem zfs_same {f : Int → Int} {r v : Int} : zfs (zfs f r v) r (f r) = f := by
  funext j; unfold zfs; by_cases e : j = r
  · rw [if_pos e, e]
  · rw [if_neg e, if_neg e]
def zSw (w : Int → Int → Int) (cs ca : Nat → Int32) : Nat → Int
  | 0 => 0
  | n + 1 => zSw w cs ca n + w (zg cs (n : Int)) (zg ca (n : Int))
theorem zSw_congr {w : Int → Int → Int} {cs ca cs' ca' : Nat → Int32} : ∀ {n : Nat}, (∀ j : Int, 0 ≤ j → j < n → zg cs' j = zg cs j ∧ zg ca' j = zg ca j) → zSw w cs' ca' n = zSw w cs ca n := by
  intro n; induction n with
  | zero => intro _; rfl
  | succ n ih =>
    intro h
    obtain ⟨e1, e2⟩ := h n (by omega) (by omega)
    show zSw w cs' ca' n + _ = zSw w cs ca n + _
    rw [ih (fun j j0 j1 => h j j0 (by omega)), e1, e2]
theorem zSw_le {w : Int → Int → Int} {cs ca : Nat → Int32} (hw : ∀ s a : Int, 0 ≤ w s a) : ∀ {k n : Nat}, zSw w cs ca n ≤ zSw w cs ca (n + k) := by
  intro k; induction k with
  | zero => intro n; exact Int.le_refl _
  | succ k ih =>
    intro n
    have a := @ih n
    have b : zSw w cs ca (n + (k + 1)) = zSw w cs ca (n + k) + w (zg cs ((n + k : Nat) : Int)) (zg ca ((n + k : Nat) : Int)) := rfl
    have c := hw (zg cs ((n + k : Nat) : Int)) (zg ca ((n + k : Nat) : Int))
    omega
def zCs (P : Int → Int → Int → (Int → Int) → Int → Int → Prop) (w : Int → Int → Int) (to tl cs ca cp ct : Nat → Int32) (t m : Int) (f : Int → Int) (S : Int) : Prop :=
  (∀ i : Int, 0 ≤ i → i < m → 0 ≤ zg ct i ∧ zg ct i ≤ t ∧ P (zg cs i) (zg ca i) (zg cp i) (zun to tl (t - zg ct i).toNat t f) i (zg ct i)) ∧ (∀ i j : Int, 0 ≤ i → i ≤ j → j < m → zg ct i ≤ zg ct j) ∧ zSw w cs ca m.toNat ≤ S
theorem zCs_mono {P Q : Int → Int → Int → (Int → Int) → Int → Int → Prop} {w : Int → Int → Int} {to tl cs ca cp ct : Nat → Int32} {t m S S' : Int} {f : Int → Int} (h : zCs P w to tl cs ca cp ct t m f S) (hP : ∀ s a p f i t, P s a p f i t → Q s a p f i t) (hS : S ≤ S') : zCs Q w to tl cs ca cp ct t m f S' :=
  ⟨fun i i0 i1 => ⟨(h.1 i i0 i1).1, (h.1 i i0 i1).2.1, hP _ _ _ _ _ _ (h.1 i i0 i1).2.2⟩, h.2.1, Int.le_trans h.2.2 hS⟩
theorem zCs_0 {P : Int → Int → Int → (Int → Int) → Int → Int → Prop} {w : Int → Int → Int} {to tl cs ca cp ct : Nat → Int32} {t S : Int} {f : Int → Int} (hS : 0 ≤ S) : zCs P w to tl cs ca cp ct t 0 f S := ⟨fun i i0 i1 => by omega, fun i j i0 i1 i2 => by omega, hS⟩
theorem zCs_cut {P : Int → Int → Int → (Int → Int) → Int → Int → Prop} {w : Int → Int → Int} {to tl cs ca cp ct : Nat → Int32} {t m m' S : Int} {f : Int → Int} (h : zCs P w to tl cs ca cp ct t m f S) (hw : ∀ s a : Int, 0 ≤ w s a) (hm : m' ≤ m) : zCs P w to tl cs ca cp ct t m' f S :=
  ⟨fun i i0 i1 => h.1 i i0 (by omega), fun i j i0 i1 i2 => h.2.1 i j i0 i1 (by omega), by
    have := zSw_le (cs := cs) (ca := ca) hw (k := m.toNat - m'.toNat) (n := m'.toNat)
    rw [show m'.toNat + (m.toNat - m'.toNat) = m.toNat from by omega] at this
    exact Int.le_trans this h.2.2⟩
theorem zCs_set {P : Int → Int → Int → (Int → Int) → Int → Int → Prop} {w : Int → Int → Int} {to tl toω tlω cs ca cp ct : Nat → Int32} {t m r v S : Int} {f : Int → Int} (h : zCs P w to tl cs ca cp ct t m f S) (h0 : 0 ≤ t) (e1 : zg toω t = r) (e2 : zg tlω t = f r) (e3 : ∀ j : Int, 0 ≤ j → j ≠ t → zg toω j = zg to j ∧ zg tlω j = zg tl j) : zCs P w toω tlω cs ca cp ct (t + 1) m (zfs f r v) S := by
  refine ⟨fun i i0 i1 => ?_, h.2⟩
  obtain ⟨a, b, c⟩ := h.1 i i0 i1
  refine ⟨a, by omega, ?_⟩
  rw [show (t + 1 - zg ct i).toNat = (t - zg ct i).toNat + 1 from by omega]
  show P _ _ _ (zun toω tlω _ (t + 1 - 1) (zfs (zfs f r v) (zg toω (t + 1 - 1)) (zg tlω (t + 1 - 1)))) i _
  rw [show t + 1 - 1 = t from by omega, e1, e2, zfs_same, zun_congr (by omega) (fun j j0 j1 => e3 j j0 (by omega))]
  exact c
theorem zCs_choose {P : Int → Int → Int → (Int → Int) → Int → Int → Prop} {w : Int → Int → Int} {to tl cs ca cp ct cs' ca' cp' ct' : Nat → Int32} {t m S : Int} {f : Int → Int} (h : zCs P w to tl cs ca cp ct t m f S) (h0 : 0 ≤ t) (hm : 0 ≤ m) (e : ∀ j : Int, 0 ≤ j → j ≠ m → zg cs' j = zg cs j ∧ zg ca' j = zg ca j ∧ zg cp' j = zg cp j ∧ zg ct' j = zg ct j) (et : zg ct' m = t) (hP : P (zg cs' m) (zg ca' m) (zg cp' m) f m t) : zCs P w to tl cs' ca' cp' ct' t (m + 1) f (S + w (zg cs' m) (zg ca' m)) := by
  refine ⟨fun i i0 i1 => ?_, fun i j i0 i1 i2 => ?_, ?_⟩
  · by_cases q : i = m
    · subst q; rw [et]
      refine ⟨h0, Int.le_refl _, ?_⟩
      rw [show (t - t).toNat = 0 from by omega]; exact hP
    · obtain ⟨a1, a2, a3, a4⟩ := e i i0 q
      rw [a1, a2, a3, a4]; exact h.1 i i0 (by omega)
  · by_cases q : j = m
    · subst q; rw [et]
      by_cases w : i = j
      · subst w; omega
      · rw [(e i i0 w).2.2.2]; exact (h.1 i i0 (by omega)).2.1
    · rw [(e j (by omega) q).2.2.2, (e i i0 (by omega)).2.2.2]; exact h.2.1 i j i0 i1 (by omega)
  · rw [show (m + 1).toNat = m.toNat + 1 from by omega]
    show zSw w cs' ca' m.toNat + w (zg cs' (m.toNat : Int)) (zg ca' (m.toNat : Int)) ≤ _
    rw [show ((m.toNat : Nat) : Int) = m from by omega, zSw_congr (cs := cs) (ca := ca) (fun j j0 j1 => ⟨(e j j0 (by omega)).1, (e j j0 (by omega)).2.1⟩)]
    have := h.2.2; omega
theorem zCs_back {P : Int → Int → Int → (Int → Int) → Int → Int → Prop} {w : Int → Int → Int} {to tl cs ca cp ct : Nat → Int32} {t m S : Int} {f : Int → Int} (h : zCs P w to tl cs ca cp ct t m f S) (hl : 1 ≤ m → zg ct (m - 1) ≤ t - 1) : zCs P w to tl cs ca cp ct (t - 1) m (zfs f (zg to (t - 1)) (zg tl (t - 1))) S := by
  refine ⟨fun i i0 i1 => ?_, h.2⟩
  obtain ⟨a, b, c⟩ := h.1 i i0 i1
  have := h.2.1 i (m - 1) i0 (by omega) (by omega)
  have := hl (by omega)
  refine ⟨a, by omega, ?_⟩
  rw [show (t - zg ct i).toNat = (t - 1 - zg ct i).toNat + 1 from by omega] at c
  exact c
theorem zCs_top {P : Int → Int → Int → (Int → Int) → Int → Int → Prop} {w : Int → Int → Int} {to tl cs ca cp ct : Nat → Int32} {t m S : Int} {f : Int → Int} (h : zCs P w to tl cs ca cp ct t m f S) (hw : ∀ s a : Int, 0 ≤ w s a) (hm : 1 ≤ m) (ht : zg ct (m - 1) = t) : P (zg cs (m - 1)) (zg ca (m - 1)) (zg cp (m - 1)) f (m - 1) t ∧ zCs P w to tl cs ca cp ct t (m - 1) f (S - w (zg cs (m - 1)) (zg ca (m - 1))) := by
  obtain ⟨a, b, c⟩ := h.1 (m - 1) (by omega) (by omega)
  rw [ht, show (t - t).toNat = 0 from by omega] at c
  have q := h.2.2
  rw [show m.toNat = (m - 1).toNat + 1 from by omega] at q
  have q2 : zSw w cs ca (m - 1).toNat + w (zg cs ((m - 1).toNat : Int)) (zg ca ((m - 1).toNat : Int)) ≤ S := q
  rw [show (((m - 1).toNat : Nat) : Int) = m - 1 from by omega] at q2
  have k := zCs_cut h hw (show m - 1 ≤ m by omega)
  exact ⟨c, k.1, k.2.1, by omega⟩
def zG (g : Nat → Int32) : Int → Int := fun j => if j < 0 then 0 else zg g j
theorem zG_at {g : Nat → Int32} {j : Int} (h : 0 ≤ j) : zG g j = zg g j := if_neg (by omega)
theorem zG_upd {g : Nat → Int32} {r v : Int32} (h : 0 ≤ r.toInt) : zG (upd g r.toNatClampNeg v) = zfs (zG g) r.toInt v.toInt := by
  funext j; unfold zfs
  by_cases e : j = r.toInt
  · rw [if_pos e, e, zG_at h]; exact zg_eq
  · rw [if_neg e]
    by_cases n : j < 0
    · unfold zG; rw [if_pos n, if_pos n]
    · rw [zG_at (by omega), zG_at (by omega)]; exact zg_ne h (by omega) e
def zWf (fr lg : Int) (f : Int → Int) : List (Int × Int) → Int → Int → Prop
  | [], p, c => fr ≤ p ∧ p ≤ lg ∧ 0 ≤ c
  | (k, a) :: G, p, c => (k = 0 ∧ 0 ≤ f (20 + a) ∧ f (20 + a) ≤ p ∧ zWf fr lg f G p c) ∨ (k = 1 ∧ 0 ≤ f (470 + a) ∧ f (470 + a) ≤ c ∧ zWf fr lg f G p (f (470 + a))) ∨ (k = 2 ∧ 0 ≤ p ∧ p ≤ lg ∧ 0 ≤ f (470 + a) ∧ f (470 + a) ≤ c ∧ zWf fr lg f G (f (690 + a)) (f (470 + a)))
theorem zWf_le {fr lg : Int} {f : Int → Int} (h0 : 0 ≤ fr) : ∀ {G : List (Int × Int)} {p c : Int}, zWf fr lg f G p c → 0 ≤ p ∧ p ≤ lg ∧ 0 ≤ c := by
  intro G; induction G with
  | nil => intro p c h; obtain ⟨h1, h2, h3⟩ := h; omega
  | cons x G ih =>
    obtain ⟨k, a⟩ := x
    intro p c h
    rcases h with ⟨_, h1, h2, h3⟩ | ⟨_, h1, h2, h3⟩ | ⟨_, h1, h2, h3, h4, h5⟩
    · exact ih h3
    · have := ih h3; omega
    · omega
theorem zWf_mono {fr lg : Int} {f : Int → Int} (h0 : 0 ≤ fr) : ∀ {G : List (Int × Int)} {p pω c c' : Int}, p ≤ pω → pω ≤ lg → c ≤ c' → zWf fr lg f G p c → zWf fr lg f G pω c' := by
  intro G; induction G with
  | nil => intro p pω c c' h1 h2 h3 h; obtain ⟨a, b, d⟩ := h; exact ⟨by omega, h2, by omega⟩
  | cons x G ih =>
    obtain ⟨k, a⟩ := x
    intro p pω c c' h1 h2 h3 h
    rcases h with ⟨e, g1, g2, g3⟩ | ⟨e, g1, g2, g3⟩ | ⟨e, g1, g2, g3, g4, g5⟩
    · exact Or.inl ⟨e, g1, by omega, ih h1 h2 h3 g3⟩
    · exact Or.inr (Or.inl ⟨e, g1, by omega, ih h1 h2 (Int.le_refl _) g3⟩)
    · exact Or.inr (Or.inr ⟨e, by omega, h2, g3, by omega, g5⟩)
def zFree (r : Int) : List (Int × Int) → Prop
  | [] => True
  | (k, a) :: G => (k = 0 → r ≠ 20 + a) ∧ (k ≠ 0 → r ≠ 470 + a ∧ r ≠ 690 + a) ∧ zFree r G
theorem zWf_set {fr lg r v : Int} {f : Int → Int} : ∀ {G : List (Int × Int)} {p c : Int}, zFree r G → zWf fr lg f G p c → zWf fr lg (zfs f r v) G p c := by
  intro G; induction G with
  | nil => intro p c _ h; exact h
  | cons x G ih =>
    obtain ⟨k, a⟩ := x
    intro p c hf h
    obtain ⟨f1, f2, f3⟩ := hf
    have ne : ∀ j : Int, j ≠ r → zfs f r v j = f j := fun j hj => if_neg hj
    rcases h with ⟨e, g1, g2, g3⟩ | ⟨e, g1, g2, g3⟩ | ⟨e, g1, g2, g3, g4, g5⟩
    · have q := ne (20 + a) (fun z => f1 e z.symm)
      exact Or.inl ⟨e, by rw [q]; exact g1, by rw [q]; exact g2, ih f3 g3⟩
    · have q := ne (470 + a) (fun z => (f2 (by omega)).1 z.symm)
      exact Or.inr (Or.inl ⟨e, by rw [q]; exact g1, by rw [q]; exact g2, by rw [q]; exact ih f3 g3⟩)
    · have q := ne (470 + a) (fun z => (f2 (by omega)).1 z.symm)
      have q2 := ne (690 + a) (fun z => (f2 (by omega)).2 z.symm)
      exact Or.inr (Or.inr ⟨e, g1, g2, by rw [q]; exact g3, by rw [q]; exact g4, by rw [q, q2]; exact ih f3 g5⟩)
theorem zWf_cap {fr lg a p c : Int} {f : Int → Int} {G : List (Int × Int)} (h0 : 0 ≤ fr) (h : zWf fr lg f G p c) (hf : zFree (20 + a) G) : zWf fr lg (zfs f (20 + a) p) ((0, a) :: G) p c := by
  have e : zfs f (20 + a) p (20 + a) = p := if_pos rfl
  have := zWf_le h0 h
  exact Or.inl ⟨rfl, by rw [e]; omega, by rw [e]; exact Int.le_refl _, zWf_set hf h⟩
theorem zWf_cut {fr lg a p c : Int} {f : Int → Int} {G : List (Int × Int)} (h0 : 0 ≤ fr) (h : zWf fr lg f G p c) (hf : zFree (470 + a) G) : zWf fr lg (zfs f (470 + a) c) ((1, a) :: G) p c := by
  have e : zfs f (470 + a) c (470 + a) = c := if_pos rfl
  have := zWf_le h0 h
  exact Or.inr (Or.inl ⟨rfl, by rw [e]; omega, by rw [e]; exact Int.le_refl _, by rw [e]; exact zWf_set hf h⟩)
theorem zWf_look {fr lg a p c : Int} {f : Int → Int} {G : List (Int × Int)} (h0 : 0 ≤ fr) (h : zWf fr lg f G p c) (hf : zFree (470 + a) G) (hf2 : zFree (690 + a) G) : zWf fr lg (zfs (zfs f (470 + a) c) (690 + a) p) ((2, a) :: G) p c := by
  have e : zfs (zfs f (470 + a) c) (690 + a) p (470 + a) = c := by unfold zfs; rw [if_neg (by omega), if_pos rfl]
  have e2 : zfs (zfs f (470 + a) c) (690 + a) p (690 + a) = p := if_pos rfl
  have := zWf_le h0 h
  exact Or.inr (Or.inr ⟨rfl, by omega, by omega, by rw [e]; omega, by rw [e]; exact Int.le_refl _, by rw [e, e2]; exact zWf_set hf2 (zWf_set hf h)⟩)
def zPg (ac aA la : Nat → Int32) (n : Int) : Prop := ∀ a : Int, 0 ≤ a → a < n → (zg ac a ≠ 0 → zg ac a ≠ 19 → zg ac a ≠ 5 → a + 1 < n) ∧ ((3 ≤ zg ac a ∧ zg ac a ≤ 5) → (0 ≤ zg aA a ∧ zg aA a < 3000) ∧ (0 ≤ zg la (zg aA a) ∧ zg la (zg aA a) < n))
def zWk (w : Nat → Int32) (m n : Int) : Prop := ∀ i : Int, 0 ≤ i → i < m → 0 ≤ zg w i ∧ zg w i < n
def zRe (f : Nat → Bool) (w : Nat → Int32) (n top gm : Int) : Prop := zWk w top n ∧ 0 ≤ top ∧ top ≤ 1 + zcB f n.toNat ∧ 2 * (n - zcB f n.toNat) + top ≤ gm
theorem zWk_w {w w' : Nat → Int32} {m m' n : Int} {i x : Int32} (h : zWk w m n) (e : w' = upd w i.toNatClampNeg x) (hi : i.toInt = m) (h0 : 0 ≤ m) (hx : 0 ≤ x.toInt ∧ x.toInt < n) (hm : m' = m + 1) : zWk w' m' n := by
  subst e; subst hm; subst hi
  intro j j0 j1
  by_cases q : j = i.toInt
  · subst q; rw [zg_eq]; exact hx
  · rw [zg_ne h0 j0 q]; exact h j j0 (by omega)
theorem zWk_m {w : Nat → Int32} {m m' n : Int} (h : zWk w m n) (hm : m' ≤ m) : zWk w m' n := fun j j0 j1 => h j j0 (by omega)
theorem zcB_ub {f : Nat → Bool} {n : Int} (h : 0 ≤ n) : 0 ≤ zcB f n.toNat ∧ zcB f n.toNat ≤ n := by
  have a : 0 ≤ zcB f n.toNat := zsm_nn (fun k => (zb1_nn f k).1)
  have b : zcB f n.toNat ≤ n.toNat := zsm_ub (fun k => (zb1_nn f k).2)
  omega
theorem zRe_0 {f : Nat → Bool} {w w' : Nat → Int32} {n gm : Int} {x : Int32} (e : w' = upd w (0 : Int32).toNatClampNeg x) (hx : 0 ≤ x.toInt ∧ x.toInt < n) (hf : zOff f n) (hg : 2 * n + 1 ≤ gm) : zRe f w' n (1 : Int32).toInt gm := by
  have c : zcB f n.toNat = 0 := zNp_c (fun j j0 j1 => hf j j0 (by omega))
  have e1 : (1 : Int32).toInt = 1 := rfl
  rw [e1]
  refine ⟨?_, by omega, by omega, by omega⟩
  subst e
  intro j j0 j1
  have : j = (0 : Int32).toInt := by have : (0 : Int32).toInt = 0 := rfl
                                     omega
  rw [this, zg_eq]; exact hx
theorem zRe_gone {f : Nat → Bool} {w : Nat → Int32} {n top topω gm gmω : Int} (h : zRe f w n top gm) (ht : 1 ≤ top) (e : topω = top - 1) (hg : gmω = gm - 1) : zRe f w n topω gmω := by
  obtain ⟨a, b, c, d⟩ := h
  subst e; subst hg
  exact ⟨zWk_m a (by omega), by omega, by omega, by omega⟩
theorem zRe_new {f f' : Nat → Bool} {w w' : Nat → Int32} {n top topω gm gmω : Int} {x a : Int32} {b : Bool} (h : zRe f w n top gm) (ex : x = bz (f a.toNatClampNeg)) (hx : x.toInt = 0) (e : f' = updB f a.toNatClampNeg b) (hb : b = true) (h0 : 0 ≤ a.toInt) (h1 : a.toInt < n) (hw : zWk w' topω n) (ht : 0 ≤ topω) (ht2 : topω ≤ top + 1) (hg : gmω = gm - 1) : zRe f' w' n topω gmω := by
  obtain ⟨p, q, c, d⟩ := h
  subst hg
  have z := zcB_inc (n := n.toNat) e hb h0 (by omega) (zbz_f ex hx)
  exact ⟨hw, ht, by omega, by omega⟩
theorem zPg_n {ac aA la : Nat → Int32} {n : Int} {a x : Int32} (h : zPg ac aA la n) (ex : x = ac a.toNatClampNeg) (h0 : 0 ≤ a.toInt) (h1 : a.toInt < n) (hx : x.toInt ≠ 0 ∧ x.toInt ≠ 19 ∧ x.toInt ≠ 5) : a.toInt + 1 < n := by
  have e := zg_at ex
  exact (h a.toInt h0 h1).1 (by omega) (by omega) (by omega)
theorem zPg_l {ac aA la : Nat → Int32} {n : Int} {a x y : Int32} (h : zPg ac aA la n) (ex : x = ac a.toNatClampNeg) (ey : y = aA a.toNatClampNeg) (h0 : 0 ≤ a.toInt) (h1 : a.toInt < n) (hx : 3 ≤ x.toInt ∧ x.toInt ≤ 5) : (0 ≤ y.toInt ∧ y.toInt < 3000) ∧ (0 ≤ zg la y.toInt ∧ zg la y.toInt < n) := by
  have e := zg_at ex
  have e2 := zg_at ey
  have := (h a.toInt h0 h1).2 (by omega)
  rw [← e2] at this; exact this
def zLoose (r : Int) : Prop := (0 ≤ r ∧ r < 20) ∨ (30 ≤ r ∧ r < 470) ∨ 910 ≤ r
def zCx : List (Int × Int) → Prop
  | [] => True
  | (k, a) :: G => (k = 0 → 1 ≤ a ∧ a ≤ 9) ∧ (k ≠ 0 → 0 ≤ a ∧ a < 220) ∧ zCx G
theorem zCx_free {r : Int} (h : zLoose r) : ∀ {G : List (Int × Int)}, zCx G → zFree r G := by
  intro G; induction G with
  | nil => intro _; trivial
  | cons x G ih =>
    obtain ⟨k, a⟩ := x
    intro hc
    obtain ⟨c1, c2, c3⟩ := hc
    refine ⟨fun e => ?_, fun e => ?_, ih c3⟩
    · have := c1 e; unfold zLoose at h; omega
    · have := c2 e; unfold zLoose at h; omega
theorem zWf_loose {fr lg r v p c : Int} {f : Int → Int} {G : List (Int × Int)} (h : zLoose r) (hc : zCx G) (hw : zWf fr lg f G p c) : zWf fr lg (zfs f r v) G p c := zWf_set (zCx_free h hc) hw
theorem zCs_st {P : Int → Int → Int → (Int → Int) → Int → Int → Prop} {w : Int → Int → Int} {rg to tl rgω toω tlω cs ca cp ct : Nat → Int32} {t t' m S : Int} {r v : Int32} (h : zCs P w to tl cs ca cp ct t m (zG rg) S) (hs : zST rg to tl rgω toω tlω t t' r v) (h0 : 0 ≤ t) (hr : 0 ≤ r.toInt) : zCs P w toω tlω cs ca cp ct t' m (zG rgω) S ∧ zG rgω = zfs (zG rg) r.toInt v.toInt := by
  rcases hs with ⟨e1, e2, e3, e4, e5⟩ | ⟨e1, e2, e3, e4, e5, e6⟩
  · subst e1; subst e2; subst e3; subst e4
    refine ⟨h, ?_⟩
    funext j; unfold zfs
    by_cases q : j = r.toInt
    · rw [if_pos q, q, zG_at hr]; exact e5
    · rw [if_neg q]
  · subst e1; subst e3
    rw [zG_upd hr]
    exact ⟨zCs_set h h0 e4 (by rw [e5, zG_at hr]) e6, rfl⟩
theorem zCs_ch {P : Int → Int → Int → (Int → Int) → Int → Int → Prop} {w : Int → Int → Int} {to tl cs ca cp ct cs' ca' cp' ct' : Nat → Int32} {f : Int → Int} {t m s a p : Int32} {m' S : Int} (h : zCs P w to tl cs ca cp ct t.toInt m.toInt f S) (e1 : cs' = upd cs m.toNatClampNeg s) (e2 : ca' = upd ca m.toNatClampNeg a) (e3 : cp' = upd cp m.toNatClampNeg p) (e4 : ct' = upd ct m.toNatClampNeg t) (h0 : 0 ≤ t.toInt) (hm : 0 ≤ m.toInt) (hP : P s.toInt a.toInt p.toInt f m.toInt t.toInt) (hmω : m' = m.toInt + 1) : zCs P w to tl cs' ca' cp' ct' t.toInt m' f (S + w s.toInt a.toInt) := by
  subst e1; subst e2; subst e3; subst e4; subst hmω
  have q := zCs_choose (cs' := upd cs m.toNatClampNeg s) (ca' := upd ca m.toNatClampNeg a) (cp' := upd cp m.toNatClampNeg p) (ct' := upd ct m.toNatClampNeg t) h h0 hm (fun j j0 j1 => ⟨zg_ne hm j0 j1, zg_ne hm j0 j1, zg_ne hm j0 j1, zg_ne hm j0 j1⟩) zg_eq (by rw [zg_eq, zg_eq, zg_eq]; exact hP)
  rw [zg_eq, zg_eq] at q
  exact q
def zBT (P : Int → Int → Int → (Int → Int) → Int → Int → Prop) (w : Int → Int → Int) (rg to tl rgω toω tlω cs ca cp ct : Nat → Int32) (t t' m k n n' p S : Int) (o : Bool) : Prop := o = true ∨ (o = false ∧ n' = n + 1 ∧ t ≤ t' ∧ t' ≤ t + 2 ∧ zCs P w toω tlω cs ca cp ct t' m (zG rgω) S ∧ ∃ v : Int, zG rgω = zfs (zfs (zG rg) (30 + k) v) (250 + k) p)
theorem zBT_y {P : Int → Int → Int → (Int → Int) → Int → Int → Prop} {w : Int → Int → Int} {rg to tl rg1 to1 tl1 rg2 to2 tl2 cs ca cp ct : Nat → Int32} {t t1 t2 m k n n' S : Int} {o : Bool} {r1 v1 r2 v2 : Int32} (h : zCs P w to tl cs ca cp ct t m (zG rg) S) (s1 : zST rg to tl rg1 to1 tl1 t t1 r1 v1) (s2 : zST rg1 to1 tl1 rg2 to2 tl2 t1 t2 r2 v2) (ho : o = false) (h0 : 0 ≤ t) (h1 : 0 ≤ t1) (e1 : r1.toInt = 30 + k) (e2 : r2.toInt = 250 + k) (hk : 0 ≤ k) (hn : n' = n + 1) (g1 : t ≤ t2) (g2 : t2 ≤ t + 2) : zBT P w rg to tl rg2 to2 tl2 cs ca cp ct t t2 m k n n' v2.toInt S o := by
  obtain ⟨a, b⟩ := zCs_st h s1 h0 (by omega)
  obtain ⟨c, d⟩ := zCs_st a s2 h1 (by omega)
  exact Or.inr ⟨ho, hn, g1, g2, c, v1.toInt, by rw [d, b, e1, e2]⟩
theorem zbz0 {b : Bool} (h : (bz b).toInt = 0) : b = false := by
  cases b with
  | false => rfl
  | true => exact absurd h (by decide)
def zTB (P : Int → Int → Int → (Int → Int) → Int → Int → Prop) (w : Int → Int → Int) (rg rgω toω tlω cs' ca' cp' ct' : Nat → Int32) (t t' m m' k q n n' s' S : Int) (o : Bool) : Prop := o = true ∨ (o = false ∧ n' = n + 1 ∧ s' = q ∧ m ≤ m' ∧ m' ≤ m + 1 ∧ t ≤ t' ∧ t' ≤ t + 1 ∧ zG rgω = zfs (zG rg) (910 + k) q ∧ ((m' = m ∧ zCs P w toω tlω cs' ca' cp' ct' t' m' (zG rgω) S) ∨ (m' = m + 1 ∧ zCs P w toω tlω cs' ca' cp' ct' t' m' (zG rgω) (S + w 2 n))))
abbrev zT : Type := List (Int × Int) × Int × Int × Int
def zge (φ : Int) (σ τ : zT) : Prop := τ.1 = σ.1 ∧ (φ = 0 → τ.2.1 ≤ σ.2.1 ∧ τ.2.2.1 ≤ σ.2.2.1 ∧ τ.2.2.2 ≤ σ.2.2.2)
def zn (φ : Int) (G : List (Int × Int)) (τ : zT) (U R X : Int) : Prop := τ.1 = G ∧ (φ = 0 → τ.2.1 ≤ U ∧ τ.2.2.1 ≤ R ∧ τ.2.2.2 ≤ X)
theorem zge_rfl {φ : Int} {σ : zT} : zge φ σ σ := ⟨rfl, fun _ => ⟨Int.le_refl _, Int.le_refl _, Int.le_refl _⟩⟩
theorem zge_tr {φ : Int} {σ τ υ : zT} (h : zge φ σ τ) (h2 : zge φ τ υ) : zge φ σ υ := ⟨h2.1.trans h.1, fun e => by have := h.2 e; have := h2.2 e; omega⟩
theorem zn_le {φ : Int} {G : List (Int × Int)} {τ υ : zT} {U R X : Int} (h : zn φ G τ U R X) (h2 : zge φ τ υ) : zn φ G υ U R X := ⟨h2.1.trans h.1, fun e => by have := h.2 e; have := h2.2 e; omega⟩
def zGn (o a : Int) (G : List (Int × Int)) : List (Int × Int) := if o = 6 then (0, a) :: G else if o = 11 then (1, a) :: G else if o = 13 ∨ o = 15 ∨ o = 17 then (2, a) :: G else if o = 7 ∨ o = 12 ∨ o = 14 ∨ o = 18 then G.tail else G
def zdu (o : Int) : Int := if o = 3 then -1 else if o = 9 then 51 else if o = 11 ∨ o = 21 then 52 else if o = 13 ∨ o = 15 then 51 else if o = 17 then 50 else 0
def zdr (o : Int) : Int := if o = 6 then -1 else if o = 7 then -2 else if o = 9 ∨ o = 13 ∨ o = 15 ∨ o = 17 then 30 else if o = 11 then 32 else if o = 21 then 33 else 0
def zdx (o x : Int) : Int := if o ≤ 2 ∨ o = 9 ∨ o = 11 ∨ o = 13 ∨ o = 15 ∨ o = 17 ∨ o = 21 then 1000 else x - 1
def zSd (so va : Nat → Int32) (bs n φ lb : Int) (Λ : Int → zT) (o a b : Int) (σ : zT) : Prop :=
  (0 ≤ o ∧ o ≤ 21 ∧ 0 ≤ a ∧ a < 3000) ∧ (o ≤ 2 → 0 ≤ a ∧ a < n) ∧ (o = 0 → zg so (bs + a) ≤ 2) ∧ (o = 2 → φ = 0 ∧ 0 ≤ zg va (bs + a) ∧ zg va (bs + a) ≤ 9) ∧
  (o = 3 ∨ o = 4 ∨ o = 5 → 0 ≤ a ∧ a < lb ∧ zn φ σ.1 (Λ a) σ.2.1 σ.2.2.1 (σ.2.2.2 - 1)) ∧ (o = 4 → φ = 1) ∧
  (o = 6 ∨ o = 7 → 1 ≤ a ∧ a ≤ 9) ∧ (o = 6 → zFree (20 + a) σ.1) ∧ (o = 7 → ∃ G, σ.1 = (0, a) :: G) ∧
  (8 ≤ o → o ≠ 19 → φ = 0 ∧ (o ≠ 21 → 0 ≤ a ∧ a < n)) ∧
  (o = 9 → 0 ≤ b ∧ b < lb ∧ zn φ σ.1 (Λ b) (σ.2.1 - 1) σ.2.2.1 (σ.2.2.2 - 1)) ∧
  (o = 10 → 0 ≤ b ∧ b < lb ∧ zn φ σ.1 (Λ b) σ.2.1 σ.2.2.1 (σ.2.2.2 - 1)) ∧
  (o = 11 → zFree (470 + a) σ.1) ∧ (o = 12 → ∃ G, σ.1 = (1, a) :: G) ∧
  (o = 13 ∨ o = 15 ∨ o = 17 → zFree (470 + a) σ.1 ∧ zFree (690 + a) σ.1 ∧ (b = -1 ∨ (0 ≤ b ∧ b < lb ∧ zn φ σ.1 (Λ b) (σ.2.1 + 50) (σ.2.2.1 + 30) 1000))) ∧
  (o = 14 ∨ o = 16 ∨ o = 18 ∨ o = 20 → ∃ G, σ.1 = (2, a) :: G)
def zFa (o : Int) : Prop := o ≠ 5 ∧ o ≠ 10 ∧ o ≠ 16 ∧ o ≠ 19 ∧ o ≠ 20
def zOp (so va : Nat → Int32) (bs n φ lb : Int) (Λ : Int → zT) (o a b : Int) (σ τ : zT) : Prop := zSd so va bs n φ lb Λ o a b σ ∧ (zFa o → zn φ (zGn o a σ.1) τ (σ.2.1 + zdu o) (σ.2.2.1 + zdr o) (zdx o σ.2.2.2))
theorem zOp_le {so va : Nat → Int32} {bs n φ lb o a b : Int} {Λ : Int → zT} {σ τ υ : zT} (h : zOp so va bs n φ lb Λ o a b σ τ) (h2 : zge φ τ υ) : zOp so va bs n φ lb Λ o a b σ υ := ⟨h.1, fun z => zn_le (h.2 z) h2⟩
def zRg (τ : zT) : Prop := 0 ≤ τ.2.1 ∧ 0 ≤ τ.2.2.1 ∧ 0 ≤ τ.2.2.2 ∧ τ.2.2.2 ≤ 1000 ∧ zCx τ.1
def zPr (so va ac aA aB la : Nat → Int32) (bs n φ N : Int) (C : Int → zT) : Prop := (1 ≤ N ∧ N ≤ 2999 ∧ n ≤ 220 ∧ (φ = 0 ∨ φ = 1)) ∧ ∃ lb : Int, lb ≤ 3000 ∧ (∀ l : Int, 0 ≤ l → l < lb → 0 ≤ zg la l ∧ zg la l < N) ∧ ∀ p : Int, 0 ≤ p → p < N → zOp so va bs n φ lb (fun l => C (zg la l)) (zg ac p) (zg aA p) (zg aB p) (C p) (C (p + 1)) ∧ zRg (C p) ∧ (zg ac p ≠ 19 → p + 1 < N)
def zU (φ : Int) (τ : zT) : Int := if φ = 0 then τ.2.1 else 0
def zR (φ : Int) (τ : zT) : Int := if φ = 0 then τ.2.2.1 else 0
def zp3 : Nat → Int
  | 0 => 1
  | n + 1 => 3 * zp3 n
theorem zp3_1 : ∀ {n : Nat}, 1 ≤ zp3 n := by
  intro n; induction n with
  | zero => exact Int.le_refl _
  | succ n ih => show 1 ≤ 3 * zp3 n; omega
theorem zp3_a : ∀ {k n : Nat}, zp3 n ≤ zp3 (n + k) := by
  intro k; induction k with
  | zero => intro n; exact Int.le_refl _
  | succ k ih => intro n; have a := @ih n; have b := @zp3_1 (n + k); show zp3 n ≤ 3 * zp3 (n + k); omega
def zw (φ : Int) (τ : zT) : Int := if φ = 0 then zp3 τ.2.2.2.toNat else 1
def zN1 (f : Int → Int) (k : Int) : Int := if f (30 + k) = 0 then 0 else 1
def zNz (f : Int → Int) : Int := zsm (zN1 f) 220
def zCap (f : Int → Int) (lg : Int) : Prop := ∀ a : Int, 0 ≤ a → a ≤ 9 → (-1 ≤ f a ∧ f a ≤ 100) ∧ (-1 ≤ f (10 + a) ∧ f (10 + a) ≤ 100) ∧ (f a < 0 ∨ (f a ≤ f (10 + a) ∧ f (10 + a) ≤ lg))
def zIn (φ : Int) (C : Int → zT) (N fr lg B1 B2 : Int) (f : Int → Int) (n s m t : Int) : Prop := (0 ≤ n ∧ n < N) ∧ zWf fr lg f (C n).1 s m ∧ zCap f lg ∧ m + zU φ (C n) ≤ B1 ∧ t + zNz f + zR φ (C n) ≤ B2
def zP (φ : Int) (ac aA : Nat → Int32) (C : Int → zT) (N fr lg B1 B2 : Int) (s a p : Int) (f : Int → Int) (i t : Int) : Prop :=
  (s = 0 ∧ zIn φ C N fr lg B1 B2 f a p i t) ∨ (s = 1 ∧ zg ac a = 9 ∧ zIn φ C N fr lg B1 B2 f a p i t) ∨ (s = 2 ∧ zg ac a = 17 ∧ 0 ≤ a ∧ zIn φ C N fr lg B1 B2 f (a + 1) p i t ∧ 1 ≤ f (910 + zg aA a) ∧ f (910 + zg aA a) ≤ lg)
def zOm (φ : Int) (C : Int → zT) (s a : Int) : Int := if s = 0 then zw φ (C a) else 1
theorem zw_1 {φ : Int} {τ : zT} : 1 ≤ zw φ τ := by
  unfold zw; split
  · exact zp3_1
  · exact Int.le_refl _
theorem zOm_1 {φ : Int} {C : Int → zT} {s a : Int} : 1 ≤ zOm φ C s a := by
  unfold zOm; split
  · exact zw_1
  · exact Int.le_refl _
theorem zOm_0 {φ : Int} {C : Int → zT} (s a : Int) : 0 ≤ zOm φ C s a := by have := @zOm_1 φ C s a; omega
theorem zIn_m {φ N fr lg B1 B2 B1' B2' n s m t t' : Int} {C : Int → zT} {f : Int → Int} (h : zIn φ C N fr lg B1 B2 f n s m t) (h1 : B1 ≤ B1') (h2 : B2 ≤ B2') (ht : t' ≤ t) : zIn φ C N fr lg B1' B2' f n s m t' := ⟨h.1, h.2.1, h.2.2.1, by have := h.2.2.2.1; omega, by have := h.2.2.2.2; omega⟩
theorem zP_m {φ N fr lg B1 B2 B1' B2' : Int} {ac aA : Nat → Int32} {C : Int → zT} (h1 : B1 ≤ B1') (h2 : B2 ≤ B2') : ∀ s a p f i t, zP φ ac aA C N fr lg B1 B2 s a p f i t → zP φ ac aA C N fr lg B1' B2' s a p f i t := by
  intro s a p f i t h
  rcases h with ⟨e, h⟩ | ⟨e, e2, h⟩ | ⟨e, e2, e3, h, h3⟩
  · exact Or.inl ⟨e, zIn_m h h1 h2 (Int.le_refl _)⟩
  · exact Or.inr (Or.inl ⟨e, e2, zIn_m h h1 h2 (Int.le_refl _)⟩)
  · exact Or.inr (Or.inr ⟨e, e2, e3, zIn_m h h1 h2 (Int.le_refl _), h3⟩)
theorem zN1_b {f : Int → Int} {k : Int} : 0 ≤ zN1 f k ∧ zN1 f k ≤ 1 := by unfold zN1; split <;> omega
theorem zNz_b {f : Int → Int} : 0 ≤ zNz f ∧ zNz f ≤ 220 := ⟨zsm_nn (fun k => zN1_b.1), zsm_ub (fun k => zN1_b.2)⟩
theorem zN1_ne {f : Int → Int} {r v k : Int} (h : 30 + k ≠ r) : zN1 (zfs f r v) k = zN1 f k := by unfold zN1 zfs; rw [if_neg h]
theorem zNz_o {f : Int → Int} {r v : Int} (h : r < 30 ∨ 250 ≤ r) : zNz (zfs f r v) = zNz f := zsm_congr (fun k k0 k1 => zN1_ne (by omega))
theorem zNz_1 {f : Int → Int} {r v : Int} (h : 30 ≤ r ∧ r < 250) : zNz (zfs f r v) ≤ zNz f + 1 := by
  have := zsm_upd (f := zN1 (zfs f r v)) (g := zN1 f) (j := r - 30) (n := 220) (by omega) (by omega) (fun k k0 k1 k2 => zN1_ne (by omega))
  have a := @zN1_b (zfs f r v) (r - 30); have b := @zN1_b f (r - 30)
  unfold zNz; omega
theorem zNz_0 {f : Int → Int} {r : Int} (h : 30 ≤ r ∧ r < 250) (hf : f r ≠ 0) : zNz (zfs f r 0) + 1 ≤ zNz f := by
  have := zsm_upd (f := zN1 (zfs f r 0)) (g := zN1 f) (j := r - 30) (n := 220) (by omega) (by omega) (fun k k0 k1 k2 => zN1_ne (by omega))
  have a : zN1 (zfs f r 0) (r - 30) = 0 := by unfold zN1 zfs; rw [if_pos (show 30 + (r - 30) = r by omega)]; rfl
  have b : zN1 f (r - 30) = 1 := by unfold zN1; rw [show 30 + (r - 30) = r by omega, if_neg hf]
  unfold zNz; omega
theorem zCap_o {f : Int → Int} {r v lg : Int} (h : zCap f lg) (hr : 20 ≤ r) : zCap (zfs f r v) lg := by
  intro a a0 a1
  have e1 : zfs f r v a = f a := if_neg (by omega)
  have e2 : zfs f r v (10 + a) = f (10 + a) := if_neg (by omega)
  rw [e1, e2]; exact h a a0 a1
theorem zpw {a b : Int} (h : b + 1 ≤ a) (hb : 0 ≤ b) : 3 * zp3 b.toNat ≤ zp3 a.toNat := by
  have e : a.toNat = (b.toNat + 1) + (a.toNat - (b.toNat + 1)) := by omega
  have := zp3_a (n := b.toNat + 1) (k := a.toNat - (b.toNat + 1))
  rw [e]; exact this
theorem zw_3 {φ : Int} {σ τ : zT} (h : φ = 0 → τ.2.2.2 + 1 ≤ σ.2.2.2) (hx : 0 ≤ τ.2.2.2) (hp : φ = 0 ∨ φ = 1) : zw φ τ + zw φ τ + 1 ≤ zw φ σ + 2 * φ ∧ zw φ τ + 2 * (1 - φ) ≤ zw φ σ := by
  unfold zw
  rcases hp with e | e
  · have := zpw (h e) hx
    have q := @zp3_1 τ.2.2.2.toNat
    rw [if_pos e, if_pos e]; omega
  · rw [if_neg (by omega), if_neg (by omega)]; omega
theorem zw_m {φ : Int} {σ τ υ : zT} (h : φ = 0 → τ.2.2.2 + 1 ≤ σ.2.2.2) (h2 : φ = 0 → υ.2.2.2 + 1 ≤ σ.2.2.2) (hx : 0 ≤ τ.2.2.2) (hx2 : 0 ≤ υ.2.2.2) (hp : φ = 0 ∨ φ = 1) : zw φ τ + zw φ υ + 1 ≤ zw φ σ + 2 * φ := by
  have a := zw_3 h hx hp; have b := zw_3 h2 hx2 hp; omega
theorem zw_b {φ : Int} {τ : zT} {k : Nat} (h : τ.2.2.2 ≤ k) : zw φ τ ≤ zp3 k := by
  unfold zw; split
  · have := zp3_a (n := τ.2.2.2.toNat) (k := k - τ.2.2.2.toNat)
    rw [show τ.2.2.2.toNat + (k - τ.2.2.2.toNat) = k by omega] at this
    exact this
  · exact zp3_1
theorem zW_ex {k : Nat} (hk : (k : Int) = 1000) : ∃ W : Int, 1 ≤ W ∧ ∀ (φ : Int) (τ : zT), zRg τ → zw φ τ ≤ W := ⟨zp3 k, zp3_1, fun φ τ h => zw_b (by rw [hk]; exact h.2.2.2.1)⟩
def zk (φ st : Int) : Int := if φ = 0 then st else 0
def zh (φ o : Int) : Int := if φ = 0 then 0 else if o = 6 ∨ o = 7 then 2 else 1
theorem zk_0 {st : Int} : zk 0 st = st := if_pos rfl
theorem zk_1 {st : Int} : zk 1 st = 0 := if_neg (by decide)
theorem zh_0 {o : Int} : zh 0 o = 0 := if_pos rfl
theorem zh_b {φ o : Int} : 0 ≤ zh φ o ∧ zh φ o ≤ 2 ∧ (φ = 1 → 1 ≤ zh φ o) := by
  unfold zh; split
  · omega
  · split <;> omega
theorem zU_0 {τ : zT} : zU 0 τ = τ.2.1 := if_pos rfl
theorem zU_1 {τ : zT} : zU 1 τ = 0 := if_neg (by decide)
theorem zR_0 {τ : zT} : zR 0 τ = τ.2.2.1 := if_pos rfl
theorem zR_1 {τ : zT} : zR 1 τ = 0 := if_neg (by decide)
def zMa (φ : Int) (ac aA : Nat → Int32) (C : Int → zT) (N fr lg b1 b2 g : Int) (rg to tl cs ca cp ct : Nat → Int32) (t m n s st Ψ r : Int) : Prop :=
  ∃ S : Int, S + (if r = 0 then 0 else zw φ (C n)) ≤ Ψ + g * zk φ st ∧ zCs (zP φ ac aA C N fr lg (52 * zk φ st + b1) (33 * zk φ st + b2)) (zOm φ C) to tl cs ca cp ct t m (zG rg) S ∧ (r ≠ 0 → zIn φ C N fr lg (52 * zk φ st + b1) (33 * zk φ st + b2) (zG rg) n s m t)
def zGg (φ : Int) (C : Int → zT) (N g : Int) : Prop := 0 ≤ g ∧ ∀ p : Int, 0 ≤ p → p < N → 3 * zw φ (C p) + 3 ≤ g
theorem zk_le {φ st stω : Int} (h : st ≤ stω) (h0 : 0 ≤ st) : zk φ st ≤ zk φ stω ∧ 0 ≤ zk φ st := by unfold zk; split <;> omega
theorem zPr_at {so va ac aA aB la : Nat → Int32} {bs n9 φ N p : Int} {C : Int → zT} (h : zPr so va ac aA aB la bs n9 φ N C) (p0 : 0 ≤ p) (p1 : p < N) : zSd so va bs n9 φ 3000 (fun l => C (zg la l)) (zg ac p) (zg aA p) (zg aB p) (C p) ∧ (zFa (zg ac p) → zn φ (zGn (zg ac p) (zg aA p) (C p).1) (C (p + 1)) ((C p).2.1 + zdu (zg ac p)) ((C p).2.2.1 + zdr (zg ac p)) (zdx (zg ac p) (C p).2.2.2)) ∧ zRg (C p) ∧ (zg ac p ≠ 19 → p + 1 < N) ∧ (φ = 0 ∨ φ = 1) := by
  obtain ⟨⟨_, _, _, hφ⟩, lb, l3, l4, h⟩ := h
  obtain ⟨⟨a, b⟩, c, d⟩ := h p p0 p1
  refine ⟨?_, b, c, d, hφ⟩
  obtain ⟨s0, s1, s2, s3, s4, s5, s6, s7, s8, s9, s10, s11, s12, s13, s14, s15⟩ := a
  refine ⟨s0, s1, s2, s3, fun e => ?_, s5, s6, s7, s8, s9, fun e => ?_, fun e => ?_, s12, s13, fun e => ?_, s15⟩
  · obtain ⟨q1, q2, q3⟩ := s4 e; exact ⟨q1, by omega, q3⟩
  · obtain ⟨q1, q2, q3⟩ := s10 e; exact ⟨q1, by omega, q3⟩
  · obtain ⟨q1, q2, q3⟩ := s11 e; exact ⟨q1, by omega, q3⟩
  · obtain ⟨q1, q2, q3⟩ := s14 e
    refine ⟨q1, q2, ?_⟩
    rcases q3 with q3 | ⟨q3, q4, q5⟩
    · exact Or.inl q3
    · exact Or.inr ⟨q3, by omega, q5⟩
theorem zPr_la {so va ac aA aB la : Nat → Int32} {bs n9 φ N p : Int} {C : Int → zT} (h : zPr so va ac aA aB la bs n9 φ N C) (p0 : 0 ≤ p) (p1 : p < N) : (3 ≤ zg ac p → zg ac p ≤ 5 → (0 ≤ zg aA p ∧ zg aA p < 3000) ∧ 0 ≤ zg la (zg aA p) ∧ zg la (zg aA p) < N) ∧ (zg ac p = 9 ∨ zg ac p = 10 → (0 ≤ zg aB p ∧ zg aB p < 3000) ∧ 0 ≤ zg la (zg aB p) ∧ zg la (zg aB p) < N) ∧ (zg ac p = 13 ∨ zg ac p = 15 ∨ zg ac p = 17 → zg aB p = -1 ∨ ((0 ≤ zg aB p ∧ zg aB p < 3000) ∧ 0 ≤ zg la (zg aB p) ∧ zg la (zg aB p) < N)) := by
  obtain ⟨⟨_, _, _, hφ⟩, lb, l3, l4, h⟩ := h
  obtain ⟨⟨⟨s0, s1, s2, s3, s4, s5, s6, s7, s8, s9, s10, s11, s12, s13, s14, s15⟩, b⟩, c, d⟩ := h p p0 p1
  refine ⟨fun e e2 => ?_, fun e => ?_, fun e => ?_⟩
  · obtain ⟨q1, q2, q3⟩ := s4 (by omega); exact ⟨⟨q1, by omega⟩, l4 _ q1 q2⟩
  · rcases e with e | e
    · obtain ⟨q1, q2, q3⟩ := s10 e; exact ⟨⟨q1, by omega⟩, l4 _ q1 q2⟩
    · obtain ⟨q1, q2, q3⟩ := s11 e; exact ⟨⟨q1, by omega⟩, l4 _ q1 q2⟩
  · obtain ⟨q1, q2, q3⟩ := s14 e
    rcases q3 with q3 | ⟨q3, q4, q5⟩
    · exact Or.inl q3
    · exact Or.inr ⟨⟨q3, by omega⟩, l4 _ q3 q4⟩
theorem zMa_b {φ N fr lg b1 b2 g t m n s st Ψ : Int} {ac aA rg to tl cs ca cp ct so va aB la : Nat → Int32} {bs n9 : Int} {C : Int → zT} (h : zMa φ ac aA C N fr lg b1 b2 g rg to tl cs ca cp ct t m n s st Ψ 1) (hP : zPr so va ac aA aB la bs n9 φ N C) (hf : 0 ≤ fr) : (0 ≤ n ∧ n < N) ∧ (0 ≤ s ∧ s ≤ lg) ∧ (0 ≤ m ∧ m ≤ 52 * zk φ st + b1) ∧ t ≤ 33 * zk φ st + b2 ∧ N ≤ 2999 ∧ 1 ≤ Ψ + g * zk φ st := by
  obtain ⟨S, hS, hC, hI⟩ := h
  obtain ⟨hn, hw, hc, h1, h2⟩ := hI (by decide)
  obtain ⟨_, _, ⟨r1, r2, r3, r4, r5⟩, _⟩ := zPr_at hP hn.1 hn.2
  have := zWf_le hf hw
  have a := @zNz_b (zG rg)
  have u : 0 ≤ zU φ (C n) := by unfold zU; split <;> omega
  have r : 0 ≤ zR φ (C n) := by unfold zR; split <;> omega
  have w := @zw_1 φ (C n)
  rw [if_neg (by decide)] at hS
  have q : 0 ≤ S := by
    have := hC.2.2
    have := zSw_le (cs := cs) (ca := ca) (@zOm_0 φ C) (k := m.toNat) (n := 0)
    rw [Nat.zero_add] at this
    have e : zSw (zOm φ C) cs ca 0 = 0 := rfl
    omega
  refine ⟨hn, ⟨by omega, by omega⟩, ⟨by omega, by omega⟩, by omega, hP.1.2.1, by omega⟩
theorem zMa_go {φ N fr lg b1 b2 b1ω b2ω g t' m' n n' s' st stω Ψ Ψω S S' : Int} {ac aA rgω toω tlω cs' ca' cp' ct' : Nat → Int32} {C : Int → zT} (hS : S + zw φ (C n) ≤ Ψ + g * zk φ st) (hC : zCs (zP φ ac aA C N fr lg (52 * zk φ stω + b1ω) (33 * zk φ stω + b2ω)) (zOm φ C) toω tlω cs' ca' cp' ct' t' m' (zG rgω) S') (hI : zIn φ C N fr lg (52 * zk φ stω + b1ω) (33 * zk φ stω + b2ω) (zG rgω) n' s' m' t') (hw : S' + zw φ (C n') + 1 + g * zk φ st ≤ S + zw φ (C n) + 2 * φ + g * zk φ stω) (hΨ : Ψω = Ψ - 1 + 2 * φ) : zMa φ ac aA C N fr lg b1ω b2ω g rgω toω tlω cs' ca' cp' ct' t' m' n' s' stω Ψω 1 := by
  refine ⟨S', ?_, hC, fun _ => hI⟩
  rw [if_neg (by decide)]; omega
theorem zMa_no {φ N fr lg b1 b2 b1ω b2ω g t m m' n n' s s' st stω Ψ Ψω : Int} {ac aA rg to tl cs ca cp ct : Nat → Int32} {C : Int → zT} (h : zMa φ ac aA C N fr lg b1 b2 g rg to tl cs ca cp ct t m n s st Ψ 1) (hm : m' ≤ m) (hst : st ≤ stω) (h0 : 0 ≤ st) (hg : 0 ≤ g) (e1 : b1 ≤ b1ω) (e2 : b2 ≤ b2ω) (hΨ : Ψ - 1 ≤ Ψω) : zMa φ ac aA C N fr lg b1ω b2ω g rg to tl cs ca cp ct t m' n' s' stω Ψω 0 := by
  obtain ⟨S, hS, hC, hI⟩ := h
  rw [if_neg (by decide)] at hS
  have w := @zw_1 φ (C n)
  have k := zk_le (φ := φ) hst h0
  have q : g * zk φ st ≤ g * zk φ stω := Int.mul_le_mul_of_nonneg_left k.1 hg
  refine ⟨S, ?_, zCs_mono (zCs_cut hC zOm_0 hm) (zP_m (by omega) (by omega)) (Int.le_refl _), fun z => absurd rfl z⟩
  rw [if_pos rfl]; omega
theorem zg_s {g φ st : Int} (hφ : φ = 0 ∨ φ = 1) : g * zk φ (st + 1) = g * zk φ st + (if φ = 0 then g else 0) ∧ zk φ (st + 1) = zk φ st + (if φ = 0 then 1 else 0) := by
  rcases hφ with e | e
  · subst e; rw [zk_0, zk_0, if_pos rfl, if_pos rfl, Int.mul_add]; omega
  · subst e; rw [zk_1, zk_1, if_neg (by decide), if_neg (by decide)]; omega
theorem zfn {φ : Int} {G : List (Int × Int)} {τ : zT} {U R X : Int} (h : zn φ G τ U R X) : τ.1 = G := h.1
theorem zD_e {φ N fr lg b1 b2 b1ω b2ω g t m n n' s s' st stω Ψ Ψω bs n9 : Int} {ac aA rg to tl cs ca cp ct so va aB la : Nat → Int32} {C : Int → zT} (h : zMa φ ac aA C N fr lg b1 b2 g rg to tl cs ca cp ct t m n s st Ψ 1) (hP : zPr so va ac aA aB la bs n9 φ N C) (hG : zGg φ C N g) (hf : 0 ≤ fr) (h0 : 0 ≤ st) (ho : zg ac n ≤ 2 ∨ zg ac n = 21) (hs1 : s ≤ s') (hs2 : s' ≤ lg) (hnω : n' = n + 1) (hst : stω = st + 1) (eb1 : b1ω = b1 + zh φ (zg ac n)) (eb2 : b2ω = b2 + zh φ (zg ac n)) (hΨ : Ψω = Ψ - 1 + 2 * φ) : zMa φ ac aA C N fr lg b1ω b2ω g rg to tl cs ca cp ct t m n' s' stω Ψω 1 := by
  obtain ⟨S, hS, hC, hI⟩ := h
  obtain ⟨hn, hw, hc, h1, h2⟩ := hI (by decide)
  rw [if_neg (by decide)] at hS
  obtain ⟨sd, nx, r, nl, hφ⟩ := zPr_at hP hn.1 hn.2
  have fa : zFa (zg ac n) := by unfold zFa; omega
  have x := nx fa
  have nl := nl (by omega)
  obtain ⟨k1, k2⟩ := @zg_s g φ st hφ
  have zb := @zh_b φ (zg ac n)
  have w1 := hG.2 (n + 1) (by omega) nl
  have w0 := @zw_1 φ (C n)
  have w2 := @zw_1 φ (C (n + 1))
  subst hst; subst hnω
  have x1 : (C (n + 1)).1 = (C n).1 := by
    rw [zfn x]; unfold zGn
    rw [if_neg (by omega), if_neg (by omega), if_neg (by omega), if_neg (by omega)]
  have zg0 : φ = 0 → (C (n + 1)).2.1 ≤ (C n).2.1 + 52 ∧ (C (n + 1)).2.2.1 ≤ (C n).2.2.1 + 33 := by
    intro e; have q := x.2 e
    have d1 : zdu (zg ac n) ≤ 52 := by unfold zdu; repeat' split
                                       all_goals omega
    have d2 : zdr (zg ac n) ≤ 33 := by unfold zdr; repeat' split
                                       all_goals omega
    omega
  refine zMa_go hS (S' := S) (b1 := b1) (b2 := b2) (zCs_mono hC (zP_m ?_ ?_) (Int.le_refl _)) ⟨⟨by omega, nl⟩, ?_, hc, ?_, ?_⟩ ?_ hΨ
  · rw [k2]; split <;> omega
  · rw [k2]; split <;> omega
  · rw [x1]; exact zWf_mono hf hs1 hs2 (Int.le_refl _) hw
  · rcases hφ with e | e
    · subst e; have := zg0 rfl; rw [zU_0] at *; rw [k2, if_pos rfl]; omega
    · subst e; rw [zU_1] at *; rw [k2, if_neg (by decide)]; omega
  · rcases hφ with e | e
    · subst e; have := zg0 rfl; rw [zR_0] at *; rw [k2, if_pos rfl]; omega
    · subst e; rw [zR_1] at *; rw [k2, if_neg (by decide)]; omega
  · rw [k1]
    rcases hφ with e | e
    · subst e; rw [if_pos rfl]; omega
    · subst e; rw [if_neg (by decide)]
      have e1 : zw 1 (C (n + 1)) = 1 := if_neg (by decide)
      omega
theorem zD_n {φ N fr lg b1 b2 b1ω b2ω g t t' m m' n n' s s' st Ψ Ψω bs n9 d : Int} {ac aA rg rgω toω tlω cs ca cp ct so va aB la : Nat → Int32} {C : Int → zT} {S : Int} (hS : S + zw φ (C n) ≤ Ψ + g * zk φ st) (hC : zCs (zP φ ac aA C N fr lg (52 * zk φ st + b1) (33 * zk φ st + b2)) (zOm φ C) toω tlω cs ca cp ct t' m (zG rgω) S) (hI : zIn φ C N fr lg (52 * zk φ st + b1) (33 * zk φ st + b2) (zG rg) n s m t) (hP : zPr so va ac aA aB la bs n9 φ N C) (hn0 : 0 ≤ n') (hn1 : n' < N) (x : φ = 0 → (C n').2.1 ≤ (C n).2.1 ∧ (C n').2.2.1 + d ≤ (C n).2.2.1 ∧ (C n').2.2.2 + 1 ≤ (C n).2.2.2) (hw : zWf fr lg (zG rgω) (C n').1 s' m') (hc : zCap (zG rgω) lg) (hm : m' ≤ m) (ht : t' + zNz (zG rgω) ≤ t + zNz (zG rg) + d) (hd : φ = 1 → d ≤ zh φ (zg ac n)) (eb1 : b1ω = b1 + zh φ (zg ac n)) (eb2 : b2ω = b2 + zh φ (zg ac n)) (hΨ : Ψω = Ψ - 1 + 2 * φ) : zMa φ ac aA C N fr lg b1ω b2ω g rgω toω tlω cs ca cp ct t' m' n' s' st Ψω 1 := by
  obtain ⟨hn, _, _, h1, h2⟩ := hI
  obtain ⟨sd, nx, r, nl, hφ⟩ := zPr_at hP hn.1 hn.2
  obtain ⟨_, _, r', _, _⟩ := zPr_at hP hn0 hn1
  have zb := @zh_b φ (zg ac n)
  have ww := zw_3 (φ := φ) (σ := C n) (τ := C n') (fun e => (x e).2.2) r'.2.2.1 hφ
  have w1 := @zw_1 φ (C n')
  refine zMa_go hS (S' := S) (b1 := b1) (b2 := b2) (zCs_mono (zCs_cut hC zOm_0 hm) (zP_m ?_ ?_) (Int.le_refl _)) ⟨⟨hn0, hn1⟩, hw, hc, ?_, ?_⟩ ?_ hΨ
  · omega
  · omega
  · rcases hφ with e | e
    · subst e; have := x rfl; rw [zU_0] at *; omega
    · subst e; rw [zU_1] at *; omega
  · rcases hφ with e | e
    · subst e; have := x rfl; rw [zR_0] at *; omega
    · subst e; have := hd rfl; rw [zR_1] at *; omega
  · omega
theorem zD_j {φ N fr lg b1 b2 b1ω b2ω g t m n n' s st Ψ Ψω bs n9 : Int} {ac aA rg to tl cs ca cp ct so va aB la : Nat → Int32} {C : Int → zT} (h : zMa φ ac aA C N fr lg b1 b2 g rg to tl cs ca cp ct t m n s st Ψ 1) (hP : zPr so va ac aA aB la bs n9 φ N C) (ho : (zg ac n = 5 ∧ n' = zg la (zg aA n)) ∨ (zg ac n = 10 ∧ n' = zg la (zg aB n))) (eb1 : b1ω = b1 + zh φ (zg ac n)) (eb2 : b2ω = b2 + zh φ (zg ac n)) (hΨ : Ψω = Ψ - 1 + 2 * φ) : zMa φ ac aA C N fr lg b1ω b2ω g rg to tl cs ca cp ct t m n' s st Ψω 1 := by
  obtain ⟨S, hS, hC, hI⟩ := h
  rw [if_neg (by decide)] at hS
  have hI := hI (by decide)
  have hn := hI.1
  obtain ⟨sd, nx, r, nl, hφ⟩ := zPr_at hP hn.1 hn.2
  obtain ⟨la1, la2, _⟩ := zPr_la hP hn.1 hn.2
  have zb := @zh_b φ (zg ac n)
  obtain ⟨s0, s1, s2, s3, s4, s5, s6, s7, s8, s9, s10, s11, s12, s13, s14, s15⟩ := sd
  rcases ho with ⟨o, e⟩ | ⟨o, e⟩
  · obtain ⟨q1, q2, q3⟩ := s4 (by omega)
    have l := la1 (by omega) (by omega)
    have q3 : zn φ (C n).1 (C n') (C n).2.1 (C n).2.2.1 ((C n).2.2.2 - 1) := by rw [e]; exact q3
    refine zD_n (d := 0) (s' := s) (m' := m) (t := t) (n' := n') (rg := rg) hS hC hI hP (by omega) (by omega) (fun z => by have := q3.2 z; omega) ?_ hI.2.2.1 (Int.le_refl _) (by omega) (by omega) eb1 eb2 hΨ
    rw [q3.1]; exact hI.2.1
  · obtain ⟨q1, q2, q3⟩ := s11 o
    have l := la2 (by omega)
    have q3 : zn φ (C n).1 (C n') (C n).2.1 (C n).2.2.1 ((C n).2.2.2 - 1) := by rw [e]; exact q3
    refine zD_n (d := 0) (s' := s) (m' := m) (t := t) (n' := n') (rg := rg) hS hC hI hP (by omega) (by omega) (fun z => by have := q3.2 z; omega) ?_ hI.2.2.1 (Int.le_refl _) (by omega) (by omega) eb1 eb2 hΨ
    rw [q3.1]; exact hI.2.1
theorem zD_f {φ N fr lg b1 b2 b1ω b2ω g t t' m m' n n' s s' st Ψ Ψω bs n9 d : Int} {ac aA rg rgω toω tlω cs ca cp ct so va aB la : Nat → Int32} {C : Int → zT} {S : Int} (hS : S + zw φ (C n) ≤ Ψ + g * zk φ st) (hC : zCs (zP φ ac aA C N fr lg (52 * zk φ st + b1) (33 * zk φ st + b2)) (zOm φ C) toω tlω cs ca cp ct t' m (zG rgω) S) (hI : zIn φ C N fr lg (52 * zk φ st + b1) (33 * zk φ st + b2) (zG rg) n s m t) (hP : zPr so va ac aA aB la bs n9 φ N C) (hnω : n' = n + 1) (ho : zg ac n = 6 ∨ zg ac n = 7 ∨ zg ac n = 8 ∨ zg ac n = 12 ∨ zg ac n = 14 ∨ zg ac n = 18) (hd : d = - zdr (zg ac n)) (hw : zWf fr lg (zG rgω) (zGn (zg ac n) (zg aA n) (C n).1) s' m') (hc : zCap (zG rgω) lg) (hm : m' ≤ m) (ht : t' + zNz (zG rgω) ≤ t + zNz (zG rg) + d) (eb1 : b1ω = b1 + zh φ (zg ac n)) (eb2 : b2ω = b2 + zh φ (zg ac n)) (hΨ : Ψω = Ψ - 1 + 2 * φ) : zMa φ ac aA C N fr lg b1ω b2ω g rgω toω tlω cs ca cp ct t' m' n' s' st Ψω 1 := by
  have hn := hI.1
  obtain ⟨sd, nx, r, nl, hφ⟩ := zPr_at hP hn.1 hn.2
  have x := nx (by unfold zFa; omega)
  have nl := nl (by omega)
  subst hnω
  have d1 : zdu (zg ac n) = 0 := by unfold zdu; repeat' split
                                    all_goals omega
  have d2 : zdx (zg ac n) (C n).2.2.2 = (C n).2.2.2 - 1 := by unfold zdx; rw [if_neg (by omega)]
  have zb := @zh_b φ (zg ac n)
  refine zD_n (d := d) (rg := rg) hS hC hI hP (by omega) nl (fun z => by have := x.2 z; omega) ?_ hc hm ht (fun e => ?_) eb1 eb2 hΨ
  · rw [x.1]; exact hw
  · subst hd; unfold zdr zh; rw [if_neg (show φ ≠ 0 by omega)]
    repeat' split
    all_goals omega
theorem zD_cb {φ N fr lg b1 b2 b1ω b2ω g m n n' s st Ψ Ψω bs n9 t t' : Int} {ac aA rg to tl rgω toω tlω cs ca cp ct so va aB la : Nat → Int32} {C : Int → zT} {r9 v9 : Int32} (h : zMa φ ac aA C N fr lg b1 b2 g rg to tl cs ca cp ct t m n s st Ψ 1) (hP : zPr so va ac aA aB la bs n9 φ N C) (hs : zST rg to tl rgω toω tlω t t' r9 v9) (hf : 0 ≤ fr) (ho : zg ac n = 6) (hnω : n' = n + 1) (ht0 : 0 ≤ t) (ht1 : t' ≤ t + 1) (hr : r9.toInt = 20 + zg aA n) (hv : v9.toInt = s) (eb1 : b1ω = b1 + zh φ (zg ac n)) (eb2 : b2ω = b2 + zh φ (zg ac n)) (hΨ : Ψω = Ψ - 1 + 2 * φ) : zMa φ ac aA C N fr lg b1ω b2ω g rgω toω tlω cs ca cp ct t' m n' s st Ψω 1 := by
  obtain ⟨S, hS, hC, hI⟩ := h
  rw [if_neg (by decide)] at hS
  have hI := hI (by decide)
  obtain ⟨sd, nx, r, nl, hφ⟩ := zPr_at hP hI.1.1 hI.1.2
  obtain ⟨s0, s1, s2, s3, s4, s5, s6, s7, s8, s9, s10, s11, s12, s13, s14, s15⟩ := sd
  have a := s6 (Or.inl ho)
  obtain ⟨hCω, e⟩ := zCs_st hC hs ht0 (by omega)
  rw [hr, hv] at e
  have dr : zdr (zg ac n) = -1 := by rw [ho]; rfl
  refine zD_f (rg := rg) (t := t) (d := 1) hS hCω hI hP hnω (Or.inl ho) (by omega) ?_ ?_ (Int.le_refl _) ?_ eb1 eb2 hΨ
  · rw [e, ho]; exact zWf_cap hf hI.2.1 (s7 ho)
  · rw [e]; exact zCap_o hI.2.2.1 (by omega)
  · rw [e, zNz_o (by omega)]; omega
theorem zD_ce {φ N fr lg b1 b2 b1ω b2ω g m n n' s st Ψ Ψω bs n9 t t1 t' : Int} {ac aA rg to tl rg1 to1 tl1 rgω toω tlω cs ca cp ct so va aB la : Nat → Int32} {C : Int → zT} {r9 v9 i9 r8 v8 : Int32} (h : zMa φ ac aA C N fr lg b1 b2 g rg to tl cs ca cp ct t m n s st Ψ 1) (hP : zPr so va ac aA aB la bs n9 φ N C) (hs : zST rg to tl rg1 to1 tl1 t t1 r9 v9) (hs2 : zST rg1 to1 tl1 rgω toω tlω t1 t' r8 v8) (ev : v9 = rg i9.toNatClampNeg) (hf : 0 ≤ fr) (hlg : lg ≤ 100) (ho : zg ac n = 7) (hnω : n' = n + 1) (ht0 : 0 ≤ t) (ht1 : t1 ≤ t + 1 ∧ t ≤ t1) (ht2 : t' ≤ t1 + 1) (hr : r9.toInt = zg aA n) (hi : i9.toInt = 20 + zg aA n) (hr8 : r8.toInt = 10 + zg aA n) (hv : v8.toInt = s) (eb1 : b1ω = b1 + zh φ (zg ac n)) (eb2 : b2ω = b2 + zh φ (zg ac n)) (hΨ : Ψω = Ψ - 1 + 2 * φ) : zMa φ ac aA C N fr lg b1ω b2ω g rgω toω tlω cs ca cp ct t' m n' s st Ψω 1 := by
  obtain ⟨S, hS, hC, hI⟩ := h
  rw [if_neg (by decide)] at hS
  have hI := hI (by decide)
  obtain ⟨sd, nx, r, nl, hφ⟩ := zPr_at hP hI.1.1 hI.1.2
  obtain ⟨s0, s1, s2, s3, s4, s5, s6, s7, s8, s9, s10, s11, s12, s13, s14, s15⟩ := sd
  have a := s6 (Or.inr ho)
  obtain ⟨G, eG⟩ := s8 ho
  obtain ⟨hCω, e⟩ := zCs_st hC hs ht0 (by omega)
  obtain ⟨hC2, e2⟩ := zCs_st hCω hs2 (by omega) (by omega)
  rw [hr] at e
  rw [hr8, hv, e] at e2
  have ev2 : v9.toInt = zG rg (20 + zg aA n) := by rw [zG_at (by omega)]; exact zg_at2 ev hi
  rw [ev2] at e2
  have w := hI.2.1
  rw [eG] at w
  have cx := r.2.2.2.2
  rw [eG] at cx
  have dr : zdr (zg ac n) = -2 := by rw [ho]; rfl
  have le := zWf_le hf w
  have w2 : 0 ≤ zG rg (20 + zg aA n) ∧ zG rg (20 + zg aA n) ≤ s ∧ zWf fr lg (zG rg) G s m := by
    rcases w with ⟨_, w⟩ | ⟨z, _⟩ | ⟨z, _⟩
    · exact w
    · exact absurd z (by decide)
    · exact absurd z (by decide)
  refine zD_f (rg := rg) (t := t) (d := 2) hS hC2 hI hP hnω (Or.inr (Or.inl ho)) (by omega) ?_ ?_ (Int.le_refl _) ?_ eb1 eb2 hΨ
  · rw [e2, ho, eG]
    exact zWf_loose (Or.inl (by omega)) cx.2.2 (zWf_loose (Or.inl (by omega)) cx.2.2 w2.2.2)
  · rw [e2]; intro k k0 k1
    by_cases q : k = zg aA n
    · subst q
      have q1 : zfs (zfs (zG rg) (zg aA n) (zG rg (20 + zg aA n))) (10 + zg aA n) s (zg aA n) = zG rg (20 + zg aA n) := by
        unfold zfs; rw [if_neg (by omega), if_pos rfl]
      have q2 : zfs (zfs (zG rg) (zg aA n) (zG rg (20 + zg aA n))) (10 + zg aA n) s (10 + zg aA n) = s := if_pos rfl
      rw [q1, q2]; omega
    · have c := hI.2.2.1 k k0 k1
      have q2 : zfs (zfs (zG rg) (zg aA n) (zG rg (20 + zg aA n))) (10 + zg aA n) s (10 + k) = zG rg (10 + k) := by
        unfold zfs; rw [if_neg (by omega), if_neg (by omega)]
      have q1 : zfs (zfs (zG rg) (zg aA n) (zG rg (20 + zg aA n))) (10 + zg aA n) s k = zG rg k := by
        unfold zfs; rw [if_neg (by omega), if_neg q]
      rw [q1, q2]; exact c
  · rw [e2, zNz_o (by omega), zNz_o (by omega)]; omega
theorem zSd_l {so va : Nat → Int32} {bs n φ lb o a b : Int} {Λ : Int → zT} {σ : zT} (h : zSd so va bs n φ lb Λ o a b σ) (e : o = 3 ∨ o = 4 ∨ o = 5) : 0 ≤ a ∧ a < lb ∧ zn φ σ.1 (Λ a) σ.2.1 σ.2.2.1 (σ.2.2.2 - 1) := h.2.2.2.2.1 e
theorem zSd_4 {so va : Nat → Int32} {bs n φ lb o a b : Int} {Λ : Int → zT} {σ : zT} (h : zSd so va bs n φ lb Λ o a b σ) (e : o = 4) : φ = 1 := h.2.2.2.2.2.1 e
theorem zSd_a {so va : Nat → Int32} {bs n φ lb o a b : Int} {Λ : Int → zT} {σ : zT} (h : zSd so va bs n φ lb Λ o a b σ) (e : 8 ≤ o) (e2 : o ≠ 19) : φ = 0 ∧ (o ≠ 21 → 0 ≤ a ∧ a < n) := h.2.2.2.2.2.2.2.2.2.1 e e2
theorem zSd_9 {so va : Nat → Int32} {bs n φ lb o a b : Int} {Λ : Int → zT} {σ : zT} (h : zSd so va bs n φ lb Λ o a b σ) (e : o = 9) : 0 ≤ b ∧ b < lb ∧ zn φ σ.1 (Λ b) (σ.2.1 - 1) σ.2.2.1 (σ.2.2.2 - 1) := h.2.2.2.2.2.2.2.2.2.2.1 e
theorem zSd_11 {so va : Nat → Int32} {bs n φ lb o a b : Int} {Λ : Int → zT} {σ : zT} (h : zSd so va bs n φ lb Λ o a b σ) (e : o = 11) : zFree (470 + a) σ.1 := h.2.2.2.2.2.2.2.2.2.2.2.2.1 e
theorem zSd_k {so va : Nat → Int32} {bs n φ lb o a b : Int} {Λ : Int → zT} {σ : zT} (h : zSd so va bs n φ lb Λ o a b σ) (e : o = 13 ∨ o = 15 ∨ o = 17) : zFree (470 + a) σ.1 ∧ zFree (690 + a) σ.1 ∧ (b = -1 ∨ (0 ≤ b ∧ b < lb ∧ zn φ σ.1 (Λ b) (σ.2.1 + 50) (σ.2.2.1 + 30) 1000)) := h.2.2.2.2.2.2.2.2.2.2.2.2.2.2.1 e
theorem zSd_e {so va : Nat → Int32} {bs n φ lb o a b : Int} {Λ : Int → zT} {σ : zT} (h : zSd so va bs n φ lb Λ o a b σ) (e : o = 14 ∨ o = 16 ∨ o = 18 ∨ o = 20) : ∃ G, σ.1 = (2, a) :: G := h.2.2.2.2.2.2.2.2.2.2.2.2.2.2.2 e
theorem zD_ls {φ N fr lg b1 b2 b1ω b2ω g m n n' s st Ψ Ψω bs n9 t t' : Int} {ac aA rg to tl rgω toω tlω cs ca cp ct so va aB la : Nat → Int32} {C : Int → zT} {r9 v9 : Int32} (h : zMa φ ac aA C N fr lg b1 b2 g rg to tl cs ca cp ct t m n s st Ψ 1) (hP : zPr so va ac aA aB la bs n9 φ N C) (hs : zST rg to tl rgω toω tlω t t' r9 v9) (ho : zg ac n = 8) (hnω : n' = n + 1) (ht0 : 0 ≤ t) (hr : r9.toInt = 30 + zg aA n) (hv : v9.toInt = 0) (eb1 : b1ω = b1 + zh φ (zg ac n)) (eb2 : b2ω = b2 + zh φ (zg ac n)) (hΨ : Ψω = Ψ - 1 + 2 * φ) : zMa φ ac aA C N fr lg b1ω b2ω g rgω toω tlω cs ca cp ct t' m n' s st Ψω 1 := by
  obtain ⟨S, hS, hC, hI⟩ := h
  rw [if_neg (by decide)] at hS
  have hI := hI (by decide)
  obtain ⟨sd, nx, r, nl, hφ⟩ := zPr_at hP hI.1.1 hI.1.2
  obtain ⟨s0, s1, s2, s3, s4, s5, s6, s7, s8, s9, s10, s11, s12, s13, s14, s15⟩ := sd
  have a := (s9 (by omega) (by omega)).2 (by omega)
  have n22 := hP.1.2.2.1
  obtain ⟨hCω, e⟩ := zCs_st hC hs ht0 (by omega)
  have dr : zdr (zg ac n) = 0 := by rw [ho]; rfl
  rw [hr, hv] at e
  refine zD_f (rg := rg) (t := t) (d := 0) hS hCω hI hP hnω (by omega) (by omega) ?_ ?_ (Int.le_refl _) ?_ eb1 eb2 hΨ
  · rw [e, ho]; exact zWf_loose (Or.inr (Or.inl (by omega))) r.2.2.2.2 hI.2.1
  · rw [e]; exact zCap_o hI.2.2.1 (by omega)
  · rw [e]
    rcases hs with ⟨q1, q2, q3, q4, q5⟩ | ⟨q1, q2, _⟩
    · have z : zfs (zG rg) (30 + zg aA n) 0 = zG rg := by
        funext j; unfold zfs
        by_cases q : j = 30 + zg aA n
        · rw [if_pos q, q, zG_at (by omega), ← hr, q5, hv]
        · rw [if_neg q]
      rw [z]; omega
    · have := zNz_0 (f := zG rg) (r := 30 + zg aA n) (by omega) (by rw [zG_at (by omega), ← hr]; omega)
      omega
theorem zD_ke {φ N fr lg b1 b2 b1ω b2ω g n n' s st Ψ Ψω bs n9 t m m' : Int} {ac aA rg to tl cs ca cp ct so va aB la : Nat → Int32} {C : Int → zT} (h : zMa φ ac aA C N fr lg b1 b2 g rg to tl cs ca cp ct t m n s st Ψ 1) (hP : zPr so va ac aA aB la bs n9 φ N C) (hf : 0 ≤ fr) (ho : zg ac n = 12) (hnω : n' = n + 1) (hm : m' = zg rg (470 + zg aA n)) (eb1 : b1ω = b1 + zh φ (zg ac n)) (eb2 : b2ω = b2 + zh φ (zg ac n)) (hΨ : Ψω = Ψ - 1 + 2 * φ) : zMa φ ac aA C N fr lg b1ω b2ω g rg to tl cs ca cp ct t m' n' s st Ψω 1 := by
  obtain ⟨S, hS, hC, hI⟩ := h
  rw [if_neg (by decide)] at hS
  have hI := hI (by decide)
  obtain ⟨sd, nx, r, nl, hφ⟩ := zPr_at hP hI.1.1 hI.1.2
  obtain ⟨s0, s1, s2, s3, s4, s5, s6, s7, s8, s9, s10, s11, s12, s13, s14, s15⟩ := sd
  have a := (s9 (by omega) (by omega)).2 (by omega)
  obtain ⟨G, eG⟩ := s13 ho
  have w := hI.2.1
  rw [eG] at w
  have dr : zdr (zg ac n) = 0 := by rw [ho]; rfl
  rw [← zG_at (by omega)] at hm
  have w2 : 0 ≤ zG rg (470 + zg aA n) ∧ zG rg (470 + zg aA n) ≤ m ∧ zWf fr lg (zG rg) G s (zG rg (470 + zg aA n)) := by
    rcases w with ⟨z, _⟩ | ⟨_, w⟩ | ⟨z, _⟩
    · exact absurd z (by decide)
    · exact w
    · exact absurd z (by decide)
  refine zD_f (rg := rg) (t := t) (m := m) (m' := m') (d := 0) hS hC hI hP hnω (by omega) (by omega) ?_ hI.2.2.1 (by omega) (by omega) eb1 eb2 hΨ
  rw [ho, eG, hm]; exact w2.2.2
theorem zD_lk {φ N fr lg b1 b2 g n s st Ψ bs n9 t m : Int} {ac aA rg to tl cs ca cp ct so va aB la : Nat → Int32} {C : Int → zT} (h : zMa φ ac aA C N fr lg b1 b2 g rg to tl cs ca cp ct t m n s st Ψ 1) (hP : zPr so va ac aA aB la bs n9 φ N C) (hf : 0 ≤ fr) (ho : zg ac n = 14 ∨ zg ac n = 16 ∨ zg ac n = 18 ∨ zg ac n = 20) : (0 ≤ zg rg (470 + zg aA n) ∧ zg rg (470 + zg aA n) ≤ m) ∧ (0 ≤ zg rg (690 + zg aA n) ∧ zg rg (690 + zg aA n) ≤ lg) ∧ zWf fr lg (zG rg) (C n).1.tail (zg rg (690 + zg aA n)) (zg rg (470 + zg aA n)) := by
  obtain ⟨S, hS, hC, hI⟩ := h
  have hI := hI (by decide)
  obtain ⟨sd, nx, r, nl, hφ⟩ := zPr_at hP hI.1.1 hI.1.2
  clear nx nl
  have a := (zSd_a sd (by omega) (by omega)).2 (by omega)
  obtain ⟨G, eG⟩ := zSd_e sd ho
  have w := hI.2.1
  rw [eG] at w
  have e4 : zg rg (470 + zg aA n) = zG rg (470 + zg aA n) := (zG_at (by omega)).symm
  have e5 : zg rg (690 + zg aA n) = zG rg (690 + zg aA n) := (zG_at (by omega)).symm
  rw [e4, e5, eG]
  rcases w with ⟨z, _⟩ | ⟨z, _⟩ | ⟨_, w⟩
  · exact absurd z (by decide)
  · exact absurd z (by decide)
  · have := zWf_le hf w.2.2.2.2
    exact ⟨⟨w.2.2.1, w.2.2.2.1⟩, ⟨by omega, by omega⟩, w.2.2.2.2⟩
theorem zD_le {φ N fr lg b1 b2 b1ω b2ω g n n' s s' st Ψ Ψω bs n9 t m m' : Int} {ac aA rg to tl cs ca cp ct so va aB la : Nat → Int32} {C : Int → zT} (h : zMa φ ac aA C N fr lg b1 b2 g rg to tl cs ca cp ct t m n s st Ψ 1) (hP : zPr so va ac aA aB la bs n9 φ N C) (hf : 0 ≤ fr) (ho : zg ac n = 14 ∨ zg ac n = 18) (hnω : n' = n + 1) (hm : m' = zg rg (470 + zg aA n)) (hs : s' = zg rg (690 + zg aA n)) (eb1 : b1ω = b1 + zh φ (zg ac n)) (eb2 : b2ω = b2 + zh φ (zg ac n)) (hΨ : Ψω = Ψ - 1 + 2 * φ) : zMa φ ac aA C N fr lg b1ω b2ω g rg to tl cs ca cp ct t m' n' s' st Ψω 1 := by
  obtain ⟨k1, k2, k3⟩ := zD_lk h hP hf (by omega)
  obtain ⟨S, hS, hC, hI⟩ := h
  rw [if_neg (by decide)] at hS
  have hI := hI (by decide)
  have dr : zdr (zg ac n) = 0 := by rcases ho with e | e <;> rw [e] <;> rfl
  refine zD_f (rg := rg) (t := t) (m := m) (m' := m') (d := 0) hS hC hI hP hnω (by omega) (by omega) ?_ hI.2.2.1 (by omega) (by omega) eb1 eb2 hΨ
  have e : zGn (zg ac n) (zg aA n) (C n).1 = (C n).1.tail := by rcases ho with e | e <;> rw [e] <;> rfl
  rw [e, hm, hs]; exact k3

set_option maxHeartbeats 4000000 in
theorem zD_sp {φ N fr lg b1 b2 b1ω b2ω g n n' st Ψ Ψω bs n9 m' : Int} {ac aA rg to tl cs ca cp ct cs' ca' cp' ct' so va aB la : Nat → Int32} {C : Int → zT} {t m s z a : Int32} (h : zMa φ ac aA C N fr lg b1 b2 g rg to tl cs ca cp ct t.toInt m.toInt n s.toInt st Ψ 1) (hP : zPr so va ac aA aB la bs n9 φ N C) (e1 : cs' = upd cs m.toNatClampNeg z) (e2 : ca' = upd ca m.toNatClampNeg a) (e3 : cp' = upd cp m.toNatClampNeg s) (e4 : ct' = upd ct m.toNatClampNeg t) (ho : (zg ac n = 3 ∧ a.toInt = zg la (zg aA n) ∧ n' = n + 1) ∨ (zg ac n = 4 ∧ a.toInt = n + 1 ∧ n' = zg la (zg aA n))) (hz : z.toInt = 0) (ht0 : 0 ≤ t.toInt) (hm0 : 0 ≤ m.toInt) (hm : m' = m.toInt + 1) (hf : 0 ≤ fr) (eb1 : b1ω = b1 + zh φ (zg ac n)) (eb2 : b2ω = b2 + zh φ (zg ac n)) (hΨ : Ψω = Ψ - 1 + 2 * φ) : zMa φ ac aA C N fr lg b1ω b2ω g rg to tl cs' ca' cp' ct' t.toInt m' n' s.toInt st Ψω 1 := by
  obtain ⟨S, hS, hC, hI⟩ := h
  rw [if_neg (by decide)] at hS
  have hI := hI (by decide)
  obtain ⟨hn, hw, hc, h1, h2⟩ := hI
  obtain ⟨sd, nx, r, nl, hφ⟩ := zPr_at hP hn.1 hn.2
  obtain ⟨la1, _, _⟩ := zPr_la hP hn.1 hn.2
  have zb := @zh_b φ (zg ac n)
  have x := nx (by unfold zFa; omega)
  have nl := nl (by omega)
  have o34 : zg ac n = 3 ∨ zg ac n = 4 := by omega
  have l := la1 (by omega) (by omega)
  obtain ⟨q1, q2, q3⟩ := zSd_l sd (by omega)
  have s5 := zSd_4 sd
  have q3 : zn φ (C n).1 (C (zg la (zg aA n))) (C n).2.1 (C n).2.2.1 ((C n).2.2.2 - 1) := q3
  have x1 : (C (n + 1)).1 = (C n).1 := by
    rw [x.1]; unfold zGn; rw [if_neg (by omega), if_neg (by omega), if_neg (by omega), if_neg (by omega)]
  have x2 : φ = 0 → (C (n + 1)).2.1 + 1 ≤ (C n).2.1 ∧ (C (n + 1)).2.2.1 ≤ (C n).2.2.1 ∧ (C (n + 1)).2.2.2 + 1 ≤ (C n).2.2.2 := by
    intro e
    have o3 : zg ac n = 3 := by rcases ho with o | o
                                · exact o.1
                                · have := s5 o.1; omega
    have := x.2 e
    have d1 : zdu (zg ac n) = -1 := by rw [o3]; rfl
    have d2 : zdr (zg ac n) = 0 := by rw [o3]; rfl
    have d3 : zdx (zg ac n) (C n).2.2.2 = (C n).2.2.2 - 1 := by rw [o3]; rfl
    omega
  clear sd nx la1
  have lr := (zPr_at hP l.2.1 l.2.2).2.2.1
  have nr := (zPr_at hP (show 0 ≤ n + 1 by omega) nl).2.2.1
  have ww := zw_m (φ := φ) (σ := C n) (τ := C (n + 1)) (υ := C (zg la (zg aA n))) (fun e => (x2 e).2.2) (fun e => by have := (q3.2 e); omega) nr.2.2.1 lr.2.2.1 hφ
  have hw' := zWf_mono hf (Int.le_refl s.toInt) (zWf_le hf hw).2.1 (show m.toInt ≤ m' by omega) hw
  have key : ∀ p : Int, (p = n + 1 ∨ p = zg la (zg aA n)) → (0 ≤ p ∧ p < N) ∧ (C p).1 = (C n).1 ∧ zU φ (C p) ≤ zU φ (C n) ∧ zR φ (C p) ≤ zR φ (C n) := by
    intro p hp
    rcases hp with e | e
    · subst e; refine ⟨⟨by omega, nl⟩, x1, ?_, ?_⟩
      · unfold zU; split
        · have := x2 (by omega); omega
        · omega
      · unfold zR; split
        · have := x2 (by omega); omega
        · omega
    · subst e; refine ⟨⟨l.2.1, l.2.2⟩, q3.1, ?_, ?_⟩
      · unfold zU; split
        · have := q3.2 (by omega); omega
        · omega
      · unfold zR; split
        · have := q3.2 (by omega); omega
        · omega
  have ka := key a.toInt (by omega)
  have kn := key n' (by omega)
  have om : zOm φ C z.toInt a.toInt = zw φ (C a.toInt) := by unfold zOm; rw [if_pos hz]
  have hC1 := zCs_ch (P := zP φ ac aA C N fr lg (52 * zk φ st + b1) (33 * zk φ st + b2)) hC e1 e2 e3 e4 ht0 hm0 (Or.inl ⟨hz, ka.1, by rw [ka.2.1]; exact hw, hc, by omega, by omega⟩) hm
  rw [om] at hC1
  have un : m' + zU φ (C n') ≤ 52 * zk φ st + b1ω := by
    rcases hφ with e | e
    · have o3 : n' = n + 1 := by rcases ho with o | o
                                 · exact o.2.2
                                 · have := s5 o.1; omega
      have := x2 e
      subst e; rw [zU_0] at *; rw [o3]; omega
    · subst e; rw [zU_1] at *; omega
  refine zMa_go hS (b1 := b1) (b2 := b2) (zCs_mono hC1 (zP_m (by omega) (by omega)) (Int.le_refl _)) ⟨kn.1, by rw [kn.2.1]; exact hw', hc, un, by omega⟩ ?_ hΨ
  rcases ho with ⟨_, oa, on⟩ | ⟨_, oa, on⟩
  · rw [oa, on]; omega
  · rw [oa, on]; omega
theorem zD_s {φ N fr lg b1 b2 b1ω b2ω g t t' m m' n n' s s' st stω Ψ Ψω bs n9 W S : Int} {ac aA rg rgω toω tlω cs' ca' cp' ct' so va aB la : Nat → Int32} {C : Int → zT} (hS : S + zw φ (C n) ≤ Ψ + g * zk φ st) (hC : zCs (zP φ ac aA C N fr lg (52 * zk φ (st + 1) + b1) (33 * zk φ (st + 1) + b2)) (zOm φ C) toω tlω cs' ca' cp' ct' t' m' (zG rgω) (S + W)) (hI : zIn φ C N fr lg (52 * zk φ st + b1) (33 * zk φ st + b2) (zG rg) n s m t) (hP : zPr so va ac aA aB la bs n9 φ N C) (hG : zGg φ C N g) (ho : zg ac n = 9 ∨ zg ac n = 11 ∨ zg ac n = 13 ∨ zg ac n = 15 ∨ zg ac n = 17) (hnω : n' = n + 1) (hst : stω = st + 1) (hw : zWf fr lg (zG rgω) (zGn (zg ac n) (zg aA n) (C n).1) s' m') (hc : zCap (zG rgω) lg) (hm : m' + zdu (zg ac n) ≤ m + 52) (ht : t' + zNz (zG rgω) + zdr (zg ac n) ≤ t + zNz (zG rg) + 33) (hW : 2 * W ≤ g) (eb1 : b1ω = b1 + zh φ (zg ac n)) (eb2 : b2ω = b2 + zh φ (zg ac n)) (hΨ : Ψω = Ψ - 1 + 2 * φ) : zMa φ ac aA C N fr lg b1ω b2ω g rgω toω tlω cs' ca' cp' ct' t' m' n' s' stω Ψω 1 := by
  obtain ⟨hn, _, _, h1, h2⟩ := hI
  obtain ⟨sd, nx, r, nl, hφ⟩ := zPr_at hP hn.1 hn.2
  have x := nx (by unfold zFa; omega)
  have nl := nl (by omega)
  have p0 := (zSd_a sd (by omega) (by omega)).1
  clear nx sd
  have w1 := hG.2 (n + 1) (by omega) nl
  have w2 := @zw_1 φ (C n)
  have w3 := @zw_1 φ (C (n + 1))
  obtain ⟨k1, k2⟩ := @zg_s g φ st hφ
  subst hnω; subst hst; subst p0
  rw [if_pos rfl] at k1 k2
  rw [zh_0] at eb1 eb2
  have q := x.2 rfl
  rw [zU_0] at h1
  rw [zR_0] at h2
  refine zMa_go hS (b1 := b1) (b2 := b2) (zCs_mono hC (zP_m (by omega) (by omega)) (Int.le_refl _)) ⟨⟨by omega, nl⟩, by rw [x.1]; exact hw, hc, by rw [zU_0]; omega, by rw [zR_0]; omega⟩ (by omega) hΨ
theorem zD_kb {φ N fr lg b1 b2 b1ω b2ω g m n n' s st stω Ψ Ψω bs n9 t t' : Int} {ac aA rg to tl rgω toω tlω cs ca cp ct so va aB la : Nat → Int32} {C : Int → zT} {r9 v9 : Int32} (h : zMa φ ac aA C N fr lg b1 b2 g rg to tl cs ca cp ct t m n s st Ψ 1) (hP : zPr so va ac aA aB la bs n9 φ N C) (hs : zST rg to tl rgω toω tlω t t' r9 v9) (hG : zGg φ C N g) (hf : 0 ≤ fr) (h0 : 0 ≤ st) (ho : zg ac n = 11) (hnω : n' = n + 1) (hst : stω = st + 1) (ht0 : 0 ≤ t) (ht1 : t' ≤ t + 1) (hr : r9.toInt = 470 + zg aA n) (hv : v9.toInt = m) (eb1 : b1ω = b1 + zh φ (zg ac n)) (eb2 : b2ω = b2 + zh φ (zg ac n)) (hΨ : Ψω = Ψ - 1 + 2 * φ) : zMa φ ac aA C N fr lg b1ω b2ω g rgω toω tlω cs ca cp ct t' m n' s stω Ψω 1 := by
  obtain ⟨S, hS, hC, hI⟩ := h
  rw [if_neg (by decide)] at hS
  have hI := hI (by decide)
  obtain ⟨sd, nx, r, nl, hφ⟩ := zPr_at hP hI.1.1 hI.1.2
  have a := (zSd_a sd (by omega) (by omega)).2 (by omega)
  have fr9 := zSd_11 sd ho
  clear nx sd
  obtain ⟨hCω, e⟩ := zCs_st hC hs ht0 (by omega)
  rw [hr, hv] at e
  have k := zk_le (φ := φ) (show st ≤ st + 1 by omega) h0
  have d1 : zdu (zg ac n) = 52 := by rw [ho]; rfl
  have d2 : zdr (zg ac n) = 32 := by rw [ho]; rfl
  refine zD_s (rg := rg) (t := t) (m := m) (W := 0) (s' := s) hS (zCs_mono hCω (zP_m (by omega) (by omega)) (by omega)) hI hP hG (by omega) hnω hst ?_ ?_ (by omega) ?_ (by have := hG.1; omega) eb1 eb2 hΨ
  · rw [e, ho]; exact zWf_cut hf hI.2.1 fr9
  · rw [e]; exact zCap_o hI.2.2.1 (by omega)
  · rw [e, zNz_o (by omega)]; omega
theorem zTu {fr lg p c k v q : Int} {f : Int → Int} {G : List (Int × Int)} (hw : zWf fr lg f G p c) (hx : zCx G) (hc : zCap f lg) (k0 : 0 ≤ k) (k1 : k < 220) : zWf fr lg (zfs (zfs f (30 + k) v) (250 + k) q) G p c ∧ zCap (zfs (zfs f (30 + k) v) (250 + k) q) lg ∧ zNz (zfs (zfs f (30 + k) v) (250 + k) q) ≤ zNz f + 1 := by
  refine ⟨zWf_loose (Or.inr (Or.inl (by omega))) hx (zWf_loose (Or.inr (Or.inl (by omega))) hx hw), zCap_o (zCap_o hc (by omega)) (by omega), ?_⟩
  rw [zNz_o (by omega)]; exact zNz_1 (by omega)
theorem zTl {φ N fr lg b1 b2 g t m n s st Ψ bs n9 : Int} {ac aA rg to tl cs ca cp ct so va aB la : Nat → Int32} {C : Int → zT} (h : zMa φ ac aA C N fr lg b1 b2 g rg to tl cs ca cp ct t m n s st Ψ 1) (hP : zPr so va ac aA aB la bs n9 φ N C) (ho : zg ac n = 9) : ∃ S : Int, S + zw φ (C n) ≤ Ψ + g * zk φ st ∧ zCs (zP φ ac aA C N fr lg (52 * zk φ st + b1) (33 * zk φ st + b2)) (zOm φ C) to tl cs ca cp ct t m (zG rg) S ∧ zIn φ C N fr lg (52 * zk φ st + b1) (33 * zk φ st + b2) (zG rg) n s m t ∧ φ = 0 ∧ (0 ≤ zg aA n ∧ zg aA n < 220) ∧ zn φ (C n).1 (C (zg la (zg aB n))) ((C n).2.1 - 1) (C n).2.2.1 ((C n).2.2.2 - 1) ∧ zRg (C n) ∧ (0 ≤ zg la (zg aB n) ∧ zg la (zg aB n) < N) := by
  obtain ⟨S, hS, hC, hI⟩ := h
  rw [if_neg (by decide)] at hS
  have hI := hI (by decide)
  obtain ⟨sd, nx, r, nl, hφ⟩ := zPr_at hP hI.1.1 hI.1.2
  have a := zSd_a sd (by omega) (by omega)
  have a2 := a.2 (by omega)
  have n22 := hP.1.2.2.1
  have l := (zPr_la hP hI.1.1 hI.1.2).2.1 (Or.inl ho)
  exact ⟨S, hS, hC, hI, a.1, ⟨a2.1, by omega⟩, (zSd_9 sd ho).2.2, r, l.2⟩
theorem zT_a {φ N fr lg b1 b2 b1ω b2ω g t t' m n n' s st stω Ψ Ψω bs n9 S k : Int} {ac aA rg rgω to tl toω tlω cs ca cp ct so va aB la : Nat → Int32} {C : Int → zT} {o : Bool} (h : zMa φ ac aA C N fr lg b1 b2 g rg to tl cs ca cp ct t m n s st Ψ 1) (hP : zPr so va ac aA aB la bs n9 φ N C) (hb : zBT (zP φ ac aA C N fr lg (52 * zk φ (st + 1) + b1) (33 * zk φ (st + 1) + b2)) (zOm φ C) rg to tl rgω toω tlω cs ca cp ct t t' m k n n' s S o) (hS : S + zw φ (C n) ≤ Ψ + g * zk φ st) (hG : zGg φ C N g) (ho : zg ac n = 9) (hk : k = zg aA n) (hst : o = true ∨ stω = st + 1) (eb1 : b1ω = b1 + zh φ (zg ac n)) (eb2 : b2ω = b2 + zh φ (zg ac n)) (hΨ : Ψω = Ψ - 1 + 2 * φ) : o = true ∨ zMa φ ac aA C N fr lg b1ω b2ω g rgω toω tlω cs ca cp ct t' m n' s stω Ψω 1 := by
  rcases hb with hb | ⟨o1, e1, e2, e3, hC, v, ev⟩
  · exact Or.inl hb
  · obtain ⟨S2, _, _, hI, p0, a2, xx, r, l⟩ := zTl h hP ho
    have d1 : zdu (zg ac n) = 51 := by rw [ho]; rfl
    have d2 : zdr (zg ac n) = 30 := by rw [ho]; rfl
    have st1 : stω = st + 1 := by rcases hst with z | z
                                  · rw [z] at o1; exact absurd o1 (by decide)
                                  · exact z
    obtain ⟨u1, u2, u3⟩ := zTu (v := v) (q := s) hI.2.1 r.2.2.2.2 hI.2.2.1 a2.1 a2.2
    rw [hk] at ev
    refine Or.inr (zD_s (rg := rg) (t := t) (m := m) (W := 0) (S := S) hS (zCs_mono hC (fun _ _ _ _ _ _ z => z) (by omega)) hI hP hG (Or.inl ho) e1 st1 ?_ ?_ (by omega) ?_ (by have := hG.1; omega) eb1 eb2 hΨ)
    · rw [ev, ho]; exact u1
    · rw [ev]; exact u2
    · rw [ev]; omega
theorem zT_x {φ N fr lg b1 b2 g t m n s st Ψ bs n9 : Int} {ac aA rg to tl cs ca cp ct so va aB la : Nat → Int32} {C : Int → zT} (h : zMa φ ac aA C N fr lg b1 b2 g rg to tl cs ca cp ct t m n s st Ψ 1) (hP : zPr so va ac aA aB la bs n9 φ N C) (ho : zg ac n = 9) : zIn φ C N fr lg (52 * zk φ st + b1) (33 * zk φ st + b2) (zG rg) (zg la (zg aB n)) s m t ∧ m + 1 + zU φ (C (zg la (zg aB n))) ≤ 52 * zk φ st + b1 ∧ zw φ (C (zg la (zg aB n))) + 2 ≤ zw φ (C n) := by
  obtain ⟨S, hS, hC, hI, p0, a2, xx, r, l⟩ := zTl h hP ho
  obtain ⟨hn, hw, hc, h1, h2⟩ := hI
  have x := xx.2 p0
  have r2 := (zPr_at hP l.1 l.2).2.2.1
  have w := zw_3 (φ := φ) (σ := C n) (τ := C (zg la (zg aB n))) (fun _ => by omega) r2.2.2.1 (Or.inl p0)
  subst p0
  rw [zU_0] at h1; rw [zR_0] at h2
  exact ⟨⟨l, by rw [xx.1]; exact hw, hc, by rw [zU_0]; omega, by rw [zR_0]; omega⟩, by rw [zU_0]; omega, by omega⟩
theorem zT_d {φ N fr lg b1 b2 b1ω b2ω g t m n n' s st Ψ Ψω bs n9 : Int} {ac aA rg to tl cs ca cp ct so va aB la : Nat → Int32} {C : Int → zT} (h : zMa φ ac aA C N fr lg b1 b2 g rg to tl cs ca cp ct t m n s st Ψ 1) (hP : zPr so va ac aA aB la bs n9 φ N C) (ho : zg ac n = 9) (hnω : n' = zg la (zg aB n)) (eb1 : b1ω = b1 + zh φ (zg ac n)) (eb2 : b2ω = b2 + zh φ (zg ac n)) (hΨ : Ψω = Ψ - 1 + 2 * φ) : zMa φ ac aA C N fr lg b1ω b2ω g rg to tl cs ca cp ct t m n' s st Ψω 1 := by
  obtain ⟨i1, i2, i3⟩ := zT_x h hP ho
  obtain ⟨S, hS, hC, hI, p0, a2, xx, r, l⟩ := zTl h hP ho
  subst hnω; subst p0
  rw [zh_0] at eb1 eb2
  refine zMa_go hS (S' := S) (b1 := b1) (b2 := b2) (zCs_mono hC (zP_m (by omega) (by omega)) (Int.le_refl _)) (zIn_m i1 (by omega) (by omega) (Int.le_refl _)) (by omega) hΨ
theorem zT_c {φ N fr lg b1 b2 b1ω b2ω g n n' st Ψ Ψω bs n9 m' : Int} {ac aA rg to tl cs ca cp ct cs' ca' cp' ct' so va aB la : Nat → Int32} {C : Int → zT} {t m s z a : Int32} (h : zMa φ ac aA C N fr lg b1 b2 g rg to tl cs ca cp ct t.toInt m.toInt n s.toInt st Ψ 1) (hP : zPr so va ac aA aB la bs n9 φ N C) (e1 : cs' = upd cs m.toNatClampNeg z) (e2 : ca' = upd ca m.toNatClampNeg a) (e3 : cp' = upd cp m.toNatClampNeg s) (e4 : ct' = upd ct m.toNatClampNeg t) (ho : zg ac n = 9) (hf : 0 ≤ fr) (hz : z.toInt = 1) (ha : a.toInt = n) (ht0 : 0 ≤ t.toInt) (hm0 : 0 ≤ m.toInt) (hm : m' = m.toInt + 1) (hnω : n' = zg la (zg aB n)) (eb1 : b1ω = b1 + zh φ (zg ac n)) (eb2 : b2ω = b2 + zh φ (zg ac n)) (hΨ : Ψω = Ψ - 1 + 2 * φ) : zMa φ ac aA C N fr lg b1ω b2ω g rg to tl cs' ca' cp' ct' t.toInt m' n' s.toInt st Ψω 1 := by
  obtain ⟨i1, i2, i3⟩ := zT_x h hP ho
  obtain ⟨S, hS, hC, hI, p0, a2, xx, r, l⟩ := zTl h hP ho
  have hC1 := zCs_ch hC e1 e2 e3 e4 ht0 hm0 (Or.inr (Or.inl ⟨hz, by rw [ha]; exact ho, by rw [ha]; exact hI⟩)) hm
  have om : zOm φ C z.toInt a.toInt = 1 := by unfold zOm; rw [if_neg (by omega)]
  rw [om] at hC1
  subst hnω; subst p0
  rw [zh_0] at eb1 eb2
  refine zMa_go hS (b1 := b1) (b2 := b2) (zCs_mono hC1 (zP_m (by omega) (by omega)) (Int.le_refl _)) ⟨i1.1, zWf_mono hf (Int.le_refl _) (zWf_le hf i1.2.1).2.1 (by omega) i1.2.1, i1.2.2.1, by omega, by have := i1.2.2.2.2; omega⟩ (by omega) hΨ
theorem zT_b {φ N fr lg b1 b2 b1ω b2ω g n n' st stω Ψ Ψω bs n9 S k t' : Int} {ac aA rg rgω to tl toω tlω cs ca cp ct cs1 ca1 cp1 ct1 so va aB la : Nat → Int32} {C : Int → zT} {o : Bool} {t m m1 s z a : Int32} (h : zMa φ ac aA C N fr lg b1 b2 g rg to tl cs ca cp ct t.toInt m.toInt n s.toInt st Ψ 1) (hP : zPr so va ac aA aB la bs n9 φ N C) (hb : zBT (zP φ ac aA C N fr lg (52 * zk φ (st + 1) + b1) (33 * zk φ (st + 1) + b2)) (zOm φ C) rg to tl rgω toω tlω cs1 ca1 cp1 ct1 t.toInt t' m1.toInt k n n' s.toInt (S + zOm φ C z.toInt a.toInt) o) (hS : S + zw φ (C n) ≤ Ψ + g * zk φ st) (hG : zGg φ C N g) (hf : 0 ≤ fr) (ho : zg ac n = 9) (hk : k = zg aA n) (hz : z.toInt = 0) (ha : a.toInt = zg la (zg aB n)) (hm : m1.toInt = m.toInt + 1) (hst : o = true ∨ stω = st + 1) (eb1 : b1ω = b1 + zh φ (zg ac n)) (eb2 : b2ω = b2 + zh φ (zg ac n)) (hΨ : Ψω = Ψ - 1 + 2 * φ) : o = true ∨ zMa φ ac aA C N fr lg b1ω b2ω g rgω toω tlω cs1 ca1 cp1 ct1 t' m1.toInt n' s.toInt stω Ψω 1 := by
  rcases hb with hb | ⟨o1, e1, e2, e3, hC, v, ev⟩
  · exact Or.inl hb
  · obtain ⟨S2, _, _, hI, p0, a2, xx, r, l⟩ := zTl h hP ho
    have d1 : zdu (zg ac n) = 51 := by rw [ho]; rfl
    have d2 : zdr (zg ac n) = 30 := by rw [ho]; rfl
    have st1 : stω = st + 1 := by rcases hst with z | z
                                  · rw [z] at o1; exact absurd o1 (by decide)
                                  · exact z
    obtain ⟨u1, u2, u3⟩ := zTu (v := v) (q := s.toInt) hI.2.1 r.2.2.2.2 hI.2.2.1 a2.1 a2.2
    rw [hk] at ev
    have om : zOm φ C z.toInt a.toInt = zw φ (C a.toInt) := by unfold zOm; rw [if_pos hz]
    rw [om, ha] at hC
    have w9 := hG.2 _ l.1 l.2
    have w8 := @zw_1 φ (C (zg la (zg aB n)))
    refine Or.inr (zD_s (rg := rg) (t := t.toInt) (m := m.toInt) (W := zw φ (C (zg la (zg aB n)))) (S := S) hS hC hI hP hG (Or.inl ho) e1 st1 ?_ ?_ (by omega) ?_ (by omega) eb1 eb2 hΨ)
    · rw [ev, ho]; exact zWf_mono hf (Int.le_refl _) (zWf_le hf u1).2.1 (by omega) u1
    · rw [ev]; exact u2
    · rw [ev]; omega
theorem zov {o : Bool} {a b : Int} (h : (bz o).toInt = 1 ∨ a = b) : o = true ∨ a = b := by
  rcases h with h | h
  · exact Or.inl (zbz1 (by omega))
  · exact Or.inr h
theorem zL0 {φ N fr lg b1 b2 g t m n s st Ψ bs n9 : Int} {ac aA rg to tl cs ca cp ct so va aB la : Nat → Int32} {C : Int → zT} (h : zMa φ ac aA C N fr lg b1 b2 g rg to tl cs ca cp ct t m n s st Ψ 1) (hP : zPr so va ac aA aB la bs n9 φ N C) (ho : zg ac n = 13 ∨ zg ac n = 15 ∨ zg ac n = 17) : ∃ S : Int, S + zw φ (C n) ≤ Ψ + g * zk φ st ∧ zCs (zP φ ac aA C N fr lg (52 * zk φ st + b1) (33 * zk φ st + b2)) (zOm φ C) to tl cs ca cp ct t m (zG rg) S ∧ zIn φ C N fr lg (52 * zk φ st + b1) (33 * zk φ st + b2) (zG rg) n s m t ∧ φ = 0 ∧ (0 ≤ zg aA n ∧ zg aA n < 220) ∧ zFree (470 + zg aA n) (C n).1 ∧ zFree (690 + zg aA n) (C n).1 ∧ n + 1 < N ∧ (C (n + 1)).1 = (2, zg aA n) :: (C n).1 ∧ (C (n + 1)).2.1 ≤ (C n).2.1 + 51 ∧ (zg ac n = 17 → (C (n + 1)).2.1 ≤ (C n).2.1 + 50) ∧ (C (n + 1)).2.2.1 ≤ (C n).2.2.1 + 30 ∧ zRg (C n) ∧ zRg (C (n + 1)) ∧ (zg aB n = -1 ∨ ((0 ≤ zg la (zg aB n) ∧ zg la (zg aB n) < N) ∧ (C (zg la (zg aB n))).1 = (C n).1 ∧ (C (zg la (zg aB n))).2.1 ≤ (C n).2.1 + 50 ∧ (C (zg la (zg aB n))).2.2.1 ≤ (C n).2.2.1 + 30)) := by
  obtain ⟨S, hS, hC, hI⟩ := h
  rw [if_neg (by decide)] at hS
  have hI := hI (by decide)
  have hn := hI.1
  obtain ⟨sd, nx, r, nl, hφ⟩ := zPr_at hP hI.1.1 hI.1.2
  have a := zSd_a sd (by omega) (by omega)
  have a2 := a.2 (by omega)
  have n22 := hP.1.2.2.1
  have l := (zPr_la hP hI.1.1 hI.1.2).2.2 ho
  have k := zSd_k sd ho
  have x := nx (by unfold zFa; omega)
  have nl := nl (by omega)
  have x2 := x.2 a.1
  have eG : zGn (zg ac n) (zg aA n) (C n).1 = (2, zg aA n) :: (C n).1 := by rcases ho with e | e | e <;> rw [e] <;> rfl
  have d1 : zdu (zg ac n) ≤ 51 ∧ (zg ac n = 17 → zdu (zg ac n) = 50) := by
    rcases ho with e | e | e <;> rw [e]
    · exact ⟨by decide, by decide⟩
    · exact ⟨by decide, by decide⟩
    · exact ⟨by decide, fun _ => rfl⟩
  have d2 : zdr (zg ac n) = 30 := by rcases ho with e | e | e <;> rw [e] <;> rfl
  refine ⟨S, hS, hC, hI, a.1, ⟨a2.1, by omega⟩, k.1, k.2.1, nl, x.1.trans eG, by omega, fun z => by have := d1.2 z; omega, by omega, r, (zPr_at hP (show 0 ≤ n + 1 by omega) nl).2.2.1, ?_⟩
  rcases l with l | l
  · exact Or.inl l
  · rcases k.2.2 with q | ⟨q1, q2, q3⟩
    · exact Or.inl q
    · have q4 := q3.2 a.1
      exact Or.inr ⟨l.2, q3.1, q4.1, q4.2.1⟩
theorem zL_f {fr lg p c k : Int} {f : Int → Int} {G : List (Int × Int)} (hf : 0 ≤ fr) (hw : zWf fr lg f G p c) (hc : zCap f lg) (h1 : zFree (470 + k) G) (h2 : zFree (690 + k) G) (k0 : 0 ≤ k) (k1 : k < 220) : zWf fr lg (zfs (zfs f (470 + k) c) (690 + k) p) ((2, k) :: G) p c ∧ zWf fr lg (zfs (zfs f (470 + k) c) (690 + k) p) G p c ∧ zCap (zfs (zfs f (470 + k) c) (690 + k) p) lg ∧ zNz (zfs (zfs f (470 + k) c) (690 + k) p) = zNz f :=
  ⟨zWf_look hf hw h1 h2, zWf_set h2 (zWf_set h1 hw), zCap_o (zCap_o hc (by omega)) (by omega), by rw [zNz_o (by omega), zNz_o (by omega)]⟩
def zL5 (P : Int → Int → Int → (Int → Int) → Int → Int → Prop) (w : Int → Int → Int) (to tl cs ca cp ct : Nat → Int32) (t m m' : Int) (f : Int → Int) (S g : Int) : Prop := ∃ W : Int, 0 ≤ W ∧ 3 * W ≤ g ∧ m ≤ m' ∧ m' ≤ m + 1 ∧ zCs P w to tl cs ca cp ct t m' f (S + W)
theorem zL_c {φ N fr lg b1 b2 g n st Ψ bs n9 t0 m' S : Int} {ac aA rg rg2 to tl cs ca cp ct to2 tl2 cs' ca' cp' ct' so va aB la : Nat → Int32} {C : Int → zT} {t2 m s z a : Int32} (h : zMa φ ac aA C N fr lg b1 b2 g rg to tl cs ca cp ct t0 m.toInt n s.toInt st Ψ 1) (hP : zPr so va ac aA aB la bs n9 φ N C) (hC : zCs (zP φ ac aA C N fr lg (52 * zk φ (st + 1) + b1) (33 * zk φ (st + 1) + b2)) (zOm φ C) to2 tl2 cs ca cp ct t2.toInt m.toInt (zG rg2) S) (er : zG rg2 = zfs (zfs (zG rg) (470 + zg aA n) m.toInt) (690 + zg aA n) s.toInt) (e1 : cs' = upd cs m.toNatClampNeg z) (e2 : ca' = upd ca m.toNatClampNeg a) (e3 : cp' = upd cp m.toNatClampNeg s) (e4 : ct' = upd ct m.toNatClampNeg t2) (hG : zGg φ C N g) (hf : 0 ≤ fr) (ho : zg ac n = 13 ∨ zg ac n = 15 ∨ zg ac n = 17) (hb : zg aB n ≠ -1) (hz : z.toInt = 0) (ha : a.toInt = zg la (zg aB n)) (ht0 : 0 ≤ t2.toInt) (ht : t2.toInt ≤ t0 + 2) (hm0 : 0 ≤ m.toInt) (hm : m' = m.toInt + 1) : zL5 (zP φ ac aA C N fr lg (52 * zk φ (st + 1) + b1) (33 * zk φ (st + 1) + b2)) (zOm φ C) to2 tl2 cs' ca' cp' ct' t2.toInt m.toInt m' (zG rg2) S g := by
  obtain ⟨S1, _, _, hI, p0, a2, f1, f2, nl, eG, u1, _, r1, rn, rn1, l⟩ := zL0 h hP ho
  obtain ⟨_, hw, hc, h1, h2⟩ := hI
  obtain ⟨y1, y2, y3, y4⟩ := zL_f hf hw hc f1 f2 a2.1 a2.2
  have kk : zk φ (st + 1) = zk φ st + 1 := by rw [p0, zk_0, zk_0]
  have zu : ∀ τ : zT, zU φ τ = τ.2.1 := fun τ => by rw [p0]; exact zU_0
  have zr : ∀ τ : zT, zR φ τ = τ.2.2.1 := fun τ => by rw [p0]; exact zR_0
  rw [zu] at h1; rw [zr] at h2
  rcases l with l | ⟨l1, l2, l3, l4⟩
  · exact absurd l hb
  · have w9 := hG.2 _ l1.1 l1.2
    have w8 := @zw_1 φ (C (zg la (zg aB n)))
    have om : zOm φ C z.toInt a.toInt = zw φ (C a.toInt) := by unfold zOm; rw [if_pos hz]
    have hC1 := zCs_ch hC e1 e2 e3 e4 ht0 hm0 (Or.inl ⟨hz, by
      rw [ha, er]
      refine ⟨l1, by rw [l2]; exact y2, y3, by rw [zu]; omega, by rw [zr, y4]; omega⟩⟩) hm
    rw [om, ha] at hC1
    exact ⟨_, by omega, by omega, by omega, by omega, hC1⟩
theorem zL_0 {P : Int → Int → Int → (Int → Int) → Int → Int → Prop} {w : Int → Int → Int} {to tl cs ca cp ct : Nat → Int32} {t m m' : Int} {f : Int → Int} {S g : Int} (h : zCs P w to tl cs ca cp ct t m f S) (hg : 0 ≤ g) (hm : m' = m) : zL5 P w to tl cs ca cp ct t m m' f S g := by
  subst hm; exact ⟨0, by omega, by omega, by omega, by omega, by rw [Int.add_zero]; exact h⟩
theorem zL_n {φ N fr lg b1 b2 b1ω b2ω g t t2 m m' n n' s st stω Ψ Ψω bs n9 S : Int} {ac aA rg rg2 to tl cs ca cp ct to2 tl2 cs' ca' cp' ct' so va aB la : Nat → Int32} {C : Int → zT} (h : zMa φ ac aA C N fr lg b1 b2 g rg to tl cs ca cp ct t m n s st Ψ 1) (hP : zPr so va ac aA aB la bs n9 φ N C) (h5 : zL5 (zP φ ac aA C N fr lg (52 * zk φ (st + 1) + b1) (33 * zk φ (st + 1) + b2)) (zOm φ C) to2 tl2 cs' ca' cp' ct' t2 m m' (zG rg2) S g) (hS : S + zw φ (C n) ≤ Ψ + g * zk φ st) (er : zG rg2 = zfs (zfs (zG rg) (470 + zg aA n) m) (690 + zg aA n) s) (hG : zGg φ C N g) (hf : 0 ≤ fr) (ho : zg ac n = 13 ∨ zg ac n = 15) (ht : t2 ≤ t + 2) (hnω : n' = n + 1) (hst : stω = st + 1) (eb1 : b1ω = b1 + zh φ (zg ac n)) (eb2 : b2ω = b2 + zh φ (zg ac n)) (hΨ : Ψω = Ψ - 1 + 2 * φ) : zMa φ ac aA C N fr lg b1ω b2ω g rg2 to2 tl2 cs' ca' cp' ct' t2 m' n' s stω Ψω 1 := by
  obtain ⟨S1, _, _, hI, p0, a2, f1, f2, nl, eG, u1, _, r1, rn, rn1, l⟩ := zL0 h hP (by omega)
  obtain ⟨y1, y2, y3, y4⟩ := zL_f hf hI.2.1 hI.2.2.1 f1 f2 a2.1 a2.2
  obtain ⟨W, W0, W1, m1, m2, hC⟩ := h5
  have d1 : zdu (zg ac n) = 51 := by rcases ho with e | e <;> rw [e] <;> rfl
  have d2 : zdr (zg ac n) = 30 := by rcases ho with e | e <;> rw [e] <;> rfl
  have e9 : zGn (zg ac n) (zg aA n) (C n).1 = (2, zg aA n) :: (C n).1 := by rcases ho with e | e <;> rw [e] <;> rfl
  refine zD_s (rg := rg) (t := t) (m := m) (W := W) (S := S) hS hC hI hP hG (by omega) hnω hst ?_ ?_ (by omega) ?_ (by omega) eb1 eb2 hΨ
  · rw [e9, er]; exact zWf_mono hf (Int.le_refl _) (zWf_le hf y1).2.1 m1 y1
  · rw [er]; exact y3
  · rw [er, y4]; omega
theorem zL_i {φ N fr lg b1 b2 g t t2 m m' n s q st Ψ bs n9 B1 B2 : Int} {ac aA rg rg2 to tl cs ca cp ct so va aB la : Nat → Int32} {C : Int → zT} (h : zMa φ ac aA C N fr lg b1 b2 g rg to tl cs ca cp ct t m n s st Ψ 1) (hP : zPr so va ac aA aB la bs n9 φ N C) (er : zG rg2 = zfs (zfs (zG rg) (470 + zg aA n) m) (690 + zg aA n) s) (hf : 0 ≤ fr) (ho : zg ac n = 17) (q0 : 0 ≤ q) (q1 : q ≤ lg) (ht : t2 ≤ t + 3) (m1 : m ≤ m') (m2 : m' ≤ m + 2) (hB1 : 52 * zk φ st + b1 + 52 ≤ B1) (hB2 : 33 * zk φ st + b2 + 33 ≤ B2) : zIn φ C N fr lg B1 B2 (zfs (zG rg2) (910 + zg aA n) q) (n + 1) q m' t2 := by
  obtain ⟨S1, _, _, hI, p0, a2, f1, f2, nl, eG, _, u1, r1, rn, rn1, l⟩ := zL0 h hP (by omega)
  obtain ⟨y1, y2, y3, y4⟩ := zL_f hf hI.2.1 hI.2.2.1 f1 f2 a2.1 a2.2
  have u1 := u1 ho
  obtain ⟨hn, _, _, h1, h2⟩ := hI
  subst p0
  rw [zU_0] at h1; rw [zR_0] at h2
  have cx := rn1.2.2.2.2
  rw [eG] at cx
  have w1 : zWf fr lg (zfs (zG rg2) (910 + zg aA n) q) ((2, zg aA n) :: (C n).1) s m' := by
    rw [er]; exact zWf_loose (Or.inr (Or.inr (by omega))) cx (zWf_mono hf (Int.le_refl _) (zWf_le hf y1).2.1 m1 y1)
  have w2 : zWf fr lg (zfs (zG rg2) (910 + zg aA n) q) ((2, zg aA n) :: (C n).1) q m' := by
    rcases w1 with ⟨z, _⟩ | ⟨z, _⟩ | ⟨z, z1, z2, z3⟩
    · exact absurd z (by decide)
    · exact absurd z (by decide)
    · exact Or.inr (Or.inr ⟨z, q0, q1, z3⟩)
  refine ⟨⟨by omega, nl⟩, by rw [eG]; exact w2, by rw [er]; exact zCap_o y3 (by omega), by rw [zU_0]; omega, ?_⟩
  rw [zR_0, zNz_o (by omega), er, y4]; omega
theorem zL_b {φ N fr lg b1 b2 b1ω b2ω g t t2 t' m m2 m' n n' s s' st stω Ψ Ψω bs n9 S W : Int} {ac aA rg rg2 rgω to tl cs ca cp ct toω tlω cs' ca' cp' ct' so va aB la : Nat → Int32} {C : Int → zT} {o : Bool} (h : zMa φ ac aA C N fr lg b1 b2 g rg to tl cs ca cp ct t m n s st Ψ 1) (hP : zPr so va ac aA aB la bs n9 φ N C) (hb : zTB (zP φ ac aA C N fr lg (52 * zk φ (st + 2) + b1) (33 * zk φ (st + 2) + b2)) (zOm φ C) rg2 rgω toω tlω cs' ca' cp' ct' t2 t' m2 m' (zg aA n) s n n' s' (S + W) o) (hS : S + zw φ (C n) ≤ Ψ + g * zk φ st) (er : zG rg2 = zfs (zfs (zG rg) (470 + zg aA n) m) (690 + zg aA n) s) (hG : zGg φ C N g) (hf : 0 ≤ fr) (ho : zg ac n = 17) (ht : t2 ≤ t + 2) (hm1 : m ≤ m2) (hm2 : m2 ≤ m + 1) (hW : 3 * W ≤ g) (hst : o = true ∨ stω = st + 2) (eb1 : b1ω = b1 + zh φ (zg ac n)) (eb2 : b2ω = b2 + zh φ (zg ac n)) (hΨ : Ψω = Ψ - 1 + 2 * φ) : o = true ∨ zMa φ ac aA C N fr lg b1ω b2ω g rgω toω tlω cs' ca' cp' ct' t' m' n' s' stω Ψω 1 := by
  rcases hb with hb | ⟨o1, e1, e2, e3, e4, e5, e6, e7, hC⟩
  · exact Or.inl hb
  · have st1 : stω = st + 2 := by rcases hst with z | z
                                  · rw [z] at o1; exact absurd o1 (by decide)
                                  · exact z
    have q := (zL0 h hP (by omega))
    obtain ⟨S1, _, _, hI, p0, a2, f1, f2, nl, _⟩ := q
    have le := zWf_le hf hI.2.1
    have hn := hI.1
    have i9 := zL_i (q := s) (t2 := t') (m' := m') (B1 := 52 * zk φ (st + 2) + b1) (B2 := 33 * zk φ (st + 2) + b2) h hP er hf ho (by omega) (by omega) (by omega) (by omega) (by omega) (by subst p0; rw [zk_0, zk_0]; omega) (by subst p0; rw [zk_0, zk_0]; omega)
    have w1 := hG.2 (n + 1) (by omega) nl
    have w3 := @zw_1 φ (C (n + 1))
    have w2 := @zw_1 φ (C n)
    have om : zOm φ C 2 n = 1 := by unfold zOm; rw [if_neg (by decide)]
    rw [om] at hC
    subst e2; subst e1; subst st1
    have hC2 : zCs (zP φ ac aA C N fr lg (52 * zk φ (st + 2) + b1) (33 * zk φ (st + 2) + b2)) (zOm φ C) toω tlω cs' ca' cp' ct' t' m' (zG rgω) (S + W + 1) := by
      rcases hC with ⟨_, z⟩ | ⟨_, z⟩
      · exact zCs_mono z (fun _ _ _ _ _ _ z => z) (by omega)
      · exact z
    have kg : g * zk φ (st + 2) = g * zk φ st + 2 * g := by rw [p0, zk_0, zk_0, Int.mul_add]; omega
    have zz : zh φ (zg ac n) = 0 := by rw [p0]; exact zh_0
    refine Or.inr (zMa_go (st := st) hS (b1 := b1) (b2 := b2) (zCs_mono hC2 (zP_m (by omega) (by omega)) (Int.le_refl _)) (by rw [e7]; exact zIn_m i9 (by omega) (by omega) (Int.le_refl _)) (by omega) hΨ)
theorem zB_c {P : Int → Int → Int → (Int → Int) → Int → Int → Prop} {w : Int → Int → Int} {to tl cs ca cp ct : Nat → Int32} {t m S : Int} {f : Int → Int} {x i : Int32} (h : zCs P w to tl cs ca cp ct t m f S) (ex : x = ct i.toNatClampNeg) (hi : i.toInt = m - 1) (hm : 1 ≤ m) : 0 ≤ x.toInt ∧ x.toInt ≤ t := by
  have e := zg_at2 ex hi
  have := h.1 (m - 1) (by omega) (by omega)
  rw [e]; exact ⟨this.1, this.2.1⟩
theorem zB_r {P : Int → Int → Int → (Int → Int) → Int → Int → Prop} {w : Int → Int → Int} {rg rgω to tl cs ca cp ct : Nat → Int32} {t t' m S : Int} {x y i c : Int32} {j : Int32} (h : zCs P w to tl cs ca cp ct t m (zG rg) S) (ex : x = to i.toNatClampNeg) (ey : y = tl i.toNatClampNeg) (e : rgω = upd rg x.toNatClampNeg y) (ec : c = ct j.toNatClampNeg) (hj : j.toInt = m - 1) (hi : i.toInt = t - 1) (hx : 0 ≤ x.toInt) (ht : t' = i.toInt) (hl : c.toInt < t) : zCs P w to tl cs ca cp ct t' m (zG rgω) S := by
  have q := zCs_back h (fun _ => by have := zg_at2 ec hj; omega)
  have e1 := zg_at2 ex hi
  have e2 := zg_at2 ey hi
  rw [e, zG_upd hx, e1, e2, ht, hi]; exact q
theorem zB_t {P : Int → Int → Int → (Int → Int) → Int → Int → Prop} {w : Int → Int → Int} {to tl cs ca cp ct : Nat → Int32} {t m m' S : Int} {f : Int → Int} {c j : Int32} (h : zCs P w to tl cs ca cp ct t m f S) (ec : c = ct j.toNatClampNeg) (hw : ∀ s a : Int, 0 ≤ w s a) (hj : j.toInt = m - 1) (hm : 1 ≤ m) (hl : t ≤ c.toInt) (hmω : m' = m - 1) : P (zg cs m') (zg ca m') (zg cp m') f m' t ∧ zCs P w to tl cs ca cp ct t m' f (S - w (zg cs m') (zg ca m')) := by
  have e := zg_at2 ec hj
  have := (h.1 (m - 1) (by omega) (by omega)).2.1
  subst hmω
  exact zCs_top h hw hm (by omega)
theorem zP_r {so va ac aA aB la : Nat → Int32} {bs n9 φ N fr lg B1 B2 s a p i t : Int} {f : Int → Int} {C : Int → zT} (h : zP φ ac aA C N fr lg B1 B2 s a p f i t) (hP : zPr so va ac aA aB la bs n9 φ N C) (hf : 0 ≤ fr) : (0 ≤ a ∧ a < N ∧ N ≤ 2999) ∧ (0 ≤ p ∧ p ≤ lg) ∧ (s = 1 → 0 ≤ zg aA a ∧ zg aA a < 220) ∧ (s = 2 → (0 ≤ zg aA a ∧ zg aA a < 220) ∧ 1 ≤ f (910 + zg aA a) ∧ f (910 + zg aA a) ≤ lg) := by
  have n22 := hP.1
  have hp : 0 ≤ p ∧ p ≤ lg := by
    rcases h with ⟨_, h⟩ | ⟨_, _, h⟩ | ⟨_, _, _, h, _⟩
    · have := zWf_le hf h.2.1; omega
    · have := zWf_le hf h.2.1; omega
    · have := zWf_le hf h.2.1; omega
  rcases h with ⟨e, h⟩ | ⟨e, o, h⟩ | ⟨e, o, a0, h, h1, h2⟩
  · exact ⟨⟨h.1.1, h.1.2, n22.2.1⟩, hp, fun z => by omega, fun z => by omega⟩
  · have q := (zSd_a (zPr_at hP h.1.1 h.1.2).1 (by omega) (by omega)).2 (by omega)
    exact ⟨⟨h.1.1, h.1.2, n22.2.1⟩, hp, fun z => ⟨q.1, by omega⟩, fun z => by omega⟩
  · have h9 := h.1
    have q := (zSd_a (zPr_at hP a0 (show a < N by omega)).1 (by omega) (by omega)).2 (by omega)
    exact ⟨⟨a0, by omega, n22.2.1⟩, hp, fun z => by omega, fun z => ⟨⟨q.1, by omega⟩, h1, h2⟩⟩
theorem zB_0 {φ N fr lg b1 b2 g st Ψ t m S a p so : Int} {ac aA rg to tl cs ca cp ct : Nat → Int32} {C : Int → zT} (hS : S ≤ Ψ + g * zk φ st) (hp : zP φ ac aA C N fr lg (52 * zk φ st + b1) (33 * zk φ st + b2) so a p (zG rg) m t) (hC : zCs (zP φ ac aA C N fr lg (52 * zk φ st + b1) (33 * zk φ st + b2)) (zOm φ C) to tl cs ca cp ct t m (zG rg) (S - zOm φ C so a)) (h1 : so ≠ 1) (h2 : so ≠ 2) : zMa φ ac aA C N fr lg b1 b2 g rg to tl cs ca cp ct t m a p st Ψ 1 := by
  rcases hp with ⟨e, h⟩ | ⟨e, _⟩ | ⟨e, _⟩
  · have om : zOm φ C so a = zw φ (C a) := by unfold zOm; rw [if_pos e]
    rw [om] at hC
    exact ⟨_, by rw [if_neg (by decide)]; omega, hC, fun _ => h⟩
  · exact absurd e h1
  · exact absurd e h2
theorem zB_1 {so va : Nat → Int32} {aB la : Nat → Int32} {φ N fr lg b1 b2 g st stω Ψ t t' m n' S a p s9 k bs n9 : Int} {ac aA rg rgω to tl toω tlω cs ca cp ct : Nat → Int32} {C : Int → zT} {o : Bool} (hP : zPr so va ac aA aB la bs n9 φ N C) (hS : S ≤ Ψ + g * zk φ st) (hp : zP φ ac aA C N fr lg (52 * zk φ st + b1) (33 * zk φ st + b2) s9 a p (zG rg) m t) (hb : zBT (zP φ ac aA C N fr lg (52 * zk φ (st + 1) + b1) (33 * zk φ (st + 1) + b2)) (zOm φ C) rg to tl rgω toω tlω cs ca cp ct t t' m k a n' p (S - zOm φ C s9 a) o) (hG : zGg φ C N g) (h1 : s9 = 1) (hk : k = zg aA a) (hst : o = true ∨ stω = st + 1) : o = true ∨ zMa φ ac aA C N fr lg b1 b2 g rgω toω tlω cs ca cp ct t' m n' p stω Ψ 1 := by
  rcases hb with hb | ⟨o1, e1, e2, e3, hC, v, ev⟩
  · exact Or.inl hb
  have st1 : stω = st + 1 := by rcases hst with z | z
                                · rw [z] at o1; exact absurd o1 (by decide)
                                · exact z
  rcases hp with ⟨e, _⟩ | ⟨e, ho, hI⟩ | ⟨e, _⟩
  · omega
  · obtain ⟨hn, hw, hc, q1, q2⟩ := hI
    obtain ⟨sd, nx, r, nl, hφ⟩ := zPr_at hP hn.1 hn.2
    have sa := zSd_a sd (by omega) (by omega)
    have a2 := sa.2 (by omega)
    have n22 := hP.1.2.2.1
    have x := nx (by unfold zFa; omega)
    have nl := nl (by omega)
    have x2 := x.2 sa.1
    have eG : zGn (zg ac a) (zg aA a) (C a).1 = (C a).1 := by rw [ho]; rfl
    have d1 : zdu (zg ac a) = 51 := by rw [ho]; rfl
    have d2 : zdr (zg ac a) = 30 := by rw [ho]; rfl
    obtain ⟨u1, u2, u3⟩ := zTu (v := v) (q := p) hw r.2.2.2.2 hc a2.1 (show zg aA a < 220 by omega)
    have kk : zk φ (st + 1) = zk φ st + 1 := by rw [sa.1, zk_0, zk_0]
    have kg : g * zk φ (st + 1) = g * zk φ st + g := by rw [sa.1, zk_0, zk_0, Int.mul_add]; omega
    have zu : ∀ τ : zT, zU φ τ = τ.2.1 := fun τ => by rw [sa.1]; exact zU_0
    have zr : ∀ τ : zT, zR φ τ = τ.2.2.1 := fun τ => by rw [sa.1]; exact zR_0
    rw [zu] at q1; rw [zr] at q2
    have w1 := hG.2 (a + 1) (by omega) nl
    have w2 := @zw_1 φ (C (a + 1))
    have w3 := @zOm_1 φ C s9 a
    subst st1; subst e1; subst hk
    refine Or.inr ⟨_, ?_, hC, fun _ => ?_⟩
    · rw [if_neg (by decide)]; omega
    · rw [ev]; exact ⟨⟨by omega, nl⟩, by rw [x.1, eG]; exact u1, u2, by rw [zu]; omega, by rw [zr]; omega⟩
  · omega
theorem zB_i {so va : Nat → Int32} {aB la : Nat → Int32} {φ N fr lg b1 b2 st t t' m m' a p q bs n9 : Int} {ac aA : Nat → Int32} {f : Int → Int} {C : Int → zT} (hP : zPr so va ac aA aB la bs n9 φ N C) (hI : zIn φ C N fr lg (52 * zk φ st + b1) (33 * zk φ st + b2) f (a + 1) p m t) (ho : zg ac a = 17) (a0 : 0 ≤ a) (q0 : 0 ≤ q) (q1 : q ≤ lg) (hf : 0 ≤ fr) (m1 : m ≤ m') (m2 : m' ≤ m + 1) (ht : t' ≤ t + 1) : zIn φ C N fr lg (52 * zk φ (st + 1) + b1) (33 * zk φ (st + 1) + b2) (zfs f (910 + zg aA a) q) (a + 1) q m' t' ∧ zIn φ C N fr lg (52 * zk φ (st + 1) + b1) (33 * zk φ (st + 1) + b2) (zfs f (910 + zg aA a) q) (a + 1) p m' t' := by
  obtain ⟨hn, hw, hc, q1', q2'⟩ := hI
  obtain ⟨sd, nx, r, nl, hφ⟩ := zPr_at hP a0 (show a < N by omega)
  have sa := zSd_a sd (by omega) (by omega)
  have a2 := sa.2 (by omega)
  have n22 := hP.1.2.2.1
  have x := nx (by unfold zFa; omega)
  have r1 := (zPr_at hP hn.1 hn.2).2.2.1
  have eG : (C (a + 1)).1 = (2, zg aA a) :: (C a).1 := by rw [x.1, ho]; rfl
  have cx := r1.2.2.2.2
  rw [eG] at cx hw
  have kk : zk φ (st + 1) = zk φ st + 1 := by rw [sa.1, zk_0, zk_0]
  have w1 := zWf_loose (v := q) (r := 910 + zg aA a) (Or.inr (Or.inr (by omega))) cx (zWf_mono hf (Int.le_refl _) (zWf_le hf hw).2.1 m1 hw)
  have w2 : zWf fr lg (zfs f (910 + zg aA a) q) ((2, zg aA a) :: (C a).1) q m' := by
    rcases w1 with ⟨z, _⟩ | ⟨z, _⟩ | ⟨z, z1, z2, z3⟩
    · exact absurd z (by decide)
    · exact absurd z (by decide)
    · exact Or.inr (Or.inr ⟨z, q0, q1, z3⟩)
  have y1 := zCap_o (v := q) (r := 910 + zg aA a) hc (by omega)
  have y2 := zNz_o (f := f) (v := q) (r := 910 + zg aA a) (by omega)
  exact ⟨⟨hn, by rw [eG]; exact w2, y1, by omega, by omega⟩, ⟨hn, by rw [eG]; exact w1, y1, by omega, by omega⟩⟩
theorem zB_2 {so va : Nat → Int32} {aB la : Nat → Int32} {φ N fr lg b1 b2 g st stω Ψ t t' m m' n' s' S a p q s9 k bs n9 : Int} {ac aA rg rgω toω tlω cs' ca' cp' ct' : Nat → Int32} {C : Int → zT} {o : Bool} (hP : zPr so va ac aA aB la bs n9 φ N C) (hS : S ≤ Ψ + g * zk φ st) (hp : zP φ ac aA C N fr lg (52 * zk φ st + b1) (33 * zk φ st + b2) s9 a p (zG rg) m t) (hb : zTB (zP φ ac aA C N fr lg (52 * zk φ (st + 1) + b1) (33 * zk φ (st + 1) + b2)) (zOm φ C) rg rgω toω tlω cs' ca' cp' ct' t t' m m' k q a n' s' (S - zOm φ C s9 a) o) (hG : zGg φ C N g) (hf : 0 ≤ fr) (h1 : s9 = 2) (hk : k = zg aA a) (q0 : 0 ≤ q) (q1 : q ≤ lg) (hst : o = true ∨ stω = st + 1) : o = true ∨ zMa φ ac aA C N fr lg b1 b2 g rgω toω tlω cs' ca' cp' ct' t' m' n' s' stω Ψ 1 := by
  rcases hb with hb | ⟨o1, e1, e2, e3, e4, e5, e6, e7, hC⟩
  · exact Or.inl hb
  have st1 : stω = st + 1 := by rcases hst with z | z
                                · rw [z] at o1; exact absurd o1 (by decide)
                                · exact z
  rcases hp with ⟨e, _⟩ | ⟨e, ho, hI⟩ | ⟨e, ho, a0, hI, v1, v2⟩
  · omega
  · omega
  · have i9 := (zB_i (q := q) (m' := m') (t' := t') hP hI ho a0 q0 q1 hf e3 e4 (by omega)).1
    have hn := hI.1
    have sa := zSd_a (zPr_at hP a0 (show a < N by omega)).1 (by omega) (by omega)
    have kg : g * zk φ (st + 1) = g * zk φ st + g := by rw [sa.1, zk_0, zk_0, Int.mul_add]; omega
    have w1 := hG.2 (a + 1) (by omega) hn.2
    have w2 := @zw_1 φ (C (a + 1))
    have w3 := @zOm_1 φ C s9 a
    have om : zOm φ C 2 a = 1 := by unfold zOm; rw [if_neg (by decide)]
    rw [om] at hC
    subst st1; subst e1; subst hk; subst e2
    refine Or.inr ⟨S - zOm φ C s9 a + 1, ?_, ?_, fun _ => ?_⟩
    · rw [if_neg (by decide)]; omega
    · rcases hC with ⟨_, z⟩ | ⟨_, z⟩
      · exact zCs_mono z (fun _ _ _ _ _ _ z => z) (by omega)
      · exact z
    · rw [e7]; exact i9
theorem zB_p {so va : Nat → Int32} {aB la : Nat → Int32} {φ N fr lg b1 b2 st t t9 m a p q s9 k bs n9 : Int} {ac aA rg : Nat → Int32} {C : Int → zT} (hP : zPr so va ac aA aB la bs n9 φ N C) (hp : zP φ ac aA C N fr lg (52 * zk φ st + b1) (33 * zk φ st + b2) s9 a p (zG rg) m t) (hf : 0 ≤ fr) (h1 : s9 = 2) (hk : k = zg aA a) (q0 : 0 < q) (q1 : q ≤ lg) (ht : t9 ≤ t + 1) : zP φ ac aA C N fr lg (52 * zk φ (st + 1) + b1) (33 * zk φ (st + 1) + b2) 2 a p (zfs (zG rg) (910 + k) q) m t9 := by
  rcases hp with ⟨e, _⟩ | ⟨e, ho, hI⟩ | ⟨e, ho, a0, hI, v1, v2⟩
  · omega
  · omega
  · subst hk
    have i9 := (zB_i (q := q) (m' := m) (t' := t9) hP hI ho a0 (by omega) q1 hf (Int.le_refl _) (by omega) ht).2
    have e9 : zfs (zG rg) (910 + zg aA a) q (910 + zg aA a) = q := if_pos rfl
    exact Or.inr (Or.inr ⟨rfl, ho, a0, i9, by omega, by omega⟩)
theorem zD_r {φ N fr lg b1 b2 g t m n s st Ψ r : Int} {ac aA rg to tl cs ca cp ct : Nat → Int32} {C : Int → zT} (h1 : zMa φ ac aA C N fr lg b1 b2 g rg to tl cs ca cp ct t m n s st Ψ 1) (h0 : zMa φ ac aA C N fr lg b1 b2 g rg to tl cs ca cp ct t m n s st Ψ 0) : zMa φ ac aA C N fr lg b1 b2 g rg to tl cs ca cp ct t m n s st Ψ r := by
  by_cases e : r = 0
  · rw [e]; exact h0
  · obtain ⟨S, a, b, c⟩ := h1
    exact ⟨S, by rw [if_neg e]; rw [if_neg (by decide)] at a; exact a, b, fun _ => c (by decide)⟩
theorem zIs {φ N fr lg b1 b2 g t m n s st Ψ bs n9 : Int} {ac aA rg to tl cs ca cp ct so va aB la : Nat → Int32} {C : Int → zT} (h : zMa φ ac aA C N fr lg b1 b2 g rg to tl cs ca cp ct t m n s st Ψ 1) (hP : zPr so va ac aA aB la bs n9 φ N C) : (0 ≤ zg ac n ∧ zg ac n ≤ 21) ∧ (zg ac n ≤ 2 → 0 ≤ zg aA n ∧ zg aA n < n9) ∧ (zg ac n = 0 → zg so (bs + zg aA n) ≤ 2) ∧ (zg ac n = 6 ∨ zg ac n = 7 → 1 ≤ zg aA n ∧ zg aA n ≤ 9) ∧ (8 ≤ zg ac n → zg ac n ≠ 19 → zg ac n ≠ 21 → 0 ≤ zg aA n ∧ zg aA n < n9) ∧ (zg ac n ≠ 19 → n + 1 < N) ∧ (φ = 0 ∨ φ = 1) ∧ n9 ≤ 220 := by
  obtain ⟨S, hS, hC, hI⟩ := h
  have hI := hI (by decide)
  obtain ⟨⟨s0, s1, s2, s3, s4, s5, s6, s7, s8, s9, _⟩, nx, r, nl, hφ⟩ := zPr_at hP hI.1.1 hI.1.2
  exact ⟨⟨s0.1, s0.2.1⟩, s1, s2, s6, fun a b c => (s9 a b).2 c, nl, hφ, hP.1.2.2.1⟩
theorem zIl {φ N fr lg b1 b2 g t m n s st Ψ bs n9 : Int} {ac aA rg to tl cs ca cp ct so va aB la : Nat → Int32} {C : Int → zT} (h : zMa φ ac aA C N fr lg b1 b2 g rg to tl cs ca cp ct t m n s st Ψ 1) (hP : zPr so va ac aA aB la bs n9 φ N C) : (3 ≤ zg ac n → zg ac n ≤ 5 → (0 ≤ zg aA n ∧ zg aA n < 3000) ∧ 0 ≤ zg la (zg aA n) ∧ zg la (zg aA n) < N) ∧ (zg ac n = 9 ∨ zg ac n = 10 → (0 ≤ zg aB n ∧ zg aB n < 3000) ∧ 0 ≤ zg la (zg aB n) ∧ zg la (zg aB n) < N) ∧ (zg ac n = 13 ∨ zg ac n = 15 ∨ zg ac n = 17 → zg aB n = -1 ∨ ((0 ≤ zg aB n ∧ zg aB n < 3000) ∧ 0 ≤ zg la (zg aB n) ∧ zg la (zg aB n) < N)) := by
  obtain ⟨S, hS, hC, hI⟩ := h
  have hI := hI (by decide)
  exact zPr_la hP hI.1.1 hI.1.2
theorem zIb {φ N fr lg b1 b2 g t m n s st Ψ bs n9 : Int} {ac aA rg to tl cs ca cp ct so va aB la : Nat → Int32} {C : Int → zT} {x : Int} (h : zMa φ ac aA C N fr lg b1 b2 g rg to tl cs ca cp ct t m n s st Ψ 1) (hP : zPr so va ac aA aB la bs n9 φ N C) (ho : zg ac n = 2) (hx : x = bs + zg aA n) (hl : lg ≤ 100) : zBq rg va x lg := by
  obtain ⟨S, hS, hC, hI⟩ := h
  have hI := hI (by decide)
  obtain ⟨⟨s0, s1, s2, s3, _⟩, nx, r, nl, hφ⟩ := zPr_at hP hI.1.1 hI.1.2
  obtain ⟨_, v0, v1⟩ := s3 ho
  subst hx
  have c := hI.2.2.1 _ v0 v1
  rw [zG_at v0, zG_at (show 0 ≤ 10 + zg va (bs + zg aA n) by omega)] at c
  exact ⟨⟨v0, v1⟩, c⟩
theorem zIk {φ N fr lg b1 b2 g t m n s st Ψ bs n9 : Int} {ac aA rg to tl cs ca cp ct so va aB la : Nat → Int32} {C : Int → zT} (h : zMa φ ac aA C N fr lg b1 b2 g rg to tl cs ca cp ct t m n s st Ψ 1) (hP : zPr so va ac aA aB la bs n9 φ N C) (hf : 0 ≤ fr) (ho : zg ac n = 12) : 0 ≤ zg rg (470 + zg aA n) ∧ zg rg (470 + zg aA n) ≤ m := by
  obtain ⟨S, hS, hC, hI⟩ := h
  have hI := hI (by decide)
  obtain ⟨⟨s0, s1, s2, s3, s4, s5, s6, s7, s8, s9, s10, s11, s12, s13, _⟩, nx, r, nl, hφ⟩ := zPr_at hP hI.1.1 hI.1.2
  have a := (s9 (by omega) (by omega)).2 (by omega)
  obtain ⟨G, eG⟩ := s13 ho
  have w := hI.2.1
  rw [eG] at w
  have e4 : zg rg (470 + zg aA n) = zG rg (470 + zg aA n) := (zG_at (by omega)).symm
  rw [e4]
  rcases w with ⟨z, _⟩ | ⟨_, w⟩ | ⟨z, _⟩
  · exact absurd z (by decide)
  · exact ⟨w.1, w.2.1⟩
  · exact absurd z (by decide)
theorem zS_s0 {so va le mo ho pa en fp pb pe : Nat → Int32} {b q n c k : Int} (h : zSl so va le mo ho pa en fp pb pe b q n c) (k0 : 0 ≤ k) (k1 : k < n) : 0 ≤ zg so (b + k) := by
  obtain ⟨p, hp, ⟨d, _⟩, _⟩ := zS_nd h k0 k1
  exact d
theorem zIa {φ N fr lg b1 b2 g t m n s st Ψ bs n9 : Int} {ac aA rg to tl cs ca cp ct so va aB la : Nat → Int32} {C : Int → zT} (h : zMa φ ac aA C N fr lg b1 b2 g rg to tl cs ca cp ct t m n s st Ψ 1) (hP : zPr so va ac aA aB la bs n9 φ N C) : 0 ≤ zg aA n ∧ zg aA n < 3000 := by
  obtain ⟨S, hS, hC, hI⟩ := h
  have hI := hI (by decide)
  exact (zPr_at hP hI.1.1 hI.1.2).1.1.2.2
def zu1 (ac se : Nat → Int32) (sp : Int) (k : Int) : Int := if zg se k = sp then 0 else zh 1 (zg ac (k / 101))
def zus (ac se : Nat → Int32) (sp N : Int) : Int := zsm (zu1 ac se sp) (101 * N).toNat
theorem zu1_b {ac se : Nat → Int32} {sp k : Int} : 0 ≤ zu1 ac se sp k ∧ zu1 ac se sp k ≤ 2 := by
  unfold zu1; split
  · omega
  · have := @zh_b 1 (zg ac (k / 101)); omega
theorem zus_0 {ac se : Nat → Int32} {sp N : Int} : 0 ≤ zus ac se sp N := zsm_nn (fun k => zu1_b.1)
theorem zus_m {ac se seω : Nat → Int32} {N n s : Int} {i v x sp : Int32} (e : seω = upd se i.toNatClampNeg v) (ex : x = se i.toNatClampNeg) (hi : i.toInt = 101 * n + s) (hv : v.toInt = sp.toInt) (n0 : 0 ≤ n) (n1 : n < N) (s0 : 0 ≤ s) (s1 : s ≤ 100) : zus ac seω sp.toInt N ≤ zus ac se sp.toInt N ∧ (x.toInt ≠ sp.toInt → zus ac seω sp.toInt N + zh 1 (zg ac n) ≤ zus ac se sp.toInt N) := by
  have q := zsm_upd (f := zu1 ac seω sp.toInt) (g := zu1 ac se sp.toInt) (j := i.toInt) (n := (101 * N).toNat) (by omega) (by omega) (fun k k0 k1 k2 => by
    unfold zu1; rw [e, zg_ne (by omega) k0 k2])
  have a : zu1 ac seω sp.toInt i.toInt = 0 := by
    unfold zu1; rw [if_pos]; rw [e, zg_eq]; exact hv
  have b := @zu1_b ac se sp.toInt i.toInt
  refine ⟨by unfold zus; omega, fun h => ?_⟩
  have c : zu1 ac se sp.toInt i.toInt = zh 1 (zg ac n) := by
    unfold zu1; rw [if_neg (by rw [← zg_at ex]; exact h), show i.toInt / 101 = n by omega]
  unfold zus; omega
def zPq (φ : Int) (ac : Nat → Int32) (C : Int → zT) (N : Int) : Prop := ((C 0).1 = [] ∧ (φ = 0 → (C 0).2.1 ≤ 60 ∧ (C 0).2.2.1 ≤ 60)) ∧ ∀ p : Int, 0 ≤ p → p < N → zg ac p = 19 → (C p).1 = []
def zBu (φ b1 b2 st K u : Int) : Prop := (φ = 0 → b1 ≤ 100 ∧ b2 ≤ 300) ∧ (φ = 1 → b1 + u ≤ K ∧ b2 + u ≤ K + 220 ∧ st + 2 * u ≤ 2 * K)
def zTi (φ : Int) (ac aA : Nat → Int32) (C : Int → zT) (N fr lg g K : Int) (rg to tl cs ca cp ct : Nat → Int32) (t m n s st lim u gm r : Int) : Prop := ∃ Ψ b1 b2 : Int, zMa φ ac aA C N fr lg b1 b2 g rg to tl cs ca cp ct t m n s st Ψ r ∧ zBu φ b1 b2 st K u ∧ Ψ + g * zk φ lim + 2 * u ≤ gm
theorem zTi_b {φ N fr lg g K t m n s st lim u gm bs n9 : Int} {ac aA rg to tl cs ca cp ct so va aB la : Nat → Int32} {C : Int → zT} (h : zTi φ ac aA C N fr lg g K rg to tl cs ca cp ct t m n s st lim u gm 1) (hP : zPr so va ac aA aB la bs n9 φ N C) (hf : 0 ≤ fr) (hg : 0 ≤ g) (h0 : 0 ≤ st) (h1 : st ≤ lim) (hl : φ = 0 → lim ≤ 3000) (hK : φ = 1 → K ≤ 90000) (hu : 0 ≤ u) : (0 ≤ n ∧ n < N ∧ N ≤ 2999) ∧ (0 ≤ s ∧ s ≤ lg) ∧ (0 ≤ m ∧ m ≤ 199900) ∧ t ≤ 119900 ∧ st ≤ 200000 ∧ 1 ≤ gm := by
  obtain ⟨Ψ, b1, b2, hM, ⟨q1, q2⟩, q3⟩ := h
  obtain ⟨a1, a2, a3, a4, a5, a6⟩ := zMa_b hM hP hf
  have k := zk_le (φ := φ) h1 h0
  have k2 : g * zk φ st ≤ g * zk φ lim := Int.mul_le_mul_of_nonneg_left k.1 hg
  rcases hP.1.2.2.2 with e | e
  · have := q1 e; have := hl e
    have e2 : zk φ st = st := by rw [e]; exact zk_0
    omega
  · have := q2 e; have := hK e
    have e2 : zk φ st = 0 := by rw [e]; exact zk_1
    omega
theorem zTi_0 {φ N fr lg g K st lim u gm bs n9 m0 t0 n0 s0 : Int} {ac aA rg to tl cs ca cp ct so va aB la : Nat → Int32} {C : Int → zT} (hP : zPr so va ac aA aB la bs n9 φ N C) (hq : zPq φ ac C N) (hr : ∀ j : Int, 0 ≤ j → j < 20 → zg rg j = -1) (hf : fr ≤ lg) (hm : m0 = 0) (ht : t0 = 0) (hn : n0 = 0) (hs : s0 = fr) (hu : φ = 1 → u ≤ K) (hst : φ = 1 → st + 2 * u ≤ 2 * K) (h0 : 0 ≤ st) (hgm : gm = zw φ (C 0) - g * zk φ st + g * zk φ lim + 2 * u) : zTi φ ac aA C N fr lg g K rg to tl cs ca cp ct t0 m0 n0 s0 st lim u gm 1 := by
  subst hm; subst ht; subst hn; subst hs
  have n1 := hP.1.1
  have hφ := hP.1.2.2.2
  have nz := @zNz_b (zG rg)
  have hc : zCap (zG rg) lg := by
    intro a a0 a1
    rw [zG_at a0, zG_at (show 0 ≤ 10 + a by omega), hr a a0 (by omega), hr (10 + a) (by omega) (by omega)]
    omega
  obtain ⟨⟨c1, c2⟩, _⟩ := hq
  have k := zk_le (φ := φ) (Int.le_refl st) h0
  refine ⟨zw φ (C 0) - g * zk φ st, if φ = 0 then 60 else K - u, if φ = 0 then 280 else K - u + 220, ⟨0, ?_, zCs_0 (Int.le_refl _), fun _ => ⟨⟨Int.le_refl _, by omega⟩, by rw [c1]; exact ⟨Int.le_refl _, hf, Int.le_refl _⟩, hc, ?_, ?_⟩⟩, ⟨fun e => ?_, fun e => ?_⟩, by omega⟩
  · rw [if_neg (by decide)]; omega
  · rcases hφ with e | e
    · have := c2 e; subst e; rw [zU_0, if_pos rfl]; omega
    · have := hu e; subst e; rw [zU_1, if_neg (by decide)]; omega
  · rcases hφ with e | e
    · have := c2 e; subst e; rw [zR_0, if_pos rfl]; omega
    · have := hu e; subst e; rw [zR_1, if_neg (by decide)]; omega
  · rw [if_pos e, if_pos e]; omega
  · have := hst e
    rw [if_neg (by omega), if_neg (by omega)]; omega
theorem zTi_n {φ N fr lg g K t m n s st lim u u' gm gmω n' s' : Int} {ac aA rg to tl cs ca cp ct : Nat → Int32} {C : Int → zT} (h : zTi φ ac aA C N fr lg g K rg to tl cs ca cp ct t m n s st lim u gm 1) (hu : u' ≤ u) (hg : 0 ≤ g) (h0 : 0 ≤ st) (hgm : gmω = gm - 1) : zTi φ ac aA C N fr lg g K rg to tl cs ca cp ct t m n' s' st lim u' gmω 0 := by
  obtain ⟨Ψ, b1, b2, hM, ⟨q1, q2⟩, q3⟩ := h
  exact ⟨Ψ - 1, b1, b2, zMa_no hM (Int.le_refl _) (Int.le_refl _) h0 hg (Int.le_refl _) (Int.le_refl _) (Int.le_refl _), ⟨q1, fun e => by have := q2 e; omega⟩, by omega⟩
theorem zTi_d {φ N fr lg g K t' m' n n' s' st stω lim u u' gm gmω r Ψ b1 b2 : Int} {ac aA rgω toω tlω cs' ca' cp' ct' : Nat → Int32} {C : Int → zT} (hM : zMa φ ac aA C N fr lg (b1 + zh φ (zg ac n)) (b2 + zh φ (zg ac n)) g rgω toω tlω cs' ca' cp' ct' t' m' n' s' stω (Ψ - 1 + 2 * φ) r) (hB : zBu φ b1 b2 st K u) (hgm : Ψ + g * zk φ lim + 2 * u ≤ gm) (hφ : φ = 0 ∨ φ = 1) (hu : u' + zh φ (zg ac n) ≤ u) (hst : stω ≤ st + 2) (hgm' : gmω = gm - 1) : zTi φ ac aA C N fr lg g K rgω toω tlω cs' ca' cp' ct' t' m' n' s' stω lim u' gmω r := by
  obtain ⟨q1, q2⟩ := hB
  have z := @zh_b φ (zg ac n)
  refine ⟨_, _, _, hM, ⟨fun e => ?_, fun e => ?_⟩, ?_⟩
  · have := q1 e; have : zh φ (zg ac n) = 0 := by rw [e]; exact zh_0
    omega
  · have := q2 e; have := z.2.2 e; omega
  · rcases hφ with e | e
    · omega
    · have := z.2.2 e; omega
theorem zus_n {ac se : Nat → Int32} {φ sp N n : Int} (e : φ = 0) : zus ac se sp N + zh φ (zg ac n) ≤ zus ac se sp N := by rw [e, zh_0]; omega
theorem zh_le {φ o : Int} (h : φ = 0 ∨ φ = 1) : zh φ o ≤ zh 1 o := by
  rcases h with e | e
  · rw [e, zh_0]; exact zh_b.1
  · rw [e]; exact Int.le_refl _
theorem zTi_g {φ N fr lg g K t' m' n' s' st stω lim u gm Ψ b1 b2 : Int} {ac aA rgω toω tlω cs' ca' cp' ct' : Nat → Int32} {C : Int → zT} (hM : zMa φ ac aA C N fr lg b1 b2 g rgω toω tlω cs' ca' cp' ct' t' m' n' s' stω Ψ 1) (hB : zBu φ b1 b2 st K u) (hgm : Ψ + g * zk φ lim + 2 * u ≤ gm) (hst : φ = 1 → stω = st) : zTi φ ac aA C N fr lg g K rgω toω tlω cs' ca' cp' ct' t' m' n' s' stω lim u gm 1 :=
  ⟨_, _, _, hM, ⟨hB.1, fun e => by have := hB.2 e; have := hst e; omega⟩, hgm⟩
theorem zTi_e {φ N fr lg g K t m n s st lim u gm : Int} {ac aA rg to tl cs ca cp ct : Nat → Int32} {C : Int → zT} (h : zTi φ ac aA C N fr lg g K rg to tl cs ca cp ct t m n s st lim u gm 1) (hq : zPq φ ac C N) (ho : zg ac n = 19) : zCap (zG rg) lg ∧ fr ≤ s ∧ s ≤ lg := by
  obtain ⟨Ψ, b1, b2, ⟨S, _, _, hI⟩, _⟩ := h
  obtain ⟨hn, hw, hc, _⟩ := hI (by decide)
  rw [hq.2 n hn.1 hn.2 ho] at hw
  exact ⟨hc, hw.1, hw.2.1⟩
theorem zP_f {so va ac aA aB la : Nat → Int32} {bs n9 φ N fr lg B1 B2 s a p i t : Int} {f : Int → Int} {C : Int → zT} (h : zP φ ac aA C N fr lg B1 B2 s a p f i t) (hP : zPr so va ac aA aB la bs n9 φ N C) (hs : s = 1 ∨ s = 2) : φ = 0 := by
  rcases h with ⟨e, h⟩ | ⟨e, o, h⟩ | ⟨e, o, a0, h, h1, h2⟩
  · omega
  · exact (zSd_a (zPr_at hP h.1.1 h.1.2).1 (by omega) (by omega)).1
  · have h9 := h.1
    exact (zSd_a (zPr_at hP a0 (show a < N by omega)).1 (by omega) (by omega)).1
def zRs (rg : Nat → Int32) (k : Int) : Prop := ∀ j : Int, 0 ≤ j → j < k → zg rg j = -1
theorem zRs_0 {rg : Nat → Int32} : zRs rg 0 := fun j j0 j1 => by omega
theorem zRs_s {rg rgω : Nat → Int32} {kω : Int} {i v : Int32} (h : zRs rg i.toInt) (e : rgω = upd rg i.toNatClampNeg v) (hv : v.toInt = -1) (hi : 0 ≤ i.toInt) (hk : kω = i.toInt + 1) : zRs rgω kω := by
  intro j j0 j1
  by_cases q : j = i.toInt
  · rw [e, q, zg_eq]; exact hv
  · rw [e, zg_ne hi j0 q]; exact h j j0 (by omega)
theorem zor {o : Bool} {p : Prop} (h : o = true ∨ p) (h0 : (bz o).toInt = 0) : p := by
  rcases h with h | h
  · rw [h] at h0; exact absurd h0 (by decide)
  · exact h
theorem zTi_1 {φ N fr lg g K t m n s st lim u gm r : Int} {ac aA rg to tl cs ca cp ct : Nat → Int32} {C : Int → zT} (h : zTi φ ac aA C N fr lg g K rg to tl cs ca cp ct t m n s st lim u gm r) (hr : r ≠ 0) : zTi φ ac aA C N fr lg g K rg to tl cs ca cp ct t m n s st lim u gm 1 := by
  obtain ⟨Ψ, b1, b2, ⟨S, a, b, c⟩, q⟩ := h
  exact ⟨Ψ, b1, b2, ⟨S, by rw [if_neg (by decide)]; rw [if_neg hr] at a; exact a, b, fun _ => c hr⟩, q⟩
