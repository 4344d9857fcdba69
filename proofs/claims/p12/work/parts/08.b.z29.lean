def zPg (ac aA la : Nat → Int32) (n : Int) : Prop := ∀ a : Int, 0 ≤ a → a < n → (zg ac a ≠ 0 → zg ac a ≠ 19 → zg ac a ≠ 5 → a + 1 < n) ∧ ((3 ≤ zg ac a ∧ zg ac a ≤ 5) → (0 ≤ zg aA a ∧ zg aA a < 3000) ∧ (0 ≤ zg la (zg aA a) ∧ zg la (zg aA a) < n))
def zWk (w : Nat → Int32) (m n : Int) : Prop := ∀ i : Int, 0 ≤ i → i < m → 0 ≤ zg w i ∧ zg w i < n
def zRe (f : Nat → Bool) (w : Nat → Int32) (n top gm : Int) : Prop := zWk w top n ∧ 0 ≤ top ∧ top ≤ 1 + zcB f n.toNat ∧ 2 * (n - zcB f n.toNat) + top ≤ gm
theorem zWk_w {w w' : Nat → Int32} {m m' n : Int} {i x : Int32} (h : zWk w m n) (e : w' = upd w i.toNatClampNeg x) (hi : i.toInt = m) (h0 : 0 ≤ m) (hx : 0 ≤ x.toInt ∧ x.toInt < n) (hm : m' = m + 1) : zWk w' m' n := by
  subst e; subst hm; subst hi
  intro j j0 j1
  by_cases q : j = i.toInt
  · subst q; rw [zg_eq]; exact hx
  · rw [zg_ne h0 j0 q]; exact h j j0 (by omega)
theorem zWk_m {w : Nat → Int32} {m m' n : Int} (h : zWk w m n) (hm : m' ≤ m) : zWk w m' n := fun j j0 j1 => h j j0 (by omega)
theorem zcB_ub {f : Nat → Bool} {n : Int} (h : 0 ≤ n) : 0 ≤ zcB f n.toNat ∧ zcB f n.toNat ≤ n := by
  have a : 0 ≤ zcB f n.toNat := zsm_nn (fun k => (zb1_nn f k).1)
  have b : zcB f n.toNat ≤ n.toNat := zsm_ub (fun k => (zb1_nn f k).2)
  omega
theorem zRe_0 {f : Nat → Bool} {w w' : Nat → Int32} {n gm : Int} {x : Int32} (e : w' = upd w (0 : Int32).toNatClampNeg x) (hx : 0 ≤ x.toInt ∧ x.toInt < n) (hf : zOff f n) (hg : 2 * n + 1 ≤ gm) : zRe f w' n (1 : Int32).toInt gm := by
  have c : zcB f n.toNat = 0 := zNp_c (fun j j0 j1 => hf j j0 (by omega))
  have e1 : (1 : Int32).toInt = 1 := rfl
  rw [e1]
  refine ⟨?_, by omega, by omega, by omega⟩
  subst e
  intro j j0 j1
  have : j = (0 : Int32).toInt := by have : (0 : Int32).toInt = 0 := rfl
                                     omega
  rw [this, zg_eq]; exact hx
theorem zRe_gone {f : Nat → Bool} {w : Nat → Int32} {n top top' gm gm' : Int} (h : zRe f w n top gm) (ht : 1 ≤ top) (e : top' = top - 1) (hg : gm' = gm - 1) : zRe f w n top' gm' := by
  obtain ⟨a, b, c, d⟩ := h
  subst e; subst hg
  exact ⟨zWk_m a (by omega), by omega, by omega, by omega⟩
theorem zRe_new {f f' : Nat → Bool} {w w' : Nat → Int32} {n top top' gm gm' : Int} {x a : Int32} {b : Bool} (h : zRe f w n top gm) (ex : x = bz (f a.toNatClampNeg)) (hx : x.toInt = 0) (e : f' = updB f a.toNatClampNeg b) (hb : b = true) (h0 : 0 ≤ a.toInt) (h1 : a.toInt < n) (hw : zWk w' top' n) (ht : 0 ≤ top') (ht2 : top' ≤ top + 1) (hg : gm' = gm - 1) : zRe f' w' n top' gm' := by
  obtain ⟨p, q, c, d⟩ := h
  subst hg
  have z := zcB_inc (n := n.toNat) e hb h0 (by omega) (zbz_f ex hx)
  exact ⟨hw, ht, by omega, by omega⟩
theorem zPg_n {ac aA la : Nat → Int32} {n : Int} {a x : Int32} (h : zPg ac aA la n) (ex : x = ac a.toNatClampNeg) (h0 : 0 ≤ a.toInt) (h1 : a.toInt < n) (hx : x.toInt ≠ 0 ∧ x.toInt ≠ 19 ∧ x.toInt ≠ 5) : a.toInt + 1 < n := by
  have e := zg_at ex
  exact (h a.toInt h0 h1).1 (by omega) (by omega) (by omega)
theorem zPg_l {ac aA la : Nat → Int32} {n : Int} {a x y : Int32} (h : zPg ac aA la n) (ex : x = ac a.toNatClampNeg) (ey : y = aA a.toNatClampNeg) (h0 : 0 ≤ a.toInt) (h1 : a.toInt < n) (hx : 3 ≤ x.toInt ∧ x.toInt ≤ 5) : (0 ≤ y.toInt ∧ y.toInt < 3000) ∧ (0 ≤ zg la y.toInt ∧ zg la y.toInt < n) := by
  have e := zg_at ex
  have e2 := zg_at ey
  have := (h a.toInt h0 h1).2 (by omega)
  rw [← e2] at this; exact this
