def zTb (st cl ld co : Nat → Int32) (t bm : Int) : Prop := (1 ≤ zg st t ∧ zg st t ≤ 60) ∧ (1 ≤ zg cl t ∧ zg cl t ≤ 260) ∧ (∀ q c : Int, 0 ≤ q → q < zg st t → 0 ≤ c → c < zg cl t → 0 ≤ zg ld (30500 * t + 500 * q + c) ∧ zg ld (30500 * t + 500 * q + c) < zg st t) ∧ (∀ b : Int, 0 ≤ b → b < bm → 0 ≤ zg co (3000 * t + b) ∧ zg co (3000 * t + b) < zg cl t)
theorem zTb_s {st cl ld co : Nat → Int32} {t bm : Int} {x i : Int32} (h : zTb st cl ld co t bm) (ex : x = st i.toNatClampNeg) (hi : i.toInt = t) : 1 ≤ x.toInt ∧ x.toInt ≤ 60 := by
  have := zg_at2 ex hi; have := h.1; omega
theorem zTb_c {st cl ld co : Nat → Int32} {t bm : Int} {x i : Int32} (h : zTb st cl ld co t bm) (ex : x = cl i.toNatClampNeg) (hi : i.toInt = t) : 1 ≤ x.toInt ∧ x.toInt ≤ 260 := by
  have := zg_at2 ex hi; have := h.2.1; omega
theorem zTb_l {st cl ld co : Nat → Int32} {t bm q c : Int} {x i : Int32} (h : zTb st cl ld co t bm) (ex : x = ld i.toNatClampNeg) (hi : i.toInt = 30500 * t + 500 * q + c) (q0 : 0 ≤ q) (q1 : q < zg st t) (c0 : 0 ≤ c) (c1 : c < zg cl t) : 0 ≤ x.toInt ∧ x.toInt < zg st t := by
  have := zg_at2 ex hi; have := h.2.2.1 q c q0 q1 c0 c1; omega
theorem zTb_o {st cl ld co : Nat → Int32} {t bm b : Int} {x i : Int32} (h : zTb st cl ld co t bm) (ex : x = co i.toNatClampNeg) (hi : i.toInt = 3000 * t + b) (b0 : 0 ≤ b) (b1 : b < bm) : 0 ≤ x.toInt ∧ x.toInt < zg cl t := by
  have := zg_at2 ex hi; have := h.2.2.2 b b0 b1; omega
theorem zTb_c0 {st cl ld co : Nat → Int32} {bm : Int} {x : Int32} (h : zTb st cl ld co 0 bm) (ex : x = cl (0 : Int32).toNatClampNeg) : x.toInt = zg cl 0 ∧ 1 ≤ x.toInt ∧ x.toInt ≤ 260 := by
  have e : x.toInt = zg cl 0 := by subst ex; rfl
  have := h.2.1; omega
theorem zTb_s0 {st cl ld co : Nat → Int32} {bm : Int} {x : Int32} (h : zTb st cl ld co 0 bm) (ex : x = st (0 : Int32).toNatClampNeg) : x.toInt = zg st 0 ∧ 1 ≤ x.toInt ∧ x.toInt ≤ 60 := by
  have e : x.toInt = zg st 0 := by subst ex; rfl
  have := h.1; omega
theorem zcB_up {f f' : Nat → Bool} {i : Int32} {b : Bool} {n : Nat} (e : f' = updB f i.toNatClampNeg b) (h0 : 0 ≤ i.toInt) (h1 : i.toInt < n) : zcB f' n = zcB f n + zb1 f' i.toInt - zb1 f i.toInt := by
  unfold zcB
  exact zsm_upd h0 h1 (fun k k0 k1 k2 => by unfold zb1; rw [zupdB_ne e h0 k0 k2])
def zLv (f0 f : Nat → Bool) (m : Int) : Prop := zcB f0 60 ≤ zcB f 60 ∧ (m ≠ 0 → zcB f0 60 + 1 ≤ zcB f 60)
theorem zLv_0 {f : Nat → Bool} : zLv f f (0 : Int32).toInt := ⟨Int.le_refl _, fun h => absurd rfl h⟩
theorem zcB_60 (f : Nat → Bool) : 0 ≤ zcB f 60 ∧ zcB f 60 ≤ 60 := ⟨zsm_nn (fun k => (zb1_nn f k).1), by have := zsm_ub (f := zb1 f) (fun k => (zb1_nn f k).2) (n := 60); unfold zcB; omega⟩
theorem zLv_s {f0 f f' : Nat → Bool} {i x : Int32} {b : Bool} {m m' : Int} (h : zLv f0 f m) (ex : x = bz (f i.toNatClampNeg)) (hx : x.toInt = 0) (e : f' = updB f i.toNatClampNeg b) (h0 : 0 ≤ i.toInt) (h1 : i.toInt < 60) (hm : m' ≠ 0 → m ≠ 0 ∨ f' i.toNatClampNeg = true) : zLv f0 f' m' := by
  obtain ⟨a, c⟩ := h
  have q := zcB_up (n := 60) e h0 (by omega)
  have q1 : zb1 f i.toInt = 0 := by unfold zb1; rw [if_neg]; rw [show f i.toInt.toNat = false from zbz_f ex hx]; decide
  have q2 := zb1_nn f' i.toInt
  refine ⟨by omega, fun z => ?_⟩
  rcases hm z with w | w
  · have := c w; omega
  · have q3 : zb1 f' i.toInt = 1 := by unfold zb1; rw [if_pos]; exact w
    omega
