theorem i_rng (x : Int32) : -2147483648 ≤ x.toInt ∧ x.toInt ≤ 2147483647 := ⟨by have := x.le_toInt; omega, by have := x.toInt_lt; omega⟩
theorem i_bm {n : Int} (h1 : -2147483648 ≤ n) (h2 : n ≤ 2147483647) : n.bmod (2 ^ 32) = n := Int.bmod_eq_of_le (by omega) (by omega)
theorem i_add {r x y : Int32} {a b : Int} (h : r = x + y) (hx : x.toInt = a) (hy : y.toInt = b) (h1 : -2147483648 ≤ a + b) (h2 : a + b ≤ 2147483647) : r.toInt = a + b := by
  subst h; subst hx; subst hy
  rw [Int32.toInt_add]; exact i_bm h1 h2
theorem i_sub {r x y : Int32} {a b : Int} (h : r = x - y) (hx : x.toInt = a) (hy : y.toInt = b) (h1 : -2147483648 ≤ a - b) (h2 : a - b ≤ 2147483647) : r.toInt = a - b := by
  subst h; subst hx; subst hy
  rw [Int32.toInt_sub]; exact i_bm h1 h2
theorem i_mul {r x y : Int32} {a b : Int} (h : r = x * y) (hx : x.toInt = a) (hy : y.toInt = b) (h1 : -2147483648 ≤ a * b) (h2 : a * b ≤ 2147483647) : r.toInt = a * b := by
  subst h; subst hx; subst hy
  rw [Int32.toInt_mul]; exact i_bm h1 h2
theorem i_neg {r x : Int32} (h : r = - x) (h1 : - x.toInt ≤ 2147483647) : r.toInt = - x.toInt := by
  subst h
  rw [Int32.toInt_neg]; exact i_bm (by have := i_rng x; omega) h1
theorem i_lt {x y : Int32} {a b : Int} (hx : x.toInt = a) (hy : y.toInt = b) (h : x < y) : a < b := by
  subst hx; subst hy; exact Int32.lt_iff_toInt_lt.mp h
theorem i_nlt {x y : Int32} {a b : Int} (hx : x.toInt = a) (hy : y.toInt = b) (h : ¬ x < y) : b ≤ a := by
  subst hx; subst hy; exact Int.not_lt.mp (fun q => h (Int32.lt_iff_toInt_lt.mpr q))
theorem i_le {x y : Int32} {a b : Int} (hx : x.toInt = a) (hy : y.toInt = b) (h : x ≤ y) : a ≤ b := by
  subst hx; subst hy; exact Int32.le_iff_toInt_le.mp h
theorem i_nle {x y : Int32} {a b : Int} (hx : x.toInt = a) (hy : y.toInt = b) (h : ¬ x ≤ y) : b < a := by
  subst hx; subst hy; exact Int.not_le.mp (fun q => h (Int32.le_iff_toInt_le.mpr q))
theorem i_eq {x y : Int32} {a b : Int} (hx : x.toInt = a) (hy : y.toInt = b) (h : x = y) : a = b := by
  subst hx; subst hy; rw [h]
theorem i_ne {x y : Int32} {a b : Int} (hx : x.toInt = a) (hy : y.toInt = b) (h : ¬ x = y) : a ≠ b := by
  subst hx; subst hy; exact fun q => h (Int32.toInt_inj.mp q)
theorem i_in {x : Int32} {n : Nat} (h1 : 0 ≤ x.toInt) (h2 : x.toInt < n) : vp_in x n := vp_in_iff.mpr ⟨h1, h2⟩
theorem i_inl {x : Int32} {n : Nat} {a : Int} (hx : x.toInt = a) (h1 : 0 ≤ a) (h2 : a < n) : vp_in x n := vp_in_iff.mpr ⟨by omega, by omega⟩
theorem i_cl {x : Int32} (h1 : 0 ≤ x.toInt) : (x.toNatClampNeg : Int) = x.toInt := Int.toNat_of_nonneg h1
theorem i_ne0 {x : Int32} (h : x.toInt ≠ 0) : ¬ x = 0 := fun q => h (by rw [q]; rfl)
theorem i_01 {x : Int32} (h1 : 0 ≤ x.toInt) (h2 : x.toInt ≤ 1) : x = 0 ∨ x = 1 := by
  rcases (by omega : x.toInt = 0 ∨ x.toInt = 1) with h | h
  · left; exact Int32.toInt_inj.mp h
  · right; exact Int32.toInt_inj.mp h
theorem i_bzr (b : Bool) : 0 ≤ (bz b).toInt ∧ (bz b).toInt ≤ 1 := by cases b <;> decide
theorem i_bz {x : Int32} {b : Bool} (h : x = bz b) : 0 ≤ x.toInt ∧ x.toInt ≤ 1 := by subst h; exact i_bzr b
theorem i_len {x : Int32} {n : Nat} (h : x = Int32.ofNat n) (hn : (n : Int) ≤ 2147483647) : x.toInt = n := by
  subst h; exact nI_toInt (by omega)
theorem i_max {r x y : Int32} {a b : Int} (h : r = if x < y then y else x) (hx : x.toInt = a) (hy : y.toInt = b) : (r.toInt = a ∧ b ≤ a) ∨ (r.toInt = b ∧ a ≤ b) := by
  subst h; subst hx; subst hy
  by_cases q : x < y
  · rw [if_pos q]; right; exact ⟨rfl, Int.le_of_lt (Int32.lt_iff_toInt_lt.mp q)⟩
  · rw [if_neg q]; left; exact ⟨rfl, Int.not_lt.mp (fun z => q (Int32.lt_iff_toInt_lt.mpr z))⟩
theorem i_min {r x y : Int32} {a b : Int} (h : r = if x < y then x else y) (hx : x.toInt = a) (hy : y.toInt = b) : (r.toInt = a ∧ a ≤ b) ∨ (r.toInt = b ∧ b ≤ a) := by
  subst h; subst hx; subst hy
  by_cases q : x < y
  · rw [if_pos q]; left; exact ⟨rfl, Int.le_of_lt (Int32.lt_iff_toInt_lt.mp q)⟩
  · rw [if_neg q]; right; exact ⟨rfl, Int.not_lt.mp (fun z => q (Int32.lt_iff_toInt_lt.mpr z))⟩
theorem i_nn {x : Int32} {a : Int} (hx : x.toInt = a) (h : 0 ≤ a) : ¬ x < 0 := fun q => by
  have := Int32.lt_iff_toInt_lt.mp q
  have e : (0 : Int32).toInt = 0 := rfl
  omega
theorem i_cp {x y : Int32} {a b : Int} {n : Nat} (hx : x.toInt = a) (hy : y.toInt = b) (h1 : 0 ≤ a) (h2 : 0 ≤ b) (h3 : a + b ≤ n) : x.toNatClampNeg + y.toNatClampNeg ≤ n := by
  have e1 := i_cl (x := x) (by omega)
  have e2 := i_cl (x := y) (by omega)
  omega
theorem i_cmp {r : Int32} {x y : Int64} (h : r = lg_cmp x y) : -1 ≤ r.toInt ∧ r.toInt ≤ 1 := by
  subst h; unfold lg_cmp; split
  · decide
  · split <;> decide
theorem i_andn {x c : Int32} (hc : 0 ≤ c.toInt) : 0 ≤ (x &&& c).toInt ∧ (x &&& c).toInt ≤ c.toInt := by
  have hm : c.toBitVec.msb = false := by
    rw [BitVec.msb_eq_false_iff_two_mul_lt]
    have h := BitVec.toInt_eq_toNat_cond c.toBitVec
    have hcω : 0 ≤ c.toBitVec.toInt := hc
    have hl := c.toBitVec.isLt
    by_cases q : 2 * c.toBitVec.toNat < 2 ^ 32
    · exact q
    · rw [h, if_neg q] at hcω; omega
  have e1 : c.toInt = c.toBitVec.toNat := BitVec.toInt_eq_toNat_of_msb hm
  have hm2 : (x.toBitVec &&& c.toBitVec).msb = false := by rw [BitVec.msb_and, hm, Bool.and_false]
  have e2 : (x &&& c).toInt = (x.toBitVec &&& c.toBitVec).toNat := BitVec.toInt_eq_toNat_of_msb hm2
  rw [e1, e2, BitVec.toNat_and]
  exact ⟨Int.natCast_nonneg _, Int.ofNat_le.mpr Nat.and_le_right⟩
theorem i_andr {r x c : Int32} {k : Int} (h : r = x &&& c) (hc : 0 ≤ c.toInt) (hk : c.toInt = k := by rfl) : 0 ≤ r.toInt ∧ r.toInt ≤ k := by
  subst h; subst hk; exact i_andn hc
theorem i_divt {x y : Int32} (hx : 0 ≤ x.toInt) (hy : 0 < y.toInt) : (x / y).toInt = x.toInt / y.toInt := by
  have h := Int32.toInt_div x y
  rw [h, Int.tdiv_eq_ediv_of_nonneg hx]
  have h1 := i_rng x
  have h2 : x.toInt / y.toInt ≤ x.toInt := Int.ediv_le_self _ hx
  have h3 : 0 ≤ x.toInt / y.toInt := Int.ediv_nonneg hx (by omega)
  exact i_bm (by omega) (by omega)
theorem i_div {r x y : Int32} {b : Int} (h : r = x / y) (hb : y.toInt = b) (h0 : 0 < b) (hx : 0 ≤ x.toInt) : 0 ≤ r.toInt ∧ b * r.toInt ≤ x.toInt ∧ x.toInt + 1 ≤ b * r.toInt + b := by
  subst h; subst hb
  rw [i_divt hx h0]
  have h3 : 0 ≤ x.toInt / y.toInt := Int.ediv_nonneg hx (by omega)
  have e := Int.mul_ediv_add_emod x.toInt y.toInt
  have e1 := Int.emod_nonneg x.toInt (b := y.toInt) (by omega)
  have e2 := Int.emod_lt_of_pos x.toInt h0
  exact ⟨h3, by omega, by omega⟩
theorem i_rem {r x y : Int32} {b : Int} (h : r = x - x / y * y) (hb : y.toInt = b) (h0 : 0 < b) (hx : 0 ≤ x.toInt) : 0 ≤ r.toInt ∧ r.toInt ≤ b - 1 ∧ r.toInt ≤ x.toInt := by
  subst hb
  have hr := i_rng x
  obtain ⟨q0, q1, q2⟩ := i_div (r := x / y) rfl rfl h0 hx
  have hp : 0 ≤ y.toInt * (x / y).toInt := Int.mul_nonneg (by omega) q0
  have hc : (x / y).toInt * y.toInt = y.toInt * (x / y).toInt := Int.mul_comm _ _
  have e1 : (x / y * y).toInt = (x / y).toInt * y.toInt := i_mul rfl rfl rfl (by omega) (by omega)
  have e2 : r.toInt = x.toInt - (x / y).toInt * y.toInt := i_sub h rfl e1 (by omega) (by omega)
  omega
theorem i_chr {r : Int32} {x : UInt32} (h : r = (x % 65536).toInt32) : 0 ≤ r.toInt ∧ r.toInt ≤ 65535 := by
  subst h
  have hn : (x % 65536).toNat = x.toNat % 65536 := UInt32.toNat_mod _ _
  have hlt : x.toNat % 65536 < 65536 := Nat.mod_lt _ (by decide)
  have hm : (x % 65536).toBitVec.msb = false := by
    rw [BitVec.msb_eq_false_iff_two_mul_lt]
    show 2 * (x % 65536).toNat < _
    rw [hn]; omega
  have e : ((x % 65536).toInt32).toInt = (x % 65536).toNat := BitVec.toInt_eq_toNat_of_msb hm
  rw [e, hn]
  omega
def rp (P : Int → Int → Prop) (g : Nat → Int32) (lo hi : Int) : Prop := ∀ k : Nat, lo ≤ (k : Int) → (k : Int) < hi → P (k : Int) (g k).toInt
theorem rp_get {P : Int → Int → Prop} {g : Nat → Int32} {lo hi a : Int} {i x : Int32} (h : rp P g lo hi) (e : x = g i.toNatClampNeg) (hiω : i.toInt = a) (h0 : 0 ≤ a) (h1 : lo ≤ a) (h2 : a < hi) : P a x.toInt := by
  subst hiω; subst e
  have c := i_cl (x := i) h0
  have q := h i.toNatClampNeg (by omega) (by omega)
  rw [c] at q; exact q
theorem rp_upd {P : Int → Int → Prop} {g g' : Nat → Int32} {lo hi a b : Int} {i v : Int32} (h : rp P g lo hi) (e : g' = upd g i.toNatClampNeg v) (hiω : i.toInt = a) (hv : v.toInt = b) (h0 : 0 ≤ a) (hp : P a b) : rp P g' lo hi := by
  subst hiω; subst e; subst hv
  intro k h1 h2
  have c := i_cl (x := i) h0
  unfold upd
  by_cases q : k = i.toNatClampNeg
  · rw [if_pos q, q, c]; exact hp
  · rw [if_neg q]; exact h k h1 h2
theorem rp_out {P : Int → Int → Prop} {g g' : Nat → Int32} {lo hi a : Int} {i v : Int32} (h : rp P g lo hi) (e : g' = upd g i.toNatClampNeg v) (hiω : i.toInt = a) (h0 : 0 ≤ a) (ho : a + 1 ≤ lo ∨ hi ≤ a) : rp P g' lo hi := by
  subst hiω; subst e
  intro k h1 h2
  have c := i_cl (x := i) h0
  unfold upd
  by_cases q : k = i.toNatClampNeg
  · exfalso; omega
  · rw [if_neg q]; exact h k h1 h2
theorem rp_ext {P : Int → Int → Prop} {g g' : Nat → Int32} {lo hi a b : Int} {i v : Int32} (h : rp P g lo hi) (e : g' = upd g i.toNatClampNeg v) (hiω : i.toInt = a) (hv : v.toInt = b) (h0 : 0 ≤ a) (he : a = hi) (hp : P a b) : rp P g' lo (hi + 1) := by
  subst hiω; subst e; subst hv
  intro k h1 h2
  have c := i_cl (x := i) h0
  unfold upd
  by_cases q : k = i.toNatClampNeg
  · rw [if_pos q, q, c]; exact hp
  · rw [if_neg q]; exact h k h1 (by omega)
theorem rp_mono {P : Int → Int → Prop} {g : Nat → Int32} {lo hi loω hiω : Int} (h : rp P g lo hi) (h1 : lo ≤ loω) (h2 : hiω ≤ hi) : rp P g loω hiω := fun k q1 q2 => h k (by omega) (by omega)
theorem rp_nil {P : Int → Int → Prop} {g : Nat → Int32} {lo hi : Int} (h : hi ≤ lo) : rp P g lo hi := fun k q1 q2 => by exfalso; omega
