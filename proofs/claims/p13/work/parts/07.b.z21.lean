def zrt (so : Nat → Int32) (b k : Int) : Int := if zg so (b + k) = 7 then 9 else if 5 ≤ zg so (b + k) then 1 else 0
theorem zrt_b {so : Nat → Int32} {b k : Int} {x i : Int32} (ex : x = so i.toNatClampNeg) (hi : i.toInt = b + k) : (zrt so b k = 9 ∧ x.toInt = 7) ∨ (zrt so b k ≤ 1 ∧ x.toInt ≠ 7 ∧ 5 ≤ x.toInt) ∨ (zrt so b k = 0 ∧ x.toInt < 5) := by
  have := zg_at2 ex hi
  unfold zrt; split
  · omega
  · split <;> omega
theorem zvp_nn (pb pe : Nat → Int32) (q k : Int) : 0 ≤ zvp pb pe q k := by unfold zvp; have := zhx_nn (zg pb (q + k)); have := zhx_nn (zg pe (q + k)); omega
theorem zml_mono {pb pe : Nat → Int32} {q i l j : Int} (h : i ≤ l) : zml pb pe q i j ≤ zml pb pe q l j := by
  unfold zml
  have := zsm_mono (f := zvp pb pe q) (zvp_nn pb pe q) (n := (i - q).toNat) (m := (l - q).toNat) (by omega)
  omega
theorem zvs_set {so va pa fp pb pe : Nat → Int32} {b q k l j : Int} {x i y : Int32} (ex : x = so i.toNatClampNeg) (hx : x.toInt = 2) (hi : i.toInt = b + k) (ey : y = fp i.toNatClampNeg) (hj : j = y.toInt) (hl : l = y.toInt + zg pa i.toInt) : zvs so va pa fp pb pe b q k = 5 * zg pa i.toInt + 4 * zml pb pe q l j := by
  have q0 := zg_at2 ex hi
  have q1 := zg_at2 ey hi
  unfold zvs zml; rw [if_pos (by omega), hl, hj, q1, hi, show zg fp (b + k) + zg pa (b + k) - q = zg fp (b + k) - q + zg pa (b + k) from by omega]
theorem zvs_nn {so va le mo ho pa en fp pb pe : Nat → Int32} {b q n c k : Int} (h : zSl so va le mo ho pa en fp pb pe b q n c) (k0 : 0 ≤ k) (k1 : k < n) : 0 ≤ zvs so va pa fp pb pe b q k := by
  obtain ⟨p, _, ⟨_, _, _, _, _, _, _, _, _, _, _, d⟩, _⟩ := zS_nd h k0 k1
  unfold zvs
  split
  · have := d (by assumption)
    have := zsm_mono (f := zvp pb pe q) (zvp_nn pb pe q) (n := (zg fp (b + k) - q).toNat) (m := (zg fp (b + k) - q + zg pa (b + k)).toNat) (by omega)
    omega
  · split
    · have := zhx_nn (zg va (b + k)); omega
    · omega
def zph (pb pe : Nat → Int32) (q v m i j : Int) : Prop := m ≤ v + 4 + 5 * (i - j) + 4 * zml pb pe q i j
theorem zph_0 {pb pe : Nat → Int32} {q v m j : Int} (h : m ≤ v + 4) : zph pb pe q v m j j := by unfold zph; rw [zml_0]; omega
theorem zph_s {pb pe : Nat → Int32} {q v m j : Int} {m' l' : Int} {i x y k : Int32} {a : Int} (h : zph pb pe q v m i.toInt j) (ex : x = pb i.toNatClampNeg) (ey : y = pe k.toNatClampNeg) (ha : a ≤ m + 6 ∧ (a ≤ m + 2 ∨ x.toInt < 32 ∨ 126 < x.toInt)) (hc : m' ≤ a + 1 + 6 ∧ (m' ≤ a + 1 + 2 ∨ y.toInt < 32 ∨ 126 < y.toInt)) (hk : k.toInt = i.toInt) (hq : 0 ≤ q ∧ q ≤ i.toInt) (hi : l' = i.toInt + 1) : zph pb pe q v m' l' j := by
  subst hi
  have e : zml pb pe q (i.toInt + 1) j = zml pb pe q i.toInt j + zhx x.toInt + zhx y.toInt := by
    unfold zml
    rw [show i.toInt + 1 - q = (i.toInt - q) + 1 from by omega, zsm_add (by omega)]
    have q1 := zg_at ex; have q2 := zg_at2 ey hk
    have : zvp pb pe q (i.toInt - q) = zhx x.toInt + zhx y.toInt := by unfold zvp; rw [show q + (i.toInt - q) = i.toInt from by omega, q1, q2]
    omega
  unfold zph at *; rw [e]
  have b1 : a ≤ m + 2 + 4 * zhx x.toInt := by unfold zhx; split <;> omega
  have b2 : m' ≤ a + 1 + 2 + 4 * zhx y.toInt := by unfold zhx; split <;> omega
  omega
theorem zS_v9 {so va le mo ho pa en fp pb pe : Nat → Int32} {b q n c k : Int} {x i y j : Int32} (h : zSl so va le mo ho pa en fp pb pe b q n c) (ex : x = so i.toNatClampNeg) (ey : y = va j.toNatClampNeg) (hi : i.toInt = b + k) (hj : j.toInt = b + k) (k0 : 0 ≤ k) (k1 : k < n) (hx : x.toInt ≠ 0) : y.toInt ≤ 9 := by
  obtain ⟨p, _, ⟨_, _, _, _, _, _, _, _, d, _⟩, _⟩ := zS_nd h k0 k1
  have := zg_at2 ex hi; have := zg_at2 ey hj; have := d (by omega); omega
theorem zrt_5 {so : Nat → Int32} {b k : Int} {x i : Int32} (ex : x = so i.toNatClampNeg) (hi : i.toInt = b + k) : 5 ≤ x.toInt → 1 ≤ zrt so b k := by
  intro h
  have := zg_at2 ex hi
  unfold zrt; split
  · omega
  · rw [if_pos (by omega)]; omega
