def zb8 (w : Int64) (k : Int32) : Int32 := ((w >>> (((8 : Int32) * k).toInt64 &&& 63)) &&& (255 : Int64)).toInt32
theorem zb8_e {w y z : Int64} {x k v : Int32} (e1 : x = (8 : Int32) * k) (e2 : y = w >>> (x.toInt64 &&& 63)) (e3 : z = y &&& (255 : Int64)) (e4 : v = z.toInt32) : v = zb8 w k := by subst e1; subst e2; subst e3; subst e4; rfl
def zFd (w : Int64) (n : Int) : Prop := ∀ k : Int32, 0 ≤ k.toInt → k.toInt < n → 32 ≤ (zb8 w k).toInt ∧ (zb8 w k).toInt ≤ 126
def zFg (g : Int) (w : Int64) (n : Int) : Prop := g = 0 ∨ zFd w n
theorem zFg_0 {g : Int} {w : Int64} : zFg g w (0 : Int32).toInt := Or.inr (fun k k0 k1 => by have e : (0 : Int32).toInt = 0 := rfl
                                                                                             exact absurd k1 (by omega))
theorem zFg_s {g : Int} {w : Int64} {k k' v r : Int32} (h : zFg g w k.toInt) (hg : g ≠ 0) (e : v = zb8 w k) (h1 : (r.toInt = 0) ∨ (32 ≤ v.toInt)) (h2 : (r.toInt = 0) ∨ (v.toInt ≤ 126)) (hk : k'.toInt = k.toInt + 1) : zFg r.toInt w k'.toInt := by
  rcases h with h | h
  · exact absurd h hg
  · by_cases hr : r.toInt = 0
    · exact Or.inl hr
    · refine Or.inr (fun j j0 j1 => ?_)
      by_cases e2 : j.toInt = k.toInt
      · have := Int32.toInt_inj.mp e2
        subst this; rw [← e]; omega
      · exact h j j0 (by omega)
theorem zFg_m {g : Int} {w : Int64} {k n : Int} (h : zFg g w k) (hn : n ≤ k) : zFg g w n := by
  rcases h with h | h
  · exact Or.inl h
  · exact Or.inr (fun j j0 j1 => h j j0 (by omega))
theorem zl16 {x : Int32} {y z : Int64} (e1 : z = y &&& (65535 : Int64)) (e2 : x = z.toInt32) : 0 ≤ x.toInt ∧ x.toInt ≤ 65535 := by
  subst e2; subst e1
  have hn : (y &&& (65535 : Int64)).toBitVec.toNat ≤ 65535 := by
    show (y.toBitVec &&& (65535#64)).toNat ≤ 65535
    rw [BitVec.toNat_and]; exact Nat.and_le_right
  have hm : (y &&& (65535 : Int64)).toBitVec.msb = false := by
    rw [BitVec.msb_eq_false_iff_two_mul_lt]; omega
  have hi : (y &&& (65535 : Int64)).toInt = (y &&& (65535 : Int64)).toBitVec.toNat := BitVec.toInt_eq_toNat_of_msb hm
  rw [Int64.toInt_toInt32, hi, i_bm (by omega) (by omega)]
  omega
theorem zchr {r : Int32} {x : UInt32} (h : r = (x % 65536).toInt32) : chr r := by
  subst h
  show ((x % 65536).toUInt16.toUInt32).toInt32 = (x % 65536).toInt32
  congr 1
  apply UInt32.toNat_inj.mp
  have h1 : (x % 65536).toNat = x.toNat % 65536 := UInt32.toNat_mod _ _
  have h2 : ((x % 65536).toUInt16.toUInt32).toNat = (x % 65536).toNat % 65536 := by
    rw [UInt16.toNat_toUInt32, UInt32.toNat_toUInt16]
  rw [h2, h1]; omega
theorem zbz_f {f : Nat → Bool} {i x : Int32} (ex : x = bz (f i.toNatClampNeg)) (h : x.toInt = 0) : f i.toNatClampNeg = false := by
  cases hb : f i.toNatClampNeg with
  | false => rfl
  | true => rw [hb] at ex; subst ex; exact absurd h (by decide)
