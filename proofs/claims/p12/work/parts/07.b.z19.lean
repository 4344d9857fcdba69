def zFB (f0 f : Nat → Bool) (bo : Nat → Int32) (c m : Int) : Prop := (∀ j : Int, 0 ≤ j → j < c → f j.toNat = false) ∧ (∀ j : Int, 0 ≤ j → c ≤ j → f j.toNat = f0 j.toNat) ∧ m = zcB f0 c.toNat ∧ (1 ≤ c → zg bo 0 = 0 ∧ 1 ≤ m)
def zFC (f0 f : Nat → Bool) (bo : Nat → Int32) (c m : Int) : Prop := (∀ j : Int, 0 ≤ j → j < c → f j.toNat = false) ∧ (∀ j : Int, 0 ≤ j → c ≤ j → f j.toNat = f0 j.toNat) ∧ m = zcB f0 (c + 1).toNat ∧ zg bo 0 = 0 ∧ 1 ≤ m
theorem zFB_0 {f0 : Nat → Bool} {bo : Nat → Int32} : zFB f0 f0 bo (0 : Int32).toInt (0 : Int32).toInt := by
  have e : (0 : Int32).toInt = 0 := rfl
  rw [e]
  exact ⟨fun j j0 j1 => by omega, fun _ _ _ => rfl, rfl, fun z => by omega⟩
theorem zcB_s {f : Nat → Bool} {c : Int} (h : 0 ≤ c) : zcB f (c + 1).toNat = zcB f c.toNat + zb1 f c := zsm_add h
theorem zFC_n {f0 f : Nat → Bool} {bo : Nat → Int32} {c x : Int32} {m : Int} (h : zFB f0 f bo c.toInt m) (h00 : f0 0 = true) (ex : x = bz (f c.toNatClampNeg)) (hx : x.toInt = 0) (c0 : 0 ≤ c.toInt) : zFC f0 f bo c.toInt m := by
  obtain ⟨a, b, d, e⟩ := h
  have q := zbz_f ex hx
  have q2 : f0 c.toInt.toNat = false := by rw [← b c.toInt c0 (Int.le_refl _)]; exact q
  have c1 : 1 ≤ c.toInt := by
    by_cases z : c.toInt = 0
    · rw [z] at q2; exact absurd (q2.symm.trans h00) (by decide)
    · omega
  refine ⟨a, b, ?_, e c1⟩
  rw [zcB_s c0, d]; unfold zb1; rw [q2]; rw [if_neg (by decide)]; omega
theorem zFC_y {f0 f : Nat → Bool} {bo bo' : Nat → Int32} {c x m m' : Int32} (h : zFB f0 f bo c.toInt m.toInt) (ex : x = bz (f c.toNatClampNeg)) (hx : x.toInt ≠ 0) (eb : bo' = upd bo m.toNatClampNeg c) (c0 : 0 ≤ c.toInt) (m0 : 0 ≤ m.toInt) (hm : m'.toInt = m.toInt + 1) : zFC f0 f bo' c.toInt m'.toInt := by
  obtain ⟨a, b, d, e⟩ := h
  have q := zbz_t ex hx
  have q2 : f0 c.toInt.toNat = true := by rw [← b c.toInt c0 (Int.le_refl _)]; exact q
  subst eb
  refine ⟨a, b, ?_, ?_, by omega⟩
  · rw [zcB_s c0, hm, d]; unfold zb1; rw [if_pos q2]
  · by_cases z : m.toInt = 0
    · have : c.toInt = 0 := by
        by_cases y : c.toInt = 0
        · exact y
        · have := (e (by omega)).2; omega
      have w := zg_eq (f := bo) (i := m) (v := c)
      rw [z] at w; rw [w]; exact this
    · have : 1 ≤ c.toInt := by
        by_cases y : c.toInt = 0
        · rw [y] at d; exact absurd d z
        · omega
      rw [zg_ne m0 (by omega) (by omega)]; exact (e this).1
theorem zFB_s {f0 f f' : Nat → Bool} {bo : Nat → Int32} {c c' : Int32} {m : Int} {b : Bool} (h : zFC f0 f bo c.toInt m) (e : f' = updB f c.toNatClampNeg b) (hb : b = false) (c0 : 0 ≤ c.toInt) (hc : c'.toInt = c.toInt + 1) : zFB f0 f' bo c'.toInt m := by
  obtain ⟨a, d, g, k1, k2⟩ := h
  refine ⟨fun j j0 j1 => ?_, fun j j0 j1 => ?_, by rw [hc]; exact g, fun _ => ⟨k1, k2⟩⟩
  · by_cases z : j = c.toInt
    · subst z; rw [zupdB_eq e]; exact hb
    · rw [zupdB_ne e c0 j0 z]; exact a j j0 (by omega)
  · rw [zupdB_ne e c0 j0 (by omega)]; exact d j j0 (by omega)
theorem zFB_le {N : Nat} {f0 f v : Nat → Bool} {bo : Nat → Int32} {c m t : Int} {i : Int32} {b : Bool} (h : zFB f0 f bo c m) (hN : (N : Int) = 65409) (e : f0 = updB v i.toNatClampNeg b) (hi : i.toInt = 0) (ht : zth N v ≤ t) (hc : c ≤ 65537) : m ≤ 128 + t := by
  obtain ⟨a, d, g, k1⟩ := h
  have q := zmk_low hN e (by omega)
  have w := zcB_th hN f0
  have z : zcB f0 c.toNat ≤ zcB f0 (128 + N) := zsm_mono (fun k => (zb1_nn f0 k).1) (by omega)
  omega
theorem zFB_no {f0 f f' : Nat → Bool} {bo : Nat → Int32} {c m : Int} {i : Int32} {b : Bool} (h : zFB f0 f bo c m) (hc : c = 65536) (e : f' = updB f i.toNatClampNeg b) (hi : i.toInt = 65536) (hb : b = false) : zNo f' := by
  intro k hk
  by_cases z : (k : Int) = 65536
  · have := zupdB_eq e
    rw [hi] at this
    have ek : k = (65536 : Int).toNat := by omega
    rw [ek, this]; exact hb
  · have := zupdB_ne (j := (k : Int)) e (by omega) (by omega) (by omega)
    rw [show ((k : Int)).toNat = k from by omega] at this
    rw [this]
    have w := h.1 (k : Int) (by omega) (by omega)
    rw [show ((k : Int)).toNat = k from by omega] at w
    exact w
