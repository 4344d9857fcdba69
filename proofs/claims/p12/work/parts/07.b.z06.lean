def zHk (φ k v : Int) : Prop := 1 ≤ φ ∨ (0 ≤ v ∧ ((k = 0 ∧ v < 1) ∨ (k = 1 ∧ v < 16) ∨ (k = 2 ∧ v < 256) ∨ (k = 3 ∧ v < 4096) ∨ (k = 4 ∧ v < 65536)))
def zHc (φ c : Int) : Prop := 1 ≤ φ ∨ (48 ≤ c ∧ c ≤ 57) ∨ (97 ≤ c ∧ c ≤ 102)
def zHd (φ d : Int) : Prop := 1 ≤ φ ∨ (0 ≤ d ∧ d ≤ 15)
theorem zHk_0 {φ : Int} : zHk φ (0 : Int32).toInt (0 : Int32).toInt := Or.inr ⟨by decide, Or.inl ⟨rfl, by decide⟩⟩
theorem zHc_a {φ : Int} {r c : Int32} (h1 : (r.toInt = 0) ∨ (48 ≤ c.toInt)) (h2 : (r.toInt = 0) ∨ (c.toInt ≤ 102)) (h3 : (r.toInt = 0) ∨ (c.toInt ≤ 57) ∨ (97 ≤ c.toInt)) (h : r.toInt ≠ 0) : zHc φ c.toInt := by unfold zHc; omega
theorem zHk_m {φ φ' k v : Int} (h : zHk φ k v) (hφ : φ ≤ φ') (_h4 : k < 4) : zHk φ' k v := by unfold zHk at *; omega
theorem zHd_a {φ : Int} {r c d : Int32} (h : zHc φ c.toInt) (h1 : (r.toInt = 0) ∨ (48 ≤ c.toInt)) (h2 : (r.toInt = 0) ∨ (c.toInt ≤ 57)) (h0 : r.toInt ≠ 0) (e : d.toInt = c.toInt - 48) : zHd φ d.toInt := by unfold zHc at h; unfold zHd; omega
theorem zHd_b {φ : Int} {r c d : Int32} (h : zHc φ c.toInt) (h1 : (r.toInt = 1) ∨ (c.toInt ≤ 47) ∨ (58 ≤ c.toInt)) (h0 : r.toInt = 0) (e : d.toInt = c.toInt - 87) : zHd φ d.toInt := by unfold zHc at h; unfold zHd; omega
theorem zHk_s {φ : Int} {k k' v d x y : Int32} (h : zHk φ k.toInt v.toInt) (hd : zHd φ d.toInt) (e1 : x = (16 : Int32) * v) (e2 : y = x + d) (hk : k.toInt < 4) (hk' : k'.toInt = k.toInt + 1) : zHk φ k'.toInt y.toInt := by
  rcases h with h | h
  · exact Or.inl h
  · rcases hd with hd | hd
    · exact Or.inl hd
    · have a1 := i_mul (a := 16) (b := v.toInt) e1 rfl rfl (by omega) (by omega)
      have a2 := i_add (a := x.toInt) (b := d.toInt) e2 rfl rfl (by omega) (by omega)
      unfold zHk; omega
theorem zHk_e {φ k v : Int} (h : zHk φ k v) (_hk : 4 ≤ k) : 1 ≤ φ ∨ (0 ≤ v ∧ v ≤ 65535) := by unfold zHk at h; omega
def zMb (φ p e v : Int) : Prop := 1 ≤ φ ∨ (0 ≤ v ∧ v ≤ 65535 ∧ (e = p + 6 ∨ (32 ≤ v ∧ v ≤ 126)))
theorem zMb_h {φ p e v : Int} (h : 1 ≤ φ ∨ (0 ≤ v ∧ v ≤ 65535)) (he : e = p + 6) : zMb φ p e v := by unfold zMb; omega
theorem zMb_c {φ p e : Int} {v : Int32} (h : (v.toInt = -1) ∨ (32 ≤ v.toInt)) (h2 : v.toInt ≤ 126) (hv : v.toInt ≠ -1) : zMb φ p e v.toInt := by unfold zMb; omega
