theorem vpi {i : Int32} {n : Nat} (h : ¬ (i < 0 ∨ n ≤ i.toNatClampNeg)) : vp_in i n := h
def bz (b : Bool) : Int32 := match b with
  | true => 1
  | false => 0
def bo (x : Int32) : Bool := decide (x &&& 1 = 1)
def updB (f : Nat → Bool) (k : Nat) (x : Bool) : Nat → Bool := fun j => if j = k then x else f j
theorem bz_nar (b : Bool) : narrow .boolean (.int (bz b)) = .int (bz b) := by cases b <;> rfl
theorem bz_fit (b : Bool) : fits .boolean (.int (bz b)) = true := by cases b <;> rfl
theorem bz_ex {x : Int32} (h : x = 0 ∨ x = 1) : ∃ b : Bool, x = bz b := by
  rcases h with h | h
  · exact ⟨false, h⟩
  · exact ⟨true, h⟩
theorem or_nar {x : Int32} (h : x = 0 ∨ x = 1) : narrow .boolean (.int x) = .int x := by
  rcases h with h | h <;> subst h <;> rfl
def chr (x : Int32) : Prop := x.toUInt32.toUInt16.toUInt32.toInt32 = x
theorem chr_nar {x : Int32} (h : chr x) : narrow .char (.int x) = .int x := by
  show Value.int _ = _
  rw [h]
theorem and1_cases (x : Int32) : x &&& 1 = 0 ∨ x &&& 1 = 1 := by
  have e : (x.toBitVec &&& 1#32).toNat = x.toBitVec.toNat % 2 := by
    rw [BitVec.toNat_and]; exact Nat.and_one_is_mod _
  rcases Nat.mod_two_eq_zero_or_one x.toBitVec.toNat with h | h
  · left; apply Int32.toBitVec_inj.mp; apply BitVec.eq_of_toNat_eq
    show (x.toBitVec &&& 1#32).toNat = _
    rw [e, h]; rfl
  · right; apply Int32.toBitVec_inj.mp; apply BitVec.eq_of_toNat_eq
    show (x.toBitVec &&& 1#32).toNat = _
    rw [e, h]; rfl
theorem bo_nar (x : Int32) : vp_nar .boolean x = bz (bo x) := by
  show x &&& 1 = bz (bo x)
  unfold bo
  rcases and1_cases x with h | h <;> rw [h] <;> rfl
theorem zupd (f : Nat → Bool) (k : Nat) (x : Int32) : upd (fun q9 => bz (f q9)) k (vp_nar .boolean x) = fun q9 => bz (updB f k (bo x) q9) := by
  funext q
  rw [bo_nar]
  unfold upd updB
  by_cases h : q = k <;> simp [h]
