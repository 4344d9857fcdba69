theorem r8 (x : Int32) : x < 1 ∨ 8 < x ∨ x = 1 ∨ x = 2 ∨ x = 3 ∨ x = 4 ∨ x = 5 ∨ x = 6 ∨ x = 7 ∨ x = 8 := by
  by_cases h1 : x < 1
  · exact Or.inl h1
  by_cases h2 : 8 < x
  · exact Or.inr (Or.inl h2)
  have a : ¬ x.toInt < 1 := fun h => h1 (Int32.lt_iff_toInt_lt.mpr h)
  have b : ¬ (8 : Int) < x.toInt := fun h => h2 (Int32.lt_iff_toInt_lt.mpr h)
  refine Or.inr (Or.inr ?_)
  rcases (show x.toInt = 1 ∨ x.toInt = 2 ∨ x.toInt = 3 ∨ x.toInt = 4 ∨ x.toInt = 5 ∨ x.toInt = 6 ∨ x.toInt = 7 ∨ x.toInt = 8 by omega) with h | h | h | h | h | h | h | h
  · exact (Or.inl (Int32.toInt_inj.mp h))
  · exact (Or.inr (Or.inl (Int32.toInt_inj.mp h)))
  · exact (Or.inr (Or.inr (Or.inl (Int32.toInt_inj.mp h))))
  · exact (Or.inr (Or.inr (Or.inr (Or.inl (Int32.toInt_inj.mp h)))))
  · exact (Or.inr (Or.inr (Or.inr (Or.inr (Or.inl (Int32.toInt_inj.mp h))))))
  · exact (Or.inr (Or.inr (Or.inr (Or.inr (Or.inr (Or.inl (Int32.toInt_inj.mp h)))))))
  · exact (Or.inr (Or.inr (Or.inr (Or.inr (Or.inr (Or.inr (Or.inl (Int32.toInt_inj.mp h))))))))
  · exact (Or.inr (Or.inr (Or.inr (Or.inr (Or.inr (Or.inr (Or.inr (Int32.toInt_inj.mp h))))))))
theorem nobits_n : (List.range 64).all (fun j => decide (nI j < 1) || decide (((nI j >>> ((0 : Int32) &&& 31)) &&& 1) = 1) || decide (((nI j >>> ((1 : Int32) &&& 31)) &&& 1) = 1) || decide (((nI j >>> ((2 : Int32) &&& 31)) &&& 1) = 1) || decide (((nI j >>> ((3 : Int32) &&& 31)) &&& 1) = 1) || decide (((nI j >>> ((4 : Int32) &&& 31)) &&& 1) = 1) || decide (((nI j >>> ((5 : Int32) &&& 31)) &&& 1) = 1)) = true := by decide +kernel
theorem nobits {x : Int32} (h0 : ¬ x < 1) (h1 : ¬ 64 ≤ x) (b0 : ¬ ((x >>> ((0 : Int32) &&& 31)) &&& 1) = 1) (b1 : ¬ ((x >>> ((1 : Int32) &&& 31)) &&& 1) = 1) (b2 : ¬ ((x >>> ((2 : Int32) &&& 31)) &&& 1) = 1) (b3 : ¬ ((x >>> ((3 : Int32) &&& 31)) &&& 1) = 1) (b4 : ¬ ((x >>> ((4 : Int32) &&& 31)) &&& 1) = 1) (b5 : ¬ ((x >>> ((5 : Int32) &&& 31)) &&& 1) = 1) : False := by
  have a : ¬ x.toInt < 1 := fun h => h0 (Int32.lt_iff_toInt_lt.mpr h)
  have hn : ¬ x < 0 := fun h => a (by have := Int32.lt_iff_toInt_lt.mp h; have e : (0 : Int32).toInt = 0 := rfl; omega)
  obtain ⟨j, hj, rfl⟩ := nI_of hn
  have b : ¬ 64 ≤ j := fun h => h1 (nI_le (a := 64) h hj)
  have h := List.all_eq_true.mp nobits_n j (List.mem_range.mpr (by omega))
  simp only [Bool.or_eq_true, decide_eq_true_eq] at h
  rcases h with (((((h | h) | h) | h) | h) | h) | h
  · exact h0 h
  · exact b0 h
  · exact b1 h
  · exact b2 h
  · exact b3 h
  · exact b4 h
  · exact b5 h
theorem nobits2 {x : Int32} (h0 : ¬ x < 1) (h1 : ¬ 63 < x) (b0 : ¬ ((x >>> ((0 : Int32) &&& 31)) &&& 1) = 1) (b1 : ¬ ((x >>> ((1 : Int32) &&& 31)) &&& 1) = 1) (b2 : ¬ ((x >>> ((2 : Int32) &&& 31)) &&& 1) = 1) (b3 : ¬ ((x >>> ((3 : Int32) &&& 31)) &&& 1) = 1) (b4 : ¬ ((x >>> ((4 : Int32) &&& 31)) &&& 1) = 1) (b5 : ¬ ((x >>> ((5 : Int32) &&& 31)) &&& 1) = 1) : False := by
  refine nobits h0 (fun h => h1 ?_) b0 b1 b2 b3 b4 b5
  have e := Int32.le_iff_toInt_le.mp h
  have e1 : (64 : Int32).toInt = 64 := rfl
  have e2 : (63 : Int32).toInt = 63 := rfl
  exact Int32.lt_iff_toInt_lt.mpr (by omega)
theorem hin0 : vp_in 0 6 := vpi (by decide)
theorem hin1 : vp_in 1 6 := vpi (by decide)
theorem hin2 : vp_in 2 6 := vpi (by decide)
theorem hin3 : vp_in 3 6 := vpi (by decide)
theorem hin4 : vp_in 4 6 := vpi (by decide)
theorem hin5 : vp_in 5 6 := vpi (by decide)
theorem inJ0 : ∀ w ∈ u_ws RJ0 TJ0 2, w ∈ TW := in_of [2100, 2102] (by decide +kernel) (by decide +kernel)
theorem inJx00060 : ∀ w ∈ u_ws RJx00060 TJx00060 6, w ∈ TW := in_of [2087, 2088, 2089, 2090, 2091, 2092] (by decide +kernel) (by decide +kernel)
theorem inJx5d777 : ∀ w ∈ u_ws RJx5d777 TJx5d777 8, w ∈ TW := in_of [2042, 2044, 2046, 2048, 2050, 2052, 2038, 2040] (by decide +kernel) (by decide +kernel)
theorem EX.of {A : Array Value} {s : State} (hts : ∀ w ∈ lw_tbl, w.before A s = true) : EX s := ⟨va_AO.of (hts _ (tb_0 (List.mem_of_getElem? (i := 63) rfl))), va_AO.of (hts _ (tb_0 (List.mem_of_getElem? (i := 64) rfl))), va_AO.of (hts _ (tb_0 (List.mem_of_getElem? (i := 72) rfl))), va_Nw.of rfl (hts _ (tb_0 (List.mem_of_getElem? (i := 151) rfl))), va_Nw.of rfl (hts _ (tb_1 (List.mem_of_getElem? (i := 22) rfl))), va_Nw.of rfl (hts _ (tb_1 (List.mem_of_getElem? (i := 37) rfl))), va_Nw.of rfl (hts _ (tb_1 (List.mem_of_getElem? (i := 106) rfl))), va_Nw.of rfl (hts _ (tb_1 (List.mem_of_getElem? (i := 112) rfl))), va_Nw.of rfl (hts _ (tb_1 (List.mem_of_getElem? (i := 198) rfl))), va_Nw.of rfl (hts _ (tb_1 (List.mem_of_getElem? (i := 204) rfl))), va_Nw.of rfl (hts _ (tb_1 (List.mem_of_getElem? (i := 220) rfl))), va_Nw.of rfl (hts _ (tb_1 (List.mem_of_getElem? (i := 225) rfl)))⟩
theorem bvb (x : BitVec 64) (k : Nat) (hk : k + 8 ≤ 64) : ((x >>> k).signExtend 32 &&& 255#32) = ((x.sshiftRight k) &&& 255#64).signExtend 32 := by
  apply BitVec.eq_of_getLsbD_eq
  intro i hi
  have h64 : i < 64 := by omega
  simp only [BitVec.getLsbD_and, BitVec.getLsbD_signExtend, BitVec.getLsbD_ushiftRight, BitVec.getLsbD_sshiftRight, BitVec.getLsbD_ofNat]
  by_cases h : i < 8
  · have hk2 : k + i < 64 := by omega
    simp [hi, h64, hk2, show ¬ 64 ≤ i by omega]
  · have ht : Nat.testBit 255 i = false := Nat.testBit_lt_two_pow (Nat.lt_of_lt_of_le (by decide : 255 < 2 ^ 8) (Nat.pow_le_pow_right (by decide) (by omega)))
    simp [ht, h64, show ¬ 64 ≤ i by omega]
theorem by_0 (w : Int64) : ((w.toUInt64 >>> ((0 : Int32).toInt64.toUInt64 &&& Int64.toUInt64 63)).toInt64.toInt32 &&& 255) = ((w >>> ((0 : Int32).toInt64 &&& 63)) &&& 255).toInt32 := by
  have e1 : ((0 : Int32).toInt64.toUInt64 &&& Int64.toUInt64 63) = 0 := by decide
  have e2 : ((0 : Int32).toInt64 &&& 63) = 0 := by decide
  rw [e1, e2]
  exact Int32.toBitVec_inj.mp (by have h := bvb w.toBitVec 0 (by decide); exact h)
theorem by_1 (w : Int64) : ((w.toUInt64 >>> ((8 : Int32).toInt64.toUInt64 &&& Int64.toUInt64 63)).toInt64.toInt32 &&& 255) = ((w >>> ((8 : Int32).toInt64 &&& 63)) &&& 255).toInt32 := by
  have e1 : ((8 : Int32).toInt64.toUInt64 &&& Int64.toUInt64 63) = 8 := by decide
  have e2 : ((8 : Int32).toInt64 &&& 63) = 8 := by decide
  rw [e1, e2]
  exact Int32.toBitVec_inj.mp (by have h := bvb w.toBitVec 8 (by decide); exact h)
theorem by_2 (w : Int64) : ((w.toUInt64 >>> ((16 : Int32).toInt64.toUInt64 &&& Int64.toUInt64 63)).toInt64.toInt32 &&& 255) = ((w >>> ((16 : Int32).toInt64 &&& 63)) &&& 255).toInt32 := by
  have e1 : ((16 : Int32).toInt64.toUInt64 &&& Int64.toUInt64 63) = 16 := by decide
  have e2 : ((16 : Int32).toInt64 &&& 63) = 16 := by decide
  rw [e1, e2]
  exact Int32.toBitVec_inj.mp (by have h := bvb w.toBitVec 16 (by decide); exact h)
theorem by_3 (w : Int64) : ((w.toUInt64 >>> ((24 : Int32).toInt64.toUInt64 &&& Int64.toUInt64 63)).toInt64.toInt32 &&& 255) = ((w >>> ((24 : Int32).toInt64 &&& 63)) &&& 255).toInt32 := by
  have e1 : ((24 : Int32).toInt64.toUInt64 &&& Int64.toUInt64 63) = 24 := by decide
  have e2 : ((24 : Int32).toInt64 &&& 63) = 24 := by decide
  rw [e1, e2]
  exact Int32.toBitVec_inj.mp (by have h := bvb w.toBitVec 24 (by decide); exact h)
theorem by_4 (w : Int64) : ((w.toUInt64 >>> ((32 : Int32).toInt64.toUInt64 &&& Int64.toUInt64 63)).toInt64.toInt32 &&& 255) = ((w >>> ((32 : Int32).toInt64 &&& 63)) &&& 255).toInt32 := by
  have e1 : ((32 : Int32).toInt64.toUInt64 &&& Int64.toUInt64 63) = 32 := by decide
  have e2 : ((32 : Int32).toInt64 &&& 63) = 32 := by decide
  rw [e1, e2]
  exact Int32.toBitVec_inj.mp (by have h := bvb w.toBitVec 32 (by decide); exact h)
theorem by_5 (w : Int64) : ((w.toUInt64 >>> ((40 : Int32).toInt64.toUInt64 &&& Int64.toUInt64 63)).toInt64.toInt32 &&& 255) = ((w >>> ((40 : Int32).toInt64 &&& 63)) &&& 255).toInt32 := by
  have e1 : ((40 : Int32).toInt64.toUInt64 &&& Int64.toUInt64 63) = 40 := by decide
  have e2 : ((40 : Int32).toInt64 &&& 63) = 40 := by decide
  rw [e1, e2]
  exact Int32.toBitVec_inj.mp (by have h := bvb w.toBitVec 40 (by decide); exact h)
theorem by_6 (w : Int64) : ((w.toUInt64 >>> ((48 : Int32).toInt64.toUInt64 &&& Int64.toUInt64 63)).toInt64.toInt32 &&& 255) = ((w >>> ((48 : Int32).toInt64 &&& 63)) &&& 255).toInt32 := by
  have e1 : ((48 : Int32).toInt64.toUInt64 &&& Int64.toUInt64 63) = 48 := by decide
  have e2 : ((48 : Int32).toInt64 &&& 63) = 48 := by decide
  rw [e1, e2]
  exact Int32.toBitVec_inj.mp (by have h := bvb w.toBitVec 48 (by decide); exact h)
theorem by_7 (w : Int64) : ((w.toUInt64 >>> ((56 : Int32).toInt64.toUInt64 &&& Int64.toUInt64 63)).toInt64.toInt32 &&& 255) = ((w >>> ((56 : Int32).toInt64 &&& 63)) &&& 255).toInt32 := by
  have e1 : ((56 : Int32).toInt64.toUInt64 &&& Int64.toUInt64 63) = 56 := by decide
  have e2 : ((56 : Int32).toInt64 &&& 63) = 56 := by decide
  rw [e1, e2]
  exact Int32.toBitVec_inj.mp (by have h := bvb w.toBitVec 56 (by decide); exact h)
