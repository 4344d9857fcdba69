set_option maxHeartbeats 4000000 in
theorem ok_X12_in {p0 : Int32} {p1 : Int32} {p2 : Int32} {Q : Int32 → Prop} (hq : ∀ (r : Int32), 0 ≤ r.toInt → r.toInt ≤ 1 → ((r.toInt = 0) ∨ (p1.toInt ≤ p0.toInt)) → ((r.toInt = 0) ∨ (p0.toInt ≤ p2.toInt)) → ((r.toInt = 1) ∨ (p0.toInt + 1 ≤ p1.toInt) ∨ (p2.toInt + 1 ≤ p0.toInt)) → ((r.toInt = 1 ∧ p1.toInt ≤ p0.toInt ∧ p0.toInt ≤ p2.toInt) ∨ (r.toInt = 0)) → Q r) : w_X12_in p0 p1 p2 Q := by
  have q_t : (bz true).toInt = 1 := rfl
  have q_f : (bz false).toInt = 0 := rfl
  have q_0 : (0 : Int32).toInt = 0 := rfl
  have q_1 : (1 : Int32).toInt = 1 := rfl
  unfold w_X12_in
  have j_15 : ∀ (s0_15 : Int32), 0 ≤ s0_15.toInt → s0_15.toInt ≤ 1 → ((s0_15.toInt = 0) ∨ (p1.toInt ≤ p0.toInt)) → ((s0_15.toInt = 0) ∨ (p0.toInt ≤ p2.toInt)) → ((s0_15.toInt = 1) ∨ (p0.toInt + 1 ≤ p1.toInt) ∨ (p2.toInt + 1 ≤ p0.toInt)) → ((s0_15.toInt = 1 ∧ p1.toInt ≤ p0.toInt ∧ p0.toInt ≤ p2.toInt) ∨ (s0_15.toInt = 0)) → w_X12_in_15 Q s0_15 := by
    intro s0_15 f1 f2 f3 f4 f5 f6
    unfold w_X12_in_15
    refine ⟨i_01 (by omega) (by omega), ?_⟩
    exact hq s0_15 (by omega) (by omega) (by omega) (by omega) (by omega) (by omega)
  have j_14 : ((p0.toInt + 1 ≤ p1.toInt) ∨ (p1.toInt ≤ p0.toInt ∧ p2.toInt + 1 ≤ p0.toInt)) → w_X12_in_14 Q := by
    intro f7
    unfold w_X12_in_14
    exact j_15 0 (by omega) (by omega) (by omega) (by omega) (by omega) (by omega)
  refine ⟨fun c2 => ?_, fun c2 => ?_⟩
  · have f8 : p0.toInt < p1.toInt := i_lt (a := p0.toInt) (b := p1.toInt) rfl rfl c2
    exact j_14  (by omega)
  · have f9 : p1.toInt ≤ p0.toInt := i_nlt (a := p0.toInt) (b := p1.toInt) rfl rfl c2
    refine ⟨fun c7 => ?_, fun c7 => ?_⟩
    · have f10 : p2.toInt < p0.toInt := i_lt (a := p2.toInt) (b := p0.toInt) rfl rfl c7
      exact j_14  (by omega)
    · have f11 : p0.toInt ≤ p2.toInt := i_nlt (a := p2.toInt) (b := p0.toInt) rfl rfl c7
      exact j_15 1 (by omega) (by omega) (by omega) (by omega) (by omega) (by omega)
set_option maxHeartbeats 4000000 in
theorem ok_X12_isDigit {p0 : Int32} {Q : Int32 → Prop} (hq : ∀ (r : Int32), 0 ≤ r.toInt → r.toInt ≤ 1 → ((r.toInt = 0) ∨ (48 ≤ p0.toInt)) → ((r.toInt = 0) ∨ (p0.toInt ≤ 57)) → ((r.toInt = 1) ∨ (p0.toInt ≤ 47) ∨ (58 ≤ p0.toInt)) → ((r.toInt = 1 ∧ 48 ≤ p0.toInt ∧ p0.toInt ≤ 57) ∨ (r.toInt = 0)) → Q r) : w_X12_isDigit p0 Q := by
  have q_t : (bz true).toInt = 1 := rfl
  have q_f : (bz false).toInt = 0 := rfl
  have q_48 : (48 : Int32).toInt = 48 := rfl
  have q_57 : (57 : Int32).toInt = 57 := rfl
  unfold w_X12_isDigit
  refine ok_X12_in  (fun r5 f1 f2 f3 f4 f5 f6 => ?_)
  refine ⟨i_01 (by omega) (by omega), ?_⟩
  exact hq r5 (by omega) (by omega) (by omega) (by omega) (by omega) (by omega)
set_option maxHeartbeats 4000000 in
theorem ok_X12_isLetter {p0 : Int32} {Q : Int32 → Prop} (hq : ∀ (r : Int32), 0 ≤ r.toInt → r.toInt ≤ 1 → ((r.toInt = 0) ∨ (65 ≤ p0.toInt)) → ((r.toInt = 0) ∨ (p0.toInt ≤ 122)) → Q r) : w_X12_isLetter p0 Q := by
  have q_t : (bz true).toInt = 1 := rfl
  have q_f : (bz false).toInt = 0 := rfl
  have q_0 : (0 : Int32).toInt = 0 := rfl
  have q_1 : (1 : Int32).toInt = 1 := rfl
  have q_65 : (65 : Int32).toInt = 65 := rfl
  have q_90 : (90 : Int32).toInt = 90 := rfl
  have q_97 : (97 : Int32).toInt = 97 := rfl
  have q_122 : (122 : Int32).toInt = 122 := rfl
  unfold w_X12_isLetter
  refine ok_X12_in  (fun r5 f1 f2 f3 f4 f5 f6 => ?_)
  have j_27 : ∀ (s0_27 : Int32), 0 ≤ s0_27.toInt → s0_27.toInt ≤ 1 → ((s0_27.toInt = 0) ∨ (65 ≤ p0.toInt)) → ((s0_27.toInt = 0) ∨ (p0.toInt ≤ 122)) → ((s0_27.toInt = 0 ∧ r5.toInt = 0) ∨ (s0_27.toInt = 1 ∧ 65 ≤ p0.toInt ∧ p0.toInt ≤ 122)) → w_X12_isLetter_27 Q s0_27 := by
    intro s0_27 f7 f8 f9 f10 f11
    unfold w_X12_isLetter_27
    refine ⟨i_01 (by omega) (by omega), ?_⟩
    exact hq s0_27 (by omega) (by omega) (by omega) (by omega)
  have j_22 : 65 ≤ p0.toInt → p0.toInt ≤ 122 → w_X12_isLetter_22 Q := by
    intro f12 f13
    unfold w_X12_isLetter_22
    exact j_27 1 (by omega) (by omega) (by omega) (by omega) (by omega)
  refine ⟨fun c8 => ?_, fun c8 => ?_⟩
  · have f14 : r5.toInt ≠ 0 := i_ne (a := r5.toInt) (b := 0) rfl rfl c8
    exact j_22  (by omega) (by omega)
  · have f15 : r5.toInt = 0 := i_eq (a := r5.toInt) (b := 0) rfl rfl c8
    refine ok_X12_in  (fun r16 f16 f17 f18 f19 f20 f21 => ?_)
    refine ⟨fun c19 => ?_, fun c19 => ?_⟩
    · have f22 : r16.toInt = 0 := i_eq (a := r16.toInt) (b := 0) rfl rfl c19
      exact j_27 0 (by omega) (by omega) (by omega) (by omega) (by omega)
    · have f23 : r16.toInt ≠ 0 := i_ne (a := r16.toInt) (b := 0) rfl rfl c19
      exact j_22  (by omega) (by omega)
set_option maxHeartbeats 4000000 in
theorem ok_X12_isHex {p0 : Int32} {Q : Int32 → Prop} (hq : ∀ (r : Int32), 0 ≤ r.toInt → r.toInt ≤ 1 → ((r.toInt = 0) ∨ (48 ≤ p0.toInt)) → ((r.toInt = 0) ∨ (p0.toInt ≤ 102)) → ((r.toInt = 0) ∨ (p0.toInt ≤ 57) ∨ (97 ≤ p0.toInt)) → Q r) : w_X12_isHex p0 Q := by
  have q_t : (bz true).toInt = 1 := rfl
  have q_f : (bz false).toInt = 0 := rfl
  have q_0 : (0 : Int32).toInt = 0 := rfl
  have q_1 : (1 : Int32).toInt = 1 := rfl
  have q_97 : (97 : Int32).toInt = 97 := rfl
  have q_102 : (102 : Int32).toInt = 102 := rfl
  unfold w_X12_isHex
  refine ok_X12_isDigit  (fun r1 f1 f2 f3 f4 f5 f6 => ?_)
  have j_23 : ∀ (s0_23 : Int32), 0 ≤ s0_23.toInt → s0_23.toInt ≤ 1 → ((s0_23.toInt = 0) ∨ (48 ≤ p0.toInt)) → ((s0_23.toInt = 0) ∨ (p0.toInt ≤ 102)) → ((s0_23.toInt = 0) ∨ (p0.toInt ≤ 57) ∨ (97 ≤ p0.toInt)) → ((s0_23.toInt = 0 ∧ r1.toInt = 0) ∨ (s0_23.toInt = 1 ∧ 48 ≤ p0.toInt ∧ p0.toInt ≤ 102)) → w_X12_isHex_23 Q s0_23 := by
    intro s0_23 f7 f8 f9 f10 f11 f12
    unfold w_X12_isHex_23
    refine ⟨i_01 (by omega) (by omega), ?_⟩
    exact hq s0_23 (by omega) (by omega) (by omega) (by omega) (by omega)
  have j_18 : 48 ≤ p0.toInt → p0.toInt ≤ 102 → ((p0.toInt ≤ 57) ∨ (97 ≤ p0.toInt)) → w_X12_isHex_18 Q := by
    intro f13 f14 f15
    unfold w_X12_isHex_18
    exact j_23 1 (by omega) (by omega) (by omega) (by omega) (by omega) (by omega)
  refine ⟨fun c4 => ?_, fun c4 => ?_⟩
  · have f16 : r1.toInt ≠ 0 := i_ne (a := r1.toInt) (b := 0) rfl rfl c4
    exact j_18  (by omega) (by omega) (by omega)
  · have f17 : r1.toInt = 0 := i_eq (a := r1.toInt) (b := 0) rfl rfl c4
    refine ok_X12_in  (fun r12 f18 f19 f20 f21 f22 f23 => ?_)
    refine ⟨fun c15 => ?_, fun c15 => ?_⟩
    · have f24 : r12.toInt = 0 := i_eq (a := r12.toInt) (b := 0) rfl rfl c15
      exact j_23 0 (by omega) (by omega) (by omega) (by omega) (by omega) (by omega)
    · have f25 : r12.toInt ≠ 0 := i_ne (a := r12.toInt) (b := 0) rfl rfl c15
      exact j_18  (by omega) (by omega) (by omega)
set_option maxHeartbeats 4000000 in
theorem ok_X12_fail {p1 : Int32} {p2 : Int32} {v_fault : Int32} {v_faultAt : Int32} {Q : Int32 → Int32 → Prop} (a0 : 0 ≤ v_fault.toInt) (a1 : 1 ≤ p1.toInt) (a2 : p1.toInt ≤ 3) (hq : ∀ (ov_fault : Int32) (ov_faultAt : Int32), v_fault.toInt ≤ ov_fault.toInt → 1 ≤ ov_fault.toInt → ((ov_fault.toInt = v_fault.toInt ∧ ov_faultAt.toInt = v_faultAt.toInt) ∨ (ov_fault.toInt = p1.toInt ∧ ov_faultAt.toInt = p2.toInt ∧ v_fault.toInt = 0)) → Q ov_fault ov_faultAt) : w_X12_fail p1 p2 v_fault v_faultAt Q := by
  have q_t : (bz true).toInt = 1 := rfl
  have q_f : (bz false).toInt = 0 := rfl
  unfold w_X12_fail
  have j_17 : ∀ (v_fault_17 : Int32) (v_faultAt_17 : Int32), v_fault.toInt ≤ v_fault_17.toInt → 1 ≤ v_fault_17.toInt → ((v_fault_17.toInt = v_fault.toInt ∧ v_faultAt_17.toInt = v_faultAt.toInt) ∨ (v_fault_17.toInt = p1.toInt ∧ v_faultAt_17.toInt = p2.toInt ∧ v_fault.toInt = 0)) → w_X12_fail_17 Q v_fault_17 v_faultAt_17 := by
    intro v_fault_17 v_faultAt_17 f1 f2 f3
    unfold w_X12_fail_17
    exact hq v_fault_17 v_faultAt_17 (by omega) (by omega) (by omega)
  refine ⟨fun c4 => ?_, fun c4 => ?_⟩
  · have f4 : v_fault.toInt ≠ 0 := i_ne (a := v_fault.toInt) (b := 0) rfl rfl c4
    exact j_17 v_fault v_faultAt (by omega) (by omega) (by omega)
  · have f5 : v_fault.toInt = 0 := i_eq (a := v_fault.toInt) (b := 0) rfl rfl c4
    exact j_17 p1 p2 (by omega) (by omega) (by omega)
set_option maxHeartbeats 4000000 in
theorem ok_X12_signAt {p1 : Int32} {v_taped : Int32} {v_tape : Nat → Int32} {Q : Int32 → Prop} (a0 : 0 ≤ v_taped.toInt) (a1 : v_taped.toInt ≤ 200) (a2 : 0 ≤ p1.toInt) (b0 : rp (fun k v => 32 ≤ v ∧ v ≤ 126) v_tape 0 v_taped.toInt) (hq : ∀ (r : Int32), 0 ≤ r.toInt + 1 → r.toInt ≤ 126 → ((r.toInt + 1 = 0) ∨ (32 ≤ r.toInt)) → ((r.toInt + 1 ≠ 0) ∨ (v_taped.toInt ≤ p1.toInt)) → ((r.toInt + 1 = 0) ∨ (p1.toInt + 1 ≤ v_taped.toInt)) → ((r.toInt = (v_tape p1.toNatClampNeg).toInt) ∨ (v_taped.toInt ≤ p1.toInt)) → Q r) : w_X12_signAt p1 v_taped v_tape Q := by
  have q_t : (bz true).toInt = 1 := rfl
  have q_f : (bz false).toInt = 0 := rfl
  have q_m1 : ((-1) : Int32).toInt = (-1) := rfl
  unfold w_X12_signAt
  have j_18 : ∀ (s0_18 : Int32), 0 ≤ s0_18.toInt + 1 → s0_18.toInt ≤ 126 → ((s0_18.toInt + 1 = 0) ∨ (32 ≤ s0_18.toInt)) → ((s0_18.toInt + 1 ≠ 0) ∨ (v_taped.toInt ≤ p1.toInt)) → ((s0_18.toInt + 1 = 0) ∨ (p1.toInt + 1 ≤ v_taped.toInt)) → ((s0_18.toInt = (v_tape p1.toNatClampNeg).toInt) ∨ (v_taped.toInt ≤ p1.toInt)) → ((s0_18.toInt + 1 = 0 ∧ v_taped.toInt ≤ p1.toInt) ∨ (p1.toInt + 1 ≤ v_taped.toInt ∧ s0_18.toInt = (v_tape p1.toNatClampNeg).toInt ∧ 32 ≤ s0_18.toInt ∧ s0_18.toInt ≤ 126)) → w_X12_signAt_18 Q s0_18 := by
    intro s0_18 f1 f2 f3 f4 f5 f6 f7
    unfold w_X12_signAt_18
    exact hq s0_18 (by omega) (by omega) (by omega) (by omega) (by omega) (by omega)
  refine ⟨fun c5 => ?_, fun c5 => ?_⟩
  · have f8 : v_taped.toInt ≤ p1.toInt := i_le (a := v_taped.toInt) (b := p1.toInt) rfl rfl c5
    exact j_18 (-1) (by omega) (by omega) (by omega) (by omega) (by omega) (by omega) (by omega)
  · have f9 : p1.toInt < v_taped.toInt := i_nle (a := v_taped.toInt) (b := p1.toInt) rfl rfl c5
    refine ⟨i_in (by omega) (by omega), ?_⟩
    intro x13 ex13
    have f10 : x13.toInt = (v_tape p1.toNatClampNeg).toInt := congrArg Int32.toInt ex13
    have f11 : 32 ≤ x13.toInt ∧ x13.toInt ≤ 126 := by have h9 := rp_get (P := (fun k v => 32 ≤ v ∧ v ≤ 126)) (a := p1.toInt) b0 ex13 rfl (by omega) (by omega) (by omega); omega
    exact j_18 x13 (by omega) (by omega) (by omega) (by omega) (by omega) (by omega) (by omega)
set_option maxHeartbeats 4000000 in
theorem ok_X12_put {p1 : Int32} {v_printedMany : Int32} {v_printed : Nat → Int32} {Q : Int32 → (Nat → Int32) → Prop} (a0 : 0 ≤ v_printedMany.toInt) (a1 : v_printedMany.toInt ≤ 3999) (hq : ∀ (ov_printedMany : Int32) (ov_printed : Nat → Int32), ov_printedMany.toInt = v_printedMany.toInt + 1 → Q ov_printedMany ov_printed) : w_X12_put p1 v_printedMany v_printed Q := by
  have q_t : (bz true).toInt = 1 := rfl
  have q_f : (bz false).toInt = 0 := rfl
  unfold w_X12_put
  refine ⟨i_in (by omega) (by omega), ?_⟩
  intro g9 eg9
  intro x16 ex16
  have f1 : x16.toInt = v_printedMany.toInt + 1 := i_add (a := v_printedMany.toInt) (b := 1) ex16 rfl rfl (by omega) (by omega)
  exact hq x16 g9 (by omega)
set_option maxHeartbeats 4000000 in
theorem ok_X12_putHex {p1 : Int32} {v_printedMany : Int32} {v_printed : Nat → Int32} {Q : Int32 → (Nat → Int32) → Prop} (a0 : 0 ≤ v_printedMany.toInt) (a1 : v_printedMany.toInt ≤ 3994) (hq : ∀ (ov_printedMany : Int32) (ov_printed : Nat → Int32), 4 * v_printedMany.toInt + 8 ≤ 4 * ov_printedMany.toInt → 4 * v_printedMany.toInt + 6 ≤ 4 * ov_printedMany.toInt → 4 * v_printedMany.toInt + 5 ≤ 4 * ov_printedMany.toInt → 4 * v_printedMany.toInt + 4 ≤ 4 * ov_printedMany.toInt → 4 * v_printedMany.toInt ≤ 4 * ov_printedMany.toInt + 27 → 4 * v_printedMany.toInt ≤ 4 * ov_printedMany.toInt + 28 → 4 * v_printedMany.toInt ≤ 4 * ov_printedMany.toInt + 29 → 4 * v_printedMany.toInt ≤ 4 * ov_printedMany.toInt + 66 → 4 * v_printedMany.toInt ≤ 4 * ov_printedMany.toInt + 67 → 4 * v_printedMany.toInt ≤ 4 * ov_printedMany.toInt + 68 → 0 ≤ ov_printedMany.toInt + 1 → 0 ≤ ov_printedMany.toInt → 1 ≤ ov_printedMany.toInt → 2 ≤ ov_printedMany.toInt → v_printedMany.toInt + 2 ≤ ov_printedMany.toInt → 4 * ov_printedMany.toInt ≤ 4 * v_printedMany.toInt + 24 → 4 * v_printedMany.toInt + 21 ≤ 4 * ov_printedMany.toInt → Q ov_printedMany ov_printed) : w_X12_putHex p1 v_printedMany v_printed Q := by
  have q_t : (bz true).toInt = 1 := rfl
  have q_f : (bz false).toInt = 0 := rfl
  have q_12 : (12 : Int32).toInt = 12 := rfl
  have q_92 : (92 : Int32).toInt = 92 := rfl
  have q_120 : (120 : Int32).toInt = 120 := rfl
  unfold w_X12_putHex
  refine ok_X12_put (by omega) (by omega) (fun r3_0 r3_1 f1 => ?_)
  refine ok_X12_put (by omega) (by omega) (fun r9_0 r9_1 f2 => ?_)
  have j_15 : ∀ n_15 : Nat, ∀ (l2_15 : Int32) (v_printedMany_15 : Int32) (v_printed_15 : Nat → Int32), r9_0.toInt ≤ v_printedMany_15.toInt → l2_15.toInt + 4 * v_printedMany_15.toInt = 4 * v_printedMany.toInt + 20 → 0 ≤ l2_15.toInt + 4 → (l2_15.toInt + 2147483649).toNat < n_15 → w_X12_putHex_15 p1 Q n_15 l2_15 v_printedMany_15 v_printed_15 := by
    intro n_15
    induction n_15 with
    | zero =>
      intro l2_15 v_printedMany_15 v_printed_15 f3 f4 f5 hm_15
      exfalso; omega
    | succ n_15 ih_15 =>
      intro l2_15 v_printedMany_15 v_printed_15 f3 f4 f5 hm_15
      unfold w_X12_putHex_15
      unfold w_X12_putHex_15B
      refine ⟨fun c16 => ?_, fun c16 => ?_⟩
      · have f6 : l2_15.toInt < 0 := i_lt (a := l2_15.toInt) (b := 0) rfl rfl c16
        exact hq v_printedMany_15 v_printed_15 (by omega) (by omega) (by omega) (by omega) (by omega) (by omega) (by omega) (by omega) (by omega) (by omega) (by omega) (by omega) (by omega) (by omega) (by omega) (by omega) (by omega)
      · have f7 : 0 ≤ l2_15.toInt := i_nlt (a := l2_15.toInt) (b := 0) rfl rfl c16
        intro x21 ex21
        intro x24 ex24
        have f8 : (0 ≤ x24.toInt ∧ x24.toInt ≤ 15) := i_andr ex24 (by decide)
        have j_44 : ∀ (s0_44 : Int32), ((10 ≤ x24.toInt ∧ s0_44.toInt = x24.toInt + 87) ∨ (x24.toInt ≤ 9 ∧ s0_44.toInt = x24.toInt + 48)) → w_X12_putHex_44 Q (w_X12_putHex_15 p1 Q n_15) s0_44 l2_15 v_printedMany_15 v_printed_15 := by
          intro s0_44 f9
          unfold w_X12_putHex_44
          refine ok_X12_put (by omega) (by omega) (fun r44_0 r44_1 f10 => ?_)
          intro x47 ex47
          have f11 : x47.toInt = l2_15.toInt + (-4) := i_add (a := l2_15.toInt) (b := (-4)) ex47 rfl rfl (by omega) (by omega)
          exact ih_15 x47 r44_0 r44_1 (by omega) (by omega) (by omega) (by have h8_0 := i_rng l2_15; have h8_1 := i_rng x47; omega)
        refine ⟨fun c30 => ?_, fun c30 => ?_⟩
        · have f12 : 10 ≤ x24.toInt := i_le (a := 10) (b := x24.toInt) rfl rfl c30
          intro x43 ex43
          have f13 : x43.toInt = 87 + x24.toInt := i_add (a := 87) (b := x24.toInt) ex43 rfl rfl (by omega) (by omega)
          exact j_44 x43 (by omega)
        · have f14 : x24.toInt < 10 := i_nle (a := 10) (b := x24.toInt) rfl rfl c30
          intro x36 ex36
          have f15 : x36.toInt = 48 + x24.toInt := i_add (a := 48) (b := x24.toInt) ex36 rfl rfl (by omega) (by omega)
          exact j_44 x36 (by omega)
  exact ⟨(2147483661 : Int).toNat + 1, j_15   ((2147483661 : Int).toNat + 1) 12 r9_0 r9_1 (by omega) (by omega) (by omega) (by omega)⟩
set_option maxHeartbeats 4000000 in
theorem ok_X12_putNumber {p1 : Int32} {v_printedMany : Int32} {v_printed : Nat → Int32} {Q : Int32 → (Nat → Int32) → Prop} (a0 : 0 ≤ v_printedMany.toInt) (a1 : v_printedMany.toInt ≤ 3998) (a2 : 0 ≤ p1.toInt) (a3 : p1.toInt ≤ 99) (hq : ∀ (ov_printedMany : Int32) (ov_printed : Nat → Int32), v_printedMany.toInt + 1 ≤ ov_printedMany.toInt → ov_printedMany.toInt ≤ v_printedMany.toInt + 3 → ((ov_printedMany.toInt = v_printedMany.toInt + 1 ∧ p1.toInt ≤ 9) ∨ (10 ≤ p1.toInt ∧ ov_printedMany.toInt = v_printedMany.toInt + 2)) → Q ov_printedMany ov_printed) : w_X12_putNumber p1 v_printedMany v_printed Q := by
  have q_t : (bz true).toInt = 1 := rfl
  have q_f : (bz false).toInt = 0 := rfl
  unfold w_X12_putNumber
  have j_17 : ∀ (v_printedMany_17 : Int32) (v_printed_17 : Nat → Int32), v_printedMany.toInt ≤ v_printedMany_17.toInt → v_printedMany_17.toInt ≤ v_printedMany.toInt + 2 → ((v_printedMany_17.toInt = v_printedMany.toInt ∧ p1.toInt ≤ 9) ∨ (10 ≤ p1.toInt ∧ v_printedMany_17.toInt = v_printedMany.toInt + 1)) → w_X12_putNumber_17 p1 Q v_printedMany_17 v_printed_17 := by
    intro v_printedMany_17 v_printed_17 f1 f2 f3
    unfold w_X12_putNumber_17
    intro x23 ex23
    have f4 : (0 ≤ x23.toInt ∧ x23.toInt ≤ 9 ∧ x23.toInt ≤ p1.toInt) := by have h9 := i_rem (b := 10) ex23 rfl (by decide) (by omega); omega
    intro x24 ex24
    have f5 : x24.toInt = 48 + x23.toInt := i_add (a := 48) (b := x23.toInt) ex24 rfl rfl (by omega) (by omega)
    refine ok_X12_put (by omega) (by omega) (fun r25_0 r25_1 f6 => ?_)
    exact hq r25_0 r25_1 (by omega) (by omega) (by omega)
  refine ⟨fun c3 => ?_, fun c3 => ?_⟩
  · have f7 : p1.toInt ≤ 9 := i_le (a := p1.toInt) (b := 9) rfl rfl c3
    exact j_17 v_printedMany v_printed (by omega) (by omega) (by omega)
  · have f8 : 9 < p1.toInt := i_nle (a := p1.toInt) (b := 9) rfl rfl c3
    intro x12 ex12
    have f9 : (0 ≤ x12.toInt ∧ 10 * x12.toInt ≤ p1.toInt ∧ p1.toInt ≤ 10 * x12.toInt + 9) := by have h9 := i_div (b := 10) ex12 rfl (by decide) (by omega); omega
    intro x13 ex13
    have f10 : x13.toInt = 48 + x12.toInt := i_add (a := 48) (b := x12.toInt) ex13 rfl rfl (by omega) (by omega)
    refine ok_X12_put (by omega) (by omega) (fun r14_0 r14_1 f11 => ?_)
    exact j_17 r14_0 r14_1 (by omega) (by omega) (by omega)
set_option maxHeartbeats 4000000 in
theorem ok_X12_putMember {p1 : Int32} {v_printedMany : Int32} {v_printed : Nat → Int32} {Q : Int32 → (Nat → Int32) → Prop} (a0 : 0 ≤ v_printedMany.toInt) (a1 : v_printedMany.toInt ≤ 3994) (hq : ∀ (ov_printedMany : Int32) (ov_printed : Nat → Int32), v_printedMany.toInt ≤ ov_printedMany.toInt → 1 ≤ ov_printedMany.toInt → ov_printedMany.toInt ≤ 4000 → ov_printedMany.toInt ≤ v_printedMany.toInt + 6 → ((ov_printedMany.toInt ≤ v_printedMany.toInt + 2) ∨ (p1.toInt ≤ 31) ∨ (127 ≤ p1.toInt)) → Q ov_printedMany ov_printed) : w_X12_putMember p1 v_printedMany v_printed Q := by
  have q_t : (bz true).toInt = 1 := rfl
  have q_f : (bz false).toInt = 0 := rfl
  have q_32 : (32 : Int32).toInt = 32 := rfl
  have q_92 : (92 : Int32).toInt = 92 := rfl
  have q_126 : (126 : Int32).toInt = 126 := rfl
  unfold w_X12_putMember
  refine ok_X12_in  (fun r5 f1 f2 f3 f4 f5 f6 => ?_)
  refine ⟨fun c8 => ?_, fun c8 => ?_⟩
  · have f7 : r5.toInt ≠ 0 := i_ne (a := r5.toInt) (b := 0) rfl rfl c8
    have j_53 : ∀ (v_printedMany_53 : Int32) (v_printed_53 : Nat → Int32), v_printedMany.toInt ≤ v_printedMany_53.toInt → v_printedMany_53.toInt ≤ v_printedMany.toInt + 6 → ((v_printedMany_53.toInt ≤ v_printedMany.toInt + 2) ∨ (p1.toInt ≤ 31) ∨ (127 ≤ p1.toInt)) → ((v_printedMany_53.toInt = v_printedMany.toInt) ∨ (v_printedMany_53.toInt = v_printedMany.toInt + 1)) → w_X12_putMember_53 p1 Q v_printedMany_53 v_printed_53 := by
      intro v_printedMany_53 v_printed_53 f8 f9 f10 f11
      unfold w_X12_putMember_53
      refine ok_X12_put (by omega) (by omega) (fun r55_0 r55_1 f12 => ?_)
      exact hq r55_0 r55_1 (by omega) (by omega) (by omega) (by omega) (by omega)
    have j_47 : w_X12_putMember_47 p1 Q v_printedMany v_printed := by
      unfold w_X12_putMember_47
      refine ok_X12_put (by omega) (by omega) (fun r50_0 r50_1 f13 => ?_)
      exact j_53 r50_0 r50_1 (by omega) (by omega) (by omega) (by omega)
    refine ⟨fun c20 => ?_, fun c20 => ?_⟩
    · have f14 : p1.toInt = 91 := i_eq (a := p1.toInt) (b := 91) rfl rfl c20
      exact j_47  
    · have f15 : p1.toInt ≠ 91 := i_ne (a := p1.toInt) (b := 91) rfl rfl c20
      refine ⟨fun c26 => ?_, fun c26 => ?_⟩
      · have f16 : p1.toInt = 93 := i_eq (a := p1.toInt) (b := 93) rfl rfl c26
        exact j_47  
      · have f17 : p1.toInt ≠ 93 := i_ne (a := p1.toInt) (b := 93) rfl rfl c26
        refine ⟨fun c32 => ?_, fun c32 => ?_⟩
        · have f18 : p1.toInt = 94 := i_eq (a := p1.toInt) (b := 94) rfl rfl c32
          exact j_47  
        · have f19 : p1.toInt ≠ 94 := i_ne (a := p1.toInt) (b := 94) rfl rfl c32
          refine ⟨fun c38 => ?_, fun c38 => ?_⟩
          · have f20 : p1.toInt = 45 := i_eq (a := p1.toInt) (b := 45) rfl rfl c38
            exact j_47  
          · have f21 : p1.toInt ≠ 45 := i_ne (a := p1.toInt) (b := 45) rfl rfl c38
            refine ⟨fun c44 => ?_, fun c44 => ?_⟩
            · have f22 : p1.toInt ≠ 92 := i_ne (a := p1.toInt) (b := 92) rfl rfl c44
              exact j_53 v_printedMany v_printed (by omega) (by omega) (by omega) (by omega)
            · have f23 : p1.toInt = 92 := i_eq (a := p1.toInt) (b := 92) rfl rfl c44
              exact j_47  
  · have f24 : r5.toInt = 0 := i_eq (a := r5.toInt) (b := 0) rfl rfl c8
    refine ok_X12_putHex (by omega) (by omega) (fun r13_0 r13_1 f25 f26 f27 f28 f29 f30 f31 f32 f33 f34 f35 f36 f37 f38 f39 f40 f41 => ?_)
    exact hq r13_0 r13_1 (by omega) (by omega) (by omega) (by omega) (by omega)
set_option maxHeartbeats 4000000 in
theorem ok_X12_made {p1 : Int32} {p2 : Int32} {v_newNodes : Int32} {v_newSort : Nat → Int32} {v_newValue : Nat → Int32} {v_newLeast : Nat → Int32} {v_newMost : Nat → Int32} {v_newFirst : Nat → Int32} {v_newNext : Nat → Int32} {v_newMany : Nat → Int32} {v_newPart : Nat → Int32} {Q : Int32 → Int32 → (Nat → Int32) → (Nat → Int32) → (Nat → Int32) → (Nat → Int32) → (Nat → Int32) → (Nat → Int32) → (Nat → Int32) → (Nat → Int32) → Prop} (a0 : 0 ≤ v_newNodes.toInt) (a1 : v_newNodes.toInt ≤ 259) (hq : ∀ (r : Int32) (ov_newNodes : Int32) (ov_newSort : Nat → Int32) (ov_newValue : Nat → Int32) (ov_newLeast : Nat → Int32) (ov_newMost : Nat → Int32) (ov_newFirst : Nat → Int32) (ov_newNext : Nat → Int32) (ov_newMany : Nat → Int32) (ov_newPart : Nat → Int32), r.toInt = v_newNodes.toInt → ov_newNodes.toInt = v_newNodes.toInt + 1 → (zNew v_newSort v_newValue v_newLeast v_newMost v_newFirst v_newNext v_newMany v_newPart ov_newSort ov_newValue ov_newLeast ov_newMost ov_newFirst ov_newNext ov_newMany ov_newPart v_newNodes.toInt p1.toInt p2.toInt 0 0 (-1) 0 0) → Q r ov_newNodes ov_newSort ov_newValue ov_newLeast ov_newMost ov_newFirst ov_newNext ov_newMany ov_newPart) : w_X12_made p1 p2 v_newNodes v_newSort v_newValue v_newLeast v_newMost v_newFirst v_newNext v_newMany v_newPart Q := by
  have q_t : (bz true).toInt = 1 := rfl
  have q_f : (bz false).toInt = 0 := rfl
  unfold w_X12_made
  intro x11 ex11
  have f1 : x11.toInt = v_newNodes.toInt + 1 := i_add (a := v_newNodes.toInt) (b := 1) ex11 rfl rfl (by omega) (by omega)
  refine ⟨i_in (by omega) (by omega), ?_⟩
  intro g21 eg21
  refine ⟨i_in (by omega) (by omega), ?_⟩
  intro g28 eg28
  refine ⟨i_in (by omega) (by omega), ?_⟩
  intro g35 eg35
  refine ⟨i_in (by omega) (by omega), ?_⟩
  intro g42 eg42
  refine ⟨i_in (by omega) (by omega), ?_⟩
  intro g49 eg49
  refine ⟨i_in (by omega) (by omega), ?_⟩
  intro g56 eg56
  refine ⟨i_in (by omega) (by omega), ?_⟩
  intro g63 eg63
  refine ⟨i_in (by omega) (by omega), ?_⟩
  intro g70 eg70
  exact hq v_newNodes x11 g21 g28 g35 g42 g49 g56 g63 g70 (by omega) (by omega) (by exact zNew_made (by omega) (by assumption) (by assumption) (by assumption) (by assumption) (by assumption) (by assumption) (by assumption) (by assumption))
set_option maxHeartbeats 4000000 in
theorem ok_X12_beginRow {v_depth : Int32} {v_rowFirst : Nat → Int32} {v_rowLast : Nat → Int32} {v_rowMany : Nat → Int32} {Q : (Nat → Int32) → (Nat → Int32) → (Nat → Int32) → Prop} (a0 : 0 ≤ v_depth.toInt) (a1 : v_depth.toInt ≤ 11) (b0 : qp2 (fun k m l => (m = 0) ∨ (0 ≤ l ∧ l ≤ 259)) v_rowMany v_rowFirst 0 12) (b1 : qp2 (fun k m l => (m = 0) ∨ (0 ≤ l ∧ l ≤ 259)) v_rowMany v_rowLast 0 12) (b2 : rp (fun k v => -1 ≤ v ∧ v ≤ 259) v_rowFirst 0 12) (b3 : rp (fun k v => -1 ≤ v ∧ v ≤ 259) v_rowLast 0 12) (hq : ∀ (ov_rowFirst : Nat → Int32) (ov_rowLast : Nat → Int32) (ov_rowMany : Nat → Int32), rp (fun k v => -1 ≤ v ∧ v ≤ 259) ov_rowFirst 0 12 → rp (fun k v => -1 ≤ v ∧ v ≤ 259) ov_rowLast 0 12 → qp2 (fun k m l => (m = 0) ∨ (0 ≤ l ∧ l ≤ 259)) ov_rowMany ov_rowFirst 0 12 → qp2 (fun k m l => (m = 0) ∨ (0 ≤ l ∧ l ≤ 259)) ov_rowMany ov_rowLast 0 12 → qp2 (fun k m l => (m = 0) ∨ (0 ≤ l ∧ l ≤ 259)) ov_rowMany v_rowFirst 0 12 → qp2 (fun k m l => (m = 0) ∨ (0 ≤ l ∧ l ≤ 259)) ov_rowMany v_rowLast 0 12 → (ov_rowFirst = upd v_rowFirst v_depth.toNatClampNeg (-1)) → (ov_rowLast = upd v_rowLast v_depth.toNatClampNeg (-1)) → (ov_rowMany = upd v_rowMany v_depth.toNatClampNeg 0) → Q ov_rowFirst ov_rowLast ov_rowMany) : w_X12_beginRow v_depth v_rowFirst v_rowLast v_rowMany Q := by
  have q_t : (bz true).toInt = 1 := rfl
  have q_f : (bz false).toInt = 0 := rfl
  unfold w_X12_beginRow
  refine ⟨i_in (by omega) (by omega), ?_⟩
  intro g9 eg9
  have f1 : (g9 v_depth.toNatClampNeg).toInt = (-1) := i_upd (b := (-1)) eg9 rfl
  have h2 : qp2 (fun k m l => k = v_depth.toInt ∨ (fun k m l => (m = 0) ∨ (0 ≤ l ∧ l ≤ 259)) k m l) v_rowMany g9 0 12 := qp2_hole2 (P := (fun k m l => (m = 0) ∨ (0 ≤ l ∧ l ≤ 259))) (a := v_depth.toInt) b0 eg9 rfl (by omega)
  have h3 : rp (fun k v => -1 ≤ v ∧ v ≤ 259) g9 0 12 := rp_upd (P := (fun k v => -1 ≤ v ∧ v ≤ 259)) (a := v_depth.toInt) (b := (-1)) b2 eg9 rfl rfl (by omega) ⟨(by omega), (by omega)⟩
  refine ⟨i_in (by omega) (by omega), ?_⟩
  intro g19 eg19
  have f4 : (g19 v_depth.toNatClampNeg).toInt = (-1) := i_upd (b := (-1)) eg19 rfl
  have h5 : qp2 (fun k m l => k = v_depth.toInt ∨ (fun k m l => (m = 0) ∨ (0 ≤ l ∧ l ≤ 259)) k m l) v_rowMany g19 0 12 := qp2_hole2 (P := (fun k m l => (m = 0) ∨ (0 ≤ l ∧ l ≤ 259))) (a := v_depth.toInt) b1 eg19 rfl (by omega)
  have h6 : rp (fun k v => -1 ≤ v ∧ v ≤ 259) g19 0 12 := rp_upd (P := (fun k v => -1 ≤ v ∧ v ≤ 259)) (a := v_depth.toInt) (b := (-1)) b3 eg19 rfl rfl (by omega) ⟨(by omega), (by omega)⟩
  refine ⟨i_in (by omega) (by omega), ?_⟩
  intro g29 eg29
  have f7 : (g29 v_depth.toNatClampNeg).toInt = 0 := i_upd (b := 0) eg29 rfl
  have h8 : qp2 (fun k m l => k = v_depth.toInt ∨ (fun k m l => (m = 0) ∨ (0 ≤ l ∧ l ≤ 259)) k m l) g29 g9 0 12 := qp2_hh1 (P := (fun k m l => (m = 0) ∨ (0 ≤ l ∧ l ≤ 259))) (a := v_depth.toInt) h2 eg29 rfl (by omega)
  have h9 : qp2 (fun k m l => (m = 0) ∨ (0 ≤ l ∧ l ≤ 259)) g29 g9 0 12 := qp2_fill (P := (fun k m l => (m = 0) ∨ (0 ≤ l ∧ l ≤ 259))) (a := v_depth.toInt) h8 rfl (by omega) (by omega)
  have h10 : qp2 (fun k m l => k = v_depth.toInt ∨ (fun k m l => (m = 0) ∨ (0 ≤ l ∧ l ≤ 259)) k m l) g29 g19 0 12 := qp2_hh1 (P := (fun k m l => (m = 0) ∨ (0 ≤ l ∧ l ≤ 259))) (a := v_depth.toInt) h5 eg29 rfl (by omega)
  have h11 : qp2 (fun k m l => (m = 0) ∨ (0 ≤ l ∧ l ≤ 259)) g29 g19 0 12 := qp2_fill (P := (fun k m l => (m = 0) ∨ (0 ≤ l ∧ l ≤ 259))) (a := v_depth.toInt) h10 rfl (by omega) (by omega)
  have h12 : qp2 (fun k m l => (m = 0) ∨ (0 ≤ l ∧ l ≤ 259)) g29 v_rowFirst 0 12 := qp2_upd1 (P := (fun k m l => (m = 0) ∨ (0 ≤ l ∧ l ≤ 259))) (a := v_depth.toInt) (b := 0) b0 eg29 rfl rfl (by omega) (by omega)
  have h13 : qp2 (fun k m l => (m = 0) ∨ (0 ≤ l ∧ l ≤ 259)) g29 v_rowLast 0 12 := qp2_upd1 (P := (fun k m l => (m = 0) ∨ (0 ≤ l ∧ l ≤ 259))) (a := v_depth.toInt) (b := 0) b1 eg29 rfl rfl (by omega) (by omega)
  exact hq g9 g19 g29 (rp_mono h3 (by omega) (by omega)) (rp_mono h6 (by omega) (by omega)) (qp2_mono h9 (by omega) (by omega)) (qp2_mono h11 (by omega) (by omega)) (qp2_mono h12 (by omega) (by omega)) (qp2_mono h13 (by omega) (by omega)) (by assumption) (by assumption) (by assumption)
set_option maxHeartbeats 4000000 in
theorem ok_X12_beginGroup {p1 : Int32} {p2 : Int32} {v_depth : Int32} {v_groupSort : Nat → Int32} {v_groupValue : Nat → Int32} {v_rowFirst : Nat → Int32} {v_rowLast : Nat → Int32} {v_rowMany : Nat → Int32} {v_rowsFirst : Nat → Int32} {v_rowsLast : Nat → Int32} {v_rowsMany : Nat → Int32} {Q : (Nat → Int32) → (Nat → Int32) → (Nat → Int32) → (Nat → Int32) → (Nat → Int32) → (Nat → Int32) → (Nat → Int32) → (Nat → Int32) → Prop} (a0 : 0 ≤ v_depth.toInt) (a1 : v_depth.toInt ≤ 11) (b0 : qp2 (fun k m l => (m = 0) ∨ (0 ≤ l ∧ l ≤ 259)) v_rowMany v_rowFirst 0 12) (b1 : qp2 (fun k m l => (m = 0) ∨ (0 ≤ l ∧ l ≤ 259)) v_rowsMany v_rowsFirst 0 12) (b2 : qp2 (fun k m l => (m = 0) ∨ (0 ≤ l ∧ l ≤ 259)) v_rowMany v_rowLast 0 12) (b3 : qp2 (fun k m l => (m = 0) ∨ (0 ≤ l ∧ l ≤ 259)) v_rowsMany v_rowsLast 0 12) (b4 : rp (fun k v => -1 ≤ v ∧ v ≤ 259) v_rowFirst 0 12) (b5 : rp (fun k v => -1 ≤ v ∧ v ≤ 259) v_rowLast 0 12) (b6 : rp (fun k v => -1 ≤ v ∧ v ≤ 259) v_rowsFirst 0 12) (b7 : rp (fun k v => -1 ≤ v ∧ v ≤ 259) v_rowsLast 0 12) (hq : ∀ (ov_groupSort : Nat → Int32) (ov_groupValue : Nat → Int32) (ov_rowFirst : Nat → Int32) (ov_rowLast : Nat → Int32) (ov_rowMany : Nat → Int32) (ov_rowsFirst : Nat → Int32) (ov_rowsLast : Nat → Int32) (ov_rowsMany : Nat → Int32), rp (fun k v => -1 ≤ v ∧ v ≤ 259) ov_rowsFirst 0 12 → rp (fun k v => -1 ≤ v ∧ v ≤ 259) ov_rowsLast 0 12 → qp2 (fun k m l => (m = 0) ∨ (0 ≤ l ∧ l ≤ 259)) ov_rowsMany ov_rowsFirst 0 12 → qp2 (fun k m l => (m = 0) ∨ (0 ≤ l ∧ l ≤ 259)) ov_rowsMany ov_rowsLast 0 12 → qp2 (fun k m l => (m = 0) ∨ (0 ≤ l ∧ l ≤ 259)) ov_rowsMany v_rowsFirst 0 12 → qp2 (fun k m l => (m = 0) ∨ (0 ≤ l ∧ l ≤ 259)) ov_rowsMany v_rowsLast 0 12 → rp (fun k v => -1 ≤ v ∧ v ≤ 259) ov_rowFirst 0 12 → rp (fun k v => -1 ≤ v ∧ v ≤ 259) ov_rowLast 0 12 → qp2 (fun k m l => (m = 0) ∨ (0 ≤ l ∧ l ≤ 259)) ov_rowMany ov_rowFirst 0 12 → qp2 (fun k m l => (m = 0) ∨ (0 ≤ l ∧ l ≤ 259)) ov_rowMany ov_rowLast 0 12 → qp2 (fun k m l => (m = 0) ∨ (0 ≤ l ∧ l ≤ 259)) ov_rowMany v_rowFirst 0 12 → qp2 (fun k m l => (m = 0) ∨ (0 ≤ l ∧ l ≤ 259)) ov_rowMany v_rowLast 0 12 → (ov_groupSort = upd v_groupSort v_depth.toNatClampNeg p1) → (ov_groupValue = upd v_groupValue v_depth.toNatClampNeg p2) → (ov_rowFirst = upd v_rowFirst v_depth.toNatClampNeg (-1)) → (ov_rowLast = upd v_rowLast v_depth.toNatClampNeg (-1)) → (ov_rowMany = upd v_rowMany v_depth.toNatClampNeg 0) → (ov_rowsFirst = upd v_rowsFirst v_depth.toNatClampNeg (-1)) → (ov_rowsLast = upd v_rowsLast v_depth.toNatClampNeg (-1)) → (ov_rowsMany = upd v_rowsMany v_depth.toNatClampNeg 0) → Q ov_groupSort ov_groupValue ov_rowFirst ov_rowLast ov_rowMany ov_rowsFirst ov_rowsLast ov_rowsMany) : w_X12_beginGroup p1 p2 v_depth v_groupSort v_groupValue v_rowFirst v_rowLast v_rowMany v_rowsFirst v_rowsLast v_rowsMany Q := by
  have q_t : (bz true).toInt = 1 := rfl
  have q_f : (bz false).toInt = 0 := rfl
  unfold w_X12_beginGroup
  refine ⟨i_in (by omega) (by omega), ?_⟩
  intro g9 eg9
  refine ⟨i_in (by omega) (by omega), ?_⟩
  intro g19 eg19
  refine ⟨i_in (by omega) (by omega), ?_⟩
  intro g29 eg29
  have f1 : (g29 v_depth.toNatClampNeg).toInt = (-1) := i_upd (b := (-1)) eg29 rfl
  have h2 : qp2 (fun k m l => k = v_depth.toInt ∨ (fun k m l => (m = 0) ∨ (0 ≤ l ∧ l ≤ 259)) k m l) v_rowsMany g29 0 12 := qp2_hole2 (P := (fun k m l => (m = 0) ∨ (0 ≤ l ∧ l ≤ 259))) (a := v_depth.toInt) b1 eg29 rfl (by omega)
  have h3 : rp (fun k v => -1 ≤ v ∧ v ≤ 259) g29 0 12 := rp_upd (P := (fun k v => -1 ≤ v ∧ v ≤ 259)) (a := v_depth.toInt) (b := (-1)) b6 eg29 rfl rfl (by omega) ⟨(by omega), (by omega)⟩
  refine ⟨i_in (by omega) (by omega), ?_⟩
  intro g39 eg39
  have f4 : (g39 v_depth.toNatClampNeg).toInt = (-1) := i_upd (b := (-1)) eg39 rfl
  have h5 : qp2 (fun k m l => k = v_depth.toInt ∨ (fun k m l => (m = 0) ∨ (0 ≤ l ∧ l ≤ 259)) k m l) v_rowsMany g39 0 12 := qp2_hole2 (P := (fun k m l => (m = 0) ∨ (0 ≤ l ∧ l ≤ 259))) (a := v_depth.toInt) b3 eg39 rfl (by omega)
  have h6 : rp (fun k v => -1 ≤ v ∧ v ≤ 259) g39 0 12 := rp_upd (P := (fun k v => -1 ≤ v ∧ v ≤ 259)) (a := v_depth.toInt) (b := (-1)) b7 eg39 rfl rfl (by omega) ⟨(by omega), (by omega)⟩
  refine ⟨i_in (by omega) (by omega), ?_⟩
  intro g49 eg49
  have f7 : (g49 v_depth.toNatClampNeg).toInt = 0 := i_upd (b := 0) eg49 rfl
  have h8 : qp2 (fun k m l => k = v_depth.toInt ∨ (fun k m l => (m = 0) ∨ (0 ≤ l ∧ l ≤ 259)) k m l) g49 g29 0 12 := qp2_hh1 (P := (fun k m l => (m = 0) ∨ (0 ≤ l ∧ l ≤ 259))) (a := v_depth.toInt) h2 eg49 rfl (by omega)
  have h9 : qp2 (fun k m l => (m = 0) ∨ (0 ≤ l ∧ l ≤ 259)) g49 g29 0 12 := qp2_fill (P := (fun k m l => (m = 0) ∨ (0 ≤ l ∧ l ≤ 259))) (a := v_depth.toInt) h8 rfl (by omega) (by omega)
  have h10 : qp2 (fun k m l => k = v_depth.toInt ∨ (fun k m l => (m = 0) ∨ (0 ≤ l ∧ l ≤ 259)) k m l) g49 g39 0 12 := qp2_hh1 (P := (fun k m l => (m = 0) ∨ (0 ≤ l ∧ l ≤ 259))) (a := v_depth.toInt) h5 eg49 rfl (by omega)
  have h11 : qp2 (fun k m l => (m = 0) ∨ (0 ≤ l ∧ l ≤ 259)) g49 g39 0 12 := qp2_fill (P := (fun k m l => (m = 0) ∨ (0 ≤ l ∧ l ≤ 259))) (a := v_depth.toInt) h10 rfl (by omega) (by omega)
  have h12 : qp2 (fun k m l => (m = 0) ∨ (0 ≤ l ∧ l ≤ 259)) g49 v_rowsFirst 0 12 := qp2_upd1 (P := (fun k m l => (m = 0) ∨ (0 ≤ l ∧ l ≤ 259))) (a := v_depth.toInt) (b := 0) b1 eg49 rfl rfl (by omega) (by omega)
  have h13 : qp2 (fun k m l => (m = 0) ∨ (0 ≤ l ∧ l ≤ 259)) g49 v_rowsLast 0 12 := qp2_upd1 (P := (fun k m l => (m = 0) ∨ (0 ≤ l ∧ l ≤ 259))) (a := v_depth.toInt) (b := 0) b3 eg49 rfl rfl (by omega) (by omega)
  refine ok_X12_beginRow (by omega) (by omega) (qp2_mono b0 (by omega) (by omega)) (qp2_mono b2 (by omega) (by omega)) (rp_mono b4 (by omega) (by omega)) (rp_mono b5 (by omega) (by omega)) (fun r51_0 r51_1 r51_2 h14 h15 h16 h17 h18 h19 u51_0 u51_1 u51_2 => ?_)
  exact hq g9 g19 r51_0 r51_1 r51_2 g29 g39 g49 (rp_mono h3 (by omega) (by omega)) (rp_mono h6 (by omega) (by omega)) (qp2_mono h9 (by omega) (by omega)) (qp2_mono h11 (by omega) (by omega)) (qp2_mono h12 (by omega) (by omega)) (qp2_mono h13 (by omega) (by omega)) (rp_mono h14 (by omega) (by omega)) (rp_mono h15 (by omega) (by omega)) (qp2_mono h16 (by omega) (by omega)) (qp2_mono h17 (by omega) (by omega)) (qp2_mono h18 (by omega) (by omega)) (qp2_mono h19 (by omega) (by omega)) (by assumption) (by assumption) (by assumption) (by assumption) (by assumption) (by assumption) (by assumption) (by assumption)
set_option maxHeartbeats 4000000 in
theorem ok_X12_holding {p1 : Int32} {p2 : Int32} {p3 : Int32} {v_newNodes : Int32} {v_newSort : Nat → Int32} {v_newValue : Nat → Int32} {v_newLeast : Nat → Int32} {v_newMost : Nat → Int32} {v_newFirst : Nat → Int32} {v_newNext : Nat → Int32} {v_newMany : Nat → Int32} {v_newPart : Nat → Int32} {Q : Int32 → Int32 → (Nat → Int32) → (Nat → Int32) → (Nat → Int32) → (Nat → Int32) → (Nat → Int32) → (Nat → Int32) → (Nat → Int32) → (Nat → Int32) → Prop} (a0 : 0 ≤ v_newNodes.toInt) (a1 : v_newNodes.toInt ≤ 259) (hq : ∀ (r : Int32) (ov_newNodes : Int32) (ov_newSort : Nat → Int32) (ov_newValue : Nat → Int32) (ov_newLeast : Nat → Int32) (ov_newMost : Nat → Int32) (ov_newFirst : Nat → Int32) (ov_newNext : Nat → Int32) (ov_newMany : Nat → Int32) (ov_newPart : Nat → Int32), r.toInt = v_newNodes.toInt → ov_newNodes.toInt = v_newNodes.toInt + 1 → (zNew v_newSort v_newValue v_newLeast v_newMost v_newFirst v_newNext v_newMany v_newPart ov_newSort ov_newValue ov_newLeast ov_newMost ov_newFirst ov_newNext ov_newMany ov_newPart v_newNodes.toInt p1.toInt p2.toInt 0 0 p3.toInt 1 0) → Q r ov_newNodes ov_newSort ov_newValue ov_newLeast ov_newMost ov_newFirst ov_newNext ov_newMany ov_newPart) : w_X12_holding p1 p2 p3 v_newNodes v_newSort v_newValue v_newLeast v_newMost v_newFirst v_newNext v_newMany v_newPart Q := by
  have q_t : (bz true).toInt = 1 := rfl
  have q_f : (bz false).toInt = 0 := rfl
  unfold w_X12_holding
  refine ok_X12_made (by omega) (by omega) (fun r3 r3_0 r3_1 r3_2 r3_3 r3_4 r3_5 r3_6 r3_7 r3_8 f1 f2 u3_0 => ?_)
  refine ⟨i_in (by omega) (by omega), ?_⟩
  intro g15 eg15
  refine ⟨i_in (by omega) (by omega), ?_⟩
  intro g23 eg23
  exact hq r3 r3_0 r3_1 r3_2 r3_3 r3_4 g15 r3_6 g23 r3_8 (by omega) (by omega) (by exact zNew_hold (by omega) (by omega) (by assumption) (by assumption) (by assumption))
set_option maxHeartbeats 4000000 in
theorem ok_X12_addNode {p1 : Int32} {v_depth : Int32} {v_newNext : Nat → Int32} {v_rowFirst : Nat → Int32} {v_rowLast : Nat → Int32} {v_rowMany : Nat → Int32} {v_newSort : Nat → Int32} {v_newValue : Nat → Int32} {v_newLeast : Nat → Int32} {v_newMost : Nat → Int32} {v_newFirst : Nat → Int32} {v_newMany : Nat → Int32} {v_newPart : Nat → Int32} {v_newBegin : Nat → Int32} {v_newEnd : Nat → Int32} {v_rowsFirst : Nat → Int32} {v_rowsLast : Nat → Int32} {v_rowsMany : Nat → Int32} {v_groupSort : Nat → Int32} {v_groupValue : Nat → Int32} {v_fault : Int32} {v_newNodes : Int32} {v_newParts : Int32} {v_newCaptures : Int32} {gi9 : Int} {ga9 : Int} {gw9 : Int} {Q : (Nat → Int32) → (Nat → Int32) → (Nat → Int32) → (Nat → Int32) → Prop} (a0 : 0 ≤ v_depth.toInt) (a1 : v_depth.toInt ≤ 11) (a2 : 0 ≤ p1.toInt) (a3 : p1.toInt ≤ 259) (b0 : qp2 (fun k m l => (m = 0) ∨ (0 ≤ l ∧ l ≤ 259)) v_rowMany v_rowFirst 0 12) (b1 : qp2 (fun k m l => (m = 0) ∨ (0 ≤ l ∧ l ≤ 259)) v_rowMany v_rowLast 0 12) (b2 : rp (fun k v => -1 ≤ v ∧ v ≤ 259) v_rowFirst 0 12) (b3 : rp (fun k v => -1 ≤ v ∧ v ≤ 259) v_rowLast 0 12) (u0 : zRP v_fault.toInt v_newSort v_newValue v_newLeast v_newMost v_newFirst v_newNext v_newMany v_newPart v_newBegin v_newEnd v_rowFirst v_rowLast v_rowMany v_rowsFirst v_rowsLast v_rowsMany v_groupSort v_groupValue v_depth.toInt p1.toInt v_newNodes.toInt v_newParts.toInt v_newCaptures.toInt gi9 ga9 gw9) (u1 : v_newNodes.toInt ≤ 1000) (hq : ∀ (ov_newNext : Nat → Int32) (ov_rowFirst : Nat → Int32) (ov_rowLast : Nat → Int32) (ov_rowMany : Nat → Int32), qp2 (fun k m l => (m = 0) ∨ (0 ≤ l ∧ l ≤ 259)) v_rowMany ov_rowFirst 0 12 → rp (fun k v => -1 ≤ v ∧ v ≤ 259) ov_rowFirst 0 12 → qp2 (fun k m l => (m = 0) ∨ (0 ≤ l ∧ l ≤ 259)) v_rowMany ov_rowLast 0 12 → rp (fun k v => -1 ≤ v ∧ v ≤ 259) ov_rowLast 0 12 → qp2 (fun k m l => (m = 0) ∨ (0 ≤ l ∧ l ≤ 259)) ov_rowMany ov_rowFirst 0 12 → qp2 (fun k m l => (m = 0) ∨ (0 ≤ l ∧ l ≤ 259)) ov_rowMany ov_rowLast 0 12 → (zRS v_fault.toInt v_newSort v_newValue v_newLeast v_newMost v_newFirst ov_newNext v_newMany v_newPart v_newBegin v_newEnd ov_rowFirst ov_rowLast ov_rowMany v_rowsFirst v_rowsLast v_rowsMany v_groupSort v_groupValue v_depth.toInt v_newNodes.toInt v_newParts.toInt v_newCaptures.toInt gi9 ga9 gw9) → Q ov_newNext ov_rowFirst ov_rowLast ov_rowMany) : w_X12_addNode p1 v_depth v_newNext v_rowFirst v_rowLast v_rowMany Q := by
  have q_t : (bz true).toInt = 1 := rfl
  have q_f : (bz false).toInt = 0 := rfl
  unfold w_X12_addNode
  refine ⟨i_in (by omega) (by omega), ?_⟩
  intro x8 ex8
  have f1 : x8.toInt = (v_rowMany v_depth.toNatClampNeg).toInt := congrArg Int32.toInt ex8
  have f2 : (((v_rowMany v_depth.toNatClampNeg).toInt = 0) ∨ (0 ≤ (v_rowFirst v_depth.toNatClampNeg).toInt ∧ (v_rowFirst v_depth.toNatClampNeg).toInt ≤ 259)) := by have h9 := qp2_get (P := (fun k m l => (m = 0) ∨ (0 ≤ l ∧ l ≤ 259))) (a := v_depth.toInt) b0 rfl (by omega) (by omega) (by omega); omega
  have f3 : (((v_rowMany v_depth.toNatClampNeg).toInt = 0) ∨ (0 ≤ (v_rowLast v_depth.toNatClampNeg).toInt ∧ (v_rowLast v_depth.toNatClampNeg).toInt ≤ 259)) := by have h9 := qp2_get (P := (fun k m l => (m = 0) ∨ (0 ≤ l ∧ l ≤ 259))) (a := v_depth.toInt) b1 rfl (by omega) (by omega) (by omega); omega
  have j_40 : ∀ (v_newNext_40 : Nat → Int32) (v_rowFirst_40 : Nat → Int32), ((0 ≤ (v_rowLast v_depth.toNatClampNeg).toInt + 1 ∧ (v_rowLast v_depth.toNatClampNeg).toInt ≤ 259) ∨ (x8.toInt = 0)) → 0 ≤ (v_rowFirst_40 v_depth.toNatClampNeg).toInt → (v_rowFirst_40 v_depth.toNatClampNeg).toInt ≤ 259 → qp2 (fun k m l => (m = 0) ∨ (0 ≤ l ∧ l ≤ 259)) v_rowMany v_rowFirst_40 0 12 → rp (fun k v => -1 ≤ v ∧ v ≤ 259) v_rowFirst_40 0 12 → (zAdj v_rowMany v_rowLast v_rowFirst v_newNext v_rowFirst_40 v_newNext_40 v_depth.toInt p1.toInt) → w_X12_addNode_40 p1 v_depth Q v_newNext_40 v_rowFirst_40 v_rowLast v_rowMany := by
    intro v_newNext_40 v_rowFirst_40 f4 f5 f6 h7 h8 u40_0
    unfold w_X12_addNode_40
    refine ⟨i_in (by omega) (by omega), ?_⟩
    intro g49 eg49
    have f9 : (g49 v_depth.toNatClampNeg).toInt = p1.toInt := i_upd (b := p1.toInt) eg49 rfl
    have h10 : qp2 (fun k m l => (m = 0) ∨ (0 ≤ l ∧ l ≤ 259)) v_rowMany g49 0 12 := qp2_upd2 (P := (fun k m l => (m = 0) ∨ (0 ≤ l ∧ l ≤ 259))) (a := v_depth.toInt) (b := p1.toInt) b1 eg49 rfl rfl (by omega) (by omega)
    have h11 : rp (fun k v => -1 ≤ v ∧ v ≤ 259) g49 0 12 := rp_upd (P := (fun k v => -1 ≤ v ∧ v ≤ 259)) (a := v_depth.toInt) (b := p1.toInt) b3 eg49 rfl rfl (by omega) ⟨(by omega), (by omega)⟩
    refine ⟨i_in (by omega) (by omega), ?_⟩
    intro x59 ex59
    have f12 : x59.toInt = x8.toInt := congrArg Int32.toInt (ex59.trans ex8.symm)
    have f13 : x59.toInt = (v_rowMany v_depth.toNatClampNeg).toInt := congrArg Int32.toInt ex59
    have f14 : (((v_rowMany v_depth.toNatClampNeg).toInt = 0) ∨ (0 ≤ (v_rowFirst v_depth.toNatClampNeg).toInt ∧ (v_rowFirst v_depth.toNatClampNeg).toInt ≤ 259)) := by have h9 := qp2_get (P := (fun k m l => (m = 0) ∨ (0 ≤ l ∧ l ≤ 259))) (a := v_depth.toInt) b0 rfl (by omega) (by omega) (by omega); omega
    have f15 : (((v_rowMany v_depth.toNatClampNeg).toInt = 0) ∨ (0 ≤ (v_rowLast v_depth.toNatClampNeg).toInt ∧ (v_rowLast v_depth.toNatClampNeg).toInt ≤ 259)) := by have h9 := qp2_get (P := (fun k m l => (m = 0) ∨ (0 ≤ l ∧ l ≤ 259))) (a := v_depth.toInt) b1 rfl (by omega) (by omega) (by omega); omega
    have f16 : (((v_rowMany v_depth.toNatClampNeg).toInt = 0) ∨ (0 ≤ (v_rowFirst_40 v_depth.toNatClampNeg).toInt ∧ (v_rowFirst_40 v_depth.toNatClampNeg).toInt ≤ 259)) := by have h9 := qp2_get (P := (fun k m l => (m = 0) ∨ (0 ≤ l ∧ l ≤ 259))) (a := v_depth.toInt) h7 rfl (by omega) (by omega) (by omega); omega
    have f17 : (((v_rowMany v_depth.toNatClampNeg).toInt = 0) ∨ (0 ≤ (g49 v_depth.toNatClampNeg).toInt ∧ (g49 v_depth.toNatClampNeg).toInt ≤ 259)) := by have h9 := qp2_get (P := (fun k m l => (m = 0) ∨ (0 ≤ l ∧ l ≤ 259))) (a := v_depth.toInt) h10 rfl (by omega) (by omega) (by omega); omega
    intro x61 ex61
    refine ⟨i_in (by omega) (by omega), ?_⟩
    intro g62 eg62
    have f18 : (g62 v_depth.toNatClampNeg).toInt = x61.toInt := i_upd (b := x61.toInt) eg62 rfl
    have h19 : qp2 (fun k m l => k = v_depth.toInt ∨ (fun k m l => (m = 0) ∨ (0 ≤ l ∧ l ≤ 259)) k m l) g62 v_rowFirst 0 12 := qp2_hole1 (P := (fun k m l => (m = 0) ∨ (0 ≤ l ∧ l ≤ 259))) (a := v_depth.toInt) b0 eg62 rfl (by omega)
    have h20 : qp2 (fun k m l => k = v_depth.toInt ∨ (fun k m l => (m = 0) ∨ (0 ≤ l ∧ l ≤ 259)) k m l) g62 v_rowLast 0 12 := qp2_hole1 (P := (fun k m l => (m = 0) ∨ (0 ≤ l ∧ l ≤ 259))) (a := v_depth.toInt) b1 eg62 rfl (by omega)
    have h21 : qp2 (fun k m l => (m = 0) ∨ (0 ≤ l ∧ l ≤ 259)) g62 v_rowFirst_40 0 12 := qp2_upd1 (P := (fun k m l => (m = 0) ∨ (0 ≤ l ∧ l ≤ 259))) (a := v_depth.toInt) (b := x61.toInt) h7 eg62 rfl rfl (by omega) (by omega)
    have h22 : qp2 (fun k m l => (m = 0) ∨ (0 ≤ l ∧ l ≤ 259)) g62 g49 0 12 := qp2_upd1 (P := (fun k m l => (m = 0) ∨ (0 ≤ l ∧ l ≤ 259))) (a := v_depth.toInt) (b := x61.toInt) h10 eg62 rfl rfl (by omega) (by omega)
    exact hq v_newNext_40 v_rowFirst_40 g49 g62 (qp2_mono h7 (by omega) (by omega)) (rp_mono h8 (by omega) (by omega)) (qp2_mono h10 (by omega) (by omega)) (rp_mono h11 (by omega) (by omega)) (qp2_mono h21 (by omega) (by omega)) (qp2_mono h22 (by omega) (by omega)) (by exact zRS_add u0 u40_0 (by assumption) (by assumption) (by assumption) (by assumption) (by omega) (by omega))
  refine ⟨fun c9 => ?_, fun c9 => ?_⟩
  · have f23 : x8.toInt ≠ 0 := i_ne (a := x8.toInt) (b := 0) rfl rfl c9
    refine ⟨i_in (by omega) (by omega), ?_⟩
    intro x37 ex37
    have f24 : x37.toInt = (v_rowLast v_depth.toNatClampNeg).toInt := congrArg Int32.toInt ex37
    have f25 : (((v_rowMany v_depth.toNatClampNeg).toInt = 0) ∨ (0 ≤ (v_rowLast v_depth.toNatClampNeg).toInt ∧ (v_rowLast v_depth.toNatClampNeg).toInt ≤ 259)) := by have h9 := qp2_get (P := (fun k m l => (m = 0) ∨ (0 ≤ l ∧ l ≤ 259))) (a := v_depth.toInt) b1 rfl (by omega) (by omega) (by omega); omega
    have f26 : 0 ≤ x37.toInt + 1 ∧ x37.toInt ≤ 259 := by have h9 := rp_get (P := (fun k v => -1 ≤ v ∧ v ≤ 259)) (a := v_depth.toInt) b3 ex37 rfl (by omega) (by omega) (by omega); omega
    refine ⟨i_in (by omega) (by omega), ?_⟩
    intro g39 eg39
    exact j_40 g39 v_rowFirst (by omega) (by omega) (by omega) (qp2_mono b0 (by omega) (by omega)) (rp_mono b2 (by omega) (by omega)) (by first | exact zAdj_a (by omega) (by assumption) (by omega) (by assumption) | exact zAdj_b (by assumption) (by omega) (by assumption) (by omega) (by assumption))
  · have f27 : x8.toInt = 0 := i_eq (a := x8.toInt) (b := 0) rfl rfl c9
    refine ⟨i_in (by omega) (by omega), ?_⟩
    intro g21 eg21
    have f28 : (g21 v_depth.toNatClampNeg).toInt = p1.toInt := i_upd (b := p1.toInt) eg21 rfl
    have h29 : qp2 (fun k m l => (m = 0) ∨ (0 ≤ l ∧ l ≤ 259)) v_rowMany g21 0 12 := qp2_upd2 (P := (fun k m l => (m = 0) ∨ (0 ≤ l ∧ l ≤ 259))) (a := v_depth.toInt) (b := p1.toInt) b0 eg21 rfl rfl (by omega) (by omega)
    have h30 : rp (fun k v => -1 ≤ v ∧ v ≤ 259) g21 0 12 := rp_upd (P := (fun k v => -1 ≤ v ∧ v ≤ 259)) (a := v_depth.toInt) (b := p1.toInt) b2 eg21 rfl rfl (by omega) ⟨(by omega), (by omega)⟩
    exact j_40 v_newNext g21 (by omega) (by omega) (by omega) (qp2_mono h29 (by omega) (by omega)) (rp_mono h30 (by omega) (by omega)) (by first | exact zAdj_a (by omega) (by assumption) (by omega) (by assumption) | exact zAdj_b (by assumption) (by omega) (by assumption) (by omega) (by assumption))
set_option maxHeartbeats 4000000 in
theorem ok_X12_closeRow {v_newNodes : Int32} {v_depth : Int32} {v_newSort : Nat → Int32} {v_newValue : Nat → Int32} {v_newLeast : Nat → Int32} {v_newMost : Nat → Int32} {v_newFirst : Nat → Int32} {v_newNext : Nat → Int32} {v_newMany : Nat → Int32} {v_newPart : Nat → Int32} {v_rowFirst : Nat → Int32} {v_rowLast : Nat → Int32} {v_rowMany : Nat → Int32} {v_rowsFirst : Nat → Int32} {v_rowsLast : Nat → Int32} {v_rowsMany : Nat → Int32} {v_newBegin : Nat → Int32} {v_newEnd : Nat → Int32} {v_groupSort : Nat → Int32} {v_groupValue : Nat → Int32} {v_fault : Int32} {v_newParts : Int32} {v_newCaptures : Int32} {gi9 : Int} {ga9 : Int} {gw9 : Int} {Q : Int32 → (Nat → Int32) → (Nat → Int32) → (Nat → Int32) → (Nat → Int32) → (Nat → Int32) → (Nat → Int32) → (Nat → Int32) → (Nat → Int32) → (Nat → Int32) → (Nat → Int32) → (Nat → Int32) → (Nat → Int32) → (Nat → Int32) → (Nat → Int32) → Prop} (a0 : 0 ≤ v_depth.toInt) (a1 : v_depth.toInt ≤ 11) (a2 : 0 ≤ v_newNodes.toInt) (a3 : v_newNodes.toInt ≤ 258) (b0 : qp2 (fun k m l => (m = 0) ∨ (0 ≤ l ∧ l ≤ 259)) v_rowMany v_rowFirst 0 12) (b1 : qp2 (fun k m l => (m = 0) ∨ (0 ≤ l ∧ l ≤ 259)) v_rowsMany v_rowsFirst 0 12) (b2 : qp2 (fun k m l => (m = 0) ∨ (0 ≤ l ∧ l ≤ 259)) v_rowMany v_rowLast 0 12) (b3 : qp2 (fun k m l => (m = 0) ∨ (0 ≤ l ∧ l ≤ 259)) v_rowsMany v_rowsLast 0 12) (b4 : rp (fun k v => -1 ≤ v ∧ v ≤ 259) v_rowFirst 0 12) (b5 : rp (fun k v => -1 ≤ v ∧ v ≤ 259) v_rowLast 0 12) (b6 : rp (fun k v => -1 ≤ v ∧ v ≤ 259) v_rowsFirst 0 12) (b7 : rp (fun k v => -1 ≤ v ∧ v ≤ 259) v_rowsLast 0 12) (u0 : zRS v_fault.toInt v_newSort v_newValue v_newLeast v_newMost v_newFirst v_newNext v_newMany v_newPart v_newBegin v_newEnd v_rowFirst v_rowLast v_rowMany v_rowsFirst v_rowsLast v_rowsMany v_groupSort v_groupValue v_depth.toInt v_newNodes.toInt v_newParts.toInt v_newCaptures.toInt gi9 ga9 gw9) (hq : ∀ (ov_newNodes : Int32) (ov_newSort : Nat → Int32) (ov_newValue : Nat → Int32) (ov_newLeast : Nat → Int32) (ov_newMost : Nat → Int32) (ov_newFirst : Nat → Int32) (ov_newNext : Nat → Int32) (ov_newMany : Nat → Int32) (ov_newPart : Nat → Int32) (ov_rowFirst : Nat → Int32) (ov_rowLast : Nat → Int32) (ov_rowMany : Nat → Int32) (ov_rowsFirst : Nat → Int32) (ov_rowsLast : Nat → Int32) (ov_rowsMany : Nat → Int32), v_newNodes.toInt ≤ ov_newNodes.toInt → ov_newNodes.toInt ≤ v_newNodes.toInt + 1 → qp2 (fun k m l => (m = 0) ∨ (0 ≤ l ∧ l ≤ 259)) v_rowsMany ov_rowsFirst 0 12 → rp (fun k v => -1 ≤ v ∧ v ≤ 259) ov_rowsFirst 0 12 → qp2 (fun k m l => (m = 0) ∨ (0 ≤ l ∧ l ≤ 259)) v_rowsMany ov_rowsLast 0 12 → rp (fun k v => -1 ≤ v ∧ v ≤ 259) ov_rowsLast 0 12 → qp2 (fun k m l => (m = 0) ∨ (0 ≤ l ∧ l ≤ 259)) ov_rowsMany ov_rowsFirst 0 12 → qp2 (fun k m l => (m = 0) ∨ (0 ≤ l ∧ l ≤ 259)) ov_rowsMany ov_rowsLast 0 12 → rp (fun k v => -1 ≤ v ∧ v ≤ 259) ov_rowFirst 0 12 → rp (fun k v => -1 ≤ v ∧ v ≤ 259) ov_rowLast 0 12 → qp2 (fun k m l => (m = 0) ∨ (0 ≤ l ∧ l ≤ 259)) ov_rowMany ov_rowFirst 0 12 → qp2 (fun k m l => (m = 0) ∨ (0 ≤ l ∧ l ≤ 259)) ov_rowMany ov_rowLast 0 12 → qp2 (fun k m l => (m = 0) ∨ (0 ≤ l ∧ l ≤ 259)) ov_rowMany v_rowFirst 0 12 → qp2 (fun k m l => (m = 0) ∨ (0 ≤ l ∧ l ≤ 259)) ov_rowMany v_rowLast 0 12 → (zRC v_fault.toInt ov_newSort ov_newValue ov_newLeast ov_newMost ov_newFirst ov_newNext ov_newMany ov_newPart v_newBegin v_newEnd ov_rowFirst ov_rowLast ov_rowMany ov_rowsFirst ov_rowsLast ov_rowsMany v_groupSort v_groupValue v_depth.toInt ov_newNodes.toInt v_newParts.toInt v_newCaptures.toInt gi9 ga9 (gw9 + 12)) → Q ov_newNodes ov_newSort ov_newValue ov_newLeast ov_newMost ov_newFirst ov_newNext ov_newMany ov_newPart ov_rowFirst ov_rowLast ov_rowMany ov_rowsFirst ov_rowsLast ov_rowsMany) : w_X12_closeRow v_newNodes v_depth v_newSort v_newValue v_newLeast v_newMost v_newFirst v_newNext v_newMany v_newPart v_rowFirst v_rowLast v_rowMany v_rowsFirst v_rowsLast v_rowsMany Q := by
  have q_t : (bz true).toInt = 1 := rfl
  have q_f : (bz false).toInt = 0 := rfl
  have q_0 : (0 : Int32).toInt = 0 := rfl
  have q_5 : (5 : Int32).toInt = 5 := rfl
  unfold w_X12_closeRow
  refine ⟨i_in (by omega) (by omega), ?_⟩
  intro x8 ex8
  have f1 : x8.toInt = (v_rowFirst v_depth.toNatClampNeg).toInt := congrArg Int32.toInt ex8
  have f2 : (((v_rowMany v_depth.toNatClampNeg).toInt = 0) ∨ (0 ≤ (v_rowFirst v_depth.toNatClampNeg).toInt ∧ (v_rowFirst v_depth.toNatClampNeg).toInt ≤ 259)) := by have h9 := qp2_get (P := (fun k m l => (m = 0) ∨ (0 ≤ l ∧ l ≤ 259))) (a := v_depth.toInt) b0 rfl (by omega) (by omega) (by omega); omega
  have f3 : 0 ≤ x8.toInt + 1 ∧ x8.toInt ≤ 259 := by have h9 := rp_get (P := (fun k v => -1 ≤ v ∧ v ≤ 259)) (a := v_depth.toInt) b4 ex8 rfl (by omega) (by omega) (by omega); omega
  refine ⟨i_in (by omega) (by omega), ?_⟩
  intro x18 ex18
  have f4 : x18.toInt = (v_rowMany v_depth.toNatClampNeg).toInt := congrArg Int32.toInt ex18
  have f5 : (((v_rowMany v_depth.toNatClampNeg).toInt = 0) ∨ (0 ≤ (v_rowFirst v_depth.toNatClampNeg).toInt ∧ (v_rowFirst v_depth.toNatClampNeg).toInt ≤ 259)) := by have h9 := qp2_get (P := (fun k m l => (m = 0) ∨ (0 ≤ l ∧ l ≤ 259))) (a := v_depth.toInt) b0 rfl (by omega) (by omega) (by omega); omega
  have f6 : (((v_rowMany v_depth.toNatClampNeg).toInt = 0) ∨ (0 ≤ (v_rowLast v_depth.toNatClampNeg).toInt ∧ (v_rowLast v_depth.toNatClampNeg).toInt ≤ 259)) := by have h9 := qp2_get (P := (fun k m l => (m = 0) ∨ (0 ≤ l ∧ l ≤ 259))) (a := v_depth.toInt) b2 rfl (by omega) (by omega) (by omega); omega
  have j_60 : ∀ (l1_60 : Int32) (v_newNodes_60 : Int32) (v_newSort_60 : Nat → Int32) (v_newValue_60 : Nat → Int32) (v_newLeast_60 : Nat → Int32) (v_newMost_60 : Nat → Int32) (v_newFirst_60 : Nat → Int32) (v_newNext_60 : Nat → Int32) (v_newMany_60 : Nat → Int32) (v_newPart_60 : Nat → Int32), v_newNodes.toInt ≤ v_newNodes_60.toInt → v_newNodes_60.toInt ≤ v_newNodes.toInt + 1 → ((l1_60.toInt = x8.toInt ∧ v_newNodes_60.toInt = v_newNodes.toInt ∧ x18.toInt = 1) ∨ (l1_60.toInt = v_newNodes.toInt ∧ v_newNodes_60.toInt = v_newNodes.toInt + 1 ∧ x8.toInt = (v_rowFirst v_depth.toNatClampNeg).toInt ∧ 0 ≤ x8.toInt + 1 ∧ x8.toInt ≤ 259 ∧ x18.toInt = (v_rowMany v_depth.toNatClampNeg).toInt)) → (zCr v_newSort v_newValue v_newLeast v_newMost v_newFirst v_newNext v_newMany v_newPart v_newSort_60 v_newValue_60 v_newLeast_60 v_newMost_60 v_newFirst_60 v_newNext_60 v_newMany_60 v_newPart_60 v_rowFirst v_rowMany v_depth.toInt l1_60.toInt v_newNodes.toInt v_newNodes_60.toInt) → w_X12_closeRow_60 v_depth Q l1_60 v_newNodes_60 v_newSort_60 v_newValue_60 v_newLeast_60 v_newMost_60 v_newFirst_60 v_newNext_60 v_newMany_60 v_newPart_60 v_rowFirst v_rowLast v_rowMany v_rowsFirst v_rowsLast v_rowsMany := by
    intro l1_60 v_newNodes_60 v_newSort_60 v_newValue_60 v_newLeast_60 v_newMost_60 v_newFirst_60 v_newNext_60 v_newMany_60 v_newPart_60 f7 f8 f9 u60_0
    unfold w_X12_closeRow_60
    refine ⟨i_in (by omega) (by omega), ?_⟩
    intro x68 ex68
    have f10 : x68.toInt = (v_rowsMany v_depth.toNatClampNeg).toInt := congrArg Int32.toInt ex68
    have f11 : (((v_rowsMany v_depth.toNatClampNeg).toInt = 0) ∨ (0 ≤ (v_rowsFirst v_depth.toNatClampNeg).toInt ∧ (v_rowsFirst v_depth.toNatClampNeg).toInt ≤ 259)) := by have h9 := qp2_get (P := (fun k m l => (m = 0) ∨ (0 ≤ l ∧ l ≤ 259))) (a := v_depth.toInt) b1 rfl (by omega) (by omega) (by omega); omega
    have f12 : (((v_rowsMany v_depth.toNatClampNeg).toInt = 0) ∨ (0 ≤ (v_rowsLast v_depth.toNatClampNeg).toInt ∧ (v_rowsLast v_depth.toNatClampNeg).toInt ≤ 259)) := by have h9 := qp2_get (P := (fun k m l => (m = 0) ∨ (0 ≤ l ∧ l ≤ 259))) (a := v_depth.toInt) b3 rfl (by omega) (by omega) (by omega); omega
    have j_100 : ∀ (v_newNext_100 : Nat → Int32) (v_rowsFirst_100 : Nat → Int32), ((0 ≤ (v_rowsLast v_depth.toNatClampNeg).toInt + 1 ∧ (v_rowsLast v_depth.toNatClampNeg).toInt ≤ 259) ∨ (x68.toInt = 0)) → 0 ≤ (v_rowsFirst_100 v_depth.toNatClampNeg).toInt → (v_rowsFirst_100 v_depth.toNatClampNeg).toInt ≤ 259 → qp2 (fun k m l => (m = 0) ∨ (0 ≤ l ∧ l ≤ 259)) v_rowsMany v_rowsFirst_100 0 12 → rp (fun k v => -1 ≤ v ∧ v ≤ 259) v_rowsFirst_100 0 12 → (zAdj v_rowsMany v_rowsLast v_rowsFirst v_newNext_60 v_rowsFirst_100 v_newNext_100 v_depth.toInt l1_60.toInt) → w_X12_closeRow_100 v_depth Q l1_60 v_newNodes_60 v_newSort_60 v_newValue_60 v_newLeast_60 v_newMost_60 v_newFirst_60 v_newNext_100 v_newMany_60 v_newPart_60 v_rowFirst v_rowLast v_rowMany v_rowsFirst_100 v_rowsLast v_rowsMany := by
      intro v_newNext_100 v_rowsFirst_100 f13 f14 f15 h16 h17 u100_0
      unfold w_X12_closeRow_100
      refine ⟨i_in (by omega) (by omega), ?_⟩
      intro g109 eg109
      have f18 : (g109 v_depth.toNatClampNeg).toInt = l1_60.toInt := i_upd (b := l1_60.toInt) eg109 rfl
      have h19 : qp2 (fun k m l => (m = 0) ∨ (0 ≤ l ∧ l ≤ 259)) v_rowsMany g109 0 12 := qp2_upd2 (P := (fun k m l => (m = 0) ∨ (0 ≤ l ∧ l ≤ 259))) (a := v_depth.toInt) (b := l1_60.toInt) b3 eg109 rfl rfl (by omega) (by omega)
      have h20 : rp (fun k v => -1 ≤ v ∧ v ≤ 259) g109 0 12 := rp_upd (P := (fun k v => -1 ≤ v ∧ v ≤ 259)) (a := v_depth.toInt) (b := l1_60.toInt) b7 eg109 rfl rfl (by omega) ⟨(by omega), (by omega)⟩
      refine ⟨i_in (by omega) (by omega), ?_⟩
      intro x119 ex119
      have f21 : x119.toInt = x68.toInt := congrArg Int32.toInt (ex119.trans ex68.symm)
      have f22 : x119.toInt = (v_rowsMany v_depth.toNatClampNeg).toInt := congrArg Int32.toInt ex119
      have f23 : (((v_rowsMany v_depth.toNatClampNeg).toInt = 0) ∨ (0 ≤ (v_rowsFirst v_depth.toNatClampNeg).toInt ∧ (v_rowsFirst v_depth.toNatClampNeg).toInt ≤ 259)) := by have h9 := qp2_get (P := (fun k m l => (m = 0) ∨ (0 ≤ l ∧ l ≤ 259))) (a := v_depth.toInt) b1 rfl (by omega) (by omega) (by omega); omega
      have f24 : (((v_rowsMany v_depth.toNatClampNeg).toInt = 0) ∨ (0 ≤ (v_rowsLast v_depth.toNatClampNeg).toInt ∧ (v_rowsLast v_depth.toNatClampNeg).toInt ≤ 259)) := by have h9 := qp2_get (P := (fun k m l => (m = 0) ∨ (0 ≤ l ∧ l ≤ 259))) (a := v_depth.toInt) b3 rfl (by omega) (by omega) (by omega); omega
      have f25 : (((v_rowsMany v_depth.toNatClampNeg).toInt = 0) ∨ (0 ≤ (v_rowsFirst_100 v_depth.toNatClampNeg).toInt ∧ (v_rowsFirst_100 v_depth.toNatClampNeg).toInt ≤ 259)) := by have h9 := qp2_get (P := (fun k m l => (m = 0) ∨ (0 ≤ l ∧ l ≤ 259))) (a := v_depth.toInt) h16 rfl (by omega) (by omega) (by omega); omega
      have f26 : (((v_rowsMany v_depth.toNatClampNeg).toInt = 0) ∨ (0 ≤ (g109 v_depth.toNatClampNeg).toInt ∧ (g109 v_depth.toNatClampNeg).toInt ≤ 259)) := by have h9 := qp2_get (P := (fun k m l => (m = 0) ∨ (0 ≤ l ∧ l ≤ 259))) (a := v_depth.toInt) h19 rfl (by omega) (by omega) (by omega); omega
      intro x121 ex121
      refine ⟨i_in (by omega) (by omega), ?_⟩
      intro g122 eg122
      have f27 : (g122 v_depth.toNatClampNeg).toInt = x121.toInt := i_upd (b := x121.toInt) eg122 rfl
      have h28 : qp2 (fun k m l => k = v_depth.toInt ∨ (fun k m l => (m = 0) ∨ (0 ≤ l ∧ l ≤ 259)) k m l) g122 v_rowsFirst 0 12 := qp2_hole1 (P := (fun k m l => (m = 0) ∨ (0 ≤ l ∧ l ≤ 259))) (a := v_depth.toInt) b1 eg122 rfl (by omega)
      have h29 : qp2 (fun k m l => k = v_depth.toInt ∨ (fun k m l => (m = 0) ∨ (0 ≤ l ∧ l ≤ 259)) k m l) g122 v_rowsLast 0 12 := qp2_hole1 (P := (fun k m l => (m = 0) ∨ (0 ≤ l ∧ l ≤ 259))) (a := v_depth.toInt) b3 eg122 rfl (by omega)
      have h30 : qp2 (fun k m l => (m = 0) ∨ (0 ≤ l ∧ l ≤ 259)) g122 v_rowsFirst_100 0 12 := qp2_upd1 (P := (fun k m l => (m = 0) ∨ (0 ≤ l ∧ l ≤ 259))) (a := v_depth.toInt) (b := x121.toInt) h16 eg122 rfl rfl (by omega) (by omega)
      have h31 : qp2 (fun k m l => (m = 0) ∨ (0 ≤ l ∧ l ≤ 259)) g122 g109 0 12 := qp2_upd1 (P := (fun k m l => (m = 0) ∨ (0 ≤ l ∧ l ≤ 259))) (a := v_depth.toInt) (b := x121.toInt) h19 eg122 rfl rfl (by omega) (by omega)
      refine ok_X12_beginRow (by omega) (by omega) (qp2_mono b0 (by omega) (by omega)) (qp2_mono b2 (by omega) (by omega)) (rp_mono b4 (by omega) (by omega)) (rp_mono b5 (by omega) (by omega)) (fun r124_0 r124_1 r124_2 h32 h33 h34 h35 h36 h37 u124_0 u124_1 u124_2 => ?_)
      exact hq v_newNodes_60 v_newSort_60 v_newValue_60 v_newLeast_60 v_newMost_60 v_newFirst_60 v_newNext_100 v_newMany_60 v_newPart_60 r124_0 r124_1 r124_2 v_rowsFirst_100 g109 g122 (by omega) (by omega) (qp2_mono h16 (by omega) (by omega)) (rp_mono h17 (by omega) (by omega)) (qp2_mono h19 (by omega) (by omega)) (rp_mono h20 (by omega) (by omega)) (qp2_mono h30 (by omega) (by omega)) (qp2_mono h31 (by omega) (by omega)) (rp_mono h32 (by omega) (by omega)) (rp_mono h33 (by omega) (by omega)) (qp2_mono h34 (by omega) (by omega)) (qp2_mono h35 (by omega) (by omega)) (qp2_mono h36 (by omega) (by omega)) (qp2_mono h37 (by omega) (by omega)) (by exact zRC_close u0 u60_0 u100_0 (by assumption) (by assumption) (by assumption) (by assumption) (by assumption) (by assumption) (by assumption) (by omega) (by omega))
    refine ⟨fun c69 => ?_, fun c69 => ?_⟩
    · have f38 : x68.toInt ≠ 0 := i_ne (a := x68.toInt) (b := 0) rfl rfl c69
      refine ⟨i_in (by omega) (by omega), ?_⟩
      intro x97 ex97
      have f39 : x97.toInt = (v_rowsLast v_depth.toNatClampNeg).toInt := congrArg Int32.toInt ex97
      have f40 : (((v_rowsMany v_depth.toNatClampNeg).toInt = 0) ∨ (0 ≤ (v_rowsLast v_depth.toNatClampNeg).toInt ∧ (v_rowsLast v_depth.toNatClampNeg).toInt ≤ 259)) := by have h9 := qp2_get (P := (fun k m l => (m = 0) ∨ (0 ≤ l ∧ l ≤ 259))) (a := v_depth.toInt) b3 rfl (by omega) (by omega) (by omega); omega
      have f41 : 0 ≤ x97.toInt + 1 ∧ x97.toInt ≤ 259 := by have h9 := rp_get (P := (fun k v => -1 ≤ v ∧ v ≤ 259)) (a := v_depth.toInt) b7 ex97 rfl (by omega) (by omega) (by omega); omega
      refine ⟨i_in (by omega) (by omega), ?_⟩
      intro g99 eg99
      exact j_100 g99 v_rowsFirst (by omega) (by omega) (by omega) (qp2_mono b1 (by omega) (by omega)) (rp_mono b6 (by omega) (by omega)) (by first | exact zAdj_a (by omega) (by assumption) (by omega) (by assumption) | exact zAdj_b (by assumption) (by omega) (by assumption) (by omega) (by assumption))
    · have f42 : x68.toInt = 0 := i_eq (a := x68.toInt) (b := 0) rfl rfl c69
      refine ⟨i_in (by omega) (by omega), ?_⟩
      intro g81 eg81
      have f43 : (g81 v_depth.toNatClampNeg).toInt = l1_60.toInt := i_upd (b := l1_60.toInt) eg81 rfl
      have h44 : qp2 (fun k m l => (m = 0) ∨ (0 ≤ l ∧ l ≤ 259)) v_rowsMany g81 0 12 := qp2_upd2 (P := (fun k m l => (m = 0) ∨ (0 ≤ l ∧ l ≤ 259))) (a := v_depth.toInt) (b := l1_60.toInt) b1 eg81 rfl rfl (by omega) (by omega)
      have h45 : rp (fun k v => -1 ≤ v ∧ v ≤ 259) g81 0 12 := rp_upd (P := (fun k v => -1 ≤ v ∧ v ≤ 259)) (a := v_depth.toInt) (b := l1_60.toInt) b6 eg81 rfl rfl (by omega) ⟨(by omega), (by omega)⟩
      exact j_100 v_newNext_60 g81 (by omega) (by omega) (by omega) (qp2_mono h44 (by omega) (by omega)) (rp_mono h45 (by omega) (by omega)) (by first | exact zAdj_a (by omega) (by assumption) (by omega) (by assumption) | exact zAdj_b (by assumption) (by omega) (by assumption) (by omega) (by assumption))
  refine ⟨fun c20 => ?_, fun c20 => ?_⟩
  · have f46 : x18.toInt = 1 := i_eq (a := x18.toInt) (b := 1) rfl rfl c20
    exact j_60 x8 v_newNodes v_newSort v_newValue v_newLeast v_newMost v_newFirst v_newNext v_newMany v_newPart (by omega) (by omega) (by omega) (by first | exact zCr_a (by assumption) (by omega) (by assumption) | exact zCr_b (by omega) (by omega) (by assumption) (by omega) (by assumption) (by assumption) (by assumption) (by assumption) (by assumption) (by omega))
  · have f47 : x18.toInt ≠ 1 := i_ne (a := x18.toInt) (b := 1) rfl rfl c20
    refine ok_X12_made (by omega) (by omega) (fun r26 r26_0 r26_1 r26_2 r26_3 r26_4 r26_5 r26_6 r26_7 r26_8 f48 f49 u26_0 => ?_)
    refine ⟨i_in (by omega) (by omega), ?_⟩
    intro x43 ex43
    have f50 : x43.toInt = x8.toInt := congrArg Int32.toInt (ex43.trans ex8.symm)
    have f51 : x43.toInt = (v_rowFirst v_depth.toNatClampNeg).toInt := congrArg Int32.toInt ex43
    have f52 : (((v_rowMany v_depth.toNatClampNeg).toInt = 0) ∨ (0 ≤ (v_rowFirst v_depth.toNatClampNeg).toInt ∧ (v_rowFirst v_depth.toNatClampNeg).toInt ≤ 259)) := by have h9 := qp2_get (P := (fun k m l => (m = 0) ∨ (0 ≤ l ∧ l ≤ 259))) (a := v_depth.toInt) b0 rfl (by omega) (by omega) (by omega); omega
    have f53 : 0 ≤ x43.toInt + 1 ∧ x43.toInt ≤ 259 := by have h9 := rp_get (P := (fun k v => -1 ≤ v ∧ v ≤ 259)) (a := v_depth.toInt) b4 ex43 rfl (by omega) (by omega) (by omega); omega
    refine ⟨i_in (by omega) (by omega), ?_⟩
    intro g44 eg44
    refine ⟨i_in (by omega) (by omega), ?_⟩
    intro x58 ex58
    have f54 : x58.toInt = x18.toInt := congrArg Int32.toInt (ex58.trans ex18.symm)
    have f55 : x58.toInt = (v_rowMany v_depth.toNatClampNeg).toInt := congrArg Int32.toInt ex58
    have f56 : (((v_rowMany v_depth.toNatClampNeg).toInt = 0) ∨ (0 ≤ (v_rowFirst v_depth.toNatClampNeg).toInt ∧ (v_rowFirst v_depth.toNatClampNeg).toInt ≤ 259)) := by have h9 := qp2_get (P := (fun k m l => (m = 0) ∨ (0 ≤ l ∧ l ≤ 259))) (a := v_depth.toInt) b0 rfl (by omega) (by omega) (by omega); omega
    have f57 : (((v_rowMany v_depth.toNatClampNeg).toInt = 0) ∨ (0 ≤ (v_rowLast v_depth.toNatClampNeg).toInt ∧ (v_rowLast v_depth.toNatClampNeg).toInt ≤ 259)) := by have h9 := qp2_get (P := (fun k m l => (m = 0) ∨ (0 ≤ l ∧ l ≤ 259))) (a := v_depth.toInt) b2 rfl (by omega) (by omega) (by omega); omega
    refine ⟨i_in (by omega) (by omega), ?_⟩
    intro g59 eg59
    exact j_60 r26 r26_0 r26_1 r26_2 r26_3 r26_4 g44 r26_6 g59 r26_8 (by omega) (by omega) (by omega) (by first | exact zCr_a (by assumption) (by omega) (by assumption) | exact zCr_b (by omega) (by omega) (by assumption) (by omega) (by assumption) (by assumption) (by assumption) (by assumption) (by assumption) (by omega))
