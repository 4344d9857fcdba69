set_option maxHeartbeats 4000000 in
theorem ok_X12_in {p0 : Int32} {p1 : Int32} {p2 : Int32} {Q : Int32 → Prop} (hq : ∀ (r : Int32), 0 ≤ r.toInt → r.toInt ≤ 1 → ((r.toInt = 0) ∨ (p1.toInt ≤ p0.toInt)) → ((r.toInt = 0) ∨ (p0.toInt ≤ p2.toInt)) → ((r.toInt = 1 ∧ p1.toInt ≤ p0.toInt ∧ p0.toInt ≤ p2.toInt) ∨ (r.toInt = 0)) → Q r) : w_X12_in p0 p1 p2 Q := by
  have q_t : (bz true).toInt = 1 := rfl
  have q_f : (bz false).toInt = 0 := rfl
  have q_0 : (0 : Int32).toInt = 0 := rfl
  have q_1 : (1 : Int32).toInt = 1 := rfl
  unfold w_X12_in
  have j_15 : ∀ (s0_15 : Int32), 0 ≤ s0_15.toInt → s0_15.toInt ≤ 1 → ((s0_15.toInt = 0) ∨ (p1.toInt ≤ p0.toInt)) → ((s0_15.toInt = 0) ∨ (p0.toInt ≤ p2.toInt)) → ((s0_15.toInt = 1 ∧ p1.toInt ≤ p0.toInt ∧ p0.toInt ≤ p2.toInt) ∨ (s0_15.toInt = 0)) → w_X12_in_15 Q s0_15 := by
    intro s0_15 f1 f2 f3 f4 f5
    unfold w_X12_in_15
    refine ⟨i_01 (by omega) (by omega), ?_⟩
    exact hq s0_15 (by omega) (by omega) (by omega) (by omega) (by omega)
  have j_14 : ((p0.toInt + 1 ≤ p1.toInt) ∨ (p1.toInt ≤ p0.toInt ∧ p2.toInt + 1 ≤ p0.toInt)) → w_X12_in_14 Q := by
    intro f6
    unfold w_X12_in_14
    exact j_15 0 (by omega) (by omega) (by omega) (by omega) (by omega)
  refine ⟨fun c2 => ?_, fun c2 => ?_⟩
  · have f7 : p0.toInt < p1.toInt := i_lt (a := p0.toInt) (b := p1.toInt) rfl rfl c2
    exact j_14  (by omega)
  · have f8 : p1.toInt ≤ p0.toInt := i_nlt (a := p0.toInt) (b := p1.toInt) rfl rfl c2
    refine ⟨fun c7 => ?_, fun c7 => ?_⟩
    · have f9 : p2.toInt < p0.toInt := i_lt (a := p2.toInt) (b := p0.toInt) rfl rfl c7
      exact j_14  (by omega)
    · have f10 : p0.toInt ≤ p2.toInt := i_nlt (a := p2.toInt) (b := p0.toInt) rfl rfl c7
      exact j_15 1 (by omega) (by omega) (by omega) (by omega) (by omega)
set_option maxHeartbeats 4000000 in
theorem ok_X12_isDigit {p0 : Int32} {Q : Int32 → Prop} (hq : ∀ (r : Int32), 0 ≤ r.toInt → r.toInt ≤ 1 → ((r.toInt = 0) ∨ (48 ≤ p0.toInt)) → ((r.toInt = 0) ∨ (p0.toInt ≤ 57)) → ((r.toInt = 1 ∧ 48 ≤ p0.toInt ∧ p0.toInt ≤ 57) ∨ (r.toInt = 0)) → Q r) : w_X12_isDigit p0 Q := by
  have q_t : (bz true).toInt = 1 := rfl
  have q_f : (bz false).toInt = 0 := rfl
  have q_48 : (48 : Int32).toInt = 48 := rfl
  have q_57 : (57 : Int32).toInt = 57 := rfl
  unfold w_X12_isDigit
  refine ok_X12_in  (fun r5 f1 f2 f3 f4 f5 => ?_)
  refine ⟨i_01 (by omega) (by omega), ?_⟩
  exact hq r5 (by omega) (by omega) (by omega) (by omega) (by omega)
set_option maxHeartbeats 4000000 in
theorem ok_X12_isLetter {p0 : Int32} {Q : Int32 → Prop} (hq : ∀ (r : Int32), 0 ≤ r.toInt → r.toInt ≤ 1 → ((r.toInt = 0) ∨ (65 ≤ p0.toInt)) → ((r.toInt = 0) ∨ (p0.toInt ≤ 122)) → Q r) : w_X12_isLetter p0 Q := by
  have q_t : (bz true).toInt = 1 := rfl
  have q_f : (bz false).toInt = 0 := rfl
  have q_0 : (0 : Int32).toInt = 0 := rfl
  have q_1 : (1 : Int32).toInt = 1 := rfl
  have q_65 : (65 : Int32).toInt = 65 := rfl
  have q_90 : (90 : Int32).toInt = 90 := rfl
  have q_97 : (97 : Int32).toInt = 97 := rfl
  have q_122 : (122 : Int32).toInt = 122 := rfl
  unfold w_X12_isLetter
  refine ok_X12_in  (fun r5 f1 f2 f3 f4 f5 => ?_)
  have j_27 : ∀ (s0_27 : Int32), 0 ≤ s0_27.toInt → s0_27.toInt ≤ 1 → ((s0_27.toInt = 0) ∨ (65 ≤ p0.toInt)) → ((s0_27.toInt = 0) ∨ (p0.toInt ≤ 122)) → ((s0_27.toInt = 0 ∧ r5.toInt = 0) ∨ (s0_27.toInt = 1 ∧ 65 ≤ p0.toInt ∧ p0.toInt ≤ 122)) → w_X12_isLetter_27 Q s0_27 := by
    intro s0_27 f6 f7 f8 f9 f10
    unfold w_X12_isLetter_27
    refine ⟨i_01 (by omega) (by omega), ?_⟩
    exact hq s0_27 (by omega) (by omega) (by omega) (by omega)
  have j_22 : 65 ≤ p0.toInt → p0.toInt ≤ 122 → w_X12_isLetter_22 Q := by
    intro f11 f12
    unfold w_X12_isLetter_22
    exact j_27 1 (by omega) (by omega) (by omega) (by omega) (by omega)
  refine ⟨fun c8 => ?_, fun c8 => ?_⟩
  · have f13 : r5.toInt ≠ 0 := i_ne (a := r5.toInt) (b := 0) rfl rfl c8
    exact j_22  (by omega) (by omega)
  · have f14 : r5.toInt = 0 := i_eq (a := r5.toInt) (b := 0) rfl rfl c8
    refine ok_X12_in  (fun r16 f15 f16 f17 f18 f19 => ?_)
    refine ⟨fun c19 => ?_, fun c19 => ?_⟩
    · have f20 : r16.toInt = 0 := i_eq (a := r16.toInt) (b := 0) rfl rfl c19
      exact j_27 0 (by omega) (by omega) (by omega) (by omega) (by omega)
    · have f21 : r16.toInt ≠ 0 := i_ne (a := r16.toInt) (b := 0) rfl rfl c19
      exact j_22  (by omega) (by omega)
set_option maxHeartbeats 4000000 in
theorem ok_X12_isHex {p0 : Int32} {Q : Int32 → Prop} (hq : ∀ (r : Int32), 0 ≤ r.toInt → r.toInt ≤ 1 → ((r.toInt = 0) ∨ (48 ≤ p0.toInt)) → ((r.toInt = 0) ∨ (p0.toInt ≤ 102)) → Q r) : w_X12_isHex p0 Q := by
  have q_t : (bz true).toInt = 1 := rfl
  have q_f : (bz false).toInt = 0 := rfl
  have q_0 : (0 : Int32).toInt = 0 := rfl
  have q_1 : (1 : Int32).toInt = 1 := rfl
  have q_97 : (97 : Int32).toInt = 97 := rfl
  have q_102 : (102 : Int32).toInt = 102 := rfl
  unfold w_X12_isHex
  refine ok_X12_isDigit  (fun r1 f1 f2 f3 f4 f5 => ?_)
  have j_23 : ∀ (s0_23 : Int32), 0 ≤ s0_23.toInt → s0_23.toInt ≤ 1 → ((s0_23.toInt = 0) ∨ (48 ≤ p0.toInt)) → ((s0_23.toInt = 0) ∨ (p0.toInt ≤ 102)) → ((s0_23.toInt = 0 ∧ r1.toInt = 0) ∨ (s0_23.toInt = 1 ∧ 48 ≤ p0.toInt ∧ p0.toInt ≤ 102)) → w_X12_isHex_23 Q s0_23 := by
    intro s0_23 f6 f7 f8 f9 f10
    unfold w_X12_isHex_23
    refine ⟨i_01 (by omega) (by omega), ?_⟩
    exact hq s0_23 (by omega) (by omega) (by omega) (by omega)
  have j_18 : 48 ≤ p0.toInt → p0.toInt ≤ 102 → w_X12_isHex_18 Q := by
    intro f11 f12
    unfold w_X12_isHex_18
    exact j_23 1 (by omega) (by omega) (by omega) (by omega) (by omega)
  refine ⟨fun c4 => ?_, fun c4 => ?_⟩
  · have f13 : r1.toInt ≠ 0 := i_ne (a := r1.toInt) (b := 0) rfl rfl c4
    exact j_18  (by omega) (by omega)
  · have f14 : r1.toInt = 0 := i_eq (a := r1.toInt) (b := 0) rfl rfl c4
    refine ok_X12_in  (fun r12 f15 f16 f17 f18 f19 => ?_)
    refine ⟨fun c15 => ?_, fun c15 => ?_⟩
    · have f20 : r12.toInt = 0 := i_eq (a := r12.toInt) (b := 0) rfl rfl c15
      exact j_23 0 (by omega) (by omega) (by omega) (by omega) (by omega)
    · have f21 : r12.toInt ≠ 0 := i_ne (a := r12.toInt) (b := 0) rfl rfl c15
      exact j_18  (by omega) (by omega)
set_option maxHeartbeats 4000000 in
theorem ok_X12_isWord {p0 : Int32} {Q : Int32 → Prop} (hq : ∀ (r : Int32), 0 ≤ r.toInt → r.toInt ≤ 1 → Q r) : w_X12_isWord p0 Q := by
  have q_t : (bz true).toInt = 1 := rfl
  have q_f : (bz false).toInt = 0 := rfl
  have q_0 : (0 : Int32).toInt = 0 := rfl
  have q_1 : (1 : Int32).toInt = 1 := rfl
  unfold w_X12_isWord
  refine ok_X12_isLetter  (fun r1 f1 f2 f3 f4 => ?_)
  have j_25 : ∀ (s0_25 : Int32), ((s0_25.toInt = 0 ∧ r1.toInt = 0) ∨ (s0_25.toInt = 1)) → w_X12_isWord_25 Q s0_25 := by
    intro s0_25 f5
    unfold w_X12_isWord_25
    refine ⟨i_01 (by omega) (by omega), ?_⟩
    exact hq s0_25 (by omega) (by omega)
  have j_20 : w_X12_isWord_20 Q := by
    unfold w_X12_isWord_20
    exact j_25 1 (by omega)
  refine ⟨fun c4 => ?_, fun c4 => ?_⟩
  · have f6 : r1.toInt ≠ 0 := i_ne (a := r1.toInt) (b := 0) rfl rfl c4
    exact j_20  
  · have f7 : r1.toInt = 0 := i_eq (a := r1.toInt) (b := 0) rfl rfl c4
    refine ok_X12_isDigit  (fun r8 f8 f9 f10 f11 f12 => ?_)
    refine ⟨fun c11 => ?_, fun c11 => ?_⟩
    · have f13 : r8.toInt ≠ 0 := i_ne (a := r8.toInt) (b := 0) rfl rfl c11
      exact j_20  
    · have f14 : r8.toInt = 0 := i_eq (a := r8.toInt) (b := 0) rfl rfl c11
      refine ⟨fun c17 => ?_, fun c17 => ?_⟩
      · have f15 : p0.toInt ≠ 95 := i_ne (a := p0.toInt) (b := 95) rfl rfl c17
        exact j_25 0 (by omega)
      · have f16 : p0.toInt = 95 := i_eq (a := p0.toInt) (b := 95) rfl rfl c17
        exact j_20  
set_option maxHeartbeats 4000000 in
theorem ok_X12_otherCase {p0 : Int32} {Q : Int32 → Prop} (hq : ∀ (r : Int32), Q r) : w_X12_otherCase p0 Q := by
  have q_t : (bz true).toInt = 1 := rfl
  have q_f : (bz false).toInt = 0 := rfl
  have q_65 : (65 : Int32).toInt = 65 := rfl
  have q_90 : (90 : Int32).toInt = 90 := rfl
  have q_97 : (97 : Int32).toInt = 97 := rfl
  have q_122 : (122 : Int32).toInt = 122 := rfl
  unfold w_X12_otherCase
  refine ok_X12_in  (fun r5 f1 f2 f3 f4 f5 => ?_)
  have j_37 : ∀ (s0_37 : Int32), ((s0_37.toInt = p0.toInt ∧ r5.toInt = 0) ∨ (r5.toInt = 0 ∧ s0_37.toInt + 32 = p0.toInt) ∨ (s0_37.toInt = p0.toInt + 32)) → w_X12_otherCase_37 Q s0_37 := by
    intro s0_37 f6
    unfold w_X12_otherCase_37
    exact hq s0_37 
  refine ⟨fun c8 => ?_, fun c8 => ?_⟩
  · have f7 : r5.toInt = 0 := i_eq (a := r5.toInt) (b := 0) rfl rfl c8
    refine ok_X12_in  (fun r23 f8 f9 f10 f11 f12 => ?_)
    refine ⟨fun c26 => ?_, fun c26 => ?_⟩
    · have f13 : r23.toInt = 0 := i_eq (a := r23.toInt) (b := 0) rfl rfl c26
      exact j_37 p0 (by omega)
    · have f14 : r23.toInt ≠ 0 := i_ne (a := r23.toInt) (b := 0) rfl rfl c26
      intro x32 ex32
      have f15 : x32.toInt = p0.toInt - 32 := i_sub (a := p0.toInt) (b := 32) ex32 rfl rfl (by omega) (by omega)
      exact j_37 x32 (by omega)
  · have f16 : r5.toInt ≠ 0 := i_ne (a := r5.toInt) (b := 0) rfl rfl c8
    intro x14 ex14
    have f17 : x14.toInt = p0.toInt + 32 := i_add (a := p0.toInt) (b := 32) ex14 rfl rfl (by omega) (by omega)
    exact j_37 x14 (by omega)
set_option maxHeartbeats 4000000 in
theorem ok_X12_signAt {p1 : Int32} {v_taped : Int32} {v_tape : Nat → Int32} {Q : Int32 → Prop} (a0 : 0 ≤ v_taped.toInt) (a1 : v_taped.toInt ≤ 200) (a2 : 0 ≤ p1.toInt) (b0 : rp (fun k v => 0 ≤ v ∧ v ≤ 126) v_tape 0 200) (hq : ∀ (r : Int32), 0 ≤ r.toInt + 1 → r.toInt ≤ 126 → ((r.toInt + 1 = 0 ∧ v_taped.toInt ≤ p1.toInt) ∨ (p1.toInt + 1 ≤ v_taped.toInt ∧ 0 ≤ r.toInt ∧ r.toInt ≤ 126)) → Q r) : w_X12_signAt p1 v_taped v_tape Q := by
  have q_t : (bz true).toInt = 1 := rfl
  have q_f : (bz false).toInt = 0 := rfl
  have q_m1 : ((-1) : Int32).toInt = (-1) := rfl
  unfold w_X12_signAt
  have j_18 : ∀ (s0_18 : Int32), 0 ≤ s0_18.toInt + 1 → s0_18.toInt ≤ 126 → ((s0_18.toInt + 1 = 0 ∧ v_taped.toInt ≤ p1.toInt) ∨ (p1.toInt + 1 ≤ v_taped.toInt ∧ 0 ≤ s0_18.toInt ∧ s0_18.toInt ≤ 126)) → w_X12_signAt_18 Q s0_18 := by
    intro s0_18 f1 f2 f3
    unfold w_X12_signAt_18
    exact hq s0_18 (by omega) (by omega) (by omega)
  refine ⟨fun c5 => ?_, fun c5 => ?_⟩
  · have f4 : v_taped.toInt ≤ p1.toInt := i_le (a := v_taped.toInt) (b := p1.toInt) rfl rfl c5
    exact j_18 (-1) (by omega) (by omega) (by omega)
  · have f5 : p1.toInt < v_taped.toInt := i_nle (a := v_taped.toInt) (b := p1.toInt) rfl rfl c5
    refine ⟨i_in (by omega) (by omega), ?_⟩
    intro x13 ex13
    have f6 : 0 ≤ x13.toInt ∧ x13.toInt ≤ 126 := by have h9 := rp_get (P := (fun k v => 0 ≤ v ∧ v ≤ 126)) (a := p1.toInt) b0 ex13 rfl (by omega) (by omega) (by omega); omega
    exact j_18 x13 (by omega) (by omega) (by omega)
set_option maxHeartbeats 4000000 in
theorem ok_X12_fail {p1 : Int32} {p2 : Int32} {v_fault : Int32} {v_faultAt : Int32} {Q : Int32 → Int32 → Prop} (a0 : 0 ≤ v_fault.toInt) (a1 : 1 ≤ p1.toInt) (a2 : p1.toInt ≤ 3) (hq : ∀ (ov_fault : Int32) (ov_faultAt : Int32), v_fault.toInt ≤ ov_fault.toInt → 1 ≤ ov_fault.toInt → ((ov_fault.toInt = v_fault.toInt ∧ ov_faultAt.toInt = v_faultAt.toInt) ∨ (ov_fault.toInt = p1.toInt ∧ ov_faultAt.toInt = p2.toInt ∧ v_fault.toInt = 0)) → Q ov_fault ov_faultAt) : w_X12_fail p1 p2 v_fault v_faultAt Q := by
  have q_t : (bz true).toInt = 1 := rfl
  have q_f : (bz false).toInt = 0 := rfl
  unfold w_X12_fail
  have j_17 : ∀ (v_fault_17 : Int32) (v_faultAt_17 : Int32), v_fault.toInt ≤ v_fault_17.toInt → 1 ≤ v_fault_17.toInt → ((v_fault_17.toInt = v_fault.toInt ∧ v_faultAt_17.toInt = v_faultAt.toInt) ∨ (v_fault_17.toInt = p1.toInt ∧ v_faultAt_17.toInt = p2.toInt ∧ v_fault.toInt = 0)) → w_X12_fail_17 Q v_fault_17 v_faultAt_17 := by
    intro v_fault_17 v_faultAt_17 f1 f2 f3
    unfold w_X12_fail_17
    exact hq v_fault_17 v_faultAt_17 (by omega) (by omega) (by omega)
  refine ⟨fun c4 => ?_, fun c4 => ?_⟩
  · have f4 : v_fault.toInt ≠ 0 := i_ne (a := v_fault.toInt) (b := 0) rfl rfl c4
    exact j_17 v_fault v_faultAt (by omega) (by omega) (by omega)
  · have f5 : v_fault.toInt = 0 := i_eq (a := v_fault.toInt) (b := 0) rfl rfl c4
    exact j_17 p1 p2 (by omega) (by omega) (by omega)
set_option maxHeartbeats 4000000 in
theorem ok_X12_made {p1 : Int32} {p2 : Int32} {v_newNodes : Int32} {v_newSort : Nat → Int32} {v_newValue : Nat → Int32} {v_newLeast : Nat → Int32} {v_newMost : Nat → Int32} {v_newFirst : Nat → Int32} {v_newNext : Nat → Int32} {v_newMany : Nat → Int32} {v_newPart : Nat → Int32} {Q : Int32 → Int32 → (Nat → Int32) → (Nat → Int32) → (Nat → Int32) → (Nat → Int32) → (Nat → Int32) → (Nat → Int32) → (Nat → Int32) → (Nat → Int32) → Prop} (a0 : 0 ≤ v_newNodes.toInt) (a1 : v_newNodes.toInt ≤ 259) (hq : ∀ (r : Int32) (ov_newNodes : Int32) (ov_newSort : Nat → Int32) (ov_newValue : Nat → Int32) (ov_newLeast : Nat → Int32) (ov_newMost : Nat → Int32) (ov_newFirst : Nat → Int32) (ov_newNext : Nat → Int32) (ov_newMany : Nat → Int32) (ov_newPart : Nat → Int32), r.toInt = v_newNodes.toInt → ov_newNodes.toInt = v_newNodes.toInt + 1 → Q r ov_newNodes ov_newSort ov_newValue ov_newLeast ov_newMost ov_newFirst ov_newNext ov_newMany ov_newPart) : w_X12_made p1 p2 v_newNodes v_newSort v_newValue v_newLeast v_newMost v_newFirst v_newNext v_newMany v_newPart Q := by
  have q_t : (bz true).toInt = 1 := rfl
  have q_f : (bz false).toInt = 0 := rfl
  unfold w_X12_made
  intro x11 ex11
  have f1 : x11.toInt = v_newNodes.toInt + 1 := i_add (a := v_newNodes.toInt) (b := 1) ex11 rfl rfl (by omega) (by omega)
  refine ⟨i_in (by omega) (by omega), ?_⟩
  intro g21 eg21
  refine ⟨i_in (by omega) (by omega), ?_⟩
  intro g28 eg28
  refine ⟨i_in (by omega) (by omega), ?_⟩
  intro g35 eg35
  refine ⟨i_in (by omega) (by omega), ?_⟩
  intro g42 eg42
  refine ⟨i_in (by omega) (by omega), ?_⟩
  intro g49 eg49
  refine ⟨i_in (by omega) (by omega), ?_⟩
  intro g56 eg56
  refine ⟨i_in (by omega) (by omega), ?_⟩
  intro g63 eg63
  refine ⟨i_in (by omega) (by omega), ?_⟩
  intro g70 eg70
  exact hq v_newNodes x11 g21 g28 g35 g42 g49 g56 g63 g70 (by omega) (by omega)
set_option maxHeartbeats 4000000 in
theorem ok_X12_beginRow {v_depth : Int32} {v_rowFirst : Nat → Int32} {v_rowLast : Nat → Int32} {v_rowMany : Nat → Int32} {Q : (Nat → Int32) → (Nat → Int32) → (Nat → Int32) → Prop} (a0 : 0 ≤ v_depth.toInt) (a1 : v_depth.toInt ≤ 11) (b0 : qp2 (fun k m l => (m = 0) ∨ (0 ≤ l ∧ l ≤ 259)) v_rowMany v_rowFirst 0 12) (b1 : qp2 (fun k m l => (m = 0) ∨ (0 ≤ l ∧ l ≤ 259)) v_rowMany v_rowLast 0 12) (b2 : rp (fun k v => -1 ≤ v ∧ v ≤ 259) v_rowFirst 0 12) (b3 : rp (fun k v => -1 ≤ v ∧ v ≤ 259) v_rowLast 0 12) (hq : ∀ (ov_rowFirst : Nat → Int32) (ov_rowLast : Nat → Int32) (ov_rowMany : Nat → Int32), rp (fun k v => -1 ≤ v ∧ v ≤ 259) ov_rowFirst 0 12 → rp (fun k v => -1 ≤ v ∧ v ≤ 259) ov_rowLast 0 12 → qp2 (fun k m l => (m = 0) ∨ (0 ≤ l ∧ l ≤ 259)) ov_rowMany ov_rowFirst 0 12 → qp2 (fun k m l => (m = 0) ∨ (0 ≤ l ∧ l ≤ 259)) ov_rowMany ov_rowLast 0 12 → qp2 (fun k m l => (m = 0) ∨ (0 ≤ l ∧ l ≤ 259)) ov_rowMany v_rowFirst 0 12 → qp2 (fun k m l => (m = 0) ∨ (0 ≤ l ∧ l ≤ 259)) ov_rowMany v_rowLast 0 12 → Q ov_rowFirst ov_rowLast ov_rowMany) : w_X12_beginRow v_depth v_rowFirst v_rowLast v_rowMany Q := by
  have q_t : (bz true).toInt = 1 := rfl
  have q_f : (bz false).toInt = 0 := rfl
  unfold w_X12_beginRow
  refine ⟨i_in (by omega) (by omega), ?_⟩
  intro g9 eg9
  have f1 : (g9 v_depth.toNatClampNeg).toInt = (-1) := i_upd (b := (-1)) eg9 rfl
  have h2 : qp2 (fun k m l => k = v_depth.toInt ∨ (fun k m l => (m = 0) ∨ (0 ≤ l ∧ l ≤ 259)) k m l) v_rowMany g9 0 12 := qp2_hole2 (P := (fun k m l => (m = 0) ∨ (0 ≤ l ∧ l ≤ 259))) (a := v_depth.toInt) b0 eg9 rfl (by omega)
  have h3 : rp (fun k v => -1 ≤ v ∧ v ≤ 259) g9 0 12 := rp_upd (P := (fun k v => -1 ≤ v ∧ v ≤ 259)) (a := v_depth.toInt) (b := (-1)) b2 eg9 rfl rfl (by omega) ⟨(by omega), (by omega)⟩
  refine ⟨i_in (by omega) (by omega), ?_⟩
  intro g19 eg19
  have f4 : (g19 v_depth.toNatClampNeg).toInt = (-1) := i_upd (b := (-1)) eg19 rfl
  have h5 : qp2 (fun k m l => k = v_depth.toInt ∨ (fun k m l => (m = 0) ∨ (0 ≤ l ∧ l ≤ 259)) k m l) v_rowMany g19 0 12 := qp2_hole2 (P := (fun k m l => (m = 0) ∨ (0 ≤ l ∧ l ≤ 259))) (a := v_depth.toInt) b1 eg19 rfl (by omega)
  have h6 : rp (fun k v => -1 ≤ v ∧ v ≤ 259) g19 0 12 := rp_upd (P := (fun k v => -1 ≤ v ∧ v ≤ 259)) (a := v_depth.toInt) (b := (-1)) b3 eg19 rfl rfl (by omega) ⟨(by omega), (by omega)⟩
  refine ⟨i_in (by omega) (by omega), ?_⟩
  intro g29 eg29
  have f7 : (g29 v_depth.toNatClampNeg).toInt = 0 := i_upd (b := 0) eg29 rfl
  have h8 : qp2 (fun k m l => k = v_depth.toInt ∨ (fun k m l => (m = 0) ∨ (0 ≤ l ∧ l ≤ 259)) k m l) g29 g9 0 12 := qp2_hh1 (P := (fun k m l => (m = 0) ∨ (0 ≤ l ∧ l ≤ 259))) (a := v_depth.toInt) h2 eg29 rfl (by omega)
  have h9 : qp2 (fun k m l => (m = 0) ∨ (0 ≤ l ∧ l ≤ 259)) g29 g9 0 12 := qp2_fill (P := (fun k m l => (m = 0) ∨ (0 ≤ l ∧ l ≤ 259))) (a := v_depth.toInt) h8 rfl (by omega) (by omega)
  have h10 : qp2 (fun k m l => k = v_depth.toInt ∨ (fun k m l => (m = 0) ∨ (0 ≤ l ∧ l ≤ 259)) k m l) g29 g19 0 12 := qp2_hh1 (P := (fun k m l => (m = 0) ∨ (0 ≤ l ∧ l ≤ 259))) (a := v_depth.toInt) h5 eg29 rfl (by omega)
  have h11 : qp2 (fun k m l => (m = 0) ∨ (0 ≤ l ∧ l ≤ 259)) g29 g19 0 12 := qp2_fill (P := (fun k m l => (m = 0) ∨ (0 ≤ l ∧ l ≤ 259))) (a := v_depth.toInt) h10 rfl (by omega) (by omega)
  have h12 : qp2 (fun k m l => (m = 0) ∨ (0 ≤ l ∧ l ≤ 259)) g29 v_rowFirst 0 12 := qp2_upd1 (P := (fun k m l => (m = 0) ∨ (0 ≤ l ∧ l ≤ 259))) (a := v_depth.toInt) (b := 0) b0 eg29 rfl rfl (by omega) (by omega)
  have h13 : qp2 (fun k m l => (m = 0) ∨ (0 ≤ l ∧ l ≤ 259)) g29 v_rowLast 0 12 := qp2_upd1 (P := (fun k m l => (m = 0) ∨ (0 ≤ l ∧ l ≤ 259))) (a := v_depth.toInt) (b := 0) b1 eg29 rfl rfl (by omega) (by omega)
  exact hq g9 g19 g29 (rp_mono h3 (by omega) (by omega)) (rp_mono h6 (by omega) (by omega)) (qp2_mono h9 (by omega) (by omega)) (qp2_mono h11 (by omega) (by omega)) (qp2_mono h12 (by omega) (by omega)) (qp2_mono h13 (by omega) (by omega))
set_option maxHeartbeats 4000000 in
theorem ok_X12_beginGroup {p1 : Int32} {p2 : Int32} {v_depth : Int32} {v_groupSort : Nat → Int32} {v_groupValue : Nat → Int32} {v_rowFirst : Nat → Int32} {v_rowLast : Nat → Int32} {v_rowMany : Nat → Int32} {v_rowsFirst : Nat → Int32} {v_rowsLast : Nat → Int32} {v_rowsMany : Nat → Int32} {Q : (Nat → Int32) → (Nat → Int32) → (Nat → Int32) → (Nat → Int32) → (Nat → Int32) → (Nat → Int32) → (Nat → Int32) → (Nat → Int32) → Prop} (a0 : 0 ≤ v_depth.toInt) (a1 : v_depth.toInt ≤ 11) (b0 : qp2 (fun k m l => (m = 0) ∨ (0 ≤ l ∧ l ≤ 259)) v_rowMany v_rowFirst 0 12) (b1 : qp2 (fun k m l => (m = 0) ∨ (0 ≤ l ∧ l ≤ 259)) v_rowsMany v_rowsFirst 0 12) (b2 : qp2 (fun k m l => (m = 0) ∨ (0 ≤ l ∧ l ≤ 259)) v_rowMany v_rowLast 0 12) (b3 : qp2 (fun k m l => (m = 0) ∨ (0 ≤ l ∧ l ≤ 259)) v_rowsMany v_rowsLast 0 12) (b4 : rp (fun k v => -1 ≤ v ∧ v ≤ 259) v_rowFirst 0 12) (b5 : rp (fun k v => -1 ≤ v ∧ v ≤ 259) v_rowLast 0 12) (b6 : rp (fun k v => -1 ≤ v ∧ v ≤ 259) v_rowsFirst 0 12) (b7 : rp (fun k v => -1 ≤ v ∧ v ≤ 259) v_rowsLast 0 12) (hq : ∀ (ov_groupSort : Nat → Int32) (ov_groupValue : Nat → Int32) (ov_rowFirst : Nat → Int32) (ov_rowLast : Nat → Int32) (ov_rowMany : Nat → Int32) (ov_rowsFirst : Nat → Int32) (ov_rowsLast : Nat → Int32) (ov_rowsMany : Nat → Int32), rp (fun k v => -1 ≤ v ∧ v ≤ 259) ov_rowsFirst 0 12 → rp (fun k v => -1 ≤ v ∧ v ≤ 259) ov_rowsLast 0 12 → qp2 (fun k m l => (m = 0) ∨ (0 ≤ l ∧ l ≤ 259)) ov_rowsMany ov_rowsFirst 0 12 → qp2 (fun k m l => (m = 0) ∨ (0 ≤ l ∧ l ≤ 259)) ov_rowsMany ov_rowsLast 0 12 → qp2 (fun k m l => (m = 0) ∨ (0 ≤ l ∧ l ≤ 259)) ov_rowsMany v_rowsFirst 0 12 → qp2 (fun k m l => (m = 0) ∨ (0 ≤ l ∧ l ≤ 259)) ov_rowsMany v_rowsLast 0 12 → rp (fun k v => -1 ≤ v ∧ v ≤ 259) ov_rowFirst 0 12 → rp (fun k v => -1 ≤ v ∧ v ≤ 259) ov_rowLast 0 12 → qp2 (fun k m l => (m = 0) ∨ (0 ≤ l ∧ l ≤ 259)) ov_rowMany ov_rowFirst 0 12 → qp2 (fun k m l => (m = 0) ∨ (0 ≤ l ∧ l ≤ 259)) ov_rowMany ov_rowLast 0 12 → qp2 (fun k m l => (m = 0) ∨ (0 ≤ l ∧ l ≤ 259)) ov_rowMany v_rowFirst 0 12 → qp2 (fun k m l => (m = 0) ∨ (0 ≤ l ∧ l ≤ 259)) ov_rowMany v_rowLast 0 12 → Q ov_groupSort ov_groupValue ov_rowFirst ov_rowLast ov_rowMany ov_rowsFirst ov_rowsLast ov_rowsMany) : w_X12_beginGroup p1 p2 v_depth v_groupSort v_groupValue v_rowFirst v_rowLast v_rowMany v_rowsFirst v_rowsLast v_rowsMany Q := by
  have q_t : (bz true).toInt = 1 := rfl
  have q_f : (bz false).toInt = 0 := rfl
  unfold w_X12_beginGroup
  refine ⟨i_in (by omega) (by omega), ?_⟩
  intro g9 eg9
  refine ⟨i_in (by omega) (by omega), ?_⟩
  intro g19 eg19
  refine ⟨i_in (by omega) (by omega), ?_⟩
  intro g29 eg29
  have f1 : (g29 v_depth.toNatClampNeg).toInt = (-1) := i_upd (b := (-1)) eg29 rfl
  have h2 : qp2 (fun k m l => k = v_depth.toInt ∨ (fun k m l => (m = 0) ∨ (0 ≤ l ∧ l ≤ 259)) k m l) v_rowsMany g29 0 12 := qp2_hole2 (P := (fun k m l => (m = 0) ∨ (0 ≤ l ∧ l ≤ 259))) (a := v_depth.toInt) b1 eg29 rfl (by omega)
  have h3 : rp (fun k v => -1 ≤ v ∧ v ≤ 259) g29 0 12 := rp_upd (P := (fun k v => -1 ≤ v ∧ v ≤ 259)) (a := v_depth.toInt) (b := (-1)) b6 eg29 rfl rfl (by omega) ⟨(by omega), (by omega)⟩
  refine ⟨i_in (by omega) (by omega), ?_⟩
  intro g39 eg39
  have f4 : (g39 v_depth.toNatClampNeg).toInt = (-1) := i_upd (b := (-1)) eg39 rfl
  have h5 : qp2 (fun k m l => k = v_depth.toInt ∨ (fun k m l => (m = 0) ∨ (0 ≤ l ∧ l ≤ 259)) k m l) v_rowsMany g39 0 12 := qp2_hole2 (P := (fun k m l => (m = 0) ∨ (0 ≤ l ∧ l ≤ 259))) (a := v_depth.toInt) b3 eg39 rfl (by omega)
  have h6 : rp (fun k v => -1 ≤ v ∧ v ≤ 259) g39 0 12 := rp_upd (P := (fun k v => -1 ≤ v ∧ v ≤ 259)) (a := v_depth.toInt) (b := (-1)) b7 eg39 rfl rfl (by omega) ⟨(by omega), (by omega)⟩
  refine ⟨i_in (by omega) (by omega), ?_⟩
  intro g49 eg49
  have f7 : (g49 v_depth.toNatClampNeg).toInt = 0 := i_upd (b := 0) eg49 rfl
  have h8 : qp2 (fun k m l => k = v_depth.toInt ∨ (fun k m l => (m = 0) ∨ (0 ≤ l ∧ l ≤ 259)) k m l) g49 g29 0 12 := qp2_hh1 (P := (fun k m l => (m = 0) ∨ (0 ≤ l ∧ l ≤ 259))) (a := v_depth.toInt) h2 eg49 rfl (by omega)
  have h9 : qp2 (fun k m l => (m = 0) ∨ (0 ≤ l ∧ l ≤ 259)) g49 g29 0 12 := qp2_fill (P := (fun k m l => (m = 0) ∨ (0 ≤ l ∧ l ≤ 259))) (a := v_depth.toInt) h8 rfl (by omega) (by omega)
  have h10 : qp2 (fun k m l => k = v_depth.toInt ∨ (fun k m l => (m = 0) ∨ (0 ≤ l ∧ l ≤ 259)) k m l) g49 g39 0 12 := qp2_hh1 (P := (fun k m l => (m = 0) ∨ (0 ≤ l ∧ l ≤ 259))) (a := v_depth.toInt) h5 eg49 rfl (by omega)
  have h11 : qp2 (fun k m l => (m = 0) ∨ (0 ≤ l ∧ l ≤ 259)) g49 g39 0 12 := qp2_fill (P := (fun k m l => (m = 0) ∨ (0 ≤ l ∧ l ≤ 259))) (a := v_depth.toInt) h10 rfl (by omega) (by omega)
  have h12 : qp2 (fun k m l => (m = 0) ∨ (0 ≤ l ∧ l ≤ 259)) g49 v_rowsFirst 0 12 := qp2_upd1 (P := (fun k m l => (m = 0) ∨ (0 ≤ l ∧ l ≤ 259))) (a := v_depth.toInt) (b := 0) b1 eg49 rfl rfl (by omega) (by omega)
  have h13 : qp2 (fun k m l => (m = 0) ∨ (0 ≤ l ∧ l ≤ 259)) g49 v_rowsLast 0 12 := qp2_upd1 (P := (fun k m l => (m = 0) ∨ (0 ≤ l ∧ l ≤ 259))) (a := v_depth.toInt) (b := 0) b3 eg49 rfl rfl (by omega) (by omega)
  refine ok_X12_beginRow (by omega) (by omega) (qp2_mono b0 (by omega) (by omega)) (qp2_mono b2 (by omega) (by omega)) (rp_mono b4 (by omega) (by omega)) (rp_mono b5 (by omega) (by omega)) (fun r51_0 r51_1 r51_2 h14 h15 h16 h17 h18 h19 => ?_)
  exact hq g9 g19 r51_0 r51_1 r51_2 g29 g39 g49 (rp_mono h3 (by omega) (by omega)) (rp_mono h6 (by omega) (by omega)) (qp2_mono h9 (by omega) (by omega)) (qp2_mono h11 (by omega) (by omega)) (qp2_mono h12 (by omega) (by omega)) (qp2_mono h13 (by omega) (by omega)) (rp_mono h14 (by omega) (by omega)) (rp_mono h15 (by omega) (by omega)) (qp2_mono h16 (by omega) (by omega)) (qp2_mono h17 (by omega) (by omega)) (qp2_mono h18 (by omega) (by omega)) (qp2_mono h19 (by omega) (by omega))
set_option maxHeartbeats 4000000 in
theorem ok_X12_addNode {p1 : Int32} {v_depth : Int32} {v_newNext : Nat → Int32} {v_rowFirst : Nat → Int32} {v_rowLast : Nat → Int32} {v_rowMany : Nat → Int32} {Q : (Nat → Int32) → (Nat → Int32) → (Nat → Int32) → (Nat → Int32) → Prop} (a0 : 0 ≤ v_depth.toInt) (a1 : v_depth.toInt ≤ 11) (a2 : 0 ≤ p1.toInt) (a3 : p1.toInt ≤ 259) (b0 : qp2 (fun k m l => (m = 0) ∨ (0 ≤ l ∧ l ≤ 259)) v_rowMany v_rowFirst 0 12) (b1 : qp2 (fun k m l => (m = 0) ∨ (0 ≤ l ∧ l ≤ 259)) v_rowMany v_rowLast 0 12) (b2 : rp (fun k v => -1 ≤ v ∧ v ≤ 259) v_rowFirst 0 12) (b3 : rp (fun k v => -1 ≤ v ∧ v ≤ 259) v_rowLast 0 12) (hq : ∀ (ov_newNext : Nat → Int32) (ov_rowFirst : Nat → Int32) (ov_rowLast : Nat → Int32) (ov_rowMany : Nat → Int32), qp2 (fun k m l => (m = 0) ∨ (0 ≤ l ∧ l ≤ 259)) v_rowMany ov_rowFirst 0 12 → rp (fun k v => -1 ≤ v ∧ v ≤ 259) ov_rowFirst 0 12 → qp2 (fun k m l => (m = 0) ∨ (0 ≤ l ∧ l ≤ 259)) v_rowMany ov_rowLast 0 12 → rp (fun k v => -1 ≤ v ∧ v ≤ 259) ov_rowLast 0 12 → qp2 (fun k m l => (m = 0) ∨ (0 ≤ l ∧ l ≤ 259)) ov_rowMany ov_rowFirst 0 12 → qp2 (fun k m l => (m = 0) ∨ (0 ≤ l ∧ l ≤ 259)) ov_rowMany ov_rowLast 0 12 → Q ov_newNext ov_rowFirst ov_rowLast ov_rowMany) : w_X12_addNode p1 v_depth v_newNext v_rowFirst v_rowLast v_rowMany Q := by
  have q_t : (bz true).toInt = 1 := rfl
  have q_f : (bz false).toInt = 0 := rfl
  unfold w_X12_addNode
  refine ⟨i_in (by omega) (by omega), ?_⟩
  intro x8 ex8
  have f1 : x8.toInt = (v_rowMany v_depth.toNatClampNeg).toInt := congrArg Int32.toInt ex8
  have f2 : (((v_rowMany v_depth.toNatClampNeg).toInt = 0) ∨ (0 ≤ (v_rowFirst v_depth.toNatClampNeg).toInt ∧ (v_rowFirst v_depth.toNatClampNeg).toInt ≤ 259)) := by have h9 := qp2_get (P := (fun k m l => (m = 0) ∨ (0 ≤ l ∧ l ≤ 259))) (a := v_depth.toInt) b0 rfl (by omega) (by omega) (by omega); omega
  have f3 : (((v_rowMany v_depth.toNatClampNeg).toInt = 0) ∨ (0 ≤ (v_rowLast v_depth.toNatClampNeg).toInt ∧ (v_rowLast v_depth.toNatClampNeg).toInt ≤ 259)) := by have h9 := qp2_get (P := (fun k m l => (m = 0) ∨ (0 ≤ l ∧ l ≤ 259))) (a := v_depth.toInt) b1 rfl (by omega) (by omega) (by omega); omega
  have j_40 : ∀ (v_newNext_40 : Nat → Int32) (v_rowFirst_40 : Nat → Int32), ((0 ≤ (v_rowLast v_depth.toNatClampNeg).toInt + 1 ∧ (v_rowLast v_depth.toNatClampNeg).toInt ≤ 259) ∨ (x8.toInt = 0)) → 0 ≤ (v_rowFirst_40 v_depth.toNatClampNeg).toInt → (v_rowFirst_40 v_depth.toNatClampNeg).toInt ≤ 259 → qp2 (fun k m l => (m = 0) ∨ (0 ≤ l ∧ l ≤ 259)) v_rowMany v_rowFirst_40 0 12 → rp (fun k v => -1 ≤ v ∧ v ≤ 259) v_rowFirst_40 0 12 → w_X12_addNode_40 p1 v_depth Q v_newNext_40 v_rowFirst_40 v_rowLast v_rowMany := by
    intro v_newNext_40 v_rowFirst_40 f4 f5 f6 h7 h8
    unfold w_X12_addNode_40
    refine ⟨i_in (by omega) (by omega), ?_⟩
    intro g49 eg49
    have f9 : (g49 v_depth.toNatClampNeg).toInt = p1.toInt := i_upd (b := p1.toInt) eg49 rfl
    have h10 : qp2 (fun k m l => (m = 0) ∨ (0 ≤ l ∧ l ≤ 259)) v_rowMany g49 0 12 := qp2_upd2 (P := (fun k m l => (m = 0) ∨ (0 ≤ l ∧ l ≤ 259))) (a := v_depth.toInt) (b := p1.toInt) b1 eg49 rfl rfl (by omega) (by omega)
    have h11 : rp (fun k v => -1 ≤ v ∧ v ≤ 259) g49 0 12 := rp_upd (P := (fun k v => -1 ≤ v ∧ v ≤ 259)) (a := v_depth.toInt) (b := p1.toInt) b3 eg49 rfl rfl (by omega) ⟨(by omega), (by omega)⟩
    refine ⟨i_in (by omega) (by omega), ?_⟩
    intro x59 ex59
    have f12 : x59.toInt = x8.toInt := congrArg Int32.toInt (ex59.trans ex8.symm)
    have f13 : x59.toInt = (v_rowMany v_depth.toNatClampNeg).toInt := congrArg Int32.toInt ex59
    have f14 : (((v_rowMany v_depth.toNatClampNeg).toInt = 0) ∨ (0 ≤ (v_rowFirst v_depth.toNatClampNeg).toInt ∧ (v_rowFirst v_depth.toNatClampNeg).toInt ≤ 259)) := by have h9 := qp2_get (P := (fun k m l => (m = 0) ∨ (0 ≤ l ∧ l ≤ 259))) (a := v_depth.toInt) b0 rfl (by omega) (by omega) (by omega); omega
    have f15 : (((v_rowMany v_depth.toNatClampNeg).toInt = 0) ∨ (0 ≤ (v_rowLast v_depth.toNatClampNeg).toInt ∧ (v_rowLast v_depth.toNatClampNeg).toInt ≤ 259)) := by have h9 := qp2_get (P := (fun k m l => (m = 0) ∨ (0 ≤ l ∧ l ≤ 259))) (a := v_depth.toInt) b1 rfl (by omega) (by omega) (by omega); omega
    have f16 : (((v_rowMany v_depth.toNatClampNeg).toInt = 0) ∨ (0 ≤ (v_rowFirst_40 v_depth.toNatClampNeg).toInt ∧ (v_rowFirst_40 v_depth.toNatClampNeg).toInt ≤ 259)) := by have h9 := qp2_get (P := (fun k m l => (m = 0) ∨ (0 ≤ l ∧ l ≤ 259))) (a := v_depth.toInt) h7 rfl (by omega) (by omega) (by omega); omega
    have f17 : (((v_rowMany v_depth.toNatClampNeg).toInt = 0) ∨ (0 ≤ (g49 v_depth.toNatClampNeg).toInt ∧ (g49 v_depth.toNatClampNeg).toInt ≤ 259)) := by have h9 := qp2_get (P := (fun k m l => (m = 0) ∨ (0 ≤ l ∧ l ≤ 259))) (a := v_depth.toInt) h10 rfl (by omega) (by omega) (by omega); omega
    intro x61 ex61
    refine ⟨i_in (by omega) (by omega), ?_⟩
    intro g62 eg62
    have f18 : (g62 v_depth.toNatClampNeg).toInt = x61.toInt := i_upd (b := x61.toInt) eg62 rfl
    have h19 : qp2 (fun k m l => k = v_depth.toInt ∨ (fun k m l => (m = 0) ∨ (0 ≤ l ∧ l ≤ 259)) k m l) g62 v_rowFirst 0 12 := qp2_hole1 (P := (fun k m l => (m = 0) ∨ (0 ≤ l ∧ l ≤ 259))) (a := v_depth.toInt) b0 eg62 rfl (by omega)
    have h20 : qp2 (fun k m l => k = v_depth.toInt ∨ (fun k m l => (m = 0) ∨ (0 ≤ l ∧ l ≤ 259)) k m l) g62 v_rowLast 0 12 := qp2_hole1 (P := (fun k m l => (m = 0) ∨ (0 ≤ l ∧ l ≤ 259))) (a := v_depth.toInt) b1 eg62 rfl (by omega)
    have h21 : qp2 (fun k m l => (m = 0) ∨ (0 ≤ l ∧ l ≤ 259)) g62 v_rowFirst_40 0 12 := qp2_upd1 (P := (fun k m l => (m = 0) ∨ (0 ≤ l ∧ l ≤ 259))) (a := v_depth.toInt) (b := x61.toInt) h7 eg62 rfl rfl (by omega) (by omega)
    have h22 : qp2 (fun k m l => (m = 0) ∨ (0 ≤ l ∧ l ≤ 259)) g62 g49 0 12 := qp2_upd1 (P := (fun k m l => (m = 0) ∨ (0 ≤ l ∧ l ≤ 259))) (a := v_depth.toInt) (b := x61.toInt) h10 eg62 rfl rfl (by omega) (by omega)
    exact hq v_newNext_40 v_rowFirst_40 g49 g62 (qp2_mono h7 (by omega) (by omega)) (rp_mono h8 (by omega) (by omega)) (qp2_mono h10 (by omega) (by omega)) (rp_mono h11 (by omega) (by omega)) (qp2_mono h21 (by omega) (by omega)) (qp2_mono h22 (by omega) (by omega))
  refine ⟨fun c9 => ?_, fun c9 => ?_⟩
  · have f23 : x8.toInt ≠ 0 := i_ne (a := x8.toInt) (b := 0) rfl rfl c9
    refine ⟨i_in (by omega) (by omega), ?_⟩
    intro x37 ex37
    have f24 : x37.toInt = (v_rowLast v_depth.toNatClampNeg).toInt := congrArg Int32.toInt ex37
    have f25 : (((v_rowMany v_depth.toNatClampNeg).toInt = 0) ∨ (0 ≤ (v_rowLast v_depth.toNatClampNeg).toInt ∧ (v_rowLast v_depth.toNatClampNeg).toInt ≤ 259)) := by have h9 := qp2_get (P := (fun k m l => (m = 0) ∨ (0 ≤ l ∧ l ≤ 259))) (a := v_depth.toInt) b1 rfl (by omega) (by omega) (by omega); omega
    have f26 : 0 ≤ x37.toInt + 1 ∧ x37.toInt ≤ 259 := by have h9 := rp_get (P := (fun k v => -1 ≤ v ∧ v ≤ 259)) (a := v_depth.toInt) b3 ex37 rfl (by omega) (by omega) (by omega); omega
    refine ⟨i_in (by omega) (by omega), ?_⟩
    intro g39 eg39
    exact j_40 g39 v_rowFirst (by omega) (by omega) (by omega) (qp2_mono b0 (by omega) (by omega)) (rp_mono b2 (by omega) (by omega))
  · have f27 : x8.toInt = 0 := i_eq (a := x8.toInt) (b := 0) rfl rfl c9
    refine ⟨i_in (by omega) (by omega), ?_⟩
    intro g21 eg21
    have f28 : (g21 v_depth.toNatClampNeg).toInt = p1.toInt := i_upd (b := p1.toInt) eg21 rfl
    have h29 : qp2 (fun k m l => (m = 0) ∨ (0 ≤ l ∧ l ≤ 259)) v_rowMany g21 0 12 := qp2_upd2 (P := (fun k m l => (m = 0) ∨ (0 ≤ l ∧ l ≤ 259))) (a := v_depth.toInt) (b := p1.toInt) b0 eg21 rfl rfl (by omega) (by omega)
    have h30 : rp (fun k v => -1 ≤ v ∧ v ≤ 259) g21 0 12 := rp_upd (P := (fun k v => -1 ≤ v ∧ v ≤ 259)) (a := v_depth.toInt) (b := p1.toInt) b2 eg21 rfl rfl (by omega) ⟨(by omega), (by omega)⟩
    exact j_40 v_newNext g21 (by omega) (by omega) (by omega) (qp2_mono h29 (by omega) (by omega)) (rp_mono h30 (by omega) (by omega))
set_option maxHeartbeats 4000000 in
theorem ok_X12_closeRow {v_newNodes : Int32} {v_depth : Int32} {v_newSort : Nat → Int32} {v_newValue : Nat → Int32} {v_newLeast : Nat → Int32} {v_newMost : Nat → Int32} {v_newFirst : Nat → Int32} {v_newNext : Nat → Int32} {v_newMany : Nat → Int32} {v_newPart : Nat → Int32} {v_rowFirst : Nat → Int32} {v_rowLast : Nat → Int32} {v_rowMany : Nat → Int32} {v_rowsFirst : Nat → Int32} {v_rowsLast : Nat → Int32} {v_rowsMany : Nat → Int32} {Q : Int32 → (Nat → Int32) → (Nat → Int32) → (Nat → Int32) → (Nat → Int32) → (Nat → Int32) → (Nat → Int32) → (Nat → Int32) → (Nat → Int32) → (Nat → Int32) → (Nat → Int32) → (Nat → Int32) → (Nat → Int32) → (Nat → Int32) → (Nat → Int32) → Prop} (a0 : 0 ≤ v_depth.toInt) (a1 : v_depth.toInt ≤ 11) (a2 : 0 ≤ v_newNodes.toInt) (a3 : v_newNodes.toInt ≤ 258) (b0 : qp2 (fun k m l => (m = 0) ∨ (0 ≤ l ∧ l ≤ 259)) v_rowMany v_rowFirst 0 12) (b1 : qp2 (fun k m l => (m = 0) ∨ (0 ≤ l ∧ l ≤ 259)) v_rowsMany v_rowsFirst 0 12) (b2 : qp2 (fun k m l => (m = 0) ∨ (0 ≤ l ∧ l ≤ 259)) v_rowMany v_rowLast 0 12) (b3 : qp2 (fun k m l => (m = 0) ∨ (0 ≤ l ∧ l ≤ 259)) v_rowsMany v_rowsLast 0 12) (b4 : rp (fun k v => -1 ≤ v ∧ v ≤ 259) v_rowFirst 0 12) (b5 : rp (fun k v => -1 ≤ v ∧ v ≤ 259) v_rowLast 0 12) (b6 : rp (fun k v => -1 ≤ v ∧ v ≤ 259) v_rowsFirst 0 12) (b7 : rp (fun k v => -1 ≤ v ∧ v ≤ 259) v_rowsLast 0 12) (hq : ∀ (ov_newNodes : Int32) (ov_newSort : Nat → Int32) (ov_newValue : Nat → Int32) (ov_newLeast : Nat → Int32) (ov_newMost : Nat → Int32) (ov_newFirst : Nat → Int32) (ov_newNext : Nat → Int32) (ov_newMany : Nat → Int32) (ov_newPart : Nat → Int32) (ov_rowFirst : Nat → Int32) (ov_rowLast : Nat → Int32) (ov_rowMany : Nat → Int32) (ov_rowsFirst : Nat → Int32) (ov_rowsLast : Nat → Int32) (ov_rowsMany : Nat → Int32), v_newNodes.toInt ≤ ov_newNodes.toInt → ov_newNodes.toInt ≤ v_newNodes.toInt + 1 → qp2 (fun k m l => (m = 0) ∨ (0 ≤ l ∧ l ≤ 259)) v_rowsMany ov_rowsFirst 0 12 → rp (fun k v => -1 ≤ v ∧ v ≤ 259) ov_rowsFirst 0 12 → qp2 (fun k m l => (m = 0) ∨ (0 ≤ l ∧ l ≤ 259)) v_rowsMany ov_rowsLast 0 12 → rp (fun k v => -1 ≤ v ∧ v ≤ 259) ov_rowsLast 0 12 → qp2 (fun k m l => (m = 0) ∨ (0 ≤ l ∧ l ≤ 259)) ov_rowsMany ov_rowsFirst 0 12 → qp2 (fun k m l => (m = 0) ∨ (0 ≤ l ∧ l ≤ 259)) ov_rowsMany ov_rowsLast 0 12 → rp (fun k v => -1 ≤ v ∧ v ≤ 259) ov_rowFirst 0 12 → rp (fun k v => -1 ≤ v ∧ v ≤ 259) ov_rowLast 0 12 → qp2 (fun k m l => (m = 0) ∨ (0 ≤ l ∧ l ≤ 259)) ov_rowMany ov_rowFirst 0 12 → qp2 (fun k m l => (m = 0) ∨ (0 ≤ l ∧ l ≤ 259)) ov_rowMany ov_rowLast 0 12 → qp2 (fun k m l => (m = 0) ∨ (0 ≤ l ∧ l ≤ 259)) ov_rowMany v_rowFirst 0 12 → qp2 (fun k m l => (m = 0) ∨ (0 ≤ l ∧ l ≤ 259)) ov_rowMany v_rowLast 0 12 → Q ov_newNodes ov_newSort ov_newValue ov_newLeast ov_newMost ov_newFirst ov_newNext ov_newMany ov_newPart ov_rowFirst ov_rowLast ov_rowMany ov_rowsFirst ov_rowsLast ov_rowsMany) : w_X12_closeRow v_newNodes v_depth v_newSort v_newValue v_newLeast v_newMost v_newFirst v_newNext v_newMany v_newPart v_rowFirst v_rowLast v_rowMany v_rowsFirst v_rowsLast v_rowsMany Q := by
  have q_t : (bz true).toInt = 1 := rfl
  have q_f : (bz false).toInt = 0 := rfl
  have q_0 : (0 : Int32).toInt = 0 := rfl
  have q_5 : (5 : Int32).toInt = 5 := rfl
  unfold w_X12_closeRow
  refine ⟨i_in (by omega) (by omega), ?_⟩
  intro x8 ex8
  have f1 : x8.toInt = (v_rowFirst v_depth.toNatClampNeg).toInt := congrArg Int32.toInt ex8
  have f2 : (((v_rowMany v_depth.toNatClampNeg).toInt = 0) ∨ (0 ≤ (v_rowFirst v_depth.toNatClampNeg).toInt ∧ (v_rowFirst v_depth.toNatClampNeg).toInt ≤ 259)) := by have h9 := qp2_get (P := (fun k m l => (m = 0) ∨ (0 ≤ l ∧ l ≤ 259))) (a := v_depth.toInt) b0 rfl (by omega) (by omega) (by omega); omega
  have f3 : 0 ≤ x8.toInt + 1 ∧ x8.toInt ≤ 259 := by have h9 := rp_get (P := (fun k v => -1 ≤ v ∧ v ≤ 259)) (a := v_depth.toInt) b4 ex8 rfl (by omega) (by omega) (by omega); omega
  refine ⟨i_in (by omega) (by omega), ?_⟩
  intro x18 ex18
  have f4 : x18.toInt = (v_rowMany v_depth.toNatClampNeg).toInt := congrArg Int32.toInt ex18
  have f5 : (((v_rowMany v_depth.toNatClampNeg).toInt = 0) ∨ (0 ≤ (v_rowFirst v_depth.toNatClampNeg).toInt ∧ (v_rowFirst v_depth.toNatClampNeg).toInt ≤ 259)) := by have h9 := qp2_get (P := (fun k m l => (m = 0) ∨ (0 ≤ l ∧ l ≤ 259))) (a := v_depth.toInt) b0 rfl (by omega) (by omega) (by omega); omega
  have f6 : (((v_rowMany v_depth.toNatClampNeg).toInt = 0) ∨ (0 ≤ (v_rowLast v_depth.toNatClampNeg).toInt ∧ (v_rowLast v_depth.toNatClampNeg).toInt ≤ 259)) := by have h9 := qp2_get (P := (fun k m l => (m = 0) ∨ (0 ≤ l ∧ l ≤ 259))) (a := v_depth.toInt) b2 rfl (by omega) (by omega) (by omega); omega
  have j_60 : ∀ (l1_60 : Int32) (v_newNodes_60 : Int32) (v_newSort_60 : Nat → Int32) (v_newValue_60 : Nat → Int32) (v_newLeast_60 : Nat → Int32) (v_newMost_60 : Nat → Int32) (v_newFirst_60 : Nat → Int32) (v_newNext_60 : Nat → Int32) (v_newMany_60 : Nat → Int32) (v_newPart_60 : Nat → Int32), v_newNodes.toInt ≤ v_newNodes_60.toInt → v_newNodes_60.toInt ≤ v_newNodes.toInt + 1 → ((l1_60.toInt = x8.toInt ∧ v_newNodes_60.toInt = v_newNodes.toInt ∧ x18.toInt = 1) ∨ (l1_60.toInt = v_newNodes.toInt ∧ v_newNodes_60.toInt = v_newNodes.toInt + 1 ∧ x8.toInt = (v_rowFirst v_depth.toNatClampNeg).toInt ∧ 0 ≤ x8.toInt + 1 ∧ x8.toInt ≤ 259 ∧ x18.toInt = (v_rowMany v_depth.toNatClampNeg).toInt)) → w_X12_closeRow_60 v_depth Q l1_60 v_newNodes_60 v_newSort_60 v_newValue_60 v_newLeast_60 v_newMost_60 v_newFirst_60 v_newNext_60 v_newMany_60 v_newPart_60 v_rowFirst v_rowLast v_rowMany v_rowsFirst v_rowsLast v_rowsMany := by
    intro l1_60 v_newNodes_60 v_newSort_60 v_newValue_60 v_newLeast_60 v_newMost_60 v_newFirst_60 v_newNext_60 v_newMany_60 v_newPart_60 f7 f8 f9
    unfold w_X12_closeRow_60
    refine ⟨i_in (by omega) (by omega), ?_⟩
    intro x68 ex68
    have f10 : x68.toInt = (v_rowsMany v_depth.toNatClampNeg).toInt := congrArg Int32.toInt ex68
    have f11 : (((v_rowsMany v_depth.toNatClampNeg).toInt = 0) ∨ (0 ≤ (v_rowsFirst v_depth.toNatClampNeg).toInt ∧ (v_rowsFirst v_depth.toNatClampNeg).toInt ≤ 259)) := by have h9 := qp2_get (P := (fun k m l => (m = 0) ∨ (0 ≤ l ∧ l ≤ 259))) (a := v_depth.toInt) b1 rfl (by omega) (by omega) (by omega); omega
    have f12 : (((v_rowsMany v_depth.toNatClampNeg).toInt = 0) ∨ (0 ≤ (v_rowsLast v_depth.toNatClampNeg).toInt ∧ (v_rowsLast v_depth.toNatClampNeg).toInt ≤ 259)) := by have h9 := qp2_get (P := (fun k m l => (m = 0) ∨ (0 ≤ l ∧ l ≤ 259))) (a := v_depth.toInt) b3 rfl (by omega) (by omega) (by omega); omega
    have j_100 : ∀ (v_newNext_100 : Nat → Int32) (v_rowsFirst_100 : Nat → Int32), ((0 ≤ (v_rowsLast v_depth.toNatClampNeg).toInt + 1 ∧ (v_rowsLast v_depth.toNatClampNeg).toInt ≤ 259) ∨ (x68.toInt = 0)) → 0 ≤ (v_rowsFirst_100 v_depth.toNatClampNeg).toInt → (v_rowsFirst_100 v_depth.toNatClampNeg).toInt ≤ 259 → qp2 (fun k m l => (m = 0) ∨ (0 ≤ l ∧ l ≤ 259)) v_rowsMany v_rowsFirst_100 0 12 → rp (fun k v => -1 ≤ v ∧ v ≤ 259) v_rowsFirst_100 0 12 → w_X12_closeRow_100 v_depth Q l1_60 v_newNodes_60 v_newSort_60 v_newValue_60 v_newLeast_60 v_newMost_60 v_newFirst_60 v_newNext_100 v_newMany_60 v_newPart_60 v_rowFirst v_rowLast v_rowMany v_rowsFirst_100 v_rowsLast v_rowsMany := by
      intro v_newNext_100 v_rowsFirst_100 f13 f14 f15 h16 h17
      unfold w_X12_closeRow_100
      refine ⟨i_in (by omega) (by omega), ?_⟩
      intro g109 eg109
      have f18 : (g109 v_depth.toNatClampNeg).toInt = l1_60.toInt := i_upd (b := l1_60.toInt) eg109 rfl
      have h19 : qp2 (fun k m l => (m = 0) ∨ (0 ≤ l ∧ l ≤ 259)) v_rowsMany g109 0 12 := qp2_upd2 (P := (fun k m l => (m = 0) ∨ (0 ≤ l ∧ l ≤ 259))) (a := v_depth.toInt) (b := l1_60.toInt) b3 eg109 rfl rfl (by omega) (by omega)
      have h20 : rp (fun k v => -1 ≤ v ∧ v ≤ 259) g109 0 12 := rp_upd (P := (fun k v => -1 ≤ v ∧ v ≤ 259)) (a := v_depth.toInt) (b := l1_60.toInt) b7 eg109 rfl rfl (by omega) ⟨(by omega), (by omega)⟩
      refine ⟨i_in (by omega) (by omega), ?_⟩
      intro x119 ex119
      have f21 : x119.toInt = x68.toInt := congrArg Int32.toInt (ex119.trans ex68.symm)
      have f22 : x119.toInt = (v_rowsMany v_depth.toNatClampNeg).toInt := congrArg Int32.toInt ex119
      have f23 : (((v_rowsMany v_depth.toNatClampNeg).toInt = 0) ∨ (0 ≤ (v_rowsFirst v_depth.toNatClampNeg).toInt ∧ (v_rowsFirst v_depth.toNatClampNeg).toInt ≤ 259)) := by have h9 := qp2_get (P := (fun k m l => (m = 0) ∨ (0 ≤ l ∧ l ≤ 259))) (a := v_depth.toInt) b1 rfl (by omega) (by omega) (by omega); omega
      have f24 : (((v_rowsMany v_depth.toNatClampNeg).toInt = 0) ∨ (0 ≤ (v_rowsLast v_depth.toNatClampNeg).toInt ∧ (v_rowsLast v_depth.toNatClampNeg).toInt ≤ 259)) := by have h9 := qp2_get (P := (fun k m l => (m = 0) ∨ (0 ≤ l ∧ l ≤ 259))) (a := v_depth.toInt) b3 rfl (by omega) (by omega) (by omega); omega
      have f25 : (((v_rowsMany v_depth.toNatClampNeg).toInt = 0) ∨ (0 ≤ (v_rowsFirst_100 v_depth.toNatClampNeg).toInt ∧ (v_rowsFirst_100 v_depth.toNatClampNeg).toInt ≤ 259)) := by have h9 := qp2_get (P := (fun k m l => (m = 0) ∨ (0 ≤ l ∧ l ≤ 259))) (a := v_depth.toInt) h16 rfl (by omega) (by omega) (by omega); omega
      have f26 : (((v_rowsMany v_depth.toNatClampNeg).toInt = 0) ∨ (0 ≤ (g109 v_depth.toNatClampNeg).toInt ∧ (g109 v_depth.toNatClampNeg).toInt ≤ 259)) := by have h9 := qp2_get (P := (fun k m l => (m = 0) ∨ (0 ≤ l ∧ l ≤ 259))) (a := v_depth.toInt) h19 rfl (by omega) (by omega) (by omega); omega
      intro x121 ex121
      refine ⟨i_in (by omega) (by omega), ?_⟩
      intro g122 eg122
      have f27 : (g122 v_depth.toNatClampNeg).toInt = x121.toInt := i_upd (b := x121.toInt) eg122 rfl
      have h28 : qp2 (fun k m l => k = v_depth.toInt ∨ (fun k m l => (m = 0) ∨ (0 ≤ l ∧ l ≤ 259)) k m l) g122 v_rowsFirst 0 12 := qp2_hole1 (P := (fun k m l => (m = 0) ∨ (0 ≤ l ∧ l ≤ 259))) (a := v_depth.toInt) b1 eg122 rfl (by omega)
      have h29 : qp2 (fun k m l => k = v_depth.toInt ∨ (fun k m l => (m = 0) ∨ (0 ≤ l ∧ l ≤ 259)) k m l) g122 v_rowsLast 0 12 := qp2_hole1 (P := (fun k m l => (m = 0) ∨ (0 ≤ l ∧ l ≤ 259))) (a := v_depth.toInt) b3 eg122 rfl (by omega)
      have h30 : qp2 (fun k m l => (m = 0) ∨ (0 ≤ l ∧ l ≤ 259)) g122 v_rowsFirst_100 0 12 := qp2_upd1 (P := (fun k m l => (m = 0) ∨ (0 ≤ l ∧ l ≤ 259))) (a := v_depth.toInt) (b := x121.toInt) h16 eg122 rfl rfl (by omega) (by omega)
      have h31 : qp2 (fun k m l => (m = 0) ∨ (0 ≤ l ∧ l ≤ 259)) g122 g109 0 12 := qp2_upd1 (P := (fun k m l => (m = 0) ∨ (0 ≤ l ∧ l ≤ 259))) (a := v_depth.toInt) (b := x121.toInt) h19 eg122 rfl rfl (by omega) (by omega)
      refine ok_X12_beginRow (by omega) (by omega) (qp2_mono b0 (by omega) (by omega)) (qp2_mono b2 (by omega) (by omega)) (rp_mono b4 (by omega) (by omega)) (rp_mono b5 (by omega) (by omega)) (fun r124_0 r124_1 r124_2 h32 h33 h34 h35 h36 h37 => ?_)
      exact hq v_newNodes_60 v_newSort_60 v_newValue_60 v_newLeast_60 v_newMost_60 v_newFirst_60 v_newNext_100 v_newMany_60 v_newPart_60 r124_0 r124_1 r124_2 v_rowsFirst_100 g109 g122 (by omega) (by omega) (qp2_mono h16 (by omega) (by omega)) (rp_mono h17 (by omega) (by omega)) (qp2_mono h19 (by omega) (by omega)) (rp_mono h20 (by omega) (by omega)) (qp2_mono h30 (by omega) (by omega)) (qp2_mono h31 (by omega) (by omega)) (rp_mono h32 (by omega) (by omega)) (rp_mono h33 (by omega) (by omega)) (qp2_mono h34 (by omega) (by omega)) (qp2_mono h35 (by omega) (by omega)) (qp2_mono h36 (by omega) (by omega)) (qp2_mono h37 (by omega) (by omega))
    refine ⟨fun c69 => ?_, fun c69 => ?_⟩
    · have f38 : x68.toInt ≠ 0 := i_ne (a := x68.toInt) (b := 0) rfl rfl c69
      refine ⟨i_in (by omega) (by omega), ?_⟩
      intro x97 ex97
      have f39 : x97.toInt = (v_rowsLast v_depth.toNatClampNeg).toInt := congrArg Int32.toInt ex97
      have f40 : (((v_rowsMany v_depth.toNatClampNeg).toInt = 0) ∨ (0 ≤ (v_rowsLast v_depth.toNatClampNeg).toInt ∧ (v_rowsLast v_depth.toNatClampNeg).toInt ≤ 259)) := by have h9 := qp2_get (P := (fun k m l => (m = 0) ∨ (0 ≤ l ∧ l ≤ 259))) (a := v_depth.toInt) b3 rfl (by omega) (by omega) (by omega); omega
      have f41 : 0 ≤ x97.toInt + 1 ∧ x97.toInt ≤ 259 := by have h9 := rp_get (P := (fun k v => -1 ≤ v ∧ v ≤ 259)) (a := v_depth.toInt) b7 ex97 rfl (by omega) (by omega) (by omega); omega
      refine ⟨i_in (by omega) (by omega), ?_⟩
      intro g99 eg99
      exact j_100 g99 v_rowsFirst (by omega) (by omega) (by omega) (qp2_mono b1 (by omega) (by omega)) (rp_mono b6 (by omega) (by omega))
    · have f42 : x68.toInt = 0 := i_eq (a := x68.toInt) (b := 0) rfl rfl c69
      refine ⟨i_in (by omega) (by omega), ?_⟩
      intro g81 eg81
      have f43 : (g81 v_depth.toNatClampNeg).toInt = l1_60.toInt := i_upd (b := l1_60.toInt) eg81 rfl
      have h44 : qp2 (fun k m l => (m = 0) ∨ (0 ≤ l ∧ l ≤ 259)) v_rowsMany g81 0 12 := qp2_upd2 (P := (fun k m l => (m = 0) ∨ (0 ≤ l ∧ l ≤ 259))) (a := v_depth.toInt) (b := l1_60.toInt) b1 eg81 rfl rfl (by omega) (by omega)
      have h45 : rp (fun k v => -1 ≤ v ∧ v ≤ 259) g81 0 12 := rp_upd (P := (fun k v => -1 ≤ v ∧ v ≤ 259)) (a := v_depth.toInt) (b := l1_60.toInt) b6 eg81 rfl rfl (by omega) ⟨(by omega), (by omega)⟩
      exact j_100 v_newNext_60 g81 (by omega) (by omega) (by omega) (qp2_mono h44 (by omega) (by omega)) (rp_mono h45 (by omega) (by omega))
  refine ⟨fun c20 => ?_, fun c20 => ?_⟩
  · have f46 : x18.toInt = 1 := i_eq (a := x18.toInt) (b := 1) rfl rfl c20
    exact j_60 x8 v_newNodes v_newSort v_newValue v_newLeast v_newMost v_newFirst v_newNext v_newMany v_newPart (by omega) (by omega) (by omega)
  · have f47 : x18.toInt ≠ 1 := i_ne (a := x18.toInt) (b := 1) rfl rfl c20
    refine ok_X12_made (by omega) (by omega) (fun r26 r26_0 r26_1 r26_2 r26_3 r26_4 r26_5 r26_6 r26_7 r26_8 f48 f49 => ?_)
    refine ⟨i_in (by omega) (by omega), ?_⟩
    intro x43 ex43
    have f50 : x43.toInt = x8.toInt := congrArg Int32.toInt (ex43.trans ex8.symm)
    have f51 : x43.toInt = (v_rowFirst v_depth.toNatClampNeg).toInt := congrArg Int32.toInt ex43
    have f52 : (((v_rowMany v_depth.toNatClampNeg).toInt = 0) ∨ (0 ≤ (v_rowFirst v_depth.toNatClampNeg).toInt ∧ (v_rowFirst v_depth.toNatClampNeg).toInt ≤ 259)) := by have h9 := qp2_get (P := (fun k m l => (m = 0) ∨ (0 ≤ l ∧ l ≤ 259))) (a := v_depth.toInt) b0 rfl (by omega) (by omega) (by omega); omega
    have f53 : 0 ≤ x43.toInt + 1 ∧ x43.toInt ≤ 259 := by have h9 := rp_get (P := (fun k v => -1 ≤ v ∧ v ≤ 259)) (a := v_depth.toInt) b4 ex43 rfl (by omega) (by omega) (by omega); omega
    refine ⟨i_in (by omega) (by omega), ?_⟩
    intro g44 eg44
    refine ⟨i_in (by omega) (by omega), ?_⟩
    intro x58 ex58
    have f54 : x58.toInt = x18.toInt := congrArg Int32.toInt (ex58.trans ex18.symm)
    have f55 : x58.toInt = (v_rowMany v_depth.toNatClampNeg).toInt := congrArg Int32.toInt ex58
    have f56 : (((v_rowMany v_depth.toNatClampNeg).toInt = 0) ∨ (0 ≤ (v_rowFirst v_depth.toNatClampNeg).toInt ∧ (v_rowFirst v_depth.toNatClampNeg).toInt ≤ 259)) := by have h9 := qp2_get (P := (fun k m l => (m = 0) ∨ (0 ≤ l ∧ l ≤ 259))) (a := v_depth.toInt) b0 rfl (by omega) (by omega) (by omega); omega
    have f57 : (((v_rowMany v_depth.toNatClampNeg).toInt = 0) ∨ (0 ≤ (v_rowLast v_depth.toNatClampNeg).toInt ∧ (v_rowLast v_depth.toNatClampNeg).toInt ≤ 259)) := by have h9 := qp2_get (P := (fun k m l => (m = 0) ∨ (0 ≤ l ∧ l ≤ 259))) (a := v_depth.toInt) b2 rfl (by omega) (by omega) (by omega); omega
    refine ⟨i_in (by omega) (by omega), ?_⟩
    intro g59 eg59
    exact j_60 r26 r26_0 r26_1 r26_2 r26_3 r26_4 g44 r26_6 g59 r26_8 (by omega) (by omega) (by omega)
set_option maxHeartbeats 4000000 in
theorem ok_X12_closeChoice {v_newNodes : Int32} {v_depth : Int32} {v_newSort : Nat → Int32} {v_newValue : Nat → Int32} {v_newLeast : Nat → Int32} {v_newMost : Nat → Int32} {v_newFirst : Nat → Int32} {v_newNext : Nat → Int32} {v_newMany : Nat → Int32} {v_newPart : Nat → Int32} {v_rowFirst : Nat → Int32} {v_rowLast : Nat → Int32} {v_rowMany : Nat → Int32} {v_rowsFirst : Nat → Int32} {v_rowsLast : Nat → Int32} {v_rowsMany : Nat → Int32} {Q : Int32 → Int32 → (Nat → Int32) → (Nat → Int32) → (Nat → Int32) → (Nat → Int32) → (Nat → Int32) → (Nat → Int32) → (Nat → Int32) → (Nat → Int32) → (Nat → Int32) → (Nat → Int32) → (Nat → Int32) → (Nat → Int32) → (Nat → Int32) → (Nat → Int32) → Prop} (a0 : 0 ≤ v_depth.toInt) (a1 : v_depth.toInt ≤ 11) (a2 : 0 ≤ v_newNodes.toInt) (a3 : v_newNodes.toInt ≤ 257) (b0 : qp2 (fun k m l => (m = 0) ∨ (0 ≤ l ∧ l ≤ 259)) v_rowMany v_rowFirst 0 12) (b1 : qp2 (fun k m l => (m = 0) ∨ (0 ≤ l ∧ l ≤ 259)) v_rowsMany v_rowsFirst 0 12) (b2 : qp2 (fun k m l => (m = 0) ∨ (0 ≤ l ∧ l ≤ 259)) v_rowMany v_rowLast 0 12) (b3 : qp2 (fun k m l => (m = 0) ∨ (0 ≤ l ∧ l ≤ 259)) v_rowsMany v_rowsLast 0 12) (b4 : rp (fun k v => -1 ≤ v ∧ v ≤ 259) v_rowFirst 0 12) (b5 : rp (fun k v => -1 ≤ v ∧ v ≤ 259) v_rowLast 0 12) (b6 : rp (fun k v => -1 ≤ v ∧ v ≤ 259) v_rowsFirst 0 12) (b7 : rp (fun k v => -1 ≤ v ∧ v ≤ 259) v_rowsLast 0 12) (hq : ∀ (r : Int32) (ov_newNodes : Int32) (ov_newSort : Nat → Int32) (ov_newValue : Nat → Int32) (ov_newLeast : Nat → Int32) (ov_newMost : Nat → Int32) (ov_newFirst : Nat → Int32) (ov_newNext : Nat → Int32) (ov_newMany : Nat → Int32) (ov_newPart : Nat → Int32) (ov_rowFirst : Nat → Int32) (ov_rowLast : Nat → Int32) (ov_rowMany : Nat → Int32) (ov_rowsFirst : Nat → Int32) (ov_rowsLast : Nat → Int32) (ov_rowsMany : Nat → Int32), v_newNodes.toInt ≤ ov_newNodes.toInt → ((v_newNodes.toInt ≤ r.toInt ∧ r.toInt ≤ v_newNodes.toInt + 1 ∧ ov_newNodes.toInt = r.toInt + 1) ∨ (v_newNodes.toInt ≤ ov_newNodes.toInt ∧ ov_newNodes.toInt ≤ v_newNodes.toInt + 1 ∧ 0 ≤ r.toInt + 1 ∧ r.toInt ≤ 259)) → 0 ≤ r.toInt → qp2 (fun k m l => (m = 0) ∨ (0 ≤ l ∧ l ≤ 259)) v_rowsMany ov_rowsFirst 0 12 → rp (fun k v => -1 ≤ v ∧ v ≤ 259) ov_rowsFirst 0 12 → qp2 (fun k m l => (m = 0) ∨ (0 ≤ l ∧ l ≤ 259)) v_rowsMany ov_rowsLast 0 12 → rp (fun k v => -1 ≤ v ∧ v ≤ 259) ov_rowsLast 0 12 → qp2 (fun k m l => (m = 0) ∨ (0 ≤ l ∧ l ≤ 259)) ov_rowsMany ov_rowsFirst 0 12 → qp2 (fun k m l => (m = 0) ∨ (0 ≤ l ∧ l ≤ 259)) ov_rowsMany ov_rowsLast 0 12 → rp (fun k v => -1 ≤ v ∧ v ≤ 259) ov_rowFirst 0 12 → rp (fun k v => -1 ≤ v ∧ v ≤ 259) ov_rowLast 0 12 → qp2 (fun k m l => (m = 0) ∨ (0 ≤ l ∧ l ≤ 259)) ov_rowMany ov_rowFirst 0 12 → qp2 (fun k m l => (m = 0) ∨ (0 ≤ l ∧ l ≤ 259)) ov_rowMany ov_rowLast 0 12 → qp2 (fun k m l => (m = 0) ∨ (0 ≤ l ∧ l ≤ 259)) ov_rowMany v_rowFirst 0 12 → qp2 (fun k m l => (m = 0) ∨ (0 ≤ l ∧ l ≤ 259)) ov_rowMany v_rowLast 0 12 → Q r ov_newNodes ov_newSort ov_newValue ov_newLeast ov_newMost ov_newFirst ov_newNext ov_newMany ov_newPart ov_rowFirst ov_rowLast ov_rowMany ov_rowsFirst ov_rowsLast ov_rowsMany) : w_X12_closeChoice v_newNodes v_depth v_newSort v_newValue v_newLeast v_newMost v_newFirst v_newNext v_newMany v_newPart v_rowFirst v_rowLast v_rowMany v_rowsFirst v_rowsLast v_rowsMany Q := by
  have q_t : (bz true).toInt = 1 := rfl
  have q_f : (bz false).toInt = 0 := rfl
  have q_0 : (0 : Int32).toInt = 0 := rfl
  have q_6 : (6 : Int32).toInt = 6 := rfl
  unfold w_X12_closeChoice
  refine ok_X12_closeRow (by omega) (by omega) (by omega) (by omega) (qp2_mono b0 (by omega) (by omega)) (qp2_mono b1 (by omega) (by omega)) (qp2_mono b2 (by omega) (by omega)) (qp2_mono b3 (by omega) (by omega)) (rp_mono b4 (by omega) (by omega)) (rp_mono b5 (by omega) (by omega)) (rp_mono b6 (by omega) (by omega)) (rp_mono b7 (by omega) (by omega)) (fun r1_0 r1_1 r1_2 r1_3 r1_4 r1_5 r1_6 r1_7 r1_8 r1_9 r1_10 r1_11 r1_12 r1_13 r1_14 f1 f2 h3 h4 h5 h6 h7 h8 h9 h10 h11 h12 h13 h14 => ?_)
  refine ⟨i_in (by omega) (by omega), ?_⟩
  intro x12 ex12
  have f15 : x12.toInt = (r1_14 v_depth.toNatClampNeg).toInt := congrArg Int32.toInt ex12
  have f16 : (((r1_14 v_depth.toNatClampNeg).toInt = 0) ∨ (0 ≤ (r1_12 v_depth.toNatClampNeg).toInt ∧ (r1_12 v_depth.toNatClampNeg).toInt ≤ 259)) := by have h9 := qp2_get (P := (fun k m l => (m = 0) ∨ (0 ≤ l ∧ l ≤ 259))) (a := v_depth.toInt) h7 rfl (by omega) (by omega) (by omega); omega
  have f17 : (((r1_14 v_depth.toNatClampNeg).toInt = 0) ∨ (0 ≤ (r1_13 v_depth.toNatClampNeg).toInt ∧ (r1_13 v_depth.toNatClampNeg).toInt ≤ 259)) := by have h9 := qp2_get (P := (fun k m l => (m = 0) ∨ (0 ≤ l ∧ l ≤ 259))) (a := v_depth.toInt) h8 rfl (by omega) (by omega) (by omega); omega
  refine ⟨fun c14 => ?_, fun c14 => ?_⟩
  · have f18 : x12.toInt ≠ 1 := i_ne (a := x12.toInt) (b := 1) rfl rfl c14
    refine ok_X12_made (by omega) (by omega) (fun r31 r31_0 r31_1 r31_2 r31_3 r31_4 r31_5 r31_6 r31_7 r31_8 f19 f20 => ?_)
    refine ⟨i_in (by omega) (by omega), ?_⟩
    intro x48 ex48
    have f21 : x48.toInt = (r1_12 v_depth.toNatClampNeg).toInt := congrArg Int32.toInt ex48
    have f22 : (((v_rowsMany v_depth.toNatClampNeg).toInt = 0) ∨ (0 ≤ (r1_12 v_depth.toNatClampNeg).toInt ∧ (r1_12 v_depth.toNatClampNeg).toInt ≤ 259)) := by have h9 := qp2_get (P := (fun k m l => (m = 0) ∨ (0 ≤ l ∧ l ≤ 259))) (a := v_depth.toInt) h3 rfl (by omega) (by omega) (by omega); omega
    have f23 : (((r1_14 v_depth.toNatClampNeg).toInt = 0) ∨ (0 ≤ (r1_12 v_depth.toNatClampNeg).toInt ∧ (r1_12 v_depth.toNatClampNeg).toInt ≤ 259)) := by have h9 := qp2_get (P := (fun k m l => (m = 0) ∨ (0 ≤ l ∧ l ≤ 259))) (a := v_depth.toInt) h7 rfl (by omega) (by omega) (by omega); omega
    have f24 : 0 ≤ x48.toInt + 1 ∧ x48.toInt ≤ 259 := by have h9 := rp_get (P := (fun k v => -1 ≤ v ∧ v ≤ 259)) (a := v_depth.toInt) h4 ex48 rfl (by omega) (by omega) (by omega); omega
    refine ⟨i_in (by omega) (by omega), ?_⟩
    intro g49 eg49
    refine ⟨i_in (by omega) (by omega), ?_⟩
    intro x63 ex63
    have f25 : x63.toInt = x12.toInt := congrArg Int32.toInt (ex63.trans ex12.symm)
    have f26 : x63.toInt = (r1_14 v_depth.toNatClampNeg).toInt := congrArg Int32.toInt ex63
    have f27 : (((r1_14 v_depth.toNatClampNeg).toInt = 0) ∨ (0 ≤ (r1_12 v_depth.toNatClampNeg).toInt ∧ (r1_12 v_depth.toNatClampNeg).toInt ≤ 259)) := by have h9 := qp2_get (P := (fun k m l => (m = 0) ∨ (0 ≤ l ∧ l ≤ 259))) (a := v_depth.toInt) h7 rfl (by omega) (by omega) (by omega); omega
    have f28 : (((r1_14 v_depth.toNatClampNeg).toInt = 0) ∨ (0 ≤ (r1_13 v_depth.toNatClampNeg).toInt ∧ (r1_13 v_depth.toNatClampNeg).toInt ≤ 259)) := by have h9 := qp2_get (P := (fun k m l => (m = 0) ∨ (0 ≤ l ∧ l ≤ 259))) (a := v_depth.toInt) h8 rfl (by omega) (by omega) (by omega); omega
    refine ⟨i_in (by omega) (by omega), ?_⟩
    intro g64 eg64
    exact hq r31 r31_0 r31_1 r31_2 r31_3 r31_4 g49 r31_6 g64 r31_8 r1_9 r1_10 r1_11 r1_12 r1_13 r1_14 (by omega) (by omega) (by omega) (qp2_mono h3 (by omega) (by omega)) (rp_mono h4 (by omega) (by omega)) (qp2_mono h5 (by omega) (by omega)) (rp_mono h6 (by omega) (by omega)) (qp2_mono h7 (by omega) (by omega)) (qp2_mono h8 (by omega) (by omega)) (rp_mono h9 (by omega) (by omega)) (rp_mono h10 (by omega) (by omega)) (qp2_mono h11 (by omega) (by omega)) (qp2_mono h12 (by omega) (by omega)) (qp2_mono h13 (by omega) (by omega)) (qp2_mono h14 (by omega) (by omega))
  · have f29 : x12.toInt = 1 := i_eq (a := x12.toInt) (b := 1) rfl rfl c14
    refine ⟨i_in (by omega) (by omega), ?_⟩
    intro x25 ex25
    have f30 : x25.toInt = (r1_12 v_depth.toNatClampNeg).toInt := congrArg Int32.toInt ex25
    have f31 : (((v_rowsMany v_depth.toNatClampNeg).toInt = 0) ∨ (0 ≤ (r1_12 v_depth.toNatClampNeg).toInt ∧ (r1_12 v_depth.toNatClampNeg).toInt ≤ 259)) := by have h9 := qp2_get (P := (fun k m l => (m = 0) ∨ (0 ≤ l ∧ l ≤ 259))) (a := v_depth.toInt) h3 rfl (by omega) (by omega) (by omega); omega
    have f32 : (((r1_14 v_depth.toNatClampNeg).toInt = 0) ∨ (0 ≤ (r1_12 v_depth.toNatClampNeg).toInt ∧ (r1_12 v_depth.toNatClampNeg).toInt ≤ 259)) := by have h9 := qp2_get (P := (fun k m l => (m = 0) ∨ (0 ≤ l ∧ l ≤ 259))) (a := v_depth.toInt) h7 rfl (by omega) (by omega) (by omega); omega
    have f33 : 0 ≤ x25.toInt + 1 ∧ x25.toInt ≤ 259 := by have h9 := rp_get (P := (fun k v => -1 ≤ v ∧ v ≤ 259)) (a := v_depth.toInt) h4 ex25 rfl (by omega) (by omega) (by omega); omega
    exact hq x25 r1_0 r1_1 r1_2 r1_3 r1_4 r1_5 r1_6 r1_7 r1_8 r1_9 r1_10 r1_11 r1_12 r1_13 r1_14 (by omega) (by omega) (by omega) (qp2_mono h3 (by omega) (by omega)) (rp_mono h4 (by omega) (by omega)) (qp2_mono h5 (by omega) (by omega)) (rp_mono h6 (by omega) (by omega)) (qp2_mono h7 (by omega) (by omega)) (qp2_mono h8 (by omega) (by omega)) (rp_mono h9 (by omega) (by omega)) (rp_mono h10 (by omega) (by omega)) (qp2_mono h11 (by omega) (by omega)) (qp2_mono h12 (by omega) (by omega)) (qp2_mono h13 (by omega) (by omega)) (qp2_mono h14 (by omega) (by omega))
set_option maxHeartbeats 4000000 in
theorem ok_X12_holding {p1 : Int32} {p2 : Int32} {p3 : Int32} {v_newNodes : Int32} {v_newSort : Nat → Int32} {v_newValue : Nat → Int32} {v_newLeast : Nat → Int32} {v_newMost : Nat → Int32} {v_newFirst : Nat → Int32} {v_newNext : Nat → Int32} {v_newMany : Nat → Int32} {v_newPart : Nat → Int32} {Q : Int32 → Int32 → (Nat → Int32) → (Nat → Int32) → (Nat → Int32) → (Nat → Int32) → (Nat → Int32) → (Nat → Int32) → (Nat → Int32) → (Nat → Int32) → Prop} (a0 : 0 ≤ v_newNodes.toInt) (a1 : v_newNodes.toInt ≤ 259) (hq : ∀ (r : Int32) (ov_newNodes : Int32) (ov_newSort : Nat → Int32) (ov_newValue : Nat → Int32) (ov_newLeast : Nat → Int32) (ov_newMost : Nat → Int32) (ov_newFirst : Nat → Int32) (ov_newNext : Nat → Int32) (ov_newMany : Nat → Int32) (ov_newPart : Nat → Int32), r.toInt = v_newNodes.toInt → ov_newNodes.toInt = v_newNodes.toInt + 1 → Q r ov_newNodes ov_newSort ov_newValue ov_newLeast ov_newMost ov_newFirst ov_newNext ov_newMany ov_newPart) : w_X12_holding p1 p2 p3 v_newNodes v_newSort v_newValue v_newLeast v_newMost v_newFirst v_newNext v_newMany v_newPart Q := by
  have q_t : (bz true).toInt = 1 := rfl
  have q_f : (bz false).toInt = 0 := rfl
  unfold w_X12_holding
  refine ok_X12_made (by omega) (by omega) (fun r3 r3_0 r3_1 r3_2 r3_3 r3_4 r3_5 r3_6 r3_7 r3_8 f1 f2 => ?_)
  refine ⟨i_in (by omega) (by omega), ?_⟩
  intro g15 eg15
  refine ⟨i_in (by omega) (by omega), ?_⟩
  intro g23 eg23
  exact hq r3 r3_0 r3_1 r3_2 r3_3 r3_4 g15 r3_6 g23 r3_8 (by omega) (by omega)
set_option maxHeartbeats 4000000 in
theorem ok_X12_countItem {p1 : Int32} {v_fault : Int32} {v_faultAt : Int32} {v_items : Int32} {Q : Int32 → Int32 → Int32 → Prop} (a0 : 0 ≤ v_items.toInt) (a1 : v_items.toInt ≤ 110) (a2 : 0 ≤ v_fault.toInt) (hq : ∀ (ov_fault : Int32) (ov_faultAt : Int32) (ov_items : Int32), v_fault.toInt ≤ ov_fault.toInt → ((1 ≤ ov_fault.toInt) ∨ (v_items.toInt ≠ 100)) → ((ov_fault.toInt = v_fault.toInt ∧ ov_faultAt.toInt = v_faultAt.toInt) ∨ (v_items.toInt = 100 ∧ v_fault.toInt ≤ ov_fault.toInt ∧ 1 ≤ ov_fault.toInt)) → ov_items.toInt = v_items.toInt + 1 → Q ov_fault ov_faultAt ov_items) : w_X12_countItem p1 v_fault v_faultAt v_items Q := by
  have q_t : (bz true).toInt = 1 := rfl
  have q_f : (bz false).toInt = 0 := rfl
  have q_2 : (2 : Int32).toInt = 2 := rfl
  unfold w_X12_countItem
  have j_15 : ∀ (v_fault_15 : Int32) (v_faultAt_15 : Int32), v_fault.toInt ≤ v_fault_15.toInt → ((1 ≤ v_fault_15.toInt) ∨ (v_items.toInt ≠ 100)) → ((v_fault_15.toInt = v_fault.toInt ∧ v_faultAt_15.toInt = v_faultAt.toInt) ∨ (v_items.toInt = 100 ∧ v_fault.toInt ≤ v_fault_15.toInt ∧ 1 ≤ v_fault_15.toInt)) → w_X12_countItem_15 Q v_fault_15 v_faultAt_15 v_items := by
    intro v_fault_15 v_faultAt_15 f1 f2 f3
    unfold w_X12_countItem_15
    intro x21 ex21
    have f4 : x21.toInt = v_items.toInt + 1 := i_add (a := v_items.toInt) (b := 1) ex21 rfl rfl (by omega) (by omega)
    exact hq v_fault_15 v_faultAt_15 x21 (by omega) (by omega) (by omega) (by omega)
  refine ⟨fun c6 => ?_, fun c6 => ?_⟩
  · have f5 : v_items.toInt ≠ 100 := i_ne (a := v_items.toInt) (b := 100) rfl rfl c6
    exact j_15 v_fault v_faultAt (by omega) (by omega) (by omega)
  · have f6 : v_items.toInt = 100 := i_eq (a := v_items.toInt) (b := 100) rfl rfl c6
    refine ok_X12_fail (by omega) (by omega) (by omega) (fun r12_0 r12_1 f7 f8 f9 => ?_)
    exact j_15 r12_0 r12_1 (by omega) (by omega) (by omega)
set_option maxHeartbeats 4000000 in
theorem ok_X12_hexes {p1 : Int32} {v_taped : Int32} {v_fault : Int32} {v_faultAt : Int32} {v_tape : Nat → Int32} {Q : Int32 → Int32 → Int32 → Prop} (a0 : 0 ≤ v_taped.toInt) (a1 : v_taped.toInt ≤ 200) (a2 : 0 ≤ p1.toInt) (a3 : p1.toInt ≤ 1000) (a4 : 0 ≤ v_fault.toInt) (a5 : ((1 ≤ v_fault.toInt) ∨ (p1.toInt ≤ v_taped.toInt))) (b0 : rp (fun k v => 0 ≤ v ∧ v ≤ 126) v_tape 0 200) (hq : ∀ (r : Int32) (ov_fault : Int32) (ov_faultAt : Int32), 0 ≤ ov_fault.toInt + 1 → 0 ≤ ov_fault.toInt → v_fault.toInt ≤ ov_fault.toInt → ((1 ≤ ov_fault.toInt) ∨ (p1.toInt ≤ v_taped.toInt)) → ((1 ≤ ov_fault.toInt) ∨ (p1.toInt + 4 ≤ v_taped.toInt)) → Q r ov_fault ov_faultAt) : w_X12_hexes p1 v_taped v_fault v_faultAt v_tape Q := by
  have q_t : (bz true).toInt = 1 := rfl
  have q_f : (bz false).toInt = 0 := rfl
  have q_0 : (0 : Int32).toInt = 0 := rfl
  have q_1 : (1 : Int32).toInt = 1 := rfl
  unfold w_X12_hexes
  have j_4 : ∀ n_4 : Nat, ∀ (l2_4 : Int32) (l3_4 : Int32) (v_fault_4 : Int32) (v_faultAt_4 : Int32), 0 ≤ l3_4.toInt → l3_4.toInt ≤ 4 → v_fault.toInt ≤ v_fault_4.toInt → ((1 ≤ v_fault_4.toInt) ∨ (l3_4.toInt + p1.toInt ≤ v_taped.toInt)) → ((-1) * l3_4.toInt + 4).toNat < n_4 → w_X12_hexes_4 p1 v_taped v_tape Q n_4 l2_4 l3_4 v_fault_4 v_faultAt_4 := by
    intro n_4
    induction n_4 with
    | zero =>
      intro l2_4 l3_4 v_fault_4 v_faultAt_4 f1 f2 f3 f4 hm_4
      exfalso; omega
    | succ n_4 ih_4 =>
      intro l2_4 l3_4 v_fault_4 v_faultAt_4 f1 f2 f3 f4 hm_4
      unfold w_X12_hexes_4
      unfold w_X12_hexes_4B
      refine ⟨fun c6 => ?_, fun c6 => ?_⟩
      · have f5 : 4 ≤ l3_4.toInt := i_le (a := 4) (b := l3_4.toInt) rfl rfl c6
        exact hq l2_4 v_fault_4 v_faultAt_4 (by omega) (by omega) (by omega) (by omega) (by omega)
      · have f6 : l3_4.toInt < 4 := i_nle (a := 4) (b := l3_4.toInt) rfl rfl c6
        intro x12 ex12
        have f7 : x12.toInt = p1.toInt + l3_4.toInt := i_add (a := p1.toInt) (b := l3_4.toInt) ex12 rfl rfl (by omega) (by omega)
        refine ok_X12_signAt (by omega) (by omega) (by omega) (rp_mono b0 (by omega) (by omega)) (fun r13 f8 f9 f10 => ?_)
        refine ok_X12_isHex  (fun r20 f11 f12 f13 f14 => ?_)
        have j_34 : ∀ (v_fault_34 : Int32) (v_faultAt_34 : Int32), v_fault.toInt ≤ v_fault_34.toInt → v_fault_4.toInt ≤ v_fault_34.toInt → v_fault_34.toInt ≤ v_fault_4.toInt + 1 → ((1 ≤ v_fault_34.toInt) ∨ (l3_4.toInt + p1.toInt + 1 ≤ v_taped.toInt)) → ((v_fault_34.toInt = v_fault_4.toInt) ∨ (r20.toInt = 0 ∧ v_fault_4.toInt ≤ v_fault_34.toInt ∧ 1 ≤ v_fault_34.toInt)) → w_X12_hexes_34 Q (w_X12_hexes_4 p1 v_taped v_tape Q n_4) l2_4 l3_4 r13 v_fault_34 v_faultAt_34 := by
          intro v_fault_34 v_faultAt_34 f15 f16 f17 f18 f19
          unfold w_X12_hexes_34
          intro x37 ex37
          refine ok_X12_isDigit  (fun r40 f20 f21 f22 f23 f24 => ?_)
          have j_59 : ∀ (s0_59 : Int32), ((r40.toInt = 0 ∧ s0_59.toInt + 87 = r13.toInt) ∨ (s0_59.toInt + 48 = r13.toInt)) → s0_59.toInt ≤ 59 → w_X12_hexes_59 Q (w_X12_hexes_4 p1 v_taped v_tape Q n_4) s0_59 x37 l3_4 v_fault_34 v_faultAt_34 := by
            intro s0_59 f25 f26
            unfold w_X12_hexes_59
            intro x59 ex59
            intro x61 ex61
            have f27 : x61.toInt = l3_4.toInt + 1 := i_add (a := l3_4.toInt) (b := 1) ex61 rfl rfl (by omega) (by omega)
            exact ih_4 x59 x61 v_fault_34 v_faultAt_34 (by omega) (by omega) (by omega) (by omega) (by have h8_0 := i_rng l3_4; have h8_1 := i_rng x61; omega)
          refine ⟨fun c43 => ?_, fun c43 => ?_⟩
          · have f28 : r40.toInt = 0 := i_eq (a := r40.toInt) (b := 0) rfl rfl c43
            intro x58 ex58
            have f29 : x58.toInt = r13.toInt - 87 := i_sub (a := r13.toInt) (b := 87) ex58 rfl rfl (by omega) (by omega)
            exact j_59 x58 (by omega) (by omega)
          · have f30 : r40.toInt ≠ 0 := i_ne (a := r40.toInt) (b := 0) rfl rfl c43
            intro x50 ex50
            have f31 : x50.toInt = r13.toInt - 48 := i_sub (a := r13.toInt) (b := 48) ex50 rfl rfl (by omega) (by omega)
            exact j_59 x50 (by omega) (by omega)
        refine ⟨fun c23 => ?_, fun c23 => ?_⟩
        · have f32 : r20.toInt ≠ 0 := i_ne (a := r20.toInt) (b := 0) rfl rfl c23
          exact j_34 v_fault_4 v_faultAt_4 (by omega) (by omega) (by omega) (by omega) (by omega)
        · have f33 : r20.toInt = 0 := i_eq (a := r20.toInt) (b := 0) rfl rfl c23
          intro x30 ex30
          have f34 : x30.toInt = p1.toInt + l3_4.toInt := i_add (a := p1.toInt) (b := l3_4.toInt) ex30 rfl rfl (by omega) (by omega)
          refine ok_X12_fail (by omega) (by omega) (by omega) (fun r31_0 r31_1 f35 f36 f37 => ?_)
          exact j_34 r31_0 r31_1 (by omega) (by omega) (by omega) (by omega) (by omega)
  exact ⟨(4 : Int).toNat + 1, j_4   ((4 : Int).toNat + 1) 0 0 v_fault v_faultAt (by omega) (by omega) (by omega) (by omega) (by omega)⟩
set_option maxHeartbeats 4000000 in
theorem ok_X12_numberFrom {p1 : Int32} {p2 : Int32} {v_taped : Int32} {v_fault : Int32} {v_faultAt : Int32} {v_loopLeast : Int32} {v_loopMost : Int32} {v_tape : Nat → Int32} {Q : Int32 → Int32 → Int32 → Int32 → Int32 → Prop} (a0 : 0 ≤ v_taped.toInt) (a1 : v_taped.toInt ≤ 200) (a2 : 0 ≤ p2.toInt) (a3 : p2.toInt ≤ 1) (a4 : 0 ≤ p1.toInt) (a5 : p1.toInt ≤ 1000) (a6 : 0 ≤ v_fault.toInt) (b0 : rp (fun k v => 0 ≤ v ∧ v ≤ 126) v_tape 0 200) (hq : ∀ (r : Int32) (ov_fault : Int32) (ov_faultAt : Int32) (ov_loopLeast : Int32) (ov_loopMost : Int32), v_fault.toInt ≤ ov_fault.toInt → p1.toInt ≤ r.toInt → ((r.toInt = p1.toInt ∧ ov_loopLeast.toInt = v_loopLeast.toInt ∧ ov_loopMost.toInt = v_loopMost.toInt ∧ 1 ≤ ov_fault.toInt) ∨ (r.toInt ≤ 200)) → r.toInt ≤ p1.toInt + 2 → Q r ov_fault ov_faultAt ov_loopLeast ov_loopMost) : w_X12_numberFrom p1 p2 v_taped v_fault v_faultAt v_loopLeast v_loopMost v_tape Q := by
  have q_t : (bz true).toInt = 1 := rfl
  have q_f : (bz false).toInt = 0 := rfl
  have q_1 : (1 : Int32).toInt = 1 := rfl
  have q_3 : (3 : Int32).toInt = 3 := rfl
  unfold w_X12_numberFrom
  refine ok_X12_signAt (by omega) (by omega) (by omega) (rp_mono b0 (by omega) (by omega)) (fun r2 f1 f2 f3 => ?_)
  refine ok_X12_isDigit  (fun r5 f4 f5 f6 f7 f8 => ?_)
  refine ⟨fun c8 => ?_, fun c8 => ?_⟩
  · have f9 : r5.toInt ≠ 0 := i_ne (a := r5.toInt) (b := 0) rfl rfl c8
    refine ok_X12_signAt (by omega) (by omega) (by omega) (rp_mono b0 (by omega) (by omega)) (fun r21 f10 f11 f12 => ?_)
    intro x26 ex26
    have f13 : x26.toInt = r21.toInt - 48 := i_sub (a := r21.toInt) (b := 48) ex26 rfl rfl (by omega) (by omega)
    intro x30 ex30
    have f14 : x30.toInt = p1.toInt + 1 := i_add (a := p1.toInt) (b := 1) ex30 rfl rfl (by omega) (by omega)
    refine ok_X12_signAt (by omega) (by omega) (by omega) (rp_mono b0 (by omega) (by omega)) (fun r36 f15 f16 f17 => ?_)
    refine ok_X12_isDigit  (fun r39 f18 f19 f20 f21 f22 => ?_)
    have j_63 : ∀ (l3_63 : Int32) (l4_63 : Int32), ((l3_63.toInt = x26.toInt ∧ l4_63.toInt = x30.toInt ∧ r39.toInt = 0) ∨ (10 * x26.toInt ≤ l3_63.toInt + 49 ∧ l3_63.toInt ≤ 10 * x26.toInt + 78 ∧ l4_63.toInt = x30.toInt + 1)) → l4_63.toInt ≤ 200 → w_X12_numberFrom_63 p1 p2 Q l3_63 l4_63 v_fault v_faultAt v_loopLeast v_loopMost := by
      intro l3_63 l4_63 f23 f24
      unfold w_X12_numberFrom_63
      have j_87 : ∀ (v_fault_87 : Int32) (v_faultAt_87 : Int32), v_fault.toInt ≤ v_fault_87.toInt → ((v_fault_87.toInt = v_fault.toInt ∧ v_faultAt_87.toInt = v_faultAt.toInt ∧ l3_63.toInt ≤ 20 ∧ p2.toInt = 0) ∨ (v_fault_87.toInt = v_fault.toInt ∧ v_faultAt_87.toInt = v_faultAt.toInt ∧ l3_63.toInt ≤ 20 ∧ v_loopLeast.toInt ≤ l3_63.toInt) ∨ (v_fault.toInt ≤ v_fault_87.toInt ∧ 1 ≤ v_fault_87.toInt)) → w_X12_numberFrom_87 p2 Q l3_63 l4_63 v_fault_87 v_faultAt_87 v_loopLeast v_loopMost := by
        intro v_fault_87 v_faultAt_87 f25 f26
        unfold w_X12_numberFrom_87
        have j_105 : ∀ (s0_105 : Int32), ((s0_105.toInt = l3_63.toInt ∧ p2.toInt = 0) ∨ (s0_105.toInt = v_loopLeast.toInt)) → w_X12_numberFrom_105 Q s0_105 l4_63 v_fault_87 v_faultAt_87 v_loopLeast l3_63 := by
          intro s0_105 f27
          unfold w_X12_numberFrom_105
          exact hq l4_63 v_fault_87 v_faultAt_87 s0_105 l3_63 (by omega) (by omega) (by omega) (by omega)
        refine ⟨fun c94 => ?_, fun c94 => ?_⟩
        · have f28 : p2.toInt = 0 := i_eq (a := p2.toInt) (b := 0) rfl rfl c94
          exact j_105 l3_63 (by omega)
        · have f29 : p2.toInt ≠ 0 := i_ne (a := p2.toInt) (b := 0) rfl rfl c94
          exact j_105 v_loopLeast (by omega)
      have j_81 : ((21 ≤ l3_63.toInt) ∨ (l3_63.toInt ≤ 20 ∧ l3_63.toInt + 1 ≤ v_loopLeast.toInt)) → w_X12_numberFrom_81 p1 p2 Q l3_63 l4_63 v_fault v_faultAt v_loopLeast v_loopMost := by
        intro f30
        unfold w_X12_numberFrom_81
        refine ok_X12_fail (by omega) (by omega) (by omega) (fun r84_0 r84_1 f31 f32 f33 => ?_)
        exact j_87 r84_0 r84_1 (by omega) (by omega)
      refine ⟨fun c66 => ?_, fun c66 => ?_⟩
      · have f34 : 20 < l3_63.toInt := i_lt (a := 20) (b := l3_63.toInt) rfl rfl c66
        exact j_81  (by omega)
      · have f35 : l3_63.toInt ≤ 20 := i_nlt (a := 20) (b := l3_63.toInt) rfl rfl c66
        refine ⟨fun c70 => ?_, fun c70 => ?_⟩
        · have f36 : p2.toInt = 0 := i_eq (a := p2.toInt) (b := 0) rfl rfl c70
          exact j_87 v_fault v_faultAt (by omega) (by omega)
        · have f37 : p2.toInt ≠ 0 := i_ne (a := p2.toInt) (b := 0) rfl rfl c70
          refine ⟨fun c78 => ?_, fun c78 => ?_⟩
          · have f38 : v_loopLeast.toInt ≤ l3_63.toInt := i_le (a := v_loopLeast.toInt) (b := l3_63.toInt) rfl rfl c78
            exact j_87 v_fault v_faultAt (by omega) (by omega)
          · have f39 : l3_63.toInt < v_loopLeast.toInt := i_nle (a := v_loopLeast.toInt) (b := l3_63.toInt) rfl rfl c78
            exact j_81  (by omega)
    refine ⟨fun c42 => ?_, fun c42 => ?_⟩
    · have f40 : r39.toInt = 0 := i_eq (a := r39.toInt) (b := 0) rfl rfl c42
      exact j_63 x26 x30 (by omega) (by omega)
    · have f41 : r39.toInt ≠ 0 := i_ne (a := r39.toInt) (b := 0) rfl rfl c42
      intro x48 ex48
      have f42 : x48.toInt = 10 * x26.toInt := i_mul (a := 10) (b := x26.toInt) ex48 rfl rfl (by omega) (by omega)
      refine ok_X12_signAt (by omega) (by omega) (by omega) (rp_mono b0 (by omega) (by omega)) (fun r52 f43 f44 f45 => ?_)
      intro x55 ex55
      have f46 : x55.toInt = x48.toInt + r52.toInt := i_add (a := x48.toInt) (b := r52.toInt) ex55 rfl rfl (by omega) (by omega)
      intro x58 ex58
      have f47 : x58.toInt = x55.toInt - 48 := i_sub (a := x55.toInt) (b := 48) ex58 rfl rfl (by omega) (by omega)
      intro x60 ex60
      have f48 : x60.toInt = x30.toInt + 1 := i_add (a := x30.toInt) (b := 1) ex60 rfl rfl (by omega) (by omega)
      exact j_63 x58 x60 (by omega) (by omega)
  · have f49 : r5.toInt = 0 := i_eq (a := r5.toInt) (b := 0) rfl rfl c8
    refine ok_X12_fail (by omega) (by omega) (by omega) (fun r14_0 r14_1 f50 f51 f52 => ?_)
    exact hq p1 r14_0 r14_1 v_loopLeast v_loopMost (by omega) (by omega) (by omega) (by omega)
