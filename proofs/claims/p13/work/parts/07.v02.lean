set_option maxHeartbeats 4000000 in
theorem ok_X12_putNumber {p1 : Int32} {v_printedMany : Int32} {v_printed : Nat → Int32} {Q : Int32 → (Nat → Int32) → Prop} (a0 : 0 ≤ v_printedMany.toInt) (a1 : v_printedMany.toInt ≤ 3998) (a2 : 0 ≤ p1.toInt) (a3 : p1.toInt ≤ 99) (hq : ∀ (ov_printedMany : Int32) (ov_printed : Nat → Int32), v_printedMany.toInt + 1 ≤ ov_printedMany.toInt → ov_printedMany.toInt ≤ v_printedMany.toInt + 3 → ((ov_printedMany.toInt = v_printedMany.toInt + 1 ∧ p1.toInt ≤ 9) ∨ (10 ≤ p1.toInt ∧ ov_printedMany.toInt = v_printedMany.toInt + 2)) → Q ov_printedMany ov_printed) : w_X12_putNumber p1 v_printedMany v_printed Q := by
  have q_t : (bz true).toInt = 1 := rfl
  have q_f : (bz false).toInt = 0 := rfl
  unfold w_X12_putNumber
  have j_17 : ∀ (v_printedMany_17 : Int32) (v_printed_17 : Nat → Int32), v_printedMany.toInt ≤ v_printedMany_17.toInt → v_printedMany_17.toInt ≤ v_printedMany.toInt + 2 → ((v_printedMany_17.toInt = v_printedMany.toInt ∧ p1.toInt ≤ 9) ∨ (10 ≤ p1.toInt ∧ v_printedMany_17.toInt = v_printedMany.toInt + 1)) → w_X12_putNumber_17 p1 Q v_printedMany_17 v_printed_17 := by
    intro v_printedMany_17 v_printed_17 f1 f2 f3
    unfold w_X12_putNumber_17
    intro x23 ex23
    have f4 : (0 ≤ x23.toInt ∧ x23.toInt ≤ 9 ∧ x23.toInt ≤ p1.toInt) := by have h9 := i_rem (b := 10) ex23 rfl (by decide) (by omega); omega
    intro x24 ex24
    have f5 : x24.toInt = 48 + x23.toInt := i_add (a := 48) (b := x23.toInt) ex24 rfl rfl (by omega) (by omega)
    refine ok_X12_put (by omega) (by omega) (fun r25_0 r25_1 f6 => ?_)
    exact hq r25_0 r25_1 (by omega) (by omega) (by omega)
  refine ⟨fun c3 => ?_, fun c3 => ?_⟩
  · have f7 : p1.toInt ≤ 9 := i_le (a := p1.toInt) (b := 9) rfl rfl c3
    exact j_17 v_printedMany v_printed (by omega) (by omega) (by omega)
  · have f8 : 9 < p1.toInt := i_nle (a := p1.toInt) (b := 9) rfl rfl c3
    intro x12 ex12
    have f9 : (0 ≤ x12.toInt ∧ 10 * x12.toInt ≤ p1.toInt ∧ p1.toInt ≤ 10 * x12.toInt + 9) := by have h9 := i_div (b := 10) ex12 rfl (by decide) (by omega); omega
    intro x13 ex13
    have f10 : x13.toInt = 48 + x12.toInt := i_add (a := 48) (b := x12.toInt) ex13 rfl rfl (by omega) (by omega)
    refine ok_X12_put (by omega) (by omega) (fun r14_0 r14_1 f11 => ?_)
    exact j_17 r14_0 r14_1 (by omega) (by omega) (by omega)
set_option maxHeartbeats 4000000 in
theorem ok_X12_putMember {p1 : Int32} {v_printedMany : Int32} {v_printed : Nat → Int32} {Q : Int32 → (Nat → Int32) → Prop} (a0 : 0 ≤ v_printedMany.toInt) (a1 : v_printedMany.toInt ≤ 3994) (hq : ∀ (ov_printedMany : Int32) (ov_printed : Nat → Int32), v_printedMany.toInt ≤ ov_printedMany.toInt → 1 ≤ ov_printedMany.toInt → ov_printedMany.toInt ≤ 4000 → ov_printedMany.toInt ≤ v_printedMany.toInt + 6 → Q ov_printedMany ov_printed) : w_X12_putMember p1 v_printedMany v_printed Q := by
  have q_t : (bz true).toInt = 1 := rfl
  have q_f : (bz false).toInt = 0 := rfl
  have q_32 : (32 : Int32).toInt = 32 := rfl
  have q_92 : (92 : Int32).toInt = 92 := rfl
  have q_126 : (126 : Int32).toInt = 126 := rfl
  unfold w_X12_putMember
  refine ok_X12_in  (fun r5 f1 f2 f3 f4 f5 => ?_)
  refine ⟨fun c8 => ?_, fun c8 => ?_⟩
  · have f6 : r5.toInt ≠ 0 := i_ne (a := r5.toInt) (b := 0) rfl rfl c8
    have j_53 : ∀ (v_printedMany_53 : Int32) (v_printed_53 : Nat → Int32), v_printedMany.toInt ≤ v_printedMany_53.toInt → v_printedMany_53.toInt ≤ v_printedMany.toInt + 6 → ((v_printedMany_53.toInt = v_printedMany.toInt) ∨ (v_printedMany_53.toInt = v_printedMany.toInt + 1)) → w_X12_putMember_53 p1 Q v_printedMany_53 v_printed_53 := by
      intro v_printedMany_53 v_printed_53 f7 f8 f9
      unfold w_X12_putMember_53
      refine ok_X12_put (by omega) (by omega) (fun r55_0 r55_1 f10 => ?_)
      exact hq r55_0 r55_1 (by omega) (by omega) (by omega) (by omega)
    have j_47 : w_X12_putMember_47 p1 Q v_printedMany v_printed := by
      unfold w_X12_putMember_47
      refine ok_X12_put (by omega) (by omega) (fun r50_0 r50_1 f11 => ?_)
      exact j_53 r50_0 r50_1 (by omega) (by omega) (by omega)
    refine ⟨fun c20 => ?_, fun c20 => ?_⟩
    · have f12 : p1.toInt = 91 := i_eq (a := p1.toInt) (b := 91) rfl rfl c20
      exact j_47  
    · have f13 : p1.toInt ≠ 91 := i_ne (a := p1.toInt) (b := 91) rfl rfl c20
      refine ⟨fun c26 => ?_, fun c26 => ?_⟩
      · have f14 : p1.toInt = 93 := i_eq (a := p1.toInt) (b := 93) rfl rfl c26
        exact j_47  
      · have f15 : p1.toInt ≠ 93 := i_ne (a := p1.toInt) (b := 93) rfl rfl c26
        refine ⟨fun c32 => ?_, fun c32 => ?_⟩
        · have f16 : p1.toInt = 94 := i_eq (a := p1.toInt) (b := 94) rfl rfl c32
          exact j_47  
        · have f17 : p1.toInt ≠ 94 := i_ne (a := p1.toInt) (b := 94) rfl rfl c32
          refine ⟨fun c38 => ?_, fun c38 => ?_⟩
          · have f18 : p1.toInt = 45 := i_eq (a := p1.toInt) (b := 45) rfl rfl c38
            exact j_47  
          · have f19 : p1.toInt ≠ 45 := i_ne (a := p1.toInt) (b := 45) rfl rfl c38
            refine ⟨fun c44 => ?_, fun c44 => ?_⟩
            · have f20 : p1.toInt ≠ 92 := i_ne (a := p1.toInt) (b := 92) rfl rfl c44
              exact j_53 v_printedMany v_printed (by omega) (by omega) (by omega)
            · have f21 : p1.toInt = 92 := i_eq (a := p1.toInt) (b := 92) rfl rfl c44
              exact j_47  
  · have f22 : r5.toInt = 0 := i_eq (a := r5.toInt) (b := 0) rfl rfl c8
    refine ok_X12_putHex (by omega) (by omega) (fun r13_0 r13_1 f23 f24 f25 f26 f27 f28 f29 f30 f31 f32 f33 f34 f35 f36 f37 f38 f39 => ?_)
    exact hq r13_0 r13_1 (by omega) (by omega) (by omega) (by omega)
