set_option maxHeartbeats 4000000 in
theorem ok_X12_print {p1 : Int32} {v_finding : Int32} {v_printedMany : Int32} {v_opened : Int32} {v_outMany : Int32} {v_outNumbers : Bool} {v_isThere : Nat → Bool} {v_nameOf : Nat → Int32} {v_sort : Nat → Int32} {v_value : Nat → Int32} {v_least : Nat → Int32} {v_most : Nat → Int32} {v_holder : Nat → Int32} {v_parts : Nat → Int32} {v_end : Nat → Int32} {v_firstPart : Nat → Int32} {v_partBegin : Nat → Int32} {v_partEnd : Nat → Int32} {v_waiting : Nat → Int32} {v_waitingHolder : Nat → Int32} {v_printed : Nat → Int32} {v_out : Nat → Int32} {v_many : Nat → Int32} {v_captures : Nat → Int32} {v_size : Nat → Int32} {v_positions : Nat → Int32} {Q : Int32 → Int32 → Int32 → Int32 → Int32 → Int32 → Bool → (Nat → Int32) → (Nat → Int32) → (Nat → Int32) → (Nat → Int32) → Prop} (a0 : 0 ≤ v_outMany.toInt) (a1 : v_outMany.toInt ≤ 400) (u0 : zAll v_isThere v_many v_captures v_sort v_value v_least v_most v_holder v_parts v_end v_firstPart v_partBegin v_partEnd v_size v_positions) (hq : ∀ (r : Int32) (ov_thrown : Int32) (ov_finding : Int32) (ov_printedMany : Int32) (ov_opened : Int32) (ov_outMany : Int32) (ov_outNumbers : Bool) (ov_waiting : Nat → Int32) (ov_waitingHolder : Nat → Int32) (ov_printed : Nat → Int32) (ov_out : Nat → Int32), ov_thrown.toInt = 0 → 0 ≤ r.toInt + 9 → r.toInt ≤ 400 → 0 ≤ ov_outMany.toInt → ov_outMany.toInt ≤ 400 → Q r ov_thrown ov_finding ov_printedMany ov_opened ov_outMany ov_outNumbers ov_waiting ov_waitingHolder ov_printed ov_out) : w_X12_print p1 v_finding v_printedMany v_opened v_outMany v_outNumbers v_isThere v_nameOf v_sort v_value v_least v_most v_holder v_parts v_end v_firstPart v_partBegin v_partEnd v_waiting v_waitingHolder v_printed v_out Q := by
  have q_t : (bz true).toInt = 1 := rfl
  have q_f : (bz false).toInt = 0 := rfl
  have q_m9 : ((-9) : Int32).toInt = (-9) := rfl
  have q_m2 : ((-2) : Int32).toInt = (-2) := rfl
  have q_0 : (0 : Int32).toInt = 0 := rfl
  have q_4 : (4 : Int32).toInt = 4 := rfl
  unfold w_X12_print
  refine ok_X12_wrongSlot  (fun r7 r7_0 f1 f2 f3 u7_0 => ?_)
  refine ⟨fun c10 => ?_, fun c10 => ?_⟩
  · have f4 : r7.toInt = 0 := i_eq (a := r7.toInt) (b := 0) rfl rfl c10
    have hSM := zAll_s u0 (u7_0 (by omega)) (by omega) (by omega)
    have hS := hSM.1
    have hM := hSM.2
    have f5 : 1 ≤ (zg v_many p1.toInt : Int) := (zS_n hS).1
    have f6 : (zg v_many p1.toInt : Int) ≤ 220 := (zS_n hS).2
    have f7 : 0 ≤ (zg v_captures p1.toInt : Int) := (zS_c hS).1
    have f8 : (zg v_captures p1.toInt : Int) ≤ 9 := (zS_c hS).2
    refine ok_X12_printFrom (v_many := v_many) (v_captures := v_captures) (by omega) (by omega) (by omega) (by exact hS) (by omega) (fun r19_0 r19_1 r19_2 r19_3 r19_4 f9 f10 f11 => ?_)
    refine ⟨fun c29 => ?_, fun c29 => ?_⟩
    · have f12 : r19_0.toInt ≤ 400 := i_le (a := r19_0.toInt) (b := 400) rfl rfl c29
      have j_42 : ∀ n_42 : Nat, ∀ (l2_42 : Int32) (v_out_42 : Nat → Int32), 0 ≤ l2_42.toInt → l2_42.toInt ≤ r19_0.toInt → ((-1) * l2_42.toInt + 2147483648).toNat < n_42 → w_X12_print_42 Q 0 r7_0 r19_0 r19_1 v_outMany v_outNumbers r19_2 r19_3 r19_4 n_42 l2_42 v_out_42 := by
        intro n_42
        induction n_42 with
        | zero =>
          intro l2_42 v_out_42 f13 f14 hm_42
          exfalso; omega
        | succ n_42 ih_42 =>
          intro l2_42 v_out_42 f13 f14 hm_42
          unfold w_X12_print_42
          unfold w_X12_print_42B
          refine ⟨fun c47 => ?_, fun c47 => ?_⟩
          · have f15 : r19_0.toInt ≤ l2_42.toInt := i_le (a := r19_0.toInt) (b := l2_42.toInt) rfl rfl c47
            exact hq r19_0 0 r7_0 r19_0 r19_1 r19_0 false r19_2 r19_3 r19_4 v_out_42 (by omega) (by omega) (by omega) (by omega) (by omega)
          · have f16 : l2_42.toInt < r19_0.toInt := i_nle (a := r19_0.toInt) (b := l2_42.toInt) rfl rfl c47
            refine ⟨i_in (by omega) (by omega), ?_⟩
            intro x60 ex60
            refine ⟨i_in (by omega) (by omega), ?_⟩
            intro g61 eg61
            intro x62 ex62
            have f17 : x62.toInt = l2_42.toInt + 1 := i_add (a := l2_42.toInt) (b := 1) ex62 rfl rfl (by omega) (by omega)
            exact ih_42 x62 g61  (by omega) (by omega) (by have h8_0 := i_rng l2_42; have h8_1 := i_rng x62; omega)
      exact ⟨(2147483648 : Int).toNat + 1, j_42   ((2147483648 : Int).toNat + 1) 0 v_out  (by omega) (by omega) (by omega)⟩
    · have f18 : 400 < r19_0.toInt := i_nle (a := r19_0.toInt) (b := 400) rfl rfl c29
      exact hq (-9) 0 4 r19_0 r19_1 v_outMany v_outNumbers r19_2 r19_3 r19_4 v_out (by omega) (by omega) (by omega) (by omega) (by omega)
  · have f19 : r7.toInt ≠ 0 := i_ne (a := r7.toInt) (b := 0) rfl rfl c10
    exact hq (-2) 0 r7_0 v_printedMany v_opened v_outMany v_outNumbers v_waiting v_waitingHolder v_printed v_out (by omega) (by omega) (by omega) (by omega) (by omega)
set_option maxHeartbeats 4000000 in
theorem ok_X12_isSamePrint {p1 : Int32} {p2 : Int32} {p3 : Int32} {v_nameOf : Nat → Int32} {v_sort : Nat → Int32} {v_value : Nat → Int32} {v_least : Nat → Int32} {v_most : Nat → Int32} {v_holder : Nat → Int32} {v_parts : Nat → Int32} {v_end : Nat → Int32} {v_firstPart : Nat → Int32} {v_partBegin : Nat → Int32} {v_partEnd : Nat → Int32} {v_waiting : Nat → Int32} {v_waitingHolder : Nat → Int32} {v_printed : Nat → Int32} {v_printedAlso : Nat → Int32} {v_many : Nat → Int32} {v_captures : Nat → Int32} {Q : Int32 → Int32 → Int32 → (Nat → Int32) → (Nat → Int32) → (Nat → Int32) → (Nat → Int32) → Prop} (a0 : 0 ≤ p1.toInt) (a1 : p1.toInt ≤ 5) (a2 : 0 ≤ p2.toInt) (a3 : 0 ≤ p3.toInt) (u0 : zSl v_sort v_value v_least v_most v_holder v_parts v_end v_firstPart v_partBegin v_partEnd (220 * p1.toInt) (420 * p1.toInt) (zg v_many p1.toInt) (zg v_captures p1.toInt)) (u1 : p2.toInt < zg v_many p1.toInt) (u2 : p3.toInt < zg v_many p1.toInt) (hq : ∀ (r : Int32) (ov_printedMany : Int32) (ov_opened : Int32) (ov_waiting : Nat → Int32) (ov_waitingHolder : Nat → Int32) (ov_printed : Nat → Int32) (ov_printedAlso : Nat → Int32), 0 ≤ ov_printedMany.toInt + 1 → 0 ≤ ov_printedMany.toInt → ov_printedMany.toInt ≤ 3332 → 0 ≤ r.toInt + 1 → 0 ≤ r.toInt → r.toInt ≤ 1 → r.toInt ≤ 2 → r.toInt ≤ ov_printedMany.toInt + 1 → r.toInt ≤ p1.toInt + 1 → r.toInt ≤ p2.toInt + 1 → r.toInt ≤ p3.toInt + 1 → Q r ov_printedMany ov_opened ov_waiting ov_waitingHolder ov_printed ov_printedAlso) : w_X12_isSamePrint p1 p2 p3 v_nameOf v_sort v_value v_least v_most v_holder v_parts v_end v_firstPart v_partBegin v_partEnd v_waiting v_waitingHolder v_printed v_printedAlso Q := by
  have q_t : (bz true).toInt = 1 := rfl
  have q_f : (bz false).toInt = 0 := rfl
  have q_0 : (0 : Int32).toInt = 0 := rfl
  have q_1 : (1 : Int32).toInt = 1 := rfl
  unfold w_X12_isSamePrint
  have f1 : 1 ≤ (zg v_many p1.toInt : Int) := (zS_n u0).1
  have f2 : (zg v_many p1.toInt : Int) ≤ 220 := (zS_n u0).2
  have f3 : 0 ≤ (zg v_captures p1.toInt : Int) := (zS_c u0).1
  have f4 : (zg v_captures p1.toInt : Int) ≤ 9 := (zS_c u0).2
  refine ok_X12_printFrom (v_many := v_many) (v_captures := v_captures) (by omega) (by omega) (by omega) (by exact u0) (by first | assumption | omega) (fun r3_0 r3_1 r3_2 r3_3 r3_4 f5 f6 f7 => ?_)
  have j_15 : ∀ n_15 : Nat, ∀ (l5_15 : Int32) (v_printedAlso_15 : Nat → Int32), 0 ≤ l5_15.toInt → l5_15.toInt ≤ r3_0.toInt → ((-1) * l5_15.toInt + 2147483648).toNat < n_15 → w_X12_isSamePrint_15 p1 p3 v_nameOf v_sort v_value v_least v_most v_holder v_parts v_end v_firstPart v_partBegin v_partEnd Q r3_0 r3_0 r3_1 r3_2 r3_3 r3_4 n_15 l5_15 v_printedAlso_15 := by
    intro n_15
    induction n_15 with
    | zero =>
      intro l5_15 v_printedAlso_15 f8 f9 hm_15
      exfalso; omega
    | succ n_15 ih_15 =>
      intro l5_15 v_printedAlso_15 f8 f9 hm_15
      unfold w_X12_isSamePrint_15
      unfold w_X12_isSamePrint_15B
      refine ⟨fun c19 => ?_, fun c19 => ?_⟩
      · have f10 : r3_0.toInt ≤ l5_15.toInt := i_le (a := r3_0.toInt) (b := l5_15.toInt) rfl rfl c19
        refine ok_X12_printFrom (v_many := v_many) (v_captures := v_captures) (by omega) (by omega) (by omega) (by exact u0) (by first | assumption | omega) (fun r45_0 r45_1 r45_2 r45_3 r45_4 f11 f12 f13 => ?_)
        have j_62 : ∀ (s0_62 : Int32), 0 ≤ s0_62.toInt → s0_62.toInt ≤ 1 → ((s0_62.toInt = 0) ∨ (s0_62.toInt = 1 ∧ r3_0.toInt = r45_0.toInt)) → w_X12_isSamePrint_62 Q s0_62 r3_0 r45_0 r45_1 r45_2 r45_3 r45_4 v_printedAlso_15 := by
          intro s0_62 f14 f15 f16
          unfold w_X12_isSamePrint_62
          have j_67 : ∀ n_67 : Nat, ∀ (l5_67 : Int32) (l6_67 : Int32), 0 ≤ l5_67.toInt → l5_67.toInt ≤ s0_62.toInt → 0 ≤ l6_67.toInt → l6_67.toInt ≤ r3_0.toInt → l6_67.toInt ≤ r45_0.toInt → ((-1) * l6_67.toInt + 2147483648).toNat < n_67 → w_X12_isSamePrint_67 Q r3_0 r45_0 r45_1 r45_2 r45_3 r45_4 v_printedAlso_15 n_67 l5_67 l6_67 := by
            intro n_67
            induction n_67 with
            | zero =>
              intro l5_67 l6_67 f17 f18 f19 f20 f21 hm_67
              exfalso; omega
            | succ n_67 ih_67 =>
              intro l5_67 l6_67 f17 f18 f19 f20 f21 hm_67
              unfold w_X12_isSamePrint_67
              unfold w_X12_isSamePrint_67B
              have j_109 : ((r3_0.toInt ≤ l6_67.toInt) ∨ (l6_67.toInt + 1 ≤ r3_0.toInt ∧ l5_67.toInt = 0)) → w_X12_isSamePrint_109 Q l5_67 r45_0 r45_1 r45_2 r45_3 r45_4 v_printedAlso_15 := by
                intro f22
                unfold w_X12_isSamePrint_109
                refine ⟨i_01 (by omega) (by omega), ?_⟩
                exact hq l5_67 r45_0 r45_1 r45_2 r45_3 r45_4 v_printedAlso_15 (by omega) (by omega) (by omega) (by omega) (by omega) (by omega) (by omega) (by omega) (by omega) (by omega) (by omega)
              refine ⟨fun c71 => ?_, fun c71 => ?_⟩
              · have f23 : r3_0.toInt ≤ l6_67.toInt := i_le (a := r3_0.toInt) (b := l6_67.toInt) rfl rfl c71
                exact j_109  (by omega)
              · have f24 : l6_67.toInt < r3_0.toInt := i_nle (a := r3_0.toInt) (b := l6_67.toInt) rfl rfl c71
                refine ⟨fun c76 => ?_, fun c76 => ?_⟩
                · have f25 : l5_67.toInt = 0 := i_eq (a := l5_67.toInt) (b := 0) rfl rfl c76
                  exact j_109  (by omega)
                · have f26 : l5_67.toInt ≠ 0 := i_ne (a := l5_67.toInt) (b := 0) rfl rfl c76
                  refine ⟨i_in (by omega) (by omega), ?_⟩
                  intro x85 ex85
                  refine ⟨i_in (by omega) (by omega), ?_⟩
                  intro x92 ex92
                  have j_101 : ∀ (s0_101 : Int32), 0 ≤ s0_101.toInt → s0_101.toInt ≤ 1 → ((s0_101.toInt = 0) ∨ (s0_101.toInt = 1)) → w_X12_isSamePrint_101 Q (w_X12_isSamePrint_67 Q r3_0 r45_0 r45_1 r45_2 r45_3 r45_4 v_printedAlso_15 n_67) s0_101 l6_67 := by
                    intro s0_101 f27 f28 f29
                    unfold w_X12_isSamePrint_101
                    intro x103 ex103
                    have f30 : x103.toInt = l6_67.toInt + 1 := i_add (a := l6_67.toInt) (b := 1) ex103 rfl rfl (by omega) (by omega)
                    exact ih_67 s0_101 x103  (by omega) (by omega) (by omega) (by omega) (by omega) (by have h8_0 := i_rng l6_67; have h8_1 := i_rng x103; omega)
                  refine ⟨fun c93 => ?_, fun c93 => ?_⟩
                  · have f31 : x85.toInt ≠ x92.toInt := i_ne (a := x85.toInt) (b := x92.toInt) rfl rfl c93
                    exact j_101 0 (by omega) (by omega) (by omega)
                  · have f32 : x85.toInt = x92.toInt := i_eq (a := x85.toInt) (b := x92.toInt) rfl rfl c93
                    exact j_101 1 (by omega) (by omega) (by omega)
          exact ⟨(2147483648 : Int).toNat + 1, j_67   ((2147483648 : Int).toNat + 1) s0_62 0  (by omega) (by omega) (by omega) (by omega) (by omega) (by omega)⟩
        refine ⟨fun c54 => ?_, fun c54 => ?_⟩
        · have f33 : r3_0.toInt ≠ r45_0.toInt := i_ne (a := r3_0.toInt) (b := r45_0.toInt) rfl rfl c54
          exact j_62 0 (by omega) (by omega) (by omega)
        · have f34 : r3_0.toInt = r45_0.toInt := i_eq (a := r3_0.toInt) (b := r45_0.toInt) rfl rfl c54
          exact j_62 1 (by omega) (by omega) (by omega)
      · have f35 : l5_15.toInt < r3_0.toInt := i_nle (a := r3_0.toInt) (b := l5_15.toInt) rfl rfl c19
        refine ⟨i_in (by omega) (by omega), ?_⟩
        intro x34 ex34
        refine ⟨i_in (by omega) (by omega), ?_⟩
        intro g35 eg35
        intro x36 ex36
        have f36 : x36.toInt = l5_15.toInt + 1 := i_add (a := l5_15.toInt) (b := 1) ex36 rfl rfl (by omega) (by omega)
        exact ih_15 x36 g35  (by omega) (by omega) (by have h8_0 := i_rng l5_15; have h8_1 := i_rng x36; omega)
  exact ⟨(2147483648 : Int).toNat + 1, j_15   ((2147483648 : Int).toNat + 1) 0 v_printedAlso  (by omega) (by omega) (by omega)⟩
set_option maxHeartbeats 4000000 in
theorem ok_X12_dead {p1 : Int32} {p2 : Int32} {v_finding : Int32} {v_printedMany : Int32} {v_opened : Int32} {v_isThere : Nat → Bool} {v_many : Nat → Int32} {v_nameOf : Nat → Int32} {v_sort : Nat → Int32} {v_value : Nat → Int32} {v_least : Nat → Int32} {v_most : Nat → Int32} {v_holder : Nat → Int32} {v_parts : Nat → Int32} {v_end : Nat → Int32} {v_firstPart : Nat → Int32} {v_partBegin : Nat → Int32} {v_partEnd : Nat → Int32} {v_waiting : Nat → Int32} {v_waitingHolder : Nat → Int32} {v_printed : Nat → Int32} {v_printedAlso : Nat → Int32} {v_captures : Nat → Int32} {v_size : Nat → Int32} {v_positions : Nat → Int32} {Q : Int32 → Int32 → Int32 → Int32 → Int32 → (Nat → Int32) → (Nat → Int32) → (Nat → Int32) → (Nat → Int32) → Prop} (u0 : zAll v_isThere v_many v_captures v_sort v_value v_least v_most v_holder v_parts v_end v_firstPart v_partBegin v_partEnd v_size v_positions) (hq : ∀ (r : Int32) (ov_thrown : Int32) (ov_finding : Int32) (ov_printedMany : Int32) (ov_opened : Int32) (ov_waiting : Nat → Int32) (ov_waitingHolder : Nat → Int32) (ov_printed : Nat → Int32) (ov_printedAlso : Nat → Int32), ov_thrown.toInt = 0 → 0 ≤ r.toInt + 4 → r.toInt ≤ 219 → Q r ov_thrown ov_finding ov_printedMany ov_opened ov_waiting ov_waitingHolder ov_printed ov_printedAlso) : w_X12_dead p1 p2 v_finding v_printedMany v_opened v_isThere v_many v_nameOf v_sort v_value v_least v_most v_holder v_parts v_end v_firstPart v_partBegin v_partEnd v_waiting v_waitingHolder v_printed v_printedAlso Q := by
  have q_t : (bz true).toInt = 1 := rfl
  have q_f : (bz false).toInt = 0 := rfl
  have q_m4 : ((-4) : Int32).toInt = (-4) := rfl
  have q_m2 : ((-2) : Int32).toInt = (-2) := rfl
  have q_m1 : ((-1) : Int32).toInt = (-1) := rfl
  have q_0 : (0 : Int32).toInt = 0 := rfl
  have q_1 : (1 : Int32).toInt = 1 := rfl
  unfold w_X12_dead
  refine ok_X12_wrongSlot  (fun r7 r7_0 f1 f2 f3 u7_0 => ?_)
  refine ⟨fun c10 => ?_, fun c10 => ?_⟩
  · have f4 : r7.toInt = 0 := i_eq (a := r7.toInt) (b := 0) rfl rfl c10
    have hSM := zAll_s u0 (u7_0 (by omega)) (by omega) (by omega)
    have hS := hSM.1
    have hM := hSM.2
    have f5 : 1 ≤ (zg v_many p1.toInt : Int) := (zS_n hS).1
    have f6 : (zg v_many p1.toInt : Int) ≤ 220 := (zS_n hS).2
    have f7 : 0 ≤ (zg v_captures p1.toInt : Int) := (zS_c hS).1
    have f8 : (zg v_captures p1.toInt : Int) ≤ 9 := (zS_c hS).2
    refine ⟨fun c17 => ?_, fun c17 => ?_⟩
    · have f9 : 0 ≤ p2.toInt := i_le (a := 0) (b := p2.toInt) rfl rfl c17
      intro x27 ex27
      have f10 : x27.toInt = 220 * p1.toInt := i_mul (a := 220) (b := p1.toInt) ex27 rfl rfl (by omega) (by omega)
      have j_35 : ∀ n_35 : Nat, ∀ (l4_35 : Int32) (l5_35 : Int32) (v_printedMany_35 : Int32) (v_opened_35 : Int32) (v_waiting_35 : Nat → Int32) (v_waitingHolder_35 : Nat → Int32) (v_printed_35 : Nat → Int32) (v_printedAlso_35 : Nat → Int32), 1 ≤ l5_35.toInt → ((-1) * l5_35.toInt + 2147483648).toNat < n_35 → w_X12_dead_35 p1 v_many v_nameOf v_sort v_value v_least v_most v_holder v_parts v_end v_firstPart v_partBegin v_partEnd Q x27 0 r7_0 n_35 l4_35 l5_35 v_printedMany_35 v_opened_35 v_waiting_35 v_waitingHolder_35 v_printed_35 v_printedAlso_35 := by
        intro n_35
        induction n_35 with
        | zero =>
          intro l4_35 l5_35 v_printedMany_35 v_opened_35 v_waiting_35 v_waitingHolder_35 v_printed_35 v_printedAlso_35 f11 hm_35
          exfalso; omega
        | succ n_35 ih_35 =>
          intro l4_35 l5_35 v_printedMany_35 v_opened_35 v_waiting_35 v_waitingHolder_35 v_printed_35 v_printedAlso_35 f11 hm_35
          unfold w_X12_dead_35
          unfold w_X12_dead_35B
          refine ⟨i_in (by omega) (by omega), ?_⟩
          intro x42 ex42
          have f12 : x42.toInt = (zg v_many p1.toInt : Int) := zg_at ex42
          refine ⟨fun c43 => ?_, fun c43 => ?_⟩
          · have f13 : x42.toInt ≤ l5_35.toInt := i_le (a := x42.toInt) (b := l5_35.toInt) rfl rfl c43
            exact hq (-1) 0 r7_0 v_printedMany_35 v_opened_35 v_waiting_35 v_waitingHolder_35 v_printed_35 v_printedAlso_35 (by omega) (by omega) (by omega)
          · have f14 : l5_35.toInt < x42.toInt := i_nle (a := x42.toInt) (b := l5_35.toInt) rfl rfl c43
            intro x53 ex53
            have f15 : x53.toInt = x27.toInt + l5_35.toInt := i_add (a := x27.toInt) (b := l5_35.toInt) ex53 rfl rfl (by omega) (by omega)
            refine ⟨i_in (by omega) (by omega), ?_⟩
            intro x54 ex54
            have f16 : 0 ≤ x54.toInt + 1 ∧ 220 * p1.toInt + x54.toInt + 1 ≤ x53.toInt ∧ ((x53.toInt ≤ 220 * p1.toInt) ∨ (0 ≤ x54.toInt)) := by have h9 := zS_holder (k := (-220) * p1.toInt + x53.toInt) hS ex54 (by omega) (by omega) (by omega); omega
            intro x67 ex67
            have f17 : x67.toInt = x27.toInt + x54.toInt := i_add (a := x27.toInt) (b := x54.toInt) ex67 rfl rfl (by omega) (by omega)
            refine ⟨i_in (by omega) (by omega), ?_⟩
            intro x68 ex68
            have f18 : 0 ≤ x68.toInt ∧ x68.toInt ≤ 11 := by have h9 := zS_sort (k := (-220) * p1.toInt + x67.toInt) hS ex68 (by omega) (by omega) (by omega); omega
            have j_125 : ∀ (l7_125 : Int32) (v_printedMany_125 : Int32) (v_opened_125 : Int32) (v_waiting_125 : Nat → Int32) (v_waitingHolder_125 : Nat → Int32) (v_printed_125 : Nat → Int32) (v_printedAlso_125 : Nat → Int32), 0 ≤ l7_125.toInt → l7_125.toInt ≤ 1 → w_X12_dead_125 0 r7_0 Q (w_X12_dead_35 p1 v_many v_nameOf v_sort v_value v_least v_most v_holder v_parts v_end v_firstPart v_partBegin v_partEnd Q x27 0 r7_0 n_35) l4_35 l5_35 l7_125 v_printedMany_125 v_opened_125 v_waiting_125 v_waitingHolder_125 v_printed_125 v_printedAlso_125 := by
              intro l7_125 v_printedMany_125 v_opened_125 v_waiting_125 v_waitingHolder_125 v_printed_125 v_printedAlso_125 f19 f20
              unfold w_X12_dead_125
              have j_138 : w_X12_dead_138 Q (w_X12_dead_35 p1 v_many v_nameOf v_sort v_value v_least v_most v_holder v_parts v_end v_firstPart v_partBegin v_partEnd Q x27 0 r7_0 n_35) l4_35 l5_35 l7_125 v_printedMany_125 v_opened_125 v_waiting_125 v_waitingHolder_125 v_printed_125 v_printedAlso_125 := by
                unfold w_X12_dead_138
                have j_150 : ∀ (s0_150 : Int32), ((s0_150.toInt = 0 ∧ l7_125.toInt = 0) ∨ (s0_150.toInt = 1)) → w_X12_dead_150 Q (w_X12_dead_35 p1 v_many v_nameOf v_sort v_value v_least v_most v_holder v_parts v_end v_firstPart v_partBegin v_partEnd Q x27 0 r7_0 n_35) s0_150 l4_35 l5_35 v_printedMany_125 v_opened_125 v_waiting_125 v_waitingHolder_125 v_printed_125 v_printedAlso_125 := by
                  intro s0_150 f21
                  unfold w_X12_dead_150
                  intro x150 ex150
                  intro x153 ex153
                  have f22 : x153.toInt = l5_35.toInt + 1 := i_add (a := l5_35.toInt) (b := 1) ex153 rfl rfl (by omega) (by omega)
                  exact ih_35 x150 x153 v_printedMany_125 v_opened_125 v_waiting_125 v_waitingHolder_125 v_printed_125 v_printedAlso_125  (by omega) (by have h8_0 := i_rng l5_35; have h8_1 := i_rng x153; omega)
                refine ⟨fun c142 => ?_, fun c142 => ?_⟩
                · have f23 : l7_125.toInt = 0 := i_eq (a := l7_125.toInt) (b := 0) rfl rfl c142
                  exact j_150 0 (by omega)
                · have f24 : l7_125.toInt ≠ 0 := i_ne (a := l7_125.toInt) (b := 0) rfl rfl c142
                  exact j_150 1 (by omega)
              refine ⟨fun c127 => ?_, fun c127 => ?_⟩
              · have f25 : l7_125.toInt = 0 := i_eq (a := l7_125.toInt) (b := 0) rfl rfl c127
                exact j_138  
              · have f26 : l7_125.toInt ≠ 0 := i_ne (a := l7_125.toInt) (b := 0) rfl rfl c127
                refine ⟨fun c132 => ?_, fun c132 => ?_⟩
                · have f27 : l4_35.toInt ≠ 0 := i_ne (a := l4_35.toInt) (b := 0) rfl rfl c132
                  exact j_138  
                · have f28 : l4_35.toInt = 0 := i_eq (a := l4_35.toInt) (b := 0) rfl rfl c132
                  exact hq l5_35 0 r7_0 v_printedMany_125 v_opened_125 v_waiting_125 v_waitingHolder_125 v_printed_125 v_printedAlso_125 (by omega) (by omega) (by omega)
            refine ⟨fun c71 => ?_, fun c71 => ?_⟩
            · have f29 : x68.toInt ≠ 6 := i_ne (a := x68.toInt) (b := 6) rfl rfl c71
              exact j_125 0 v_printedMany_35 v_opened_35 v_waiting_35 v_waitingHolder_35 v_printed_35 v_printedAlso_35 (by omega) (by omega)
            · have f30 : x68.toInt = 6 := i_eq (a := x68.toInt) (b := 6) rfl rfl c71
              intro x77 ex77
              have f31 : x77.toInt = x54.toInt + 1 := i_add (a := x54.toInt) (b := 1) ex77 rfl rfl (by omega) (by omega)
              have j_80 : ∀ n_80 : Nat, ∀ (l7_80 : Int32) (l8_80 : Int32) (v_printedMany_80 : Int32) (v_opened_80 : Int32) (v_waiting_80 : Nat → Int32) (v_waitingHolder_80 : Nat → Int32) (v_printed_80 : Nat → Int32) (v_printedAlso_80 : Nat → Int32), 0 ≤ l7_80.toInt → l7_80.toInt ≤ 1 → l7_80.toInt + 1 ≤ l5_35.toInt → x77.toInt ≤ l8_80.toInt → ((-1) * l8_80.toInt + 2147483648).toNat < n_80 → w_X12_dead_80 p1 v_nameOf v_sort v_value v_least v_most v_holder v_parts v_end v_firstPart v_partBegin v_partEnd x27 0 r7_0 Q (w_X12_dead_35 p1 v_many v_nameOf v_sort v_value v_least v_most v_holder v_parts v_end v_firstPart v_partBegin v_partEnd Q x27 0 r7_0 n_35) l4_35 l5_35 n_80 l7_80 l8_80 v_printedMany_80 v_opened_80 v_waiting_80 v_waitingHolder_80 v_printed_80 v_printedAlso_80 := by
                intro n_80
                induction n_80 with
                | zero =>
                  intro l7_80 l8_80 v_printedMany_80 v_opened_80 v_waiting_80 v_waitingHolder_80 v_printed_80 v_printedAlso_80 f32 f33 f34 f35 hm_80
                  exfalso; omega
                | succ n_80 ih_80 =>
                  intro l7_80 l8_80 v_printedMany_80 v_opened_80 v_waiting_80 v_waitingHolder_80 v_printed_80 v_printedAlso_80 f32 f33 f34 f35 hm_80
                  unfold w_X12_dead_80
                  unfold w_X12_dead_80B
                  refine ⟨fun c84 => ?_, fun c84 => ?_⟩
                  · have f36 : l5_35.toInt ≤ l8_80.toInt := i_le (a := l5_35.toInt) (b := l8_80.toInt) rfl rfl c84
                    exact j_125 l7_80 v_printedMany_80 v_opened_80 v_waiting_80 v_waitingHolder_80 v_printed_80 v_printedAlso_80 (by omega) (by omega)
                  · have f37 : l8_80.toInt < l5_35.toInt := i_nle (a := l5_35.toInt) (b := l8_80.toInt) rfl rfl c84
                    have j_109 : ∀ (s0_109 : Int32) (v_printedMany_109 : Int32) (v_opened_109 : Int32) (v_waiting_109 : Nat → Int32) (v_waitingHolder_109 : Nat → Int32) (v_printed_109 : Nat → Int32) (v_printedAlso_109 : Nat → Int32), 0 ≤ s0_109.toInt → s0_109.toInt ≤ 1 → w_X12_dead_109 v_end x27 Q (w_X12_dead_35 p1 v_many v_nameOf v_sort v_value v_least v_most v_holder v_parts v_end v_firstPart v_partBegin v_partEnd Q x27 0 r7_0 n_35) (w_X12_dead_80 p1 v_nameOf v_sort v_value v_least v_most v_holder v_parts v_end v_firstPart v_partBegin v_partEnd x27 0 r7_0 Q (w_X12_dead_35 p1 v_many v_nameOf v_sort v_value v_least v_most v_holder v_parts v_end v_firstPart v_partBegin v_partEnd Q x27 0 r7_0 n_35) l4_35 l5_35 n_80) s0_109 l8_80 v_printedMany_109 v_opened_109 v_waiting_109 v_waitingHolder_109 v_printed_109 v_printedAlso_109 := by
                      intro s0_109 v_printedMany_109 v_opened_109 v_waiting_109 v_waitingHolder_109 v_printed_109 v_printedAlso_109 f38 f39
                      unfold w_X12_dead_109
                      intro x118 ex118
                      have f40 : x118.toInt = x27.toInt + l8_80.toInt := i_add (a := x27.toInt) (b := l8_80.toInt) ex118 rfl rfl (by omega) (by omega)
                      refine ⟨i_in (by omega) (by omega), ?_⟩
                      intro x119 ex119
                      have f41 : x118.toInt + 1 ≤ 220 * p1.toInt + x119.toInt ∧ x119.toInt ≤ (zg v_many p1.toInt : Int) := by have h9 := zS_end (k := (-220) * p1.toInt + x118.toInt) hS ex119 (by omega) (by omega) (by omega); omega
                      exact ih_80 s0_109 x119 v_printedMany_109 v_opened_109 v_waiting_109 v_waitingHolder_109 v_printed_109 v_printedAlso_109  (by omega) (by omega) (by omega) (by omega) (by have h8_0 := i_rng l8_80; have h8_1 := i_rng x119; omega)
                    have j_104 : ∀ (v_printedMany_104 : Int32) (v_opened_104 : Int32) (v_waiting_104 : Nat → Int32) (v_waitingHolder_104 : Nat → Int32) (v_printed_104 : Nat → Int32) (v_printedAlso_104 : Nat → Int32), w_X12_dead_104 v_end x27 Q (w_X12_dead_35 p1 v_many v_nameOf v_sort v_value v_least v_most v_holder v_parts v_end v_firstPart v_partBegin v_partEnd Q x27 0 r7_0 n_35) (w_X12_dead_80 p1 v_nameOf v_sort v_value v_least v_most v_holder v_parts v_end v_firstPart v_partBegin v_partEnd x27 0 r7_0 Q (w_X12_dead_35 p1 v_many v_nameOf v_sort v_value v_least v_most v_holder v_parts v_end v_firstPart v_partBegin v_partEnd Q x27 0 r7_0 n_35) l4_35 l5_35 n_80) l8_80 v_printedMany_104 v_opened_104 v_waiting_104 v_waitingHolder_104 v_printed_104 v_printedAlso_104 := by
                      intro v_printedMany_104 v_opened_104 v_waiting_104 v_waitingHolder_104 v_printed_104 v_printedAlso_104
                      unfold w_X12_dead_104
                      exact j_109 1 v_printedMany_104 v_opened_104 v_waiting_104 v_waitingHolder_104 v_printed_104 v_printedAlso_104 (by omega) (by omega)
                    refine ⟨fun c89 => ?_, fun c89 => ?_⟩
                    · have f42 : l7_80.toInt ≠ 0 := i_ne (a := l7_80.toInt) (b := 0) rfl rfl c89
                      exact j_104 v_printedMany_80 v_opened_80 v_waiting_80 v_waitingHolder_80 v_printed_80 v_printedAlso_80 
                    · have f43 : l7_80.toInt = 0 := i_eq (a := l7_80.toInt) (b := 0) rfl rfl c89
                      refine ok_X12_isSamePrint (v_many := v_many) (v_captures := v_captures) (by omega) (by omega) (by omega) (by omega) (by exact hS) (by first | assumption | omega) (by first | assumption | omega) (fun r98 r98_0 r98_1 r98_2 r98_3 r98_4 r98_5 f44 f45 f46 f47 f48 f49 f50 f51 f52 f53 f54 => ?_)
                      refine ⟨fun c101 => ?_, fun c101 => ?_⟩
                      · have f55 : r98.toInt = 0 := i_eq (a := r98.toInt) (b := 0) rfl rfl c101
                        exact j_109 0 r98_0 r98_1 r98_2 r98_3 r98_4 r98_5 (by omega) (by omega)
                      · have f56 : r98.toInt ≠ 0 := i_ne (a := r98.toInt) (b := 0) rfl rfl c101
                        exact j_104 r98_0 r98_1 r98_2 r98_3 r98_4 r98_5 
              exact ⟨((-1) * x77.toInt + 2147483648).toNat + 1, j_80   (((-1) * x77.toInt + 2147483648).toNat + 1) 0 x77 v_printedMany_35 v_opened_35 v_waiting_35 v_waitingHolder_35 v_printed_35 v_printedAlso_35  (by omega) (by omega) (by omega) (by omega) (by omega)⟩
      exact ⟨(2147483647 : Int).toNat + 1, j_35   ((2147483647 : Int).toNat + 1) p2 1 v_printedMany v_opened v_waiting v_waitingHolder v_printed v_printedAlso  (by omega) (by omega)⟩
    · have f57 : p2.toInt < 0 := i_nle (a := 0) (b := p2.toInt) rfl rfl c17
      exact hq (-4) 0 r7_0 v_printedMany v_opened v_waiting v_waitingHolder v_printed v_printedAlso (by omega) (by omega) (by omega)
  · have f58 : r7.toInt ≠ 0 := i_ne (a := r7.toInt) (b := 0) rfl rfl c10
    exact hq (-2) 0 r7_0 v_printedMany v_opened v_waiting v_waitingHolder v_printed v_printedAlso (by omega) (by omega) (by omega)
set_option maxHeartbeats 4000000 in
theorem ok_X12_wrongBoth {p1 : Int32} {p2 : Int32} {v_finding : Int32} {v_isThere : Nat → Bool} {v_isSubject : Nat → Bool} {Q : Int32 → Int32 → Prop} (hq : ∀ (r : Int32) (ov_finding : Int32), ((r.toInt = 0) ∨ (r.toInt + 2 = 0) ∨ (r.toInt + 3 = 0)) → ((r.toInt ≠ 0) ∨ (0 ≤ p1.toInt)) → ((r.toInt ≠ 0) ∨ (p1.toInt ≤ 5)) → ((r.toInt ≠ 0) ∨ (0 ≤ p2.toInt)) → ((r.toInt ≠ 0) ∨ (p2.toInt ≤ 3)) → (r.toInt = 0 → v_isThere p1.toNatClampNeg = true) → Q r ov_finding) : w_X12_wrongBoth p1 p2 v_finding v_isThere v_isSubject Q := by
  have q_t : (bz true).toInt = 1 := rfl
  have q_f : (bz false).toInt = 0 := rfl
  unfold w_X12_wrongBoth
  refine ok_X12_wrongSlot  (fun r2 r2_0 f1 f2 f3 u2_0 => ?_)
  have j_19 : ∀ (s0_19 : Int32) (v_finding_19 : Int32), ((s0_19.toInt = 0) ∨ (s0_19.toInt + 2 = 0) ∨ (s0_19.toInt + 3 = 0)) → ((s0_19.toInt ≠ 0) ∨ (0 ≤ p1.toInt)) → ((s0_19.toInt ≠ 0) ∨ (p1.toInt ≤ 5)) → ((s0_19.toInt ≠ 0) ∨ (0 ≤ p2.toInt)) → ((s0_19.toInt ≠ 0) ∨ (p2.toInt ≤ 3)) → ((r2.toInt = 0) ∨ (s0_19.toInt = r2.toInt ∧ v_finding_19.toInt = r2_0.toInt)) → (s0_19.toInt = 0 → v_isThere p1.toNatClampNeg = true) → w_X12_wrongBoth_19 Q s0_19 v_finding_19 := by
    intro s0_19 v_finding_19 f4 f5 f6 f7 f8 f9 u19_0
    unfold w_X12_wrongBoth_19
    exact hq s0_19 v_finding_19 (by omega) (by omega) (by omega) (by omega) (by omega) (by assumption)
  refine ⟨fun c7 => ?_, fun c7 => ?_⟩
  · have f10 : r2.toInt = 0 := i_eq (a := r2.toInt) (b := 0) rfl rfl c7
    refine ok_X12_wrongSubject  (fun r16 r16_0 f11 f12 f13 u16_0 u16_1 u16_2 => ?_)
    exact j_19 r16 r16_0 (by omega) (by omega) (by omega) (by omega) (by omega) (by omega) (by first | exact fun z => absurd z (by omega) | exact fun _ => u2_0 (by omega))
  · have f14 : r2.toInt ≠ 0 := i_ne (a := r2.toInt) (b := 0) rfl rfl c7
    exact j_19 r2 r2_0 (by omega) (by omega) (by omega) (by omega) (by omega) (by omega) (by first | exact fun z => absurd z (by omega) | exact fun _ => u2_0 (by omega))
set_option maxHeartbeats 4000000 in
theorem ok_X12_isReplacing {p1 : Int32} {v_taped : Int32} {v_tape : Nat → Int32} {v_captures : Nat → Int32} {Q : Int32 → Prop} (a0 : 0 ≤ v_taped.toInt) (a1 : v_taped.toInt ≤ 200) (a2 : 0 ≤ p1.toInt) (a3 : p1.toInt ≤ 5) (b0 : rp (fun k v => 32 ≤ v ∧ v ≤ 126) v_tape 0 v_taped.toInt) (hq : ∀ (r : Int32), 0 ≤ r.toInt + 1 → 0 ≤ r.toInt → r.toInt ≤ 1 → r.toInt ≤ 2 → r.toInt ≤ 35 → r.toInt ≤ 36 → r.toInt ≤ 37 → r.toInt ≤ 47 → r.toInt ≤ 48 → r.toInt ≤ 49 → r.toInt ≤ p1.toInt + 1 → r.toInt ≤ v_taped.toInt + 1 → Q r) : w_X12_isReplacing p1 v_taped v_tape v_captures Q := by
  have q_t : (bz true).toInt = 1 := rfl
  have q_f : (bz false).toInt = 0 := rfl
  have q_0 : (0 : Int32).toInt = 0 := rfl
  have q_1 : (1 : Int32).toInt = 1 := rfl
  unfold w_X12_isReplacing
  have j_4 : ∀ n_4 : Nat, ∀ (l2_4 : Int32) (l3_4 : Int32), 0 ≤ l2_4.toInt → l2_4.toInt ≤ 1 → 0 ≤ l3_4.toInt → l3_4.toInt ≤ v_taped.toInt + 1 → ((-1) * l3_4.toInt + 2147483648).toNat < n_4 → w_X12_isReplacing_4 p1 v_taped v_tape v_captures Q n_4 l2_4 l3_4 := by
    intro n_4
    induction n_4 with
    | zero =>
      intro l2_4 l3_4 f1 f2 f3 f4 hm_4
      exfalso; omega
    | succ n_4 ih_4 =>
      intro l2_4 l3_4 f1 f2 f3 f4 hm_4
      unfold w_X12_isReplacing_4
      unfold w_X12_isReplacing_4B
      have j_80 : ((v_taped.toInt ≤ l3_4.toInt) ∨ (l3_4.toInt + 1 ≤ v_taped.toInt ∧ l2_4.toInt = 0)) → w_X12_isReplacing_80 Q l2_4 := by
        intro f5
        unfold w_X12_isReplacing_80
        refine ⟨i_01 (by omega) (by omega), ?_⟩
        exact hq l2_4 (by omega) (by omega) (by omega) (by omega) (by omega) (by omega) (by omega) (by omega) (by omega) (by omega) (by omega) (by omega)
      refine ⟨fun c9 => ?_, fun c9 => ?_⟩
      · have f6 : v_taped.toInt ≤ l3_4.toInt := i_le (a := v_taped.toInt) (b := l3_4.toInt) rfl rfl c9
        exact j_80  (by omega)
      · have f7 : l3_4.toInt < v_taped.toInt := i_nle (a := v_taped.toInt) (b := l3_4.toInt) rfl rfl c9
        refine ⟨fun c13 => ?_, fun c13 => ?_⟩
        · have f8 : l2_4.toInt = 0 := i_eq (a := l2_4.toInt) (b := 0) rfl rfl c13
          exact j_80  (by omega)
        · have f9 : l2_4.toInt ≠ 0 := i_ne (a := l2_4.toInt) (b := 0) rfl rfl c13
          refine ⟨i_in (by omega) (by omega), ?_⟩
          intro x21 ex21
          have f10 : 32 ≤ x21.toInt ∧ x21.toInt ≤ 126 := by have h9 := rp_get (P := (fun k v => 32 ≤ v ∧ v ≤ 126)) (a := l3_4.toInt) b0 ex21 rfl (by omega) (by omega) (by omega); omega
          have j_74 : ∀ (l2_74 : Int32) (l3_74 : Int32), l2_4.toInt ≤ l2_74.toInt + 1 → l2_74.toInt ≤ l2_4.toInt → l3_4.toInt ≤ l3_74.toInt → l3_74.toInt ≤ l3_4.toInt + 1 → ((l2_74.toInt = l2_4.toInt ∧ l3_74.toInt = l3_4.toInt) ∨ (x21.toInt = 36 ∧ l3_74.toInt = l3_4.toInt + 1 ∧ 0 ≤ l2_74.toInt ∧ l2_74.toInt ≤ 1)) → w_X12_isReplacing_74 Q (w_X12_isReplacing_4 p1 v_taped v_tape v_captures Q n_4) l2_74 l3_74 := by
            intro l2_74 l3_74 f11 f12 f13 f14 f15
            unfold w_X12_isReplacing_74
            intro x74 ex74
            have f16 : x74.toInt = l3_74.toInt + 1 := i_add (a := l3_74.toInt) (b := 1) ex74 rfl rfl (by omega) (by omega)
            exact ih_4 l2_74 x74  (by omega) (by omega) (by omega) (by omega) (by have h8_0 := i_rng l3_4; have h8_1 := i_rng x74; omega)
          refine ⟨fun c24 => ?_, fun c24 => ?_⟩
          · have f17 : x21.toInt ≠ 36 := i_ne (a := x21.toInt) (b := 36) rfl rfl c24
            exact j_74 l2_4 l3_4 (by omega) (by omega) (by omega) (by omega) (by omega)
          · have f18 : x21.toInt = 36 := i_eq (a := x21.toInt) (b := 36) rfl rfl c24
            intro x27 ex27
            have f19 : x27.toInt = l3_4.toInt + 1 := i_add (a := l3_4.toInt) (b := 1) ex27 rfl rfl (by omega) (by omega)
            have j_73 : ∀ (s0_73 : Int32), 0 ≤ s0_73.toInt → s0_73.toInt ≤ 1 → ((s0_73.toInt = 1 ∧ x27.toInt + 1 ≤ v_taped.toInt) ∨ (s0_73.toInt = 0)) → w_X12_isReplacing_73 Q (w_X12_isReplacing_4 p1 v_taped v_tape v_captures Q n_4) s0_73 x27 := by
              intro s0_73 f20 f21 f22
              unfold w_X12_isReplacing_73
              exact j_74 s0_73 x27 (by omega) (by omega) (by omega) (by omega) (by omega)
            have j_72 : ((v_taped.toInt ≤ x27.toInt) ∨ (x27.toInt + 1 ≤ v_taped.toInt)) → w_X12_isReplacing_72 Q (w_X12_isReplacing_4 p1 v_taped v_tape v_captures Q n_4) x27 := by
              intro f23
              unfold w_X12_isReplacing_72
              exact j_73 0 (by omega) (by omega) (by omega)
            refine ⟨fun c35 => ?_, fun c35 => ?_⟩
            · have f24 : v_taped.toInt ≤ x27.toInt := i_le (a := v_taped.toInt) (b := x27.toInt) rfl rfl c35
              exact j_72  (by omega)
            · have f25 : x27.toInt < v_taped.toInt := i_nle (a := v_taped.toInt) (b := x27.toInt) rfl rfl c35
              refine ⟨i_in (by omega) (by omega), ?_⟩
              intro x43 ex43
              have f26 : 32 ≤ x43.toInt ∧ x43.toInt ≤ 126 := by have h9 := rp_get (P := (fun k v => 32 ≤ v ∧ v ≤ 126)) (a := x27.toInt) b0 ex43 rfl (by omega) (by omega) (by omega); omega
              refine ok_X12_isDigit  (fun r44 f27 f28 f29 f30 f31 f32 => ?_)
              have j_68 : ((r44.toInt = 0) ∨ (32 ≤ x43.toInt ∧ x43.toInt ≤ 126)) → w_X12_isReplacing_68 Q (w_X12_isReplacing_4 p1 v_taped v_tape v_captures Q n_4) x27 := by
                intro f33
                unfold w_X12_isReplacing_68
                exact j_73 1 (by omega) (by omega) (by omega)
              refine ⟨fun c47 => ?_, fun c47 => ?_⟩
              · have f34 : r44.toInt = 0 := i_eq (a := r44.toInt) (b := 0) rfl rfl c47
                exact j_68  (by omega)
              · have f35 : r44.toInt ≠ 0 := i_ne (a := r44.toInt) (b := 0) rfl rfl c47
                refine ⟨i_in (by omega) (by omega), ?_⟩
                intro x55 ex55
                have f36 : x55.toInt = x43.toInt := congrArg Int32.toInt (ex55.trans ex43.symm)
                have f37 : 32 ≤ x55.toInt ∧ x55.toInt ≤ 126 := by have h9 := rp_get (P := (fun k v => 32 ≤ v ∧ v ≤ 126)) (a := x27.toInt) b0 ex55 rfl (by omega) (by omega) (by omega); omega
                intro x58 ex58
                have f38 : x58.toInt = x55.toInt - 48 := i_sub (a := x55.toInt) (b := 48) ex58 rfl rfl (by omega) (by omega)
                refine ⟨i_in (by omega) (by omega), ?_⟩
                intro x64 ex64
                refine ⟨fun c65 => ?_, fun c65 => ?_⟩
                · have f39 : x64.toInt < x58.toInt := i_lt (a := x64.toInt) (b := x58.toInt) rfl rfl c65
                  exact j_72  (by omega)
                · have f40 : x58.toInt ≤ x64.toInt := i_nlt (a := x64.toInt) (b := x58.toInt) rfl rfl c65
                  exact j_68  (by omega)
  exact ⟨(2147483648 : Int).toNat + 1, j_4   ((2147483648 : Int).toNat + 1) 1 0  (by omega) (by omega) (by omega) (by omega) (by omega)⟩
set_option maxHeartbeats 4000000 in
theorem ok_X12_makeSign {p1 : Int32} {v_madeMany : Int32} {v_madeSigns : Nat → Int32} {Q : Int32 → (Nat → Int32) → Prop} (a0 : 0 ≤ v_madeMany.toInt) (a1 : v_madeMany.toInt ≤ 2000000000) (hq : ∀ (ov_madeMany : Int32) (ov_madeSigns : Nat → Int32), ov_madeMany.toInt = v_madeMany.toInt + 1 → Q ov_madeMany ov_madeSigns) : w_X12_makeSign p1 v_madeMany v_madeSigns Q := by
  have q_t : (bz true).toInt = 1 := rfl
  have q_f : (bz false).toInt = 0 := rfl
  unfold w_X12_makeSign
  have j_20 : ∀ (v_madeSigns_20 : Nat → Int32), ((401 ≤ v_madeMany.toInt) ∨ (v_madeMany.toInt ≤ 400)) → w_X12_makeSign_20 Q v_madeMany v_madeSigns_20 := by
    intro v_madeSigns_20 f1
    unfold w_X12_makeSign_20
    intro x26 ex26
    have f2 : x26.toInt = v_madeMany.toInt + 1 := i_add (a := v_madeMany.toInt) (b := 1) ex26 rfl rfl (by omega) (by omega)
    exact hq x26 v_madeSigns_20 (by omega)
  refine ⟨fun c7 => ?_, fun c7 => ?_⟩
  · have f3 : 400 < v_madeMany.toInt := i_lt (a := 400) (b := v_madeMany.toInt) rfl rfl c7
    exact j_20 v_madeSigns (by omega)
  · have f4 : v_madeMany.toInt ≤ 400 := i_nlt (a := 400) (b := v_madeMany.toInt) rfl rfl c7
    refine ⟨i_in (by omega) (by omega), ?_⟩
    intro g19 eg19
    exact j_20 g19 (by omega)
set_option maxHeartbeats 4000000 in
theorem ok_X12_makePart {p1 : Int32} {p2 : Int32} {p3 : Int32} {v_madeMany : Int32} {v_signs : Nat → Int32} {v_madeSigns : Nat → Int32} {Q : Int32 → (Nat → Int32) → Prop} (a0 : 0 ≤ p1.toInt) (a1 : p1.toInt ≤ 3) (a2 : 0 ≤ v_madeMany.toInt) (a3 : v_madeMany.toInt ≤ 1900000000) (a4 : ((p2.toInt + 1 ≤ 0) ∨ (p3.toInt ≤ 100))) (a5 : ((p3.toInt ≤ 100) ∨ (p2.toInt + 1 ≤ 0))) (a6 : 0 ≤ p2.toInt + 1) (b0 : rp (fun k v => 0 ≤ v ∧ v ≤ 65535) v_signs 0 400) (hq : ∀ (ov_madeMany : Int32) (ov_madeSigns : Nat → Int32), v_madeMany.toInt ≤ ov_madeMany.toInt + p2.toInt + 1 → v_madeMany.toInt ≤ ov_madeMany.toInt → 0 ≤ ov_madeMany.toInt + 1 → 0 ≤ ov_madeMany.toInt → ov_madeMany.toInt ≤ v_madeMany.toInt + 100 → ((p3.toInt + v_madeMany.toInt ≤ ov_madeMany.toInt + p2.toInt) ∨ (ov_madeMany.toInt + p2.toInt + 1 ≤ p3.toInt + v_madeMany.toInt ∧ p2.toInt + 1 ≤ 0)) → Q ov_madeMany ov_madeSigns) : w_X12_makePart p1 p2 p3 v_madeMany v_signs v_madeSigns Q := by
  have q_t : (bz true).toInt = 1 := rfl
  have q_f : (bz false).toInt = 0 := rfl
  unfold w_X12_makePart
  have j_3 : ∀ n_3 : Nat, ∀ (l4_3 : Int32) (v_madeMany_3 : Int32) (v_madeSigns_3 : Nat → Int32), p2.toInt + v_madeMany_3.toInt = l4_3.toInt + v_madeMany.toInt → v_madeMany.toInt ≤ v_madeMany_3.toInt → v_madeMany_3.toInt ≤ v_madeMany.toInt + 100 → ((-1) * l4_3.toInt + 100).toNat < n_3 → w_X12_makePart_3 p1 p2 p3 v_signs Q n_3 l4_3 v_madeMany_3 v_madeSigns_3 := by
    intro n_3
    induction n_3 with
    | zero =>
      intro l4_3 v_madeMany_3 v_madeSigns_3 f1 f2 f3 hm_3
      exfalso; omega
    | succ n_3 ih_3 =>
      intro l4_3 v_madeMany_3 v_madeSigns_3 f1 f2 f3 hm_3
      unfold w_X12_makePart_3
      unfold w_X12_makePart_3B
      have j_35 : ((p3.toInt ≤ l4_3.toInt) ∨ (l4_3.toInt + 1 ≤ p3.toInt ∧ p2.toInt + 1 ≤ 0)) → w_X12_makePart_35 Q v_madeMany_3 v_madeSigns_3 := by
        intro f4
        unfold w_X12_makePart_35
        exact hq v_madeMany_3 v_madeSigns_3 (by omega) (by omega) (by omega) (by omega) (by omega) (by omega)
      refine ⟨fun c6 => ?_, fun c6 => ?_⟩
      · have f5 : p3.toInt ≤ l4_3.toInt := i_le (a := p3.toInt) (b := l4_3.toInt) rfl rfl c6
        exact j_35  (by omega)
      · have f6 : l4_3.toInt < p3.toInt := i_nle (a := p3.toInt) (b := l4_3.toInt) rfl rfl c6
        refine ⟨fun c10 => ?_, fun c10 => ?_⟩
        · have f7 : p2.toInt < 0 := i_lt (a := p2.toInt) (b := 0) rfl rfl c10
          exact j_35  (by omega)
        · have f8 : 0 ≤ p2.toInt := i_nlt (a := p2.toInt) (b := 0) rfl rfl c10
          intro x21 ex21
          have f9 : x21.toInt = 100 * p1.toInt := i_mul (a := 100) (b := p1.toInt) ex21 rfl rfl (by omega) (by omega)
          intro x24 ex24
          have f10 : x24.toInt = x21.toInt + l4_3.toInt := i_add (a := x21.toInt) (b := l4_3.toInt) ex24 rfl rfl (by omega) (by omega)
          refine ⟨i_in (by omega) (by omega), ?_⟩
          intro x25 ex25
          have f11 : 0 ≤ x25.toInt ∧ x25.toInt ≤ 65535 := by have h9 := rp_get (P := (fun k v => 0 ≤ v ∧ v ≤ 65535)) (a := x24.toInt) b0 ex25 rfl (by omega) (by omega) (by omega); omega
          refine ok_X12_makeSign (by omega) (by omega) (fun r26_0 r26_1 f12 => ?_)
          intro x29 ex29
          have f13 : x29.toInt = l4_3.toInt + 1 := i_add (a := l4_3.toInt) (b := 1) ex29 rfl rfl (by omega) (by omega)
          exact ih_3 x29 r26_0 r26_1  (by omega) (by omega) (by omega) (by have h8_0 := i_rng l4_3; have h8_1 := i_rng x29; omega)
  exact ⟨((-1) * p2.toInt + 100).toNat + 1, j_3   (((-1) * p2.toInt + 100).toNat + 1) p2 v_madeMany v_madeSigns  (by omega) (by omega) (by omega) (by omega)⟩
set_option maxHeartbeats 4000000 in
theorem ok_X12_keepSpan {p1 : Int32} {p2 : Int32} {v_captures : Nat → Int32} {v_found : Nat → Int32} {v_span : Nat → Int32} {v_sort : Nat → Int32} {v_value : Nat → Int32} {v_least : Nat → Int32} {v_most : Nat → Int32} {v_holder : Nat → Int32} {v_parts : Nat → Int32} {v_end : Nat → Int32} {v_firstPart : Nat → Int32} {v_partBegin : Nat → Int32} {v_partEnd : Nat → Int32} {v_many : Nat → Int32} {Q : Bool → Int32 → (Nat → Int32) → Prop} (a0 : 0 ≤ p2.toInt) (a1 : p2.toInt ≤ 1) (a2 : 0 ≤ p1.toInt) (a3 : p1.toInt ≤ 5) (u0 : zSl v_sort v_value v_least v_most v_holder v_parts v_end v_firstPart v_partBegin v_partEnd (220 * p1.toInt) (420 * p1.toInt) (zg v_many p1.toInt) (zg v_captures p1.toInt)) (hq : ∀ (ov_hasSpan : Bool) (ov_spanCaptures : Int32) (ov_span : Nat → Int32), 0 ≤ ov_spanCaptures.toInt → ov_spanCaptures.toInt ≤ 9 → (bz ov_hasSpan).toInt = p2.toInt → Q ov_hasSpan ov_spanCaptures ov_span) : w_X12_keepSpan p1 p2 v_captures v_found v_span Q := by
  have q_t : (bz true).toInt = 1 := rfl
  have q_f : (bz false).toInt = 0 := rfl
  have q_0 : (0 : Int32).toInt = 0 := rfl
  unfold w_X12_keepSpan
  have f1 : 1 ≤ (zg v_many p1.toInt : Int) := (zS_n u0).1
  have f2 : (zg v_many p1.toInt : Int) ≤ 220 := (zS_n u0).2
  have f3 : 0 ≤ (zg v_captures p1.toInt : Int) := (zS_c u0).1
  have f4 : (zg v_captures p1.toInt : Int) ≤ 9 := (zS_c u0).2
  refine ⟨i_01 (by omega) (by omega), ?_⟩
  intro b2 eb2
  have f5 : (bz b2).toInt = p2.toInt := by rw [← eb2]
  refine ⟨i_in (by omega) (by omega), ?_⟩
  intro x11 ex11
  have f6 : x11.toInt = (zg v_captures p1.toInt : Int) := zg_at ex11
  have j_17 : ∀ n_17 : Nat, ∀ (l3_17 : Int32) (v_span_17 : Nat → Int32), 0 ≤ l3_17.toInt → l3_17.toInt ≤ 20 → ((-1) * l3_17.toInt + 20).toNat < n_17 → w_X12_keepSpan_17 v_found Q b2 x11 n_17 l3_17 v_span_17 := by
    intro n_17
    induction n_17 with
    | zero =>
      intro l3_17 v_span_17 f7 f8 hm_17
      exfalso; omega
    | succ n_17 ih_17 =>
      intro l3_17 v_span_17 f7 f8 hm_17
      unfold w_X12_keepSpan_17
      unfold w_X12_keepSpan_17B
      refine ⟨fun c20 => ?_, fun c20 => ?_⟩
      · have f9 : 20 ≤ l3_17.toInt := i_le (a := 20) (b := l3_17.toInt) rfl rfl c20
        exact hq b2 x11 v_span_17 (by omega) (by omega) (by omega)
      · have f10 : l3_17.toInt < 20 := i_nle (a := 20) (b := l3_17.toInt) rfl rfl c20
        refine ⟨i_in (by omega) (by omega), ?_⟩
        intro x33 ex33
        refine ⟨i_in (by omega) (by omega), ?_⟩
        intro g34 eg34
        intro x35 ex35
        have f11 : x35.toInt = l3_17.toInt + 1 := i_add (a := l3_17.toInt) (b := 1) ex35 rfl rfl (by omega) (by omega)
        exact ih_17 x35 g34  (by omega) (by omega) (by have h8_0 := i_rng l3_17; have h8_1 := i_rng x35; omega)
  exact ⟨(20 : Int).toNat + 1, j_17   ((20 : Int).toNat + 1) 0 v_span  (by omega) (by omega) (by omega)⟩
