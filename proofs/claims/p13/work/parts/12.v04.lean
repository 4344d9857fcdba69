set_option maxHeartbeats 4000000 in
theorem ok_X11_part {p1 : Int32} {p2 : Int32} {p3 : Int32} {p4 : Int32} {v_latestFinding : Int32} {v_patterns : Nat → Option Nat} {v_patterns_p1_there : Bool} {v_patterns_p1_count : Int32} {v_patterns_p1_ranges : Int32} {v_patterns_p1_sort : Nat → Int32} {v_patterns_p1_parts : Nat → Int32} {v_patterns_p1_low : Nat → Int32} {v_patterns_p1_high : Nat → Int32} {v_patterns_p1_rangeBegin : Nat → Int32} {v_patterns_p1_rangeEnd : Nat → Int32} {h2 : Nat} {Q : Int32 → Int32 → Prop} (a0 : 0 ≤ v_patterns_p1_count.toInt) (a1 : v_patterns_p1_count.toInt ≤ 256) (a2 : 0 ≤ v_patterns_p1_ranges.toInt) (a3 : v_patterns_p1_ranges.toInt ≤ 512) (a4 : 0 ≤ p4.toInt) (a5 : p4.toInt ≤ 1) (v0 : 0 ≤ p1.toInt → p1.toInt < 6 → v_patterns p1.toNatClampNeg = some h2) (hq : ∀ (r : Int32) (ov_latestFinding : Int32), Q r ov_latestFinding) : w_X11_part p1 p2 p3 p4 v_latestFinding v_patterns v_patterns_p1_there v_patterns_p1_count v_patterns_p1_ranges v_patterns_p1_sort v_patterns_p1_parts v_patterns_p1_low v_patterns_p1_high v_patterns_p1_rangeBegin v_patterns_p1_rangeEnd h2 Q := by
  have q_t : (bz true).toInt = 1 := rfl
  have q_f : (bz false).toInt = 0 := rfl
  have q_m6 : ((-6) : Int32).toInt = (-6) := rfl
  have q_m4 : ((-4) : Int32).toInt = (-4) := rfl
  have q_m2 : ((-2) : Int32).toInt = (-2) := rfl
  have q_1 : (1 : Int32).toInt = 1 := rfl
  have q_3 : (3 : Int32).toInt = 3 := rfl
  unfold w_X11_part
  refine ok_X11_patternIn v0 (fun r2 r2_0 f1 f2 => ?_)
  refine ⟨fun c2 => ?_, fun c2 => ?_⟩
  · have f3 : r2.toInt = 0 := i_eq (a := r2.toInt) (b := 0) rfl rfl c2
    exact hq (-2) r2_0 
  · have f4 : r2.toInt ≠ 0 := i_ne (a := r2.toInt) (b := 0) rfl rfl c2
    refine ok_X10_has (by omega) (by omega) (fun r200018 f5 => ?_)
    refine ⟨fun c200021 => ?_, fun c200021 => ?_⟩
    · have f6 : r200018.toInt ≠ 0 := i_ne (a := r200018.toInt) (b := 0) rfl rfl c200021
      refine ok_X10_sortOf (by omega) (by omega) (fun r200030 f7 => ?_)
      refine ⟨fun c200034 => ?_, fun c200034 => ?_⟩
      · have f8 : r200030.toInt = 2 := i_eq (a := r200030.toInt) (b := 2) rfl rfl c200034
        have j_200059 : ((p3.toInt + 1 ≤ 0) ∨ (0 ≤ p3.toInt)) → w_X11_part_200059 Q r2_0 := by
          intro f9
          unfold w_X11_part_200059
          exact hq (-4) 1 
        refine ⟨fun c200046 => ?_, fun c200046 => ?_⟩
        · have f10 : p3.toInt < 0 := i_lt (a := p3.toInt) (b := 0) rfl rfl c200046
          exact j_200059  (by omega)
        · have f11 : 0 ≤ p3.toInt := i_nlt (a := p3.toInt) (b := 0) rfl rfl c200046
          refine ok_X10_partsOf (by omega) (by omega) (fun r200053 f12 => ?_)
          refine ⟨fun c200056 => ?_, fun c200056 => ?_⟩
          · have f13 : p3.toInt < r200053.toInt := i_lt (a := p3.toInt) (b := r200053.toInt) rfl rfl c200056
            have j_200089 : ∀ (s0_200089 : Int32), w_X11_part_200089 Q s0_200089 r2_0 := by
              intro s0_200089
              unfold w_X11_part_200089
              exact hq s0_200089 r2_0 
            refine ⟨fun c200069 => ?_, fun c200069 => ?_⟩
            · have f14 : p4.toInt = 0 := i_eq (a := p4.toInt) (b := 0) rfl rfl c200069
              refine ok_X10_partBegin (by omega) (by omega) (by omega) (by omega) (fun r200086 => ?_)
              exact j_200089 r200086 
            · have f15 : p4.toInt ≠ 0 := i_ne (a := p4.toInt) (b := 0) rfl rfl c200069
              refine ok_X10_partEnd (by omega) (by omega) (by omega) (by omega) (fun r200076 => ?_)
              exact j_200089 r200076 
          · have f16 : r200053.toInt ≤ p3.toInt := i_nlt (a := p3.toInt) (b := r200053.toInt) rfl rfl c200056
            exact j_200059  (by omega)
      · have f17 : r200030.toInt ≠ 2 := i_ne (a := r200030.toInt) (b := 2) rfl rfl c200034
        exact hq (-6) 3 
    · have f18 : r200018.toInt = 0 := i_eq (a := r200018.toInt) (b := 0) rfl rfl c200021
      exact hq (-4) r2_0 
set_option maxHeartbeats 4000000 in
theorem ok_X11_feed {p1 : Int32} {p2 : Int64} {v_tape_count : Int32} {v_tape_over : Bool} {v_tape_items : Nat → Int32} {nv_tape_items : Nat} {Q : Int32 → Int32 → Bool → (Nat → Int32) → Prop} (a0 : 0 ≤ v_tape_count.toInt) (a1 : v_tape_count.toInt ≤ (nv_tape_items : Int)) (a2 : (nv_tape_items : Int) ≤ 1000) (hq : ∀ (r : Int32) (ov_tape_count : Int32) (ov_tape_over : Bool) (ov_tape_items : Nat → Int32), v_tape_count.toInt ≤ ov_tape_count.toInt → 0 ≤ r.toInt + 9 → r.toInt ≤ 1000 → ov_tape_count.toInt ≤ 1000 → ov_tape_count.toInt ≤ (nv_tape_items : Int) → Q r ov_tape_count ov_tape_over ov_tape_items) : w_X11_feed p1 p2 v_tape_count v_tape_over v_tape_items nv_tape_items Q := by
  have q_t : (bz true).toInt = 1 := rfl
  have q_f : (bz false).toInt = 0 := rfl
  have q_m9 : ((-9) : Int32).toInt = (-9) := rfl
  have q_m4 : ((-4) : Int32).toInt = (-4) := rfl
  have q_0 : (0 : Int32).toInt = 0 := rfl
  unfold w_X11_feed
  have j_11 : ((p1.toInt ≤ 0) ∨ (1 ≤ p1.toInt ∧ 9 ≤ p1.toInt)) → w_X11_feed_11 Q v_tape_count v_tape_over v_tape_items := by
    intro f1
    unfold w_X11_feed_11
    exact hq (-4) v_tape_count v_tape_over v_tape_items (by omega) (by omega) (by omega) (by omega) (by omega)
  refine ⟨fun c2 => ?_, fun c2 => ?_⟩
  · have f2 : p1.toInt < 1 := i_lt (a := p1.toInt) (b := 1) rfl rfl c2
    exact j_11  (by omega)
  · have f3 : 1 ≤ p1.toInt := i_nlt (a := p1.toInt) (b := 1) rfl rfl c2
    refine ⟨fun c8 => ?_, fun c8 => ?_⟩
    · have f4 : p1.toInt ≤ 8 := i_le (a := p1.toInt) (b := 8) rfl rfl c8
      have j_17 : ∀ n_17 : Nat, ∀ (l4_17 : Int32), 0 ≤ l4_17.toInt → l4_17.toInt ≤ p1.toInt → ((-1) * l4_17.toInt + 2147483648).toNat < n_17 → w_X11_feed_17 p1 p2 nv_tape_items Q v_tape_count v_tape_over v_tape_items n_17 l4_17 := by
        intro n_17
        induction n_17 with
        | zero =>
          intro l4_17 f5 f6 hm_17
          exfalso; omega
        | succ n_17 ih_17 =>
          intro l4_17 f5 f6 hm_17
          unfold w_X11_feed_17
          unfold w_X11_feed_17B
          refine ⟨fun c20 => ?_, fun c20 => ?_⟩
          · have f7 : p1.toInt ≤ l4_17.toInt := i_le (a := p1.toInt) (b := l4_17.toInt) rfl rfl c20
            intro x52 ex52
            have f8 : x52.toInt = v_tape_count.toInt + p1.toInt := i_add (a := v_tape_count.toInt) (b := p1.toInt) ex52 rfl rfl (by omega) (by omega)
            refine ⟨fun c56 => ?_, fun c56 => ?_⟩
            · have f9 : x52.toInt ≤ 200 := i_le (a := x52.toInt) (b := 200) rfl rfl c56
              intro x64 ex64
              have f10 : x64.toInt = p1.toInt - 1 := i_sub (a := p1.toInt) (b := 1) ex64 rfl rfl (by omega) (by omega)
              have j_67 : ∀ n_67 : Nat, ∀ (l4_67 : Int32) (v_tape_count_67 : Int32) (v_tape_over_67 : Bool) (v_tape_items_67 : Nat → Int32), 0 ≤ l4_67.toInt + 1 → l4_67.toInt + 1 ≤ p1.toInt → v_tape_count.toInt ≤ v_tape_count_67.toInt → v_tape_count_67.toInt ≤ (nv_tape_items : Int) → (l4_67.toInt + 2147483649).toNat < n_67 → w_X11_feed_67 p2 nv_tape_items Q n_67 l4_67 v_tape_count_67 v_tape_over_67 v_tape_items_67 := by
                intro n_67
                induction n_67 with
                | zero =>
                  intro l4_67 v_tape_count_67 v_tape_over_67 v_tape_items_67 f11 f12 f13 f14 hm_67
                  exfalso; omega
                | succ n_67 ih_67 =>
                  intro l4_67 v_tape_count_67 v_tape_over_67 v_tape_items_67 f11 f12 f13 f14 hm_67
                  unfold w_X11_feed_67
                  unfold w_X11_feed_67B
                  refine ⟨fun c69 => ?_, fun c69 => ?_⟩
                  · have f15 : l4_67.toInt < 0 := i_lt (a := l4_67.toInt) (b := 0) rfl rfl c69
                    exact hq v_tape_count_67 v_tape_count_67 v_tape_over_67 v_tape_items_67 (by omega) (by omega) (by omega) (by omega) (by omega)
                  · have f16 : 0 ≤ l4_67.toInt := i_nlt (a := l4_67.toInt) (b := 0) rfl rfl c69
                    refine ok_X11_byteOf  (fun r79 f17 f18 => ?_)
                    refine ok_X7_add (by omega) (by omega) (by omega) (fun r82_0 r82_1 r82_2 f19 f20 f21 f22 => ?_)
                    intro x85 ex85
                    have f23 : x85.toInt = l4_67.toInt + (-1) := i_add (a := l4_67.toInt) (b := (-1)) ex85 rfl rfl (by omega) (by omega)
                    exact ih_67 x85 r82_0 r82_1 r82_2  (by omega) (by omega) (by omega) (by omega) (by have h8_0 := i_rng l4_67; have h8_1 := i_rng x85; omega)
              exact ⟨(x64.toInt + 2147483649).toNat + 1, j_67   ((x64.toInt + 2147483649).toNat + 1) x64 v_tape_count v_tape_over v_tape_items  (by omega) (by omega) (by omega) (by omega) (by omega)⟩
            · have f24 : 200 < x52.toInt := i_nle (a := x52.toInt) (b := 200) rfl rfl c56
              exact hq (-9) v_tape_count v_tape_over v_tape_items (by omega) (by omega) (by omega) (by omega) (by omega)
          · have f25 : l4_17.toInt < p1.toInt := i_nle (a := p1.toInt) (b := l4_17.toInt) rfl rfl c20
            refine ok_X11_byteOf  (fun r26 f26 f27 => ?_)
            refine ok_X11_isTapeSign  (fun r29 f28 => ?_)
            refine ⟨fun c32 => ?_, fun c32 => ?_⟩
            · have f29 : r29.toInt ≠ 0 := i_ne (a := r29.toInt) (b := 0) rfl rfl c32
              intro x38 ex38
              have f30 : x38.toInt = l4_17.toInt + 1 := i_add (a := l4_17.toInt) (b := 1) ex38 rfl rfl (by omega) (by omega)
              exact ih_17 x38  (by omega) (by omega) (by have h8_0 := i_rng l4_17; have h8_1 := i_rng x38; omega)
            · have f31 : r29.toInt = 0 := i_eq (a := r29.toInt) (b := 0) rfl rfl c32
              exact hq (-4) v_tape_count v_tape_over v_tape_items (by omega) (by omega) (by omega) (by omega) (by omega)
      exact ⟨(2147483648 : Int).toNat + 1, j_17   ((2147483648 : Int).toNat + 1) 0  (by omega) (by omega) (by omega)⟩
    · have f32 : 8 < p1.toInt := i_nle (a := p1.toInt) (b := 8) rfl rfl c8
      exact j_11  (by omega)
set_option maxHeartbeats 4000000 in
theorem ok_X11_put {p1 : Int32} {p2 : Int32} {p3 : Int64} {v_openSlot : Int32} {v_openSubject : Int32} {v_subjects : Nat → Option Nat} {v_subjects_p1_count : Int32} {v_subjects_p1_over : Bool} {v_subjects_p1_there : Bool} {v_subjects_p1_items : Nat → Int32} {nv_subjects_p1_items : Nat} {h2 : Nat} {Q : Int32 → Int32 → Int32 → Int32 → Bool → Bool → (Nat → Int32) → Prop} (a0 : 0 ≤ v_subjects_p1_count.toInt) (a1 : v_subjects_p1_count.toInt ≤ (nv_subjects_p1_items : Int)) (a2 : (nv_subjects_p1_items : Int) ≤ 1000) (a3 : (nv_subjects_p1_items : Int) = 100) (v0 : 0 ≤ p1.toInt → p1.toInt < 4 → v_subjects p1.toNatClampNeg = some h2) (hq : ∀ (r : Int32) (ov_openSlot : Int32) (ov_openSubject : Int32) (ov_subjects_p1_count : Int32) (ov_subjects_p1_over : Bool) (ov_subjects_p1_there : Bool) (ov_subjects_p1_items : Nat → Int32), ov_openSubject.toInt ≤ v_openSubject.toInt → v_subjects_p1_count.toInt ≤ ov_subjects_p1_count.toInt → 0 ≤ r.toInt + 9 → r.toInt ≤ 100 → ov_subjects_p1_count.toInt ≤ 100 → ((ov_openSlot.toInt + 1 = 0) ∨ (ov_openSlot.toInt = v_openSlot.toInt)) → ((¬ (0 ≤ p1.toInt ∧ p1.toInt ≤ 3) ∧ r.toInt = -2 ∧ (ov_subjects_p1_count.toInt = v_subjects_p1_count.toInt ∧ (bz ov_subjects_p1_there).toInt = (bz v_subjects_p1_there).toInt)) ∨ ((0 ≤ p1.toInt ∧ p1.toInt ≤ 3) ∧ ¬ (0 ≤ p2.toInt ∧ p2.toInt ≤ 4) ∧ r.toInt = -4 ∧ (ov_subjects_p1_count.toInt = v_subjects_p1_count.toInt ∧ (bz ov_subjects_p1_there).toInt = (bz v_subjects_p1_there).toInt)) ∨ ((0 ≤ p1.toInt ∧ p1.toInt ≤ 3) ∧ (0 ≤ p2.toInt ∧ p2.toInt ≤ 4) ∧ 100 < v_subjects_p1_count.toInt + p2.toInt ∧ r.toInt = -9 ∧ (ov_subjects_p1_count.toInt = v_subjects_p1_count.toInt ∧ (bz ov_subjects_p1_there).toInt = (bz v_subjects_p1_there).toInt)) ∨ ((0 ≤ p1.toInt ∧ p1.toInt ≤ 3) ∧ (0 ≤ p2.toInt ∧ p2.toInt ≤ 4) ∧ v_subjects_p1_count.toInt + p2.toInt ≤ 100 ∧ r.toInt = v_subjects_p1_count.toInt + p2.toInt ∧ ov_subjects_p1_count.toInt = v_subjects_p1_count.toInt + p2.toInt ∧ (bz ov_subjects_p1_there).toInt = 1)) → Q r ov_openSlot ov_openSubject ov_subjects_p1_count ov_subjects_p1_over ov_subjects_p1_there ov_subjects_p1_items) : w_X11_put p1 p2 p3 v_openSlot v_openSubject v_subjects v_subjects_p1_count v_subjects_p1_over v_subjects_p1_there v_subjects_p1_items nv_subjects_p1_items h2 Q := by
  have q_t : (bz true).toInt = 1 := rfl
  have q_f : (bz false).toInt = 0 := rfl
  have q_m9 : ((-9) : Int32).toInt = (-9) := rfl
  have q_m4 : ((-4) : Int32).toInt = (-4) := rfl
  have q_m2 : ((-2) : Int32).toInt = (-2) := rfl
  unfold w_X11_put
  refine ok_X11_isSubject  (fun r1 f1 f2 f3 f4 f5 f6 => ?_)
  refine ⟨fun c4 => ?_, fun c4 => ?_⟩
  · have f7 : r1.toInt ≠ 0 := i_ne (a := r1.toInt) (b := 0) rfl rfl c4
    have j_19 : ((p2.toInt + 1 ≤ 0) ∨ (0 ≤ p2.toInt ∧ 5 ≤ p2.toInt)) → w_X11_put_19 Q v_openSlot v_openSubject v_subjects_p1_count v_subjects_p1_over v_subjects_p1_there v_subjects_p1_items := by
      intro f8
      unfold w_X11_put_19
      exact hq (-4) v_openSlot v_openSubject v_subjects_p1_count v_subjects_p1_over v_subjects_p1_there v_subjects_p1_items (by omega) (by omega) (by omega) (by omega) (by omega) (by omega) (by omega)
    refine ⟨fun c11 => ?_, fun c11 => ?_⟩
    · have f9 : p2.toInt < 0 := i_lt (a := p2.toInt) (b := 0) rfl rfl c11
      exact j_19  (by omega)
    · have f10 : 0 ≤ p2.toInt := i_nlt (a := p2.toInt) (b := 0) rfl rfl c11
      refine ⟨fun c16 => ?_, fun c16 => ?_⟩
      · have f11 : p2.toInt ≤ 4 := i_le (a := p2.toInt) (b := 4) rfl rfl c16
        refine ⟨i_in (by omega) (by omega), ?_⟩
        refine ⟨v0 (by omega) (by omega), ?_⟩
        intro x36 ex36
        have f12 : x36.toInt = v_subjects_p1_count.toInt + p2.toInt := i_add (a := v_subjects_p1_count.toInt) (b := p2.toInt) ex36 rfl rfl (by omega) (by omega)
        refine ⟨fun c39 => ?_, fun c39 => ?_⟩
        · have f13 : x36.toInt ≤ 100 := i_le (a := x36.toInt) (b := 100) rfl rfl c39
          intro x47 ex47
          have f14 : x47.toInt = p2.toInt - 1 := i_sub (a := p2.toInt) (b := 1) ex47 rfl rfl (by omega) (by omega)
          have j_50 : ∀ n_50 : Nat, ∀ (l6_50 : Int32) (v_subjects_p1_count_50 : Int32) (v_subjects_p1_over_50 : Bool) (v_subjects_p1_items_50 : Nat → Int32), v_subjects_p1_count.toInt ≤ v_subjects_p1_count_50.toInt → l6_50.toInt + v_subjects_p1_count_50.toInt + 1 = p2.toInt + v_subjects_p1_count.toInt → 0 ≤ l6_50.toInt + 1 → (l6_50.toInt + 2147483649).toNat < n_50 → w_X11_put_50 p1 p3 nv_subjects_p1_items Q v_openSlot v_openSubject v_subjects_p1_there n_50 l6_50 v_subjects_p1_count_50 v_subjects_p1_over_50 v_subjects_p1_items_50 := by
            intro n_50
            induction n_50 with
            | zero =>
              intro l6_50 v_subjects_p1_count_50 v_subjects_p1_over_50 v_subjects_p1_items_50 f15 f16 f17 hm_50
              exfalso; omega
            | succ n_50 ih_50 =>
              intro l6_50 v_subjects_p1_count_50 v_subjects_p1_over_50 v_subjects_p1_items_50 f15 f16 f17 hm_50
              unfold w_X11_put_50
              unfold w_X11_put_50B
              refine ⟨fun c52 => ?_, fun c52 => ?_⟩
              · have f18 : l6_50.toInt < 0 := i_lt (a := l6_50.toInt) (b := 0) rfl rfl c52
                refine ok_X11_endSearchOver  (fun r85_0 r85_1 f19 f20 => ?_)
                exact hq v_subjects_p1_count_50 r85_0 r85_1 v_subjects_p1_count_50 v_subjects_p1_over_50 true v_subjects_p1_items_50 (by omega) (by omega) (by omega) (by omega) (by omega) (by omega) (by omega)
              · have f21 : 0 ≤ l6_50.toInt := i_nlt (a := l6_50.toInt) (b := 0) rfl rfl c52
                intro x62 ex62
                have f22 : x62.toInt = 16 * l6_50.toInt := i_mul (a := 16) (b := l6_50.toInt) ex62 rfl rfl (by omega) (by omega)
                intro y63 ey63
                intro x64 ex64
                intro x67 ex67
                have f23 : (0 ≤ x67.toInt ∧ x67.toInt ≤ 65535) := i_andr ex67 (by decide)
                refine ok_X7_add (by omega) (by omega) (by omega) (fun r68_0 r68_1 r68_2 f24 f25 f26 f27 => ?_)
                intro x71 ex71
                have f28 : x71.toInt = l6_50.toInt + (-1) := i_add (a := l6_50.toInt) (b := (-1)) ex71 rfl rfl (by omega) (by omega)
                exact ih_50 x71 r68_0 r68_1 r68_2  (by omega) (by omega) (by omega) (by have h8_0 := i_rng l6_50; have h8_1 := i_rng x71; omega)
          exact ⟨(x47.toInt + 2147483649).toNat + 1, j_50   ((x47.toInt + 2147483649).toNat + 1) x47 v_subjects_p1_count v_subjects_p1_over v_subjects_p1_items  (by omega) (by omega) (by omega) (by omega)⟩
        · have f29 : 100 < x36.toInt := i_nle (a := x36.toInt) (b := 100) rfl rfl c39
          exact hq (-9) v_openSlot v_openSubject v_subjects_p1_count v_subjects_p1_over v_subjects_p1_there v_subjects_p1_items (by omega) (by omega) (by omega) (by omega) (by omega) (by omega) (by omega)
      · have f30 : 4 < p2.toInt := i_nle (a := p2.toInt) (b := 4) rfl rfl c16
        exact j_19  (by omega)
  · have f31 : r1.toInt = 0 := i_eq (a := r1.toInt) (b := 0) rfl rfl c4
    exact hq (-2) v_openSlot v_openSubject v_subjects_p1_count v_subjects_p1_over v_subjects_p1_there v_subjects_p1_items (by omega) (by omega) (by omega) (by omega) (by omega) (by omega) (by omega)
set_option maxHeartbeats 4000000 in
theorem ok_X7_addFrom_v1 {p2 : Int32} {p3 : Int32} {v_count : Int32} {v_over : Bool} {v_items : Nat → Int32} {nv_items : Nat} {Q : Int32 → Bool → (Nat → Int32) → Prop} (a0 : 0 ≤ v_count.toInt) (a1 : v_count.toInt ≤ (nv_items : Int)) (a2 : (nv_items : Int) ≤ 1000) (hq : ∀ (ov_count : Int32) (ov_over : Bool) (ov_items : Nat → Int32), 0 ≤ ov_count.toInt + 1 → 0 ≤ ov_count.toInt → ov_count.toInt ≤ 1000 → v_count.toInt ≤ ov_count.toInt → ov_count.toInt ≤ (nv_items : Int) → Q ov_count ov_over ov_items) : w_X7_addFrom_v1 p2 p3 v_count v_over v_items nv_items Q := by
  have q_t : (bz true).toInt = 1 := rfl
  have q_f : (bz false).toInt = 0 := rfl
  unfold w_X7_addFrom_v1
  intro x2 ex2
  have f1 : ((x2.toInt = p2.toInt ∧ 0 ≤ p2.toInt) ∨ (x2.toInt = 0 ∧ p2.toInt ≤ 0)) := by have h9 := i_max (a := p2.toInt) (b := 0) ex2 rfl rfl; omega
  have j_7 : ∀ n_7 : Nat, ∀ (l4_7 : Int32) (v_count_7 : Int32) (v_over_7 : Bool) (v_items_7 : Nat → Int32), x2.toInt ≤ l4_7.toInt → v_count.toInt ≤ v_count_7.toInt → v_count_7.toInt ≤ (nv_items : Int) → ((-1) * l4_7.toInt + 2147483648).toNat < n_7 → w_X7_addFrom_v1_7 p3 nv_items Q n_7 l4_7 v_count_7 v_over_7 v_items_7 := by
    intro n_7
    induction n_7 with
    | zero =>
      intro l4_7 v_count_7 v_over_7 v_items_7 f2 f3 f4 hm_7
      exfalso; omega
    | succ n_7 ih_7 =>
      intro l4_7 v_count_7 v_over_7 v_items_7 f2 f3 f4 hm_7
      unfold w_X7_addFrom_v1_7
      unfold w_X7_addFrom_v1_7B
      have j_38 : ((p3.toInt ≤ l4_7.toInt) ∨ (l4_7.toInt + 1 ≤ p3.toInt ∧ v_count_7.toInt ≤ l4_7.toInt)) → w_X7_addFrom_v1_38 Q v_count_7 v_over_7 v_items_7 := by
        intro f5
        unfold w_X7_addFrom_v1_38
        exact hq v_count_7 v_over_7 v_items_7 (by omega) (by omega) (by omega) (by omega) (by omega)
      refine ⟨fun c10 => ?_, fun c10 => ?_⟩
      · have f6 : p3.toInt ≤ l4_7.toInt := i_le (a := p3.toInt) (b := l4_7.toInt) rfl rfl c10
        exact j_38  (by omega)
      · have f7 : l4_7.toInt < p3.toInt := i_nle (a := p3.toInt) (b := l4_7.toInt) rfl rfl c10
        refine ⟨fun c19 => ?_, fun c19 => ?_⟩
        · have f8 : v_count_7.toInt ≤ l4_7.toInt := i_le (a := v_count_7.toInt) (b := l4_7.toInt) rfl rfl c19
          exact j_38  (by omega)
        · have f9 : l4_7.toInt < v_count_7.toInt := i_nle (a := v_count_7.toInt) (b := l4_7.toInt) rfl rfl c19
          refine ok_X7_at (by omega) (by omega) (by omega) (fun r26 f10 => ?_)
          refine ok_X7_add (by omega) (by omega) (by omega) (fun r29_0 r29_1 r29_2 f11 f12 f13 f14 => ?_)
          intro x32 ex32
          have f15 : x32.toInt = l4_7.toInt + 1 := i_add (a := l4_7.toInt) (b := 1) ex32 rfl rfl (by omega) (by omega)
          exact ih_7 x32 r29_0 r29_1 r29_2  (by omega) (by omega) (by omega) (by have h8_0 := i_rng l4_7; have h8_1 := i_rng x32; omega)
  exact ⟨((-1) * x2.toInt + 2147483648).toNat + 1, j_7   (((-1) * x2.toInt + 2147483648).toNat + 1) x2 v_count v_over v_items  (by omega) (by omega) (by omega) (by omega)⟩
set_option maxHeartbeats 4000000 in
theorem ok_X11_draftReplacement {v_tape_count : Int32} {v_tape_items : Nat → Int32} {nv_tape_items : Nat} {a1_count : Int32} {a1_over : Bool} {a1_items : Nat → Int32} {na1_items : Nat} {v_spans_count : Int32} {v_spans_items : Nat → Int32} {nv_spans_items : Nat} {Q : Int32 → Bool → (Nat → Int32) → Prop} (a0 : 0 ≤ v_tape_count.toInt) (a1 : v_tape_count.toInt ≤ (nv_tape_items : Int)) (a2 : (nv_tape_items : Int) ≤ 1000) (a3 : 0 ≤ a1_count.toInt) (a4 : a1_count.toInt ≤ (na1_items : Int)) (a5 : (na1_items : Int) ≤ 1000) (a6 : 0 ≤ v_spans_count.toInt) (a7 : v_spans_count.toInt ≤ (nv_spans_items : Int)) (a8 : (nv_spans_items : Int) ≤ 1000) (hq : ∀ (oa1_count : Int32) (oa1_over : Bool) (oa1_items : Nat → Int32), 0 ≤ oa1_count.toInt + 1 → 0 ≤ oa1_count.toInt → oa1_count.toInt ≤ 1000 → a1_count.toInt ≤ oa1_count.toInt → oa1_count.toInt ≤ (na1_items : Int) → Q oa1_count oa1_over oa1_items) : w_X11_draftReplacement v_tape_count v_tape_items nv_tape_items a1_count a1_over a1_items na1_items v_spans_count v_spans_items nv_spans_items Q := by
  have q_t : (bz true).toInt = 1 := rfl
  have q_f : (bz false).toInt = 0 := rfl
  have q_0 : (0 : Int32).toInt = 0 := rfl
  unfold w_X11_draftReplacement
  have j_2 : ∀ n_2 : Nat, ∀ (l2_2 : Int32) (a1_count_2 : Int32) (a1_over_2 : Bool) (a1_items_2 : Nat → Int32), 0 ≤ l2_2.toInt → l2_2.toInt ≤ v_tape_count.toInt + 1 → a1_count.toInt ≤ a1_count_2.toInt → a1_count_2.toInt ≤ (na1_items : Int) → ((-1) * l2_2.toInt + 2147483648).toNat < n_2 → w_X11_draftReplacement_2 v_tape_count v_tape_items nv_tape_items na1_items v_spans_count v_spans_items nv_spans_items Q n_2 l2_2 a1_count_2 a1_over_2 a1_items_2 := by
    intro n_2
    induction n_2 with
    | zero =>
      intro l2_2 a1_count_2 a1_over_2 a1_items_2 f1 f2 f3 f4 hm_2
      exfalso; omega
    | succ n_2 ih_2 =>
      intro l2_2 a1_count_2 a1_over_2 a1_items_2 f1 f2 f3 f4 hm_2
      unfold w_X11_draftReplacement_2
      unfold w_X11_draftReplacement_2B
      refine ⟨fun c10 => ?_, fun c10 => ?_⟩
      · have f5 : v_tape_count.toInt ≤ l2_2.toInt := i_le (a := v_tape_count.toInt) (b := l2_2.toInt) rfl rfl c10
        exact hq a1_count_2 a1_over_2 a1_items_2 (by omega) (by omega) (by omega) (by omega) (by omega)
      · have f6 : l2_2.toInt < v_tape_count.toInt := i_nle (a := v_tape_count.toInt) (b := l2_2.toInt) rfl rfl c10
        refine ok_X7_at (by omega) (by omega) (by omega) (fun r18 f7 => ?_)
        have j_111 : ∀ (l2_111 : Int32) (a1_count_111 : Int32) (a1_over_111 : Bool) (a1_items_111 : Nat → Int32), 0 ≤ a1_count_111.toInt → a1_count_111.toInt ≤ (na1_items : Int) → a1_count_2.toInt ≤ a1_count_111.toInt → l2_2.toInt ≤ l2_111.toInt → l2_111.toInt ≤ l2_2.toInt + 1 → ((r18.toInt = 36 ∧ l2_111.toInt = l2_2.toInt + 1) ∨ (r18.toInt = 36 ∧ l2_111.toInt = l2_2.toInt + 1 ∧ 0 ≤ a1_count_111.toInt + 1 ∧ a1_count_111.toInt ≤ 1000) ∨ (l2_111.toInt = l2_2.toInt)) → w_X11_draftReplacement_111 Q (w_X11_draftReplacement_2 v_tape_count v_tape_items nv_tape_items na1_items v_spans_count v_spans_items nv_spans_items Q n_2) l2_111 a1_count_111 a1_over_111 a1_items_111 := by
          intro l2_111 a1_count_111 a1_over_111 a1_items_111 f8 f9 f10 f11 f12 f13
          unfold w_X11_draftReplacement_111
          intro x111 ex111
          have f14 : x111.toInt = l2_111.toInt + 1 := i_add (a := l2_111.toInt) (b := 1) ex111 rfl rfl (by omega) (by omega)
          exact ih_2 x111 a1_count_111 a1_over_111 a1_items_111  (by omega) (by omega) (by omega) (by omega) (by have h8_0 := i_rng l2_2; have h8_1 := i_rng x111; omega)
        refine ⟨fun c25 => ?_, fun c25 => ?_⟩
        · have f15 : r18.toInt = 36 := i_eq (a := r18.toInt) (b := 36) rfl rfl c25
          intro x39 ex39
          have f16 : x39.toInt = l2_2.toInt + 1 := i_add (a := l2_2.toInt) (b := 1) ex39 rfl rfl (by omega) (by omega)
          refine ok_X7_at (by omega) (by omega) (by omega) (fun r47 f17 => ?_)
          refine ok_X11_isDigit  (fun r54 f18 => ?_)
          refine ⟨fun c57 => ?_, fun c57 => ?_⟩
          · have f19 : r54.toInt = 0 := i_eq (a := r54.toInt) (b := 0) rfl rfl c57
            refine ok_X7_add (by omega) (by omega) (by omega) (fun r108_0 r108_1 r108_2 f20 f21 f22 f23 => ?_)
            exact j_111 x39 r108_0 r108_1 r108_2 (by omega) (by omega) (by omega) (by omega) (by omega) (by omega)
          · have f24 : r54.toInt ≠ 0 := i_ne (a := r54.toInt) (b := 0) rfl rfl c57
            intro x64 ex64
            have f25 : x64.toInt = r47.toInt - 48 := i_sub (a := r47.toInt) (b := 48) ex64 rfl rfl (by omega) (by omega)
            intro x79 ex79
            have f26 : x79.toInt = 2 * x64.toInt := i_mul (a := 2) (b := x64.toInt) ex79 rfl rfl (by omega) (by omega)
            refine ok_X7_at (by omega) (by omega) (by omega) (fun r80 f27 => ?_)
            intro x90 ex90
            have f28 : x90.toInt = 2 * x64.toInt := i_mul (a := 2) (b := x64.toInt) ex90 rfl rfl (by omega) (by omega)
            intro x92 ex92
            have f29 : x92.toInt = x90.toInt + 1 := i_add (a := x90.toInt) (b := 1) ex92 rfl rfl (by omega) (by omega)
            refine ok_X7_at (by omega) (by omega) (by omega) (fun r93 f30 => ?_)
            refine ok_X7_addFrom_v1 (by omega) (by omega) (by omega) (fun r96_0 r96_1 r96_2 f31 f32 f33 f34 f35 => ?_)
            exact j_111 x39 r96_0 r96_1 r96_2 (by omega) (by omega) (by omega) (by omega) (by omega) (by omega)
        · have f36 : r18.toInt ≠ 36 := i_ne (a := r18.toInt) (b := 36) rfl rfl c25
          refine ok_X7_add (by omega) (by omega) (by omega) (fun r33_0 r33_1 r33_2 f37 f38 f39 f40 => ?_)
          exact j_111 l2_2 r33_0 r33_1 r33_2 (by omega) (by omega) (by omega) (by omega) (by omega) (by omega)
  exact ⟨(2147483648 : Int).toNat + 1, j_2   ((2147483648 : Int).toNat + 1) 0 a1_count a1_over a1_items  (by omega) (by omega) (by omega) (by omega) (by omega)⟩
set_option maxHeartbeats 4000000 in
theorem ok_X11_parting {p1 : Int32} {p2 : Int32} {v_outHasNumbers : Bool} {v_latestFinding : Int32} {v_patterns : Nat → Option Nat} {v_outRow_count : Int32} {v_outRow_over : Bool} {v_outRow_items : Nat → Int32} {nv_outRow_items : Nat} {v_draft_count : Int32} {v_draft_over : Bool} {v_draft_items : Nat → Int32} {nv_draft_items : Nat} {v_sets_onlyInOne : Bool} {v_sets_onlyInOther : Bool} {v_sets_stamp : Int32} {v_sets_pairCount : Int32} {v_sets_parted : Int32} {v_sets_alphabet_count : Int32} {v_sets_alphabet_begins : Nat → Int32} {v_sets_one_count : Int32} {v_sets_one_positionCount : Int32} {v_sets_one_stamp : Int32} {v_sets_one_stackCount : Int32} {v_sets_one_width : Int32} {v_sets_one_program_start : Int32} {v_sets_one_program_count : Int32} {v_sets_one_program_kinds : Nat → Int32} {v_sets_one_program_subjects : Nat → Int32} {v_sets_one_program_nexts : Nat → Int32} {v_sets_one_program_others : Nat → Int32} {v_sets_one_positionOf : Nat → Int32} {v_sets_one_pcOf : Nat → Int32} {v_sets_one_follow : Nat → Int64} {v_sets_one_takers : Nat → Int64} {v_sets_one_seen : Nat → Int32} {v_sets_one_stack : Nat → Int32} {v_sets_one_states : Nat → Int64} {v_sets_one_ahead : Nat → Int64} {v_sets_one_goes : Nat → Int32} {v_sets_other_count : Int32} {v_sets_other_positionCount : Int32} {v_sets_other_stamp : Int32} {v_sets_other_stackCount : Int32} {v_sets_other_width : Int32} {v_sets_other_program_start : Int32} {v_sets_other_program_count : Int32} {v_sets_other_program_kinds : Nat → Int32} {v_sets_other_program_subjects : Nat → Int32} {v_sets_other_program_nexts : Nat → Int32} {v_sets_other_program_others : Nat → Int32} {v_sets_other_positionOf : Nat → Int32} {v_sets_other_pcOf : Nat → Int32} {v_sets_other_follow : Nat → Int64} {v_sets_other_takers : Nat → Int64} {v_sets_other_seen : Nat → Int32} {v_sets_other_stack : Nat → Int32} {v_sets_other_states : Nat → Int64} {v_sets_other_ahead : Nat → Int64} {v_sets_other_goes : Nat → Int32} {v_sets_met : Nat → Int32} {v_sets_pairs : Nat → Int32} {v_sets_cameFrom : Nat → Int32} {v_sets_cameBy : Nat → Int32} {v_patterns_p1_there : Bool} {v_patterns_p1_count : Int32} {v_patterns_p1_captures : Int32} {v_patterns_p1_ranges : Int32} {v_patterns_p1_sort : Nat → Int32} {v_patterns_p1_end : Nat → Int32} {v_patterns_p1_before : Nat → Int32} {v_patterns_p1_last : Nat → Int32} {v_patterns_p1_parts : Nat → Int32} {v_patterns_p1_value : Nat → Int32} {v_patterns_p1_low : Nat → Int32} {v_patterns_p1_high : Nat → Int32} {v_patterns_p1_size : Nat → Int32} {v_patterns_p1_positions : Nat → Int32} {v_patterns_p1_mayBeEmpty : Nat → Bool} {v_patterns_p1_withinCase : Nat → Bool} {v_patterns_p1_rangeBegin : Nat → Int32} {v_patterns_p1_rangeEnd : Nat → Int32} {v_patterns_p2_there : Bool} {v_patterns_p2_count : Int32} {v_patterns_p2_captures : Int32} {v_patterns_p2_ranges : Int32} {v_patterns_p2_sort : Nat → Int32} {v_patterns_p2_end : Nat → Int32} {v_patterns_p2_before : Nat → Int32} {v_patterns_p2_last : Nat → Int32} {v_patterns_p2_parts : Nat → Int32} {v_patterns_p2_value : Nat → Int32} {v_patterns_p2_low : Nat → Int32} {v_patterns_p2_high : Nat → Int32} {v_patterns_p2_size : Nat → Int32} {v_patterns_p2_positions : Nat → Int32} {v_patterns_p2_mayBeEmpty : Nat → Bool} {v_patterns_p2_withinCase : Nat → Bool} {v_patterns_p2_rangeBegin : Nat → Int32} {v_patterns_p2_rangeEnd : Nat → Int32} {h88 : Nat} {h92 : Nat} {h43 : Nat} {h58 : Nat} {Q : Int32 → Bool → Int32 → Int32 → Bool → (Nat → Int32) → Int32 → Bool → (Nat → Int32) → Bool → Bool → Int32 → Int32 → Int32 → Int32 → (Nat → Int32) → Int32 → Int32 → Int32 → Int32 → Int32 → Int32 → Int32 → Nat → (Nat → Int32) → (Nat → Int32) → (Nat → Int32) → (Nat → Int32) → (Nat → Int32) → (Nat → Int32) → (Nat → Int64) → (Nat → Int64) → (Nat → Int32) → (Nat → Int32) → (Nat → Int64) → (Nat → Int64) → (Nat → Int32) → Int32 → Int32 → Int32 → Int32 → Int32 → Int32 → Int32 → Nat → (Nat → Int32) → (Nat → Int32) → (Nat → Int32) → (Nat → Int32) → (Nat → Int32) → (Nat → Int32) → (Nat → Int64) → (Nat → Int64) → (Nat → Int32) → (Nat → Int32) → (Nat → Int64) → (Nat → Int64) → (Nat → Int32) → (Nat → Int32) → (Nat → Int32) → (Nat → Int32) → (Nat → Int32) → Prop} (a0 : 0 ≤ v_outRow_count.toInt) (a1 : v_outRow_count.toInt ≤ (nv_outRow_items : Int)) (a2 : (nv_outRow_items : Int) ≤ 1000) (a3 : 0 ≤ v_draft_count.toInt) (a4 : v_draft_count.toInt ≤ (nv_draft_items : Int)) (a5 : (nv_draft_items : Int) ≤ 1000) (a6 : 0 ≤ v_sets_pairCount.toInt) (a7 : v_sets_pairCount.toInt ≤ 3600) (a8 : 0 ≤ v_sets_parted.toInt + 1) (a9 : ((v_sets_parted.toInt ≤ 0) ∨ (v_sets_parted.toInt + 1 ≤ v_sets_pairCount.toInt))) (a10 : 0 ≤ v_sets_alphabet_count.toInt) (a11 : v_sets_alphabet_count.toInt ≤ 256) (a12 : 0 ≤ v_sets_one_count.toInt) (a13 : v_sets_one_count.toInt ≤ 60) (a14 : 0 ≤ v_sets_one_positionCount.toInt) (a15 : v_sets_one_positionCount.toInt ≤ 60) (a16 : 0 ≤ v_sets_one_width.toInt) (a17 : v_sets_one_width.toInt ≤ 256) (a18 : 0 ≤ v_sets_one_program_count.toInt) (a19 : v_sets_one_program_count.toInt ≤ 512) (a20 : 0 ≤ v_sets_other_count.toInt) (a21 : v_sets_other_count.toInt ≤ 60) (a22 : 0 ≤ v_sets_other_positionCount.toInt) (a23 : v_sets_other_positionCount.toInt ≤ 60) (a24 : 0 ≤ v_sets_other_width.toInt) (a25 : v_sets_other_width.toInt ≤ 256) (a26 : 0 ≤ v_sets_other_program_count.toInt) (a27 : v_sets_other_program_count.toInt ≤ 512) (a28 : 0 ≤ v_patterns_p1_count.toInt) (a29 : v_patterns_p1_count.toInt ≤ 256) (a30 : 0 ≤ v_patterns_p1_ranges.toInt) (a31 : v_patterns_p1_ranges.toInt ≤ 512) (a32 : 0 ≤ v_patterns_p2_count.toInt) (a33 : v_patterns_p2_count.toInt ≤ 256) (a34 : 0 ≤ v_patterns_p2_ranges.toInt) (a35 : v_patterns_p2_ranges.toInt ≤ 512) (b0 : rp (fun k v => v < k ∧ -1 ≤ v) v_sets_cameFrom 0 v_sets_pairCount.toInt) (b1 : rp (fun k v => -1 ≤ v ∧ v ≤ 255) v_patterns_p1_last 0 v_patterns_p1_count.toInt) (b2 : rp (fun k v => k < v ∧ v ≤ 256) v_patterns_p1_end 0 v_patterns_p1_count.toInt) (b3 : rp (fun k v => v < k ∧ -1 ≤ v) v_patterns_p1_before 0 v_patterns_p1_count.toInt) (b4 : rp (fun k v => -1 ≤ v ∧ v ≤ 255) v_patterns_p2_last 0 v_patterns_p2_count.toInt) (b5 : rp (fun k v => k < v ∧ v ≤ 256) v_patterns_p2_end 0 v_patterns_p2_count.toInt) (b6 : rp (fun k v => v < k ∧ -1 ≤ v) v_patterns_p2_before 0 v_patterns_p2_count.toInt) (v0 : 0 ≤ p1.toInt → p1.toInt < 6 → v_patterns p1.toNatClampNeg = some h43) (v1 : 0 ≤ p2.toInt → p2.toInt < 6 → v_patterns p2.toNatClampNeg = some h58) (hq : ∀ (r : Int32) (ov_outHasNumbers : Bool) (ov_latestFinding : Int32) (ov_outRow_count : Int32) (ov_outRow_over : Bool) (ov_outRow_items : Nat → Int32) (ov_draft_count : Int32) (ov_draft_over : Bool) (ov_draft_items : Nat → Int32) (ov_sets_onlyInOne : Bool) (ov_sets_onlyInOther : Bool) (ov_sets_stamp : Int32) (ov_sets_pairCount : Int32) (ov_sets_parted : Int32) (ov_sets_alphabet_count : Int32) (ov_sets_alphabet_begins : Nat → Int32) (ov_sets_one_count : Int32) (ov_sets_one_positionCount : Int32) (ov_sets_one_stamp : Int32) (ov_sets_one_stackCount : Int32) (ov_sets_one_width : Int32) (ov_sets_one_program_start : Int32) (ov_sets_one_program_count : Int32) (oh88 : Nat) (ov_sets_one_program_kinds : Nat → Int32) (ov_sets_one_program_subjects : Nat → Int32) (ov_sets_one_program_nexts : Nat → Int32) (ov_sets_one_program_others : Nat → Int32) (ov_sets_one_positionOf : Nat → Int32) (ov_sets_one_pcOf : Nat → Int32) (ov_sets_one_follow : Nat → Int64) (ov_sets_one_takers : Nat → Int64) (ov_sets_one_seen : Nat → Int32) (ov_sets_one_stack : Nat → Int32) (ov_sets_one_states : Nat → Int64) (ov_sets_one_ahead : Nat → Int64) (ov_sets_one_goes : Nat → Int32) (ov_sets_other_count : Int32) (ov_sets_other_positionCount : Int32) (ov_sets_other_stamp : Int32) (ov_sets_other_stackCount : Int32) (ov_sets_other_width : Int32) (ov_sets_other_program_start : Int32) (ov_sets_other_program_count : Int32) (oh92 : Nat) (ov_sets_other_program_kinds : Nat → Int32) (ov_sets_other_program_subjects : Nat → Int32) (ov_sets_other_program_nexts : Nat → Int32) (ov_sets_other_program_others : Nat → Int32) (ov_sets_other_positionOf : Nat → Int32) (ov_sets_other_pcOf : Nat → Int32) (ov_sets_other_follow : Nat → Int64) (ov_sets_other_takers : Nat → Int64) (ov_sets_other_seen : Nat → Int32) (ov_sets_other_stack : Nat → Int32) (ov_sets_other_states : Nat → Int64) (ov_sets_other_ahead : Nat → Int64) (ov_sets_other_goes : Nat → Int32) (ov_sets_met : Nat → Int32) (ov_sets_pairs : Nat → Int32) (ov_sets_cameFrom : Nat → Int32) (ov_sets_cameBy : Nat → Int32), 0 ≤ r.toInt + 9 → r.toInt ≤ 1000 → 0 ≤ ov_outRow_count.toInt → ov_outRow_count.toInt ≤ 1000 → 0 ≤ ov_draft_count.toInt → ov_draft_count.toInt ≤ 1000 → 0 ≤ ov_sets_pairCount.toInt → ov_sets_pairCount.toInt ≤ 3799 → 0 ≤ ov_sets_parted.toInt + 1 → ov_sets_parted.toInt ≤ 3799 → 0 ≤ ov_sets_alphabet_count.toInt → ov_sets_alphabet_count.toInt ≤ 256 → 0 ≤ ov_sets_one_count.toInt → ov_sets_one_count.toInt ≤ 60 → 0 ≤ ov_sets_one_positionCount.toInt → ov_sets_one_positionCount.toInt ≤ 60 → 0 ≤ ov_sets_one_width.toInt → ov_sets_one_width.toInt ≤ 256 → 0 ≤ ov_sets_one_program_count.toInt → ov_sets_one_program_count.toInt ≤ 512 → 0 ≤ ov_sets_other_count.toInt → ov_sets_other_count.toInt ≤ 60 → 0 ≤ ov_sets_other_positionCount.toInt → ov_sets_other_positionCount.toInt ≤ 60 → 0 ≤ ov_sets_other_width.toInt → ov_sets_other_width.toInt ≤ 256 → 0 ≤ ov_sets_other_program_count.toInt → ov_sets_other_program_count.toInt ≤ 512 → ov_outRow_count.toInt ≤ (nv_outRow_items : Int) → ov_draft_count.toInt ≤ (nv_draft_items : Int) → ov_sets_pairCount.toInt ≤ 3600 → ((ov_sets_parted.toInt ≤ 0) ∨ (ov_sets_parted.toInt + 1 ≤ ov_sets_pairCount.toInt)) → rp (fun k v => v < k ∧ -1 ≤ v) ov_sets_cameFrom 0 ov_sets_pairCount.toInt → rp (fun k v => v < k ∧ -1 ≤ v) ov_sets_cameFrom 0 0 → rp (fun k v => v < k ∧ -1 ≤ v) ov_sets_cameFrom (r.toInt + 1) (r.toInt + 1) → rp (fun k v => v < k ∧ -1 ≤ v) ov_sets_cameFrom (ov_sets_parted.toInt + 1) 0 → rp (fun k v => v < k ∧ -1 ≤ v) ov_sets_cameFrom (ov_sets_parted.toInt + 1) (ov_sets_parted.toInt + 1) → rp (fun k v => v < k ∧ -1 ≤ v) ov_sets_cameFrom (ov_sets_parted.toInt + 1) ov_sets_pairCount.toInt → rp (fun k v => v < k ∧ -1 ≤ v) ov_sets_cameFrom (r.toInt + 9) 0 → rp (fun k v => v < k ∧ -1 ≤ v) ov_sets_cameFrom (r.toInt + 9) (r.toInt + 9) → rp (fun k v => v < k ∧ -1 ≤ v) ov_sets_cameFrom (ov_latestFinding.toInt + (-4)) (ov_latestFinding.toInt + (-4)) → rp (fun k v => v < k ∧ -1 ≤ v) ov_sets_cameFrom (r.toInt + 9) ov_sets_pairCount.toInt → Q r ov_outHasNumbers ov_latestFinding ov_outRow_count ov_outRow_over ov_outRow_items ov_draft_count ov_draft_over ov_draft_items ov_sets_onlyInOne ov_sets_onlyInOther ov_sets_stamp ov_sets_pairCount ov_sets_parted ov_sets_alphabet_count ov_sets_alphabet_begins ov_sets_one_count ov_sets_one_positionCount ov_sets_one_stamp ov_sets_one_stackCount ov_sets_one_width ov_sets_one_program_start ov_sets_one_program_count oh88 ov_sets_one_program_kinds ov_sets_one_program_subjects ov_sets_one_program_nexts ov_sets_one_program_others ov_sets_one_positionOf ov_sets_one_pcOf ov_sets_one_follow ov_sets_one_takers ov_sets_one_seen ov_sets_one_stack ov_sets_one_states ov_sets_one_ahead ov_sets_one_goes ov_sets_other_count ov_sets_other_positionCount ov_sets_other_stamp ov_sets_other_stackCount ov_sets_other_width ov_sets_other_program_start ov_sets_other_program_count oh92 ov_sets_other_program_kinds ov_sets_other_program_subjects ov_sets_other_program_nexts ov_sets_other_program_others ov_sets_other_positionOf ov_sets_other_pcOf ov_sets_other_follow ov_sets_other_takers ov_sets_other_seen ov_sets_other_stack ov_sets_other_states ov_sets_other_ahead ov_sets_other_goes ov_sets_met ov_sets_pairs ov_sets_cameFrom ov_sets_cameBy) : w_X11_parting p1 p2 v_outHasNumbers v_latestFinding v_patterns v_outRow_count v_outRow_over v_outRow_items nv_outRow_items v_draft_count v_draft_over v_draft_items nv_draft_items v_sets_onlyInOne v_sets_onlyInOther v_sets_stamp v_sets_pairCount v_sets_parted v_sets_alphabet_count v_sets_alphabet_begins v_sets_one_count v_sets_one_positionCount v_sets_one_stamp v_sets_one_stackCount v_sets_one_width v_sets_one_program_start v_sets_one_program_count v_sets_one_program_kinds v_sets_one_program_subjects v_sets_one_program_nexts v_sets_one_program_others v_sets_one_positionOf v_sets_one_pcOf v_sets_one_follow v_sets_one_takers v_sets_one_seen v_sets_one_stack v_sets_one_states v_sets_one_ahead v_sets_one_goes v_sets_other_count v_sets_other_positionCount v_sets_other_stamp v_sets_other_stackCount v_sets_other_width v_sets_other_program_start v_sets_other_program_count v_sets_other_program_kinds v_sets_other_program_subjects v_sets_other_program_nexts v_sets_other_program_others v_sets_other_positionOf v_sets_other_pcOf v_sets_other_follow v_sets_other_takers v_sets_other_seen v_sets_other_stack v_sets_other_states v_sets_other_ahead v_sets_other_goes v_sets_met v_sets_pairs v_sets_cameFrom v_sets_cameBy v_patterns_p1_there v_patterns_p1_count v_patterns_p1_captures v_patterns_p1_ranges v_patterns_p1_sort v_patterns_p1_end v_patterns_p1_before v_patterns_p1_last v_patterns_p1_parts v_patterns_p1_value v_patterns_p1_low v_patterns_p1_high v_patterns_p1_size v_patterns_p1_positions v_patterns_p1_mayBeEmpty v_patterns_p1_withinCase v_patterns_p1_rangeBegin v_patterns_p1_rangeEnd v_patterns_p2_there v_patterns_p2_count v_patterns_p2_captures v_patterns_p2_ranges v_patterns_p2_sort v_patterns_p2_end v_patterns_p2_before v_patterns_p2_last v_patterns_p2_parts v_patterns_p2_value v_patterns_p2_low v_patterns_p2_high v_patterns_p2_size v_patterns_p2_positions v_patterns_p2_mayBeEmpty v_patterns_p2_withinCase v_patterns_p2_rangeBegin v_patterns_p2_rangeEnd h88 h92 h43 h58 Q := by
  have q_t : (bz true).toInt = 1 := rfl
  have q_f : (bz false).toInt = 0 := rfl
  have q_m9 : ((-9) : Int32).toInt = (-9) := rfl
  have q_m2 : ((-2) : Int32).toInt = (-2) := rfl
  have q_m1 : ((-1) : Int32).toInt = (-1) := rfl
  have q_0 : (0 : Int32).toInt = 0 := rfl
  have q_4 : (4 : Int32).toInt = 4 := rfl
  unfold w_X11_parting
  refine ok_X11_patternIn v0 (fun r2 r2_0 f501 f502 => ?_)
  refine ⟨fun c2 => ?_, fun c2 => ?_⟩
  · have f503 : r2.toInt = 0 := i_eq (a := r2.toInt) (b := 0) rfl rfl c2
    exact hq (-2) v_outHasNumbers r2_0 v_outRow_count v_outRow_over v_outRow_items v_draft_count v_draft_over v_draft_items v_sets_onlyInOne v_sets_onlyInOther v_sets_stamp v_sets_pairCount v_sets_parted v_sets_alphabet_count v_sets_alphabet_begins v_sets_one_count v_sets_one_positionCount v_sets_one_stamp v_sets_one_stackCount v_sets_one_width v_sets_one_program_start v_sets_one_program_count h88 v_sets_one_program_kinds v_sets_one_program_subjects v_sets_one_program_nexts v_sets_one_program_others v_sets_one_positionOf v_sets_one_pcOf v_sets_one_follow v_sets_one_takers v_sets_one_seen v_sets_one_stack v_sets_one_states v_sets_one_ahead v_sets_one_goes v_sets_other_count v_sets_other_positionCount v_sets_other_stamp v_sets_other_stackCount v_sets_other_width v_sets_other_program_start v_sets_other_program_count h92 v_sets_other_program_kinds v_sets_other_program_subjects v_sets_other_program_nexts v_sets_other_program_others v_sets_other_positionOf v_sets_other_pcOf v_sets_other_follow v_sets_other_takers v_sets_other_seen v_sets_other_stack v_sets_other_states v_sets_other_ahead v_sets_other_goes v_sets_met v_sets_pairs v_sets_cameFrom v_sets_cameBy (by omega) (by omega) (by omega) (by omega) (by omega) (by omega) (by omega) (by omega) (by omega) (by omega) (by omega) (by omega) (by omega) (by omega) (by omega) (by omega) (by omega) (by omega) (by omega) (by omega) (by omega) (by omega) (by omega) (by omega) (by omega) (by omega) (by omega) (by omega) (by omega) (by omega) (by omega) (by omega) (rp_mono b0 (by omega) (by omega)) (rp_mono b0 (by omega) (by omega)) (rp_nil (by omega)) (rp_mono b0 (by omega) (by omega)) (rp_nil (by omega)) (rp_mono b0 (by omega) (by omega)) (rp_mono b0 (by omega) (by omega)) (rp_nil (by omega)) (rp_nil (by omega)) (rp_mono b0 (by omega) (by omega))
  · have f504 : r2.toInt ≠ 0 := i_ne (a := r2.toInt) (b := 0) rfl rfl c2
    refine ok_X11_patternIn v1 (fun r200016 r200016_0 f505 f506 => ?_)
    refine ⟨fun c200016 => ?_, fun c200016 => ?_⟩
    · have f507 : r200016.toInt = 0 := i_eq (a := r200016.toInt) (b := 0) rfl rfl c200016
      exact hq (-2) v_outHasNumbers r200016_0 v_outRow_count v_outRow_over v_outRow_items v_draft_count v_draft_over v_draft_items v_sets_onlyInOne v_sets_onlyInOther v_sets_stamp v_sets_pairCount v_sets_parted v_sets_alphabet_count v_sets_alphabet_begins v_sets_one_count v_sets_one_positionCount v_sets_one_stamp v_sets_one_stackCount v_sets_one_width v_sets_one_program_start v_sets_one_program_count h88 v_sets_one_program_kinds v_sets_one_program_subjects v_sets_one_program_nexts v_sets_one_program_others v_sets_one_positionOf v_sets_one_pcOf v_sets_one_follow v_sets_one_takers v_sets_one_seen v_sets_one_stack v_sets_one_states v_sets_one_ahead v_sets_one_goes v_sets_other_count v_sets_other_positionCount v_sets_other_stamp v_sets_other_stackCount v_sets_other_width v_sets_other_program_start v_sets_other_program_count h92 v_sets_other_program_kinds v_sets_other_program_subjects v_sets_other_program_nexts v_sets_other_program_others v_sets_other_positionOf v_sets_other_pcOf v_sets_other_follow v_sets_other_takers v_sets_other_seen v_sets_other_stack v_sets_other_states v_sets_other_ahead v_sets_other_goes v_sets_met v_sets_pairs v_sets_cameFrom v_sets_cameBy (by omega) (by omega) (by omega) (by omega) (by omega) (by omega) (by omega) (by omega) (by omega) (by omega) (by omega) (by omega) (by omega) (by omega) (by omega) (by omega) (by omega) (by omega) (by omega) (by omega) (by omega) (by omega) (by omega) (by omega) (by omega) (by omega) (by omega) (by omega) (by omega) (by omega) (by omega) (by omega) (rp_mono b0 (by omega) (by omega)) (rp_mono b0 (by omega) (by omega)) (rp_nil (by omega)) (rp_mono b0 (by omega) (by omega)) (rp_nil (by omega)) (rp_mono b0 (by omega) (by omega)) (rp_mono b0 (by omega) (by omega)) (rp_nil (by omega)) (rp_nil (by omega)) (rp_mono b0 (by omega) (by omega))
    · have f508 : r200016.toInt ≠ 0 := i_ne (a := r200016.toInt) (b := 0) rfl rfl c200016
      refine ok_X11_makeTables_v2 (by omega) (by omega) (by omega) (by omega) (by omega) (by omega) (by omega) (by omega) (by omega) (by omega) (by omega) (by omega) (by omega) (by omega) (by omega) (by omega) (by omega) (by omega) (by omega) (by omega) (by omega) (by omega) (by omega) (by omega) (by omega) (by omega) (rp_mono b1 (by omega) (by omega)) (rp_mono b2 (by omega) (by omega)) (rp_mono b3 (by omega) (by omega)) (rp_mono b4 (by omega) (by omega)) (rp_mono b5 (by omega) (by omega)) (rp_mono b6 (by omega) (by omega)) (fun r400037 r400037_0 r400037_1 r400037_2 r400037_3 r400037_4 r400037_5 r400037_6 r400037_7 r400037_8 r400037_9 r400037_10 r400037_11 r400037_12 r400037_13 r400037_14 r400037_15 r400037_16 r400037_17 r400037_18 r400037_19 r400037_20 r400037_21 r400037_22 r400037_23 r400037_24 r400037_25 r400037_26 r400037_27 r400037_28 r400037_29 r400037_30 r400037_31 r400037_32 r400037_33 r400037_34 r400037_35 r400037_36 r400037_37 r400037_38 r400037_39 r400037_40 r400037_41 r400037_42 r400037_43 f509 f510 f511 f512 f513 f514 f515 f516 f517 f518 f519 f520 f521 f522 f523 f524 f525 f526 f527 f528 => ?_)
      refine ⟨fun c400044 => ?_, fun c400044 => ?_⟩
      · have f529 : r400037.toInt = 0 := i_eq (a := r400037.toInt) (b := 0) rfl rfl c400044
        refine ok_X8_walkBoth (by omega) (by omega) (by omega) (by omega) (by omega) (by omega) (by omega) (by omega) (by omega) (by omega) (fun r400054_0 r400054_1 r400054_2 r400054_3 r400054_4 r400054_5 r400054_6 r400054_7 r400054_8 f530 f531 f532 f533 f534 f535 f536 f537 f538 f539 h540 h541 h542 h543 h544 h545 => ?_)
        have f546 : (0 ≤ (bz r400054_0).toInt ∧ (bz r400054_0).toInt ≤ 1) := i_bzr r400054_0
        have j_400079 : w_X11_parting_400079 nv_outRow_items nv_draft_items Q v_outHasNumbers r200016_0 v_outRow_count v_outRow_over v_outRow_items v_draft_count v_draft_over v_draft_items r400054_0 r400054_1 r400054_2 r400054_3 r400054_4 r400037_0 r400037_1 r400037_2 r400037_3 r400037_4 r400037_5 r400037_6 r400037_7 r400037_8 r400037_9 r400037_10 r400037_11 r400037_12 r400037_13 r400037_14 r400037_15 r400037_16 r400037_17 r400037_18 r400037_19 r400037_20 r400037_21 r400037_22 r400037_23 r400037_24 r400037_25 r400037_26 r400037_27 r400037_28 r400037_29 r400037_30 r400037_31 r400037_32 r400037_33 r400037_34 r400037_35 r400037_36 r400037_37 r400037_38 r400037_39 r400037_40 r400037_41 r400037_42 r400037_43 r400054_5 r400054_6 r400054_7 r400054_8 := by
          unfold w_X11_parting_400079
          refine ok_X8_writeParting (v_pairCount := r400054_3) (by omega) (by omega) (by omega) (by omega) (by omega) (rp_mono h544 (by omega) (by omega)) (fun r400087_0 r400087_1 r400087_2 f547 f548 f549 f550 f551 f552 => ?_)
          have f553 : (0 ≤ (bz r400087_1).toInt ∧ (bz r400087_1).toInt ≤ 1) := i_bzr r400087_1
          refine ⟨fun c400097 => ?_, fun c400097 => ?_⟩
          · have f554 : (bz r400087_1).toInt = 0 := i_eq (a := (bz r400087_1).toInt) (b := 0) rfl rfl c400097
            refine ok_X11_tellRow (by omega) (by omega) (by omega) (by omega) (by omega) (by omega) (fun r400110_0 r400110_1 r400110_2 r400110_3 f555 f556 f557 f558 f559 => ?_)
            exact hq r400110_1 r400110_0 r200016_0 r400110_1 r400110_2 r400110_3 r400087_0 r400087_1 r400087_2 r400054_0 r400054_1 r400054_2 r400054_3 r400054_4 r400037_0 r400037_1 r400037_2 r400037_3 r400037_4 r400037_5 r400037_6 r400037_7 r400037_8 r400037_9 r400037_10 r400037_11 r400037_12 r400037_13 r400037_14 r400037_15 r400037_16 r400037_17 r400037_18 r400037_19 r400037_20 r400037_21 r400037_22 r400037_23 r400037_24 r400037_25 r400037_26 r400037_27 r400037_28 r400037_29 r400037_30 r400037_31 r400037_32 r400037_33 r400037_34 r400037_35 r400037_36 r400037_37 r400037_38 r400037_39 r400037_40 r400037_41 r400037_42 r400037_43 r400054_5 r400054_6 r400054_7 r400054_8 (by omega) (by omega) (by omega) (by omega) (by omega) (by omega) (by omega) (by omega) (by omega) (by omega) (by omega) (by omega) (by omega) (by omega) (by omega) (by omega) (by omega) (by omega) (by omega) (by omega) (by omega) (by omega) (by omega) (by omega) (by omega) (by omega) (by omega) (by omega) (by omega) (by omega) (by omega) (by omega) (rp_mono h544 (by omega) (by omega)) (rp_mono h544 (by omega) (by omega)) (rp_nil (by omega)) (rp_mono h545 (by omega) (by omega)) (rp_mono h543 (by omega) (by omega)) (rp_mono h545 (by omega) (by omega)) (rp_mono h544 (by omega) (by omega)) (rp_nil (by omega)) (rp_nil (by omega)) (rp_mono h544 (by omega) (by omega))
          · have f560 : (bz r400087_1).toInt ≠ 0 := i_ne (a := (bz r400087_1).toInt) (b := 0) rfl rfl c400097
            exact hq (-9) v_outHasNumbers 4 v_outRow_count v_outRow_over v_outRow_items r400087_0 r400087_1 r400087_2 r400054_0 r400054_1 r400054_2 r400054_3 r400054_4 r400037_0 r400037_1 r400037_2 r400037_3 r400037_4 r400037_5 r400037_6 r400037_7 r400037_8 r400037_9 r400037_10 r400037_11 r400037_12 r400037_13 r400037_14 r400037_15 r400037_16 r400037_17 r400037_18 r400037_19 r400037_20 r400037_21 r400037_22 r400037_23 r400037_24 r400037_25 r400037_26 r400037_27 r400037_28 r400037_29 r400037_30 r400037_31 r400037_32 r400037_33 r400037_34 r400037_35 r400037_36 r400037_37 r400037_38 r400037_39 r400037_40 r400037_41 r400037_42 r400037_43 r400054_5 r400054_6 r400054_7 r400054_8 (by omega) (by omega) (by omega) (by omega) (by omega) (by omega) (by omega) (by omega) (by omega) (by omega) (by omega) (by omega) (by omega) (by omega) (by omega) (by omega) (by omega) (by omega) (by omega) (by omega) (by omega) (by omega) (by omega) (by omega) (by omega) (by omega) (by omega) (by omega) (by omega) (by omega) (by omega) (by omega) (rp_mono h544 (by omega) (by omega)) (rp_mono h544 (by omega) (by omega)) (rp_nil (by omega)) (rp_mono h545 (by omega) (by omega)) (rp_mono h543 (by omega) (by omega)) (rp_mono h545 (by omega) (by omega)) (rp_mono h544 (by omega) (by omega)) (rp_mono h544 (by omega) (by omega)) (rp_mono h544 (by omega) (by omega)) (rp_mono h544 (by omega) (by omega))
        refine ⟨fun c400064 => ?_, fun c400064 => ?_⟩
        · have f561 : (bz r400054_0).toInt ≠ 0 := i_ne (a := (bz r400054_0).toInt) (b := 0) rfl rfl c400064
          exact j_400079  
        · have f562 : (bz r400054_0).toInt = 0 := i_eq (a := (bz r400054_0).toInt) (b := 0) rfl rfl c400064
          have f563 : (0 ≤ (bz r400054_1).toInt ∧ (bz r400054_1).toInt ≤ 1) := i_bzr r400054_1
          refine ⟨fun c400074 => ?_, fun c400074 => ?_⟩
          · have f564 : (bz r400054_1).toInt ≠ 0 := i_ne (a := (bz r400054_1).toInt) (b := 0) rfl rfl c400074
            exact j_400079  
          · have f565 : (bz r400054_1).toInt = 0 := i_eq (a := (bz r400054_1).toInt) (b := 0) rfl rfl c400074
            exact hq (-1) v_outHasNumbers r200016_0 v_outRow_count v_outRow_over v_outRow_items v_draft_count v_draft_over v_draft_items r400054_0 r400054_1 r400054_2 r400054_3 r400054_4 r400037_0 r400037_1 r400037_2 r400037_3 r400037_4 r400037_5 r400037_6 r400037_7 r400037_8 r400037_9 r400037_10 r400037_11 r400037_12 r400037_13 r400037_14 r400037_15 r400037_16 r400037_17 r400037_18 r400037_19 r400037_20 r400037_21 r400037_22 r400037_23 r400037_24 r400037_25 r400037_26 r400037_27 r400037_28 r400037_29 r400037_30 r400037_31 r400037_32 r400037_33 r400037_34 r400037_35 r400037_36 r400037_37 r400037_38 r400037_39 r400037_40 r400037_41 r400037_42 r400037_43 r400054_5 r400054_6 r400054_7 r400054_8 (by omega) (by omega) (by omega) (by omega) (by omega) (by omega) (by omega) (by omega) (by omega) (by omega) (by omega) (by omega) (by omega) (by omega) (by omega) (by omega) (by omega) (by omega) (by omega) (by omega) (by omega) (by omega) (by omega) (by omega) (by omega) (by omega) (by omega) (by omega) (by omega) (by omega) (by omega) (by omega) (rp_mono h544 (by omega) (by omega)) (rp_mono h544 (by omega) (by omega)) (rp_mono h544 (by omega) (by omega)) (rp_mono h545 (by omega) (by omega)) (rp_mono h543 (by omega) (by omega)) (rp_mono h545 (by omega) (by omega)) (rp_mono h544 (by omega) (by omega)) (rp_nil (by omega)) (rp_nil (by omega)) (rp_mono h544 (by omega) (by omega))
      · have f566 : r400037.toInt ≠ 0 := i_ne (a := r400037.toInt) (b := 0) rfl rfl c400044
        exact hq r400037 v_outHasNumbers r200016_0 v_outRow_count v_outRow_over v_outRow_items v_draft_count v_draft_over v_draft_items v_sets_onlyInOne v_sets_onlyInOther v_sets_stamp v_sets_pairCount v_sets_parted r400037_0 r400037_1 r400037_2 r400037_3 r400037_4 r400037_5 r400037_6 r400037_7 r400037_8 r400037_9 r400037_10 r400037_11 r400037_12 r400037_13 r400037_14 r400037_15 r400037_16 r400037_17 r400037_18 r400037_19 r400037_20 r400037_21 r400037_22 r400037_23 r400037_24 r400037_25 r400037_26 r400037_27 r400037_28 r400037_29 r400037_30 r400037_31 r400037_32 r400037_33 r400037_34 r400037_35 r400037_36 r400037_37 r400037_38 r400037_39 r400037_40 r400037_41 r400037_42 r400037_43 v_sets_met v_sets_pairs v_sets_cameFrom v_sets_cameBy (by omega) (by omega) (by omega) (by omega) (by omega) (by omega) (by omega) (by omega) (by omega) (by omega) (by omega) (by omega) (by omega) (by omega) (by omega) (by omega) (by omega) (by omega) (by omega) (by omega) (by omega) (by omega) (by omega) (by omega) (by omega) (by omega) (by omega) (by omega) (by omega) (by omega) (by omega) (by omega) (rp_mono b0 (by omega) (by omega)) (rp_mono b0 (by omega) (by omega)) (rp_nil (by omega)) (rp_mono b0 (by omega) (by omega)) (rp_nil (by omega)) (rp_mono b0 (by omega) (by omega)) (rp_mono b0 (by omega) (by omega)) (rp_nil (by omega)) (rp_nil (by omega)) (rp_mono b0 (by omega) (by omega))
set_option maxHeartbeats 4000000 in
theorem ok_X11_clear {v_patterns : Nat → Option Nat} {v_subjects : Nat → Option Nat} {v_patterns_0_there : Bool} {v_patterns_1_there : Bool} {v_patterns_2_there : Bool} {v_patterns_3_there : Bool} {v_patterns_4_there : Bool} {v_patterns_5_there : Bool} {h6 : Nat} {h7 : Nat} {h8 : Nat} {h9 : Nat} {h10 : Nat} {h11 : Nat} {h12 : Nat} {h13 : Nat} {h14 : Nat} {h15 : Nat} {Q : Int32 → Bool → Int32 → Int32 → Int32 → Int32 → Int32 → Int32 → Bool → Int32 → Bool → Int32 → Bool → Bool → Bool → Bool → Bool → Bool → Bool → Int32 → Bool → Bool → Int32 → Bool → Bool → Int32 → Bool → Bool → Int32 → Bool → Bool → Prop} (v0 : v_patterns (0 : Int32).toNatClampNeg = some h6) (v1 : v_patterns (1 : Int32).toNatClampNeg = some h7) (v2 : v_patterns (2 : Int32).toNatClampNeg = some h8) (v3 : v_patterns (3 : Int32).toNatClampNeg = some h9) (v4 : v_patterns (4 : Int32).toNatClampNeg = some h10) (v5 : v_patterns (5 : Int32).toNatClampNeg = some h11) (v6 : v_subjects (0 : Int32).toNatClampNeg = some h12) (v7 : v_subjects (1 : Int32).toNatClampNeg = some h13) (v8 : v_subjects (2 : Int32).toNatClampNeg = some h14) (v9 : v_subjects (3 : Int32).toNatClampNeg = some h15) (hq : ∀ (r : Int32) (ov_outHasNumbers : Bool) (ov_faultPlace : Int32) (ov_latestFinding : Int32) (ov_latestSteps : Int32) (ov_openSlot : Int32) (ov_openSubject : Int32) (ov_tape_count : Int32) (ov_tape_over : Bool) (ov_outRow_count : Int32) (ov_outRow_over : Bool) (ov_found_count : Int32) (ov_found_over : Bool) (ov_patterns_0_there : Bool) (ov_patterns_1_there : Bool) (ov_patterns_2_there : Bool) (ov_patterns_3_there : Bool) (ov_patterns_4_there : Bool) (ov_patterns_5_there : Bool) (ov_subjects_0_count : Int32) (ov_subjects_0_over : Bool) (ov_subjects_0_there : Bool) (ov_subjects_1_count : Int32) (ov_subjects_1_over : Bool) (ov_subjects_1_there : Bool) (ov_subjects_2_count : Int32) (ov_subjects_2_over : Bool) (ov_subjects_2_there : Bool) (ov_subjects_3_count : Int32) (ov_subjects_3_over : Bool) (ov_subjects_3_there : Bool), (bz ov_outHasNumbers).toInt = 0 → ov_faultPlace.toInt + 1 = 0 → ov_latestFinding.toInt = 0 → ov_latestSteps.toInt = 0 → (bz ov_patterns_0_there).toInt = 0 → (bz ov_patterns_1_there).toInt = 0 → (bz ov_patterns_2_there).toInt = 0 → (bz ov_patterns_3_there).toInt = 0 → (bz ov_patterns_4_there).toInt = 0 → (bz ov_patterns_5_there).toInt = 0 → (bz ov_subjects_0_there).toInt = 0 → (bz ov_subjects_1_there).toInt = 0 → (bz ov_subjects_2_there).toInt = 0 → (bz ov_subjects_3_there).toInt = 0 → 0 ≤ r.toInt → r.toInt ≤ 6 → ov_subjects_0_count.toInt = 0 → (bz ov_subjects_0_over).toInt = 0 → ov_subjects_1_count.toInt = 0 → (bz ov_subjects_1_over).toInt = 0 → ov_subjects_2_count.toInt = 0 → (bz ov_subjects_2_over).toInt = 0 → ov_subjects_3_count.toInt = 0 → (bz ov_subjects_3_over).toInt = 0 → ov_tape_count.toInt = 0 → (bz ov_tape_over).toInt = 0 → ov_outRow_count.toInt = 0 → (bz ov_outRow_over).toInt = 0 → ov_found_count.toInt = 0 → (bz ov_found_over).toInt = 0 → ov_openSlot.toInt + 1 = 0 → ov_openSubject.toInt + 1 = 0 → Q r ov_outHasNumbers ov_faultPlace ov_latestFinding ov_latestSteps ov_openSlot ov_openSubject ov_tape_count ov_tape_over ov_outRow_count ov_outRow_over ov_found_count ov_found_over ov_patterns_0_there ov_patterns_1_there ov_patterns_2_there ov_patterns_3_there ov_patterns_4_there ov_patterns_5_there ov_subjects_0_count ov_subjects_0_over ov_subjects_0_there ov_subjects_1_count ov_subjects_1_over ov_subjects_1_there ov_subjects_2_count ov_subjects_2_over ov_subjects_2_there ov_subjects_3_count ov_subjects_3_over ov_subjects_3_there) : w_X11_clear v_patterns v_subjects v_patterns_0_there v_patterns_1_there v_patterns_2_there v_patterns_3_there v_patterns_4_there v_patterns_5_there h6 h7 h8 h9 h10 h11 h12 h13 h14 h15 Q := by
  have q_t : (bz true).toInt = 1 := rfl
  have q_f : (bz false).toInt = 0 := rfl
  have q_m1 : ((-1) : Int32).toInt = (-1) := rfl
  have q_0 : (0 : Int32).toInt = 0 := rfl
  have q_1 : (1 : Int32).toInt = 1 := rfl
  have q_2 : (2 : Int32).toInt = 2 := rfl
  have q_3 : (3 : Int32).toInt = 3 := rfl
  have q_4 : (4 : Int32).toInt = 4 := rfl
  unfold w_X11_clear
  refine ok_X11_patternsThere v0 v1 v2 v3 v4 v5 (fun r1 f1 f2 => ?_)
  refine ⟨v0, ?_⟩
  refine ⟨v1, ?_⟩
  refine ⟨v2, ?_⟩
  refine ⟨v3, ?_⟩
  refine ⟨v4, ?_⟩
  refine ⟨v5, ?_⟩
  refine ⟨v6, ?_⟩
  refine ok_X7_empty  (fun r100049_0 r100049_1 f3 f4 => ?_)
  refine ⟨v6, ?_⟩
  refine ⟨v7, ?_⟩
  refine ok_X7_empty  (fun r200049_0 r200049_1 f5 f6 => ?_)
  refine ⟨v7, ?_⟩
  refine ⟨v8, ?_⟩
  refine ok_X7_empty  (fun r300049_0 r300049_1 f7 f8 => ?_)
  refine ⟨v8, ?_⟩
  refine ⟨v9, ?_⟩
  refine ok_X7_empty  (fun r400049_0 r400049_1 f9 f10 => ?_)
  refine ⟨v9, ?_⟩
  refine ok_X7_empty  (fun r500072_0 r500072_1 f11 f12 => ?_)
  refine ok_X7_empty  (fun r500079_0 r500079_1 f13 f14 => ?_)
  refine ok_X7_empty  (fun r500091_0 r500091_1 f15 f16 => ?_)
  refine ok_X11_endSearch  (fun r500110_0 r500110_1 f17 f18 => ?_)
  exact hq r1 false (-1) 0 0 r500110_0 r500110_1 r500072_0 r500072_1 r500079_0 r500079_1 r500091_0 r500091_1 false false false false false false r100049_0 r100049_1 false r200049_0 r200049_1 false r300049_0 r300049_1 false r400049_0 r400049_1 false (by omega) (by omega) (by omega) (by omega) (by omega) (by omega) (by omega) (by omega) (by omega) (by omega) (by omega) (by omega) (by omega) (by omega) (by omega) (by omega) (by omega) (by omega) (by omega) (by omega) (by omega) (by omega) (by omega) (by omega) (by omega) (by omega) (by omega) (by omega) (by omega) (by omega) (by omega) (by omega)
set_option maxHeartbeats 4000000 in
theorem ok_X11_node {p1 : Int32} {p2 : Int32} {p3 : Int32} {v_latestFinding : Int32} {v_patterns : Nat → Option Nat} {v_patterns_p1_there : Bool} {v_patterns_p1_count : Int32} {v_patterns_p1_sort : Nat → Int32} {v_patterns_p1_holder : Nat → Int32} {v_patterns_p1_parts : Nat → Int32} {v_patterns_p1_value : Nat → Int32} {v_patterns_p1_low : Nat → Int32} {v_patterns_p1_high : Nat → Int32} {v_patterns_p1_size : Nat → Int32} {v_patterns_p1_positions : Nat → Int32} {v_patterns_p1_mayBeEmpty : Nat → Bool} {v_patterns_p1_withinCase : Nat → Bool} {h2 : Nat} {Q : Int32 → Int32 → Prop} (a0 : 0 ≤ v_patterns_p1_count.toInt) (a1 : v_patterns_p1_count.toInt ≤ 256) (b0 : rp (fun k v => v < k ∧ -1 ≤ v) v_patterns_p1_holder 0 v_patterns_p1_count.toInt) (v0 : 0 ≤ p1.toInt → p1.toInt < 6 → v_patterns p1.toNatClampNeg = some h2) (hq : ∀ (r : Int32) (ov_latestFinding : Int32), Q r ov_latestFinding) : w_X11_node p1 p2 p3 v_latestFinding v_patterns v_patterns_p1_there v_patterns_p1_count v_patterns_p1_sort v_patterns_p1_holder v_patterns_p1_parts v_patterns_p1_value v_patterns_p1_low v_patterns_p1_high v_patterns_p1_size v_patterns_p1_positions v_patterns_p1_mayBeEmpty v_patterns_p1_withinCase h2 Q := by
  have q_t : (bz true).toInt = 1 := rfl
  have q_f : (bz false).toInt = 0 := rfl
  have q_m6 : ((-6) : Int32).toInt = (-6) := rfl
  have q_m4 : ((-4) : Int32).toInt = (-4) := rfl
  have q_m2 : ((-2) : Int32).toInt = (-2) := rfl
  have q_0 : (0 : Int32).toInt = 0 := rfl
  have q_1 : (1 : Int32).toInt = 1 := rfl
  have q_3 : (3 : Int32).toInt = 3 := rfl
  unfold w_X11_node
  refine ok_X11_patternIn v0 (fun r2 r2_0 f1 f2 => ?_)
  refine ⟨fun c2 => ?_, fun c2 => ?_⟩
  · have f3 : r2.toInt = 0 := i_eq (a := r2.toInt) (b := 0) rfl rfl c2
    exact hq (-2) r2_0 
  · have f4 : r2.toInt ≠ 0 := i_ne (a := r2.toInt) (b := 0) rfl rfl c2
    have j_200030 : ∀ (s0_200030 : Int32), ((s0_200030.toInt = 1 ∧ 0 ≤ p3.toInt ∧ p3.toInt ≤ 6) ∨ (s0_200030.toInt = 0)) → w_X11_node_200030 p2 p3 v_patterns_p1_count v_patterns_p1_sort v_patterns_p1_holder v_patterns_p1_parts v_patterns_p1_value v_patterns_p1_low v_patterns_p1_high v_patterns_p1_size v_patterns_p1_positions v_patterns_p1_mayBeEmpty v_patterns_p1_withinCase Q s0_200030 r2_0 := by
      intro s0_200030 f5
      unfold w_X11_node_200030
      refine ok_X10_has (by omega) (by omega) (fun r200035 f6 => ?_)
      have j_200058 : ((r200035.toInt = 0) ∨ (s0_200030.toInt = 0 ∧ p3.toInt ≤ 9) ∨ (s0_200030.toInt = 0 ∧ 10 ≤ p3.toInt ∧ 19 ≤ p3.toInt)) → w_X11_node_200058 Q r2_0 := by
        intro f7
        unfold w_X11_node_200058
        exact hq (-4) r2_0 
      refine ⟨fun c200038 => ?_, fun c200038 => ?_⟩
      · have f8 : r200035.toInt = 0 := i_eq (a := r200035.toInt) (b := 0) rfl rfl c200038
        exact j_200058  (by omega)
      · have f9 : r200035.toInt ≠ 0 := i_ne (a := r200035.toInt) (b := 0) rfl rfl c200038
        have j_200061 : w_X11_node_200061 p2 p3 v_patterns_p1_count v_patterns_p1_sort v_patterns_p1_holder v_patterns_p1_parts v_patterns_p1_value v_patterns_p1_low v_patterns_p1_high v_patterns_p1_size v_patterns_p1_positions v_patterns_p1_mayBeEmpty v_patterns_p1_withinCase Q s0_200030 r2_0 := by
          unfold w_X11_node_200061
          refine ⟨fun c200063 => ?_, fun c200063 => ?_⟩
          · have f10 : s0_200030.toInt = 0 := i_eq (a := s0_200030.toInt) (b := 0) rfl rfl c200063
            refine ok_X10_sortOf (by omega) (by omega) (fun r200077 f11 => ?_)
            refine ok_X11_sortThatTells  (fun r200081 f12 f13 => ?_)
            refine ⟨fun c200084 => ?_, fun c200084 => ?_⟩
            · have f14 : r200077.toInt = r200081.toInt := i_eq (a := r200077.toInt) (b := r200081.toInt) rfl rfl c200084
              have j_200131 : ∀ (s0_200131 : Int32), ((0 ≤ p2.toInt ∧ p2.toInt + 1 ≤ v_patterns_p1_count.toInt) ∨ (s0_200131.toInt = 0)) → w_X11_node_200131 Q s0_200131 r2_0 := by
                intro s0_200131 f15
                unfold w_X11_node_200131
                exact hq s0_200131 r2_0 
              refine ⟨fun c200098 => ?_, fun c200098 => ?_⟩
              · have f16 : p3.toInt ≠ 16 := i_ne (a := p3.toInt) (b := 16) rfl rfl c200098
                refine ⟨fun c200113 => ?_, fun c200113 => ?_⟩
                · have f17 : p3.toInt ≠ 17 := i_ne (a := p3.toInt) (b := 17) rfl rfl c200113
                  refine ok_X10_valueOf (by omega) (by omega) (fun r200128 f18 => ?_)
                  exact j_200131 r200128 (by omega)
                · have f19 : p3.toInt = 17 := i_eq (a := p3.toInt) (b := 17) rfl rfl c200113
                  refine ok_X10_highOf (by omega) (by omega) (fun r200119 f20 => ?_)
                  exact j_200131 r200119 (by omega)
              · have f21 : p3.toInt = 16 := i_eq (a := p3.toInt) (b := 16) rfl rfl c200098
                refine ok_X10_lowOf (by omega) (by omega) (fun r200104 f22 => ?_)
                exact j_200131 r200104 (by omega)
            · have f23 : r200077.toInt ≠ r200081.toInt := i_ne (a := r200077.toInt) (b := r200081.toInt) rfl rfl c200084
              exact hq (-6) 3 
          · have f24 : s0_200030.toInt ≠ 0 := i_ne (a := s0_200030.toInt) (b := 0) rfl rfl c200063
            refine ok_X10_tellOfAll (by omega) (by omega) (rp_mono b0 (by omega) (by omega)) (fun r200070 => ?_)
            exact hq r200070 r2_0 
        refine ⟨fun c200043 => ?_, fun c200043 => ?_⟩
        · have f25 : s0_200030.toInt ≠ 0 := i_ne (a := s0_200030.toInt) (b := 0) rfl rfl c200043
          exact j_200061  
        · have f26 : s0_200030.toInt = 0 := i_eq (a := s0_200030.toInt) (b := 0) rfl rfl c200043
          refine ⟨fun c200049 => ?_, fun c200049 => ?_⟩
          · have f27 : p3.toInt < 10 := i_lt (a := p3.toInt) (b := 10) rfl rfl c200049
            exact j_200058  (by omega)
          · have f28 : 10 ≤ p3.toInt := i_nlt (a := p3.toInt) (b := 10) rfl rfl c200049
            refine ⟨fun c200055 => ?_, fun c200055 => ?_⟩
            · have f29 : p3.toInt ≤ 18 := i_le (a := p3.toInt) (b := 18) rfl rfl c200055
              exact j_200061  
            · have f30 : 18 < p3.toInt := i_nle (a := p3.toInt) (b := 18) rfl rfl c200055
              exact j_200058  (by omega)
    have j_200029 : ((p3.toInt + 1 ≤ 0) ∨ (0 ≤ p3.toInt ∧ 7 ≤ p3.toInt)) → w_X11_node_200029 p2 p3 v_patterns_p1_count v_patterns_p1_sort v_patterns_p1_holder v_patterns_p1_parts v_patterns_p1_value v_patterns_p1_low v_patterns_p1_high v_patterns_p1_size v_patterns_p1_positions v_patterns_p1_mayBeEmpty v_patterns_p1_withinCase Q r2_0 := by
      intro f31
      unfold w_X11_node_200029
      exact j_200030 0 (by omega)
    refine ⟨fun c200016 => ?_, fun c200016 => ?_⟩
    · have f32 : p3.toInt < 0 := i_lt (a := p3.toInt) (b := 0) rfl rfl c200016
      exact j_200029  (by omega)
    · have f33 : 0 ≤ p3.toInt := i_nlt (a := p3.toInt) (b := 0) rfl rfl c200016
      refine ⟨fun c200022 => ?_, fun c200022 => ?_⟩
      · have f34 : 6 < p3.toInt := i_lt (a := 6) (b := p3.toInt) rfl rfl c200022
        exact j_200029  (by omega)
      · have f35 : p3.toInt ≤ 6 := i_nlt (a := 6) (b := p3.toInt) rfl rfl c200022
        exact j_200030 1 (by omega)
set_option maxHeartbeats 4000000 in
theorem ok_X11_compare_v1 {p1 : Int32} {p2 : Int32} {v_latestFinding : Int32} {v_patterns : Nat → Option Nat} {v_sets_onlyInOne : Bool} {v_sets_onlyInOther : Bool} {v_sets_stamp : Int32} {v_sets_pairCount : Int32} {v_sets_parted : Int32} {v_sets_alphabet_count : Int32} {v_sets_alphabet_begins : Nat → Int32} {v_sets_one_count : Int32} {v_sets_one_positionCount : Int32} {v_sets_one_stamp : Int32} {v_sets_one_stackCount : Int32} {v_sets_one_width : Int32} {v_sets_one_program_start : Int32} {v_sets_one_program_count : Int32} {v_sets_one_program_kinds : Nat → Int32} {v_sets_one_program_subjects : Nat → Int32} {v_sets_one_program_nexts : Nat → Int32} {v_sets_one_program_others : Nat → Int32} {v_sets_one_positionOf : Nat → Int32} {v_sets_one_pcOf : Nat → Int32} {v_sets_one_follow : Nat → Int64} {v_sets_one_takers : Nat → Int64} {v_sets_one_seen : Nat → Int32} {v_sets_one_stack : Nat → Int32} {v_sets_one_states : Nat → Int64} {v_sets_one_ahead : Nat → Int64} {v_sets_one_goes : Nat → Int32} {v_sets_other_count : Int32} {v_sets_other_positionCount : Int32} {v_sets_other_stamp : Int32} {v_sets_other_stackCount : Int32} {v_sets_other_width : Int32} {v_sets_other_program_start : Int32} {v_sets_other_program_count : Int32} {v_sets_other_program_kinds : Nat → Int32} {v_sets_other_program_subjects : Nat → Int32} {v_sets_other_program_nexts : Nat → Int32} {v_sets_other_program_others : Nat → Int32} {v_sets_other_positionOf : Nat → Int32} {v_sets_other_pcOf : Nat → Int32} {v_sets_other_follow : Nat → Int64} {v_sets_other_takers : Nat → Int64} {v_sets_other_seen : Nat → Int32} {v_sets_other_stack : Nat → Int32} {v_sets_other_states : Nat → Int64} {v_sets_other_ahead : Nat → Int64} {v_sets_other_goes : Nat → Int32} {v_sets_met : Nat → Int32} {v_sets_pairs : Nat → Int32} {v_sets_cameFrom : Nat → Int32} {v_sets_cameBy : Nat → Int32} {v_patterns_p1_there : Bool} {v_patterns_p1_count : Int32} {v_patterns_p1_captures : Int32} {v_patterns_p1_ranges : Int32} {v_patterns_p1_sort : Nat → Int32} {v_patterns_p1_end : Nat → Int32} {v_patterns_p1_before : Nat → Int32} {v_patterns_p1_last : Nat → Int32} {v_patterns_p1_parts : Nat → Int32} {v_patterns_p1_value : Nat → Int32} {v_patterns_p1_low : Nat → Int32} {v_patterns_p1_high : Nat → Int32} {v_patterns_p1_size : Nat → Int32} {v_patterns_p1_positions : Nat → Int32} {v_patterns_p1_mayBeEmpty : Nat → Bool} {v_patterns_p1_withinCase : Nat → Bool} {v_patterns_p1_rangeBegin : Nat → Int32} {v_patterns_p1_rangeEnd : Nat → Int32} {h72 : Nat} {h76 : Nat} {h39 : Nat} {Q : Int32 → Int32 → Bool → Bool → Int32 → Int32 → Int32 → Int32 → (Nat → Int32) → Int32 → Int32 → Int32 → Int32 → Int32 → Int32 → Int32 → Nat → (Nat → Int32) → (Nat → Int32) → (Nat → Int32) → (Nat → Int32) → (Nat → Int32) → (Nat → Int32) → (Nat → Int64) → (Nat → Int64) → (Nat → Int32) → (Nat → Int32) → (Nat → Int64) → (Nat → Int64) → (Nat → Int32) → Int32 → Int32 → Int32 → Int32 → Int32 → Int32 → Int32 → Nat → (Nat → Int32) → (Nat → Int32) → (Nat → Int32) → (Nat → Int32) → (Nat → Int32) → (Nat → Int32) → (Nat → Int64) → (Nat → Int64) → (Nat → Int32) → (Nat → Int32) → (Nat → Int64) → (Nat → Int64) → (Nat → Int32) → (Nat → Int32) → (Nat → Int32) → (Nat → Int32) → (Nat → Int32) → Prop} (a0 : 0 ≤ v_sets_pairCount.toInt) (a1 : v_sets_pairCount.toInt ≤ 3600) (a2 : 0 ≤ v_sets_parted.toInt + 1) (a3 : ((v_sets_parted.toInt ≤ 0) ∨ (v_sets_parted.toInt + 1 ≤ v_sets_pairCount.toInt))) (a4 : 0 ≤ v_sets_alphabet_count.toInt) (a5 : v_sets_alphabet_count.toInt ≤ 256) (a6 : 0 ≤ v_sets_one_count.toInt) (a7 : v_sets_one_count.toInt ≤ 60) (a8 : 0 ≤ v_sets_one_positionCount.toInt) (a9 : v_sets_one_positionCount.toInt ≤ 60) (a10 : 0 ≤ v_sets_one_width.toInt) (a11 : v_sets_one_width.toInt ≤ 256) (a12 : 0 ≤ v_sets_one_program_count.toInt) (a13 : v_sets_one_program_count.toInt ≤ 512) (a14 : 0 ≤ v_sets_other_count.toInt) (a15 : v_sets_other_count.toInt ≤ 60) (a16 : 0 ≤ v_sets_other_positionCount.toInt) (a17 : v_sets_other_positionCount.toInt ≤ 60) (a18 : 0 ≤ v_sets_other_width.toInt) (a19 : v_sets_other_width.toInt ≤ 256) (a20 : 0 ≤ v_sets_other_program_count.toInt) (a21 : v_sets_other_program_count.toInt ≤ 512) (a22 : 0 ≤ v_patterns_p1_count.toInt) (a23 : v_patterns_p1_count.toInt ≤ 256) (a24 : 0 ≤ v_patterns_p1_ranges.toInt) (a25 : v_patterns_p1_ranges.toInt ≤ 512) (b0 : rp (fun k v => v < k ∧ -1 ≤ v) v_sets_cameFrom 0 v_sets_pairCount.toInt) (b1 : rp (fun k v => -1 ≤ v ∧ v ≤ 255) v_patterns_p1_last 0 v_patterns_p1_count.toInt) (b2 : rp (fun k v => k < v ∧ v ≤ 256) v_patterns_p1_end 0 v_patterns_p1_count.toInt) (b3 : rp (fun k v => v < k ∧ -1 ≤ v) v_patterns_p1_before 0 v_patterns_p1_count.toInt) (v0 : 0 ≤ p1.toInt → p1.toInt < 6 → v_patterns p1.toNatClampNeg = some h39) (v1 : 0 ≤ p2.toInt → p2.toInt < 6 → v_patterns p2.toNatClampNeg = some h39) (hq : ∀ (r : Int32) (ov_latestFinding : Int32) (ov_sets_onlyInOne : Bool) (ov_sets_onlyInOther : Bool) (ov_sets_stamp : Int32) (ov_sets_pairCount : Int32) (ov_sets_parted : Int32) (ov_sets_alphabet_count : Int32) (ov_sets_alphabet_begins : Nat → Int32) (ov_sets_one_count : Int32) (ov_sets_one_positionCount : Int32) (ov_sets_one_stamp : Int32) (ov_sets_one_stackCount : Int32) (ov_sets_one_width : Int32) (ov_sets_one_program_start : Int32) (ov_sets_one_program_count : Int32) (oh72 : Nat) (ov_sets_one_program_kinds : Nat → Int32) (ov_sets_one_program_subjects : Nat → Int32) (ov_sets_one_program_nexts : Nat → Int32) (ov_sets_one_program_others : Nat → Int32) (ov_sets_one_positionOf : Nat → Int32) (ov_sets_one_pcOf : Nat → Int32) (ov_sets_one_follow : Nat → Int64) (ov_sets_one_takers : Nat → Int64) (ov_sets_one_seen : Nat → Int32) (ov_sets_one_stack : Nat → Int32) (ov_sets_one_states : Nat → Int64) (ov_sets_one_ahead : Nat → Int64) (ov_sets_one_goes : Nat → Int32) (ov_sets_other_count : Int32) (ov_sets_other_positionCount : Int32) (ov_sets_other_stamp : Int32) (ov_sets_other_stackCount : Int32) (ov_sets_other_width : Int32) (ov_sets_other_program_start : Int32) (ov_sets_other_program_count : Int32) (oh76 : Nat) (ov_sets_other_program_kinds : Nat → Int32) (ov_sets_other_program_subjects : Nat → Int32) (ov_sets_other_program_nexts : Nat → Int32) (ov_sets_other_program_others : Nat → Int32) (ov_sets_other_positionOf : Nat → Int32) (ov_sets_other_pcOf : Nat → Int32) (ov_sets_other_follow : Nat → Int64) (ov_sets_other_takers : Nat → Int64) (ov_sets_other_seen : Nat → Int32) (ov_sets_other_stack : Nat → Int32) (ov_sets_other_states : Nat → Int64) (ov_sets_other_ahead : Nat → Int64) (ov_sets_other_goes : Nat → Int32) (ov_sets_met : Nat → Int32) (ov_sets_pairs : Nat → Int32) (ov_sets_cameFrom : Nat → Int32) (ov_sets_cameBy : Nat → Int32), 0 ≤ r.toInt + 7 → r.toInt ≤ 3 → 0 ≤ ov_sets_pairCount.toInt → ov_sets_pairCount.toInt ≤ 3799 → 0 ≤ ov_sets_parted.toInt + 1 → ov_sets_parted.toInt ≤ 3799 → 0 ≤ ov_sets_alphabet_count.toInt → ov_sets_alphabet_count.toInt ≤ 256 → 0 ≤ ov_sets_one_count.toInt → ov_sets_one_count.toInt ≤ 60 → 0 ≤ ov_sets_one_positionCount.toInt → ov_sets_one_positionCount.toInt ≤ 60 → 0 ≤ ov_sets_one_width.toInt → ov_sets_one_width.toInt ≤ 256 → 0 ≤ ov_sets_one_program_count.toInt → ov_sets_one_program_count.toInt ≤ 512 → 0 ≤ ov_sets_other_count.toInt → ov_sets_other_count.toInt ≤ 60 → 0 ≤ ov_sets_other_positionCount.toInt → ov_sets_other_positionCount.toInt ≤ 60 → 0 ≤ ov_sets_other_width.toInt → ov_sets_other_width.toInt ≤ 256 → 0 ≤ ov_sets_other_program_count.toInt → ov_sets_other_program_count.toInt ≤ 512 → ov_sets_pairCount.toInt ≤ 3600 → ((ov_sets_parted.toInt ≤ 0) ∨ (ov_sets_parted.toInt + 1 ≤ ov_sets_pairCount.toInt)) → rp (fun k v => v < k ∧ -1 ≤ v) ov_sets_cameFrom 0 ov_sets_pairCount.toInt → rp (fun k v => v < k ∧ -1 ≤ v) ov_sets_cameFrom 0 0 → rp (fun k v => v < k ∧ -1 ≤ v) ov_sets_cameFrom (ov_sets_parted.toInt + 1) 0 → rp (fun k v => v < k ∧ -1 ≤ v) ov_sets_cameFrom (ov_sets_parted.toInt + 1) (ov_sets_parted.toInt + 1) → rp (fun k v => v < k ∧ -1 ≤ v) ov_sets_cameFrom (ov_sets_parted.toInt + 1) ov_sets_pairCount.toInt → Q r ov_latestFinding ov_sets_onlyInOne ov_sets_onlyInOther ov_sets_stamp ov_sets_pairCount ov_sets_parted ov_sets_alphabet_count ov_sets_alphabet_begins ov_sets_one_count ov_sets_one_positionCount ov_sets_one_stamp ov_sets_one_stackCount ov_sets_one_width ov_sets_one_program_start ov_sets_one_program_count oh72 ov_sets_one_program_kinds ov_sets_one_program_subjects ov_sets_one_program_nexts ov_sets_one_program_others ov_sets_one_positionOf ov_sets_one_pcOf ov_sets_one_follow ov_sets_one_takers ov_sets_one_seen ov_sets_one_stack ov_sets_one_states ov_sets_one_ahead ov_sets_one_goes ov_sets_other_count ov_sets_other_positionCount ov_sets_other_stamp ov_sets_other_stackCount ov_sets_other_width ov_sets_other_program_start ov_sets_other_program_count oh76 ov_sets_other_program_kinds ov_sets_other_program_subjects ov_sets_other_program_nexts ov_sets_other_program_others ov_sets_other_positionOf ov_sets_other_pcOf ov_sets_other_follow ov_sets_other_takers ov_sets_other_seen ov_sets_other_stack ov_sets_other_states ov_sets_other_ahead ov_sets_other_goes ov_sets_met ov_sets_pairs ov_sets_cameFrom ov_sets_cameBy) : w_X11_compare_v1 p1 p2 v_latestFinding v_patterns v_sets_onlyInOne v_sets_onlyInOther v_sets_stamp v_sets_pairCount v_sets_parted v_sets_alphabet_count v_sets_alphabet_begins v_sets_one_count v_sets_one_positionCount v_sets_one_stamp v_sets_one_stackCount v_sets_one_width v_sets_one_program_start v_sets_one_program_count v_sets_one_program_kinds v_sets_one_program_subjects v_sets_one_program_nexts v_sets_one_program_others v_sets_one_positionOf v_sets_one_pcOf v_sets_one_follow v_sets_one_takers v_sets_one_seen v_sets_one_stack v_sets_one_states v_sets_one_ahead v_sets_one_goes v_sets_other_count v_sets_other_positionCount v_sets_other_stamp v_sets_other_stackCount v_sets_other_width v_sets_other_program_start v_sets_other_program_count v_sets_other_program_kinds v_sets_other_program_subjects v_sets_other_program_nexts v_sets_other_program_others v_sets_other_positionOf v_sets_other_pcOf v_sets_other_follow v_sets_other_takers v_sets_other_seen v_sets_other_stack v_sets_other_states v_sets_other_ahead v_sets_other_goes v_sets_met v_sets_pairs v_sets_cameFrom v_sets_cameBy v_patterns_p1_there v_patterns_p1_count v_patterns_p1_captures v_patterns_p1_ranges v_patterns_p1_sort v_patterns_p1_end v_patterns_p1_before v_patterns_p1_last v_patterns_p1_parts v_patterns_p1_value v_patterns_p1_low v_patterns_p1_high v_patterns_p1_size v_patterns_p1_positions v_patterns_p1_mayBeEmpty v_patterns_p1_withinCase v_patterns_p1_rangeBegin v_patterns_p1_rangeEnd h72 h76 h39 Q := by
  have q_t : (bz true).toInt = 1 := rfl
  have q_f : (bz false).toInt = 0 := rfl
  have q_m2 : ((-2) : Int32).toInt = (-2) := rfl
  have q_0 : (0 : Int32).toInt = 0 := rfl
  have q_1 : (1 : Int32).toInt = 1 := rfl
  have q_2 : (2 : Int32).toInt = 2 := rfl
  unfold w_X11_compare_v1
  refine ok_X11_patternIn v0 (fun r2 r2_0 f501 f502 => ?_)
  refine ⟨fun c2 => ?_, fun c2 => ?_⟩
  · have f503 : r2.toInt = 0 := i_eq (a := r2.toInt) (b := 0) rfl rfl c2
    exact hq (-2) r2_0 v_sets_onlyInOne v_sets_onlyInOther v_sets_stamp v_sets_pairCount v_sets_parted v_sets_alphabet_count v_sets_alphabet_begins v_sets_one_count v_sets_one_positionCount v_sets_one_stamp v_sets_one_stackCount v_sets_one_width v_sets_one_program_start v_sets_one_program_count h72 v_sets_one_program_kinds v_sets_one_program_subjects v_sets_one_program_nexts v_sets_one_program_others v_sets_one_positionOf v_sets_one_pcOf v_sets_one_follow v_sets_one_takers v_sets_one_seen v_sets_one_stack v_sets_one_states v_sets_one_ahead v_sets_one_goes v_sets_other_count v_sets_other_positionCount v_sets_other_stamp v_sets_other_stackCount v_sets_other_width v_sets_other_program_start v_sets_other_program_count h76 v_sets_other_program_kinds v_sets_other_program_subjects v_sets_other_program_nexts v_sets_other_program_others v_sets_other_positionOf v_sets_other_pcOf v_sets_other_follow v_sets_other_takers v_sets_other_seen v_sets_other_stack v_sets_other_states v_sets_other_ahead v_sets_other_goes v_sets_met v_sets_pairs v_sets_cameFrom v_sets_cameBy (by omega) (by omega) (by omega) (by omega) (by omega) (by omega) (by omega) (by omega) (by omega) (by omega) (by omega) (by omega) (by omega) (by omega) (by omega) (by omega) (by omega) (by omega) (by omega) (by omega) (by omega) (by omega) (by omega) (by omega) (by omega) (by omega) (rp_mono b0 (by omega) (by omega)) (rp_mono b0 (by omega) (by omega)) (rp_mono b0 (by omega) (by omega)) (rp_nil (by omega)) (rp_mono b0 (by omega) (by omega))
  · have f504 : r2.toInt ≠ 0 := i_ne (a := r2.toInt) (b := 0) rfl rfl c2
    refine ok_X11_patternIn v1 (fun r200016 r200016_0 f505 f506 => ?_)
    refine ⟨fun c200016 => ?_, fun c200016 => ?_⟩
    · have f507 : r200016.toInt = 0 := i_eq (a := r200016.toInt) (b := 0) rfl rfl c200016
      exact hq (-2) r200016_0 v_sets_onlyInOne v_sets_onlyInOther v_sets_stamp v_sets_pairCount v_sets_parted v_sets_alphabet_count v_sets_alphabet_begins v_sets_one_count v_sets_one_positionCount v_sets_one_stamp v_sets_one_stackCount v_sets_one_width v_sets_one_program_start v_sets_one_program_count h72 v_sets_one_program_kinds v_sets_one_program_subjects v_sets_one_program_nexts v_sets_one_program_others v_sets_one_positionOf v_sets_one_pcOf v_sets_one_follow v_sets_one_takers v_sets_one_seen v_sets_one_stack v_sets_one_states v_sets_one_ahead v_sets_one_goes v_sets_other_count v_sets_other_positionCount v_sets_other_stamp v_sets_other_stackCount v_sets_other_width v_sets_other_program_start v_sets_other_program_count h76 v_sets_other_program_kinds v_sets_other_program_subjects v_sets_other_program_nexts v_sets_other_program_others v_sets_other_positionOf v_sets_other_pcOf v_sets_other_follow v_sets_other_takers v_sets_other_seen v_sets_other_stack v_sets_other_states v_sets_other_ahead v_sets_other_goes v_sets_met v_sets_pairs v_sets_cameFrom v_sets_cameBy (by omega) (by omega) (by omega) (by omega) (by omega) (by omega) (by omega) (by omega) (by omega) (by omega) (by omega) (by omega) (by omega) (by omega) (by omega) (by omega) (by omega) (by omega) (by omega) (by omega) (by omega) (by omega) (by omega) (by omega) (by omega) (by omega) (rp_mono b0 (by omega) (by omega)) (rp_mono b0 (by omega) (by omega)) (rp_mono b0 (by omega) (by omega)) (rp_nil (by omega)) (rp_mono b0 (by omega) (by omega))
    · have f508 : r200016.toInt ≠ 0 := i_ne (a := r200016.toInt) (b := 0) rfl rfl c200016
      refine ok_X11_makeTables_v1 (by omega) (by omega) (by omega) (by omega) (by omega) (by omega) (by omega) (by omega) (by omega) (by omega) (by omega) (by omega) (by omega) (by omega) (by omega) (by omega) (by omega) (by omega) (by omega) (by omega) (by omega) (by omega) (rp_mono b1 (by omega) (by omega)) (rp_mono b2 (by omega) (by omega)) (rp_mono b3 (by omega) (by omega)) (fun r400037 r400037_0 r400037_1 r400037_2 r400037_3 r400037_4 r400037_5 r400037_6 r400037_7 r400037_8 r400037_9 r400037_10 r400037_11 r400037_12 r400037_13 r400037_14 r400037_15 r400037_16 r400037_17 r400037_18 r400037_19 r400037_20 r400037_21 r400037_22 r400037_23 r400037_24 r400037_25 r400037_26 r400037_27 r400037_28 r400037_29 r400037_30 r400037_31 r400037_32 r400037_33 r400037_34 r400037_35 r400037_36 r400037_37 r400037_38 r400037_39 r400037_40 r400037_41 r400037_42 r400037_43 f509 f510 f511 f512 f513 f514 f515 f516 f517 f518 f519 f520 f521 f522 f523 f524 f525 f526 f527 f528 => ?_)
      refine ⟨fun c400044 => ?_, fun c400044 => ?_⟩
      · have f529 : r400037.toInt = 0 := i_eq (a := r400037.toInt) (b := 0) rfl rfl c400044
        refine ok_X8_walkBoth (by omega) (by omega) (by omega) (by omega) (by omega) (by omega) (by omega) (by omega) (by omega) (by omega) (fun r400054_0 r400054_1 r400054_2 r400054_3 r400054_4 r400054_5 r400054_6 r400054_7 r400054_8 f530 f531 f532 f533 f534 f535 f536 f537 f538 f539 h540 h541 h542 h543 h544 h545 => ?_)
        have f546 : (0 ≤ (bz r400054_0).toInt ∧ (bz r400054_0).toInt ≤ 1) := i_bzr r400054_0
        have j_400072 : ∀ (s0_400072 : Int32), ((s0_400072.toInt = 1 ∧ (bz r400054_0).toInt = 0) ∨ (s0_400072.toInt = 0)) → w_X11_compare_v1_400072 Q s0_400072 r200016_0 r400054_0 r400054_1 r400054_2 r400054_3 r400054_4 r400037_0 r400037_1 r400037_2 r400037_3 r400037_4 r400037_5 r400037_6 r400037_7 r400037_8 r400037_9 r400037_10 r400037_11 r400037_12 r400037_13 r400037_14 r400037_15 r400037_16 r400037_17 r400037_18 r400037_19 r400037_20 r400037_21 r400037_22 r400037_23 r400037_24 r400037_25 r400037_26 r400037_27 r400037_28 r400037_29 r400037_30 r400037_31 r400037_32 r400037_33 r400037_34 r400037_35 r400037_36 r400037_37 r400037_38 r400037_39 r400037_40 r400037_41 r400037_42 r400037_43 r400054_5 r400054_6 r400054_7 r400054_8 := by
          intro s0_400072 f547
          unfold w_X11_compare_v1_400072
          have f548 : (0 ≤ (bz r400054_1).toInt ∧ (bz r400054_1).toInt ≤ 1) := i_bzr r400054_1
          have j_400087 : ∀ (s0_400087 : Int32), ((s0_400087.toInt = 2 ∧ (bz r400054_1).toInt = 0) ∨ (s0_400087.toInt = 0)) → w_X11_compare_v1_400087 Q s0_400087 s0_400072 r200016_0 r400054_0 r400054_1 r400054_2 r400054_3 r400054_4 r400037_0 r400037_1 r400037_2 r400037_3 r400037_4 r400037_5 r400037_6 r400037_7 r400037_8 r400037_9 r400037_10 r400037_11 r400037_12 r400037_13 r400037_14 r400037_15 r400037_16 r400037_17 r400037_18 r400037_19 r400037_20 r400037_21 r400037_22 r400037_23 r400037_24 r400037_25 r400037_26 r400037_27 r400037_28 r400037_29 r400037_30 r400037_31 r400037_32 r400037_33 r400037_34 r400037_35 r400037_36 r400037_37 r400037_38 r400037_39 r400037_40 r400037_41 r400037_42 r400037_43 r400054_5 r400054_6 r400054_7 r400054_8 := by
            intro s0_400087 f549
            unfold w_X11_compare_v1_400087
            intro x400087 ex400087
            have f550 : x400087.toInt = s0_400072.toInt + s0_400087.toInt := i_add (a := s0_400072.toInt) (b := s0_400087.toInt) ex400087 rfl rfl (by omega) (by omega)
            exact hq x400087 r200016_0 r400054_0 r400054_1 r400054_2 r400054_3 r400054_4 r400037_0 r400037_1 r400037_2 r400037_3 r400037_4 r400037_5 r400037_6 r400037_7 r400037_8 r400037_9 r400037_10 r400037_11 r400037_12 r400037_13 r400037_14 r400037_15 r400037_16 r400037_17 r400037_18 r400037_19 r400037_20 r400037_21 r400037_22 r400037_23 r400037_24 r400037_25 r400037_26 r400037_27 r400037_28 r400037_29 r400037_30 r400037_31 r400037_32 r400037_33 r400037_34 r400037_35 r400037_36 r400037_37 r400037_38 r400037_39 r400037_40 r400037_41 r400037_42 r400037_43 r400054_5 r400054_6 r400054_7 r400054_8 (by omega) (by omega) (by omega) (by omega) (by omega) (by omega) (by omega) (by omega) (by omega) (by omega) (by omega) (by omega) (by omega) (by omega) (by omega) (by omega) (by omega) (by omega) (by omega) (by omega) (by omega) (by omega) (by omega) (by omega) (by omega) (by omega) (rp_mono h544 (by omega) (by omega)) (rp_mono h544 (by omega) (by omega)) (rp_mono h545 (by omega) (by omega)) (rp_mono h543 (by omega) (by omega)) (rp_mono h545 (by omega) (by omega))
          refine ⟨fun c400079 => ?_, fun c400079 => ?_⟩
          · have f551 : (bz r400054_1).toInt = 0 := i_eq (a := (bz r400054_1).toInt) (b := 0) rfl rfl c400079
            exact j_400087 2 (by omega)
          · have f552 : (bz r400054_1).toInt ≠ 0 := i_ne (a := (bz r400054_1).toInt) (b := 0) rfl rfl c400079
            exact j_400087 0 (by omega)
        refine ⟨fun c400064 => ?_, fun c400064 => ?_⟩
        · have f553 : (bz r400054_0).toInt = 0 := i_eq (a := (bz r400054_0).toInt) (b := 0) rfl rfl c400064
          exact j_400072 1 (by omega)
        · have f554 : (bz r400054_0).toInt ≠ 0 := i_ne (a := (bz r400054_0).toInt) (b := 0) rfl rfl c400064
          exact j_400072 0 (by omega)
      · have f555 : r400037.toInt ≠ 0 := i_ne (a := r400037.toInt) (b := 0) rfl rfl c400044
        exact hq r400037 r200016_0 v_sets_onlyInOne v_sets_onlyInOther v_sets_stamp v_sets_pairCount v_sets_parted r400037_0 r400037_1 r400037_2 r400037_3 r400037_4 r400037_5 r400037_6 r400037_7 r400037_8 r400037_9 r400037_10 r400037_11 r400037_12 r400037_13 r400037_14 r400037_15 r400037_16 r400037_17 r400037_18 r400037_19 r400037_20 r400037_21 r400037_22 r400037_23 r400037_24 r400037_25 r400037_26 r400037_27 r400037_28 r400037_29 r400037_30 r400037_31 r400037_32 r400037_33 r400037_34 r400037_35 r400037_36 r400037_37 r400037_38 r400037_39 r400037_40 r400037_41 r400037_42 r400037_43 v_sets_met v_sets_pairs v_sets_cameFrom v_sets_cameBy (by omega) (by omega) (by omega) (by omega) (by omega) (by omega) (by omega) (by omega) (by omega) (by omega) (by omega) (by omega) (by omega) (by omega) (by omega) (by omega) (by omega) (by omega) (by omega) (by omega) (by omega) (by omega) (by omega) (by omega) (by omega) (by omega) (rp_mono b0 (by omega) (by omega)) (rp_mono b0 (by omega) (by omega)) (rp_mono b0 (by omega) (by omega)) (rp_nil (by omega)) (rp_mono b0 (by omega) (by omega))
